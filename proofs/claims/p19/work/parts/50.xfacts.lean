/-! facts between calls, and bits of flags -/
/-- a tale goes on as it was, or is over -/
def xEn (th tu th2 tu2 : Int32) : Prop := th2.toInt = 0 ∨ (th2 = th ∧ tu2 = tu)
/-- the player of a tale stands somewhere, now and in every kept turn -/
def PJ (th pl tp tu : Int32) (cs sb fc : Nat → Int32) : Prop := th.toInt = 1 → 0 ≤ pl.toInt ∧ pl.toInt ≤ 29 ∧ tp = pl ∧ ¬ (cs pl.toNatClampNeg).toInt % 256 = 255 ∧ ∀ j : Nat, (j : Int) < tu.toInt → sb j = pl → ¬ (fc j).toInt % 256 = 255
/-- what a player who may go has: a place, and a lead -/
def AG (cs ld : Nat → Int32) (p x : Int32) : Prop := ¬ (cs p.toNatClampNeg).toInt % 256 = 255 ∧ ¬ (ld ((cs p.toNatClampNeg).toInt / 8 % 32 * 10 + x.toInt).toNat).toInt = -9
/-- what a player who may leave has: a place, and what is around him has one -/
def AL (cs : Nat → Int32) (p : Int32) : Prop := ¬ (cs p.toNatClampNeg).toInt % 256 = 255 ∧ ¬ (cs ((cs p.toNatClampNeg).toInt / 8 % 32).toNat).toInt % 256 = 255
theorem ix_n {f : Nat → Int32} {s x : Int32} {a : Int} (e : s.toInt = a) (h : x = f s.toNatClampNeg) : f a.toNat = x := by rw [h, ← e]; rfl
theorem xFl_w {f b : Nat → Int32} {j : Nat} {x y : Int32} (h : xFl f b) (hx : x.toInt = 6 → y.toInt ≤ 5) : xFl (upd f j x) (upd b j y) := by
  intro k
  by_cases e : k = j
  · subst e; rw [pk_us, pk_us]; exact hx
  · rw [pk_un e, pk_un e]; exact h k
theorem flag_or {c b r : Int32} (k : Nat) (hk : k < 6) (hc : 0 ≤ c.toInt ∧ c.toInt ≤ 16383) (eb : b = nI (2 ^ (8 + k))) (er : r = c ||| b) : 0 ≤ r.toInt ∧ r.toInt ≤ 16383 ∧ r.toInt % 256 = c.toInt % 256 := by
  have e1 : r = nI (c.toInt.toNat ||| 2 ^ (8 + k)) := by
    rw [er, eb]
    conv => lhs; rw [x_n hc.1]
    exact or_n _ _
  have h1 : c.toInt.toNat ||| 2 ^ (8 + k) < 2 ^ 14 := Nat.or_lt_two_pow (by omega) (Nat.pow_lt_pow_right (by omega) (by omega))
  have h2 : (c.toInt.toNat ||| 2 ^ (8 + k)) % 2 ^ 8 = c.toInt.toNat % 2 ^ 8 := by
    rw [Nat.or_mod_two_pow, show 2 ^ (8 + k) % 2 ^ 8 = 0 from by rw [Nat.pow_add]; exact Nat.mul_mod_right _ _, Nat.or_zero]
  rw [e1, nI_toInt (by omega)]
  omega
theorem flag_and {c b y r : Int32} (k : Nat) (hk : k < 6) (hc : 0 ≤ c.toInt ∧ c.toInt ≤ 16383) (eb : b = nI (2 ^ (8 + k))) (ey : y = b ^^^ (-1)) (er : r = c &&& y) : 0 ≤ r.toInt ∧ r.toInt ≤ 16383 ∧ r.toInt % 256 = c.toInt % 256 := by
  have ht : ∀ w, 14 ≤ w → c.toInt.toNat.testBit w = false := fun w hw => Nat.testBit_lt_two_pow (Nat.lt_of_lt_of_le (show c.toInt.toNat < 2 ^ 14 by omega) (Nat.pow_le_pow_right (by omega) hw))
  have hm : ∀ k, k < 6 → ∀ i, i < 14 → bq (nI (2 ^ (8 + k)) ^^^ (-1)) i = (16383 - 2 ^ (8 + k)).testBit i := by decide +kernel
  have hz : ∀ k, k < 6 → (16383 - 2 ^ (8 + k)) % 2 ^ 8 = 255 := by decide +kernel
  have e1 : r = nI (c.toInt.toNat &&& (16383 - 2 ^ (8 + k))) := by
    rw [er, ey, eb]
    conv => lhs; rw [x_n hc.1]
    refine bq_ext (fun i hi => ?_)
    rw [bq_and, bq_n, bq_n, Nat.testBit_and]
    by_cases q : i < 14
    · rw [hm k hk i q]; simp [hi]
    · rw [ht i (by omega)]; simp
  have h1 : c.toInt.toNat &&& (16383 - 2 ^ (8 + k)) ≤ c.toInt.toNat := Nat.and_le_left
  have h2 : (c.toInt.toNat &&& (16383 - 2 ^ (8 + k))) % 2 ^ 8 = c.toInt.toNat % 2 ^ 8 := by
    rw [Nat.and_mod_two_pow, hz k hk, show (255 : Nat) = 2 ^ 8 - 1 from rfl, Nat.and_two_pow_sub_one_eq_mod, Nat.mod_mod]
  rw [e1, nI_toInt (by omega)]
  omega
/-- the bit of a flag -/
theorem flag_b {f x b : Int32} (hf : 0 ≤ f.toInt ∧ f.toInt ≤ 5) (ex : x.toInt = 8 + f.toInt) (eb : b = 1 <<< (x &&& 31)) : b = nI (2 ^ (8 + f.toInt.toNat)) ∧ f.toInt.toNat < 6 := by
  refine ⟨?_, by omega⟩
  have e : x = nI (8 + f.toInt.toNat) := by
    have z := x_n (x := x) (by omega)
    rw [z]; congr 1; omega
  rw [eb, e, show (1 : Int32) = nI 1 from by decide, shl_n (by omega), Nat.mul_one]

