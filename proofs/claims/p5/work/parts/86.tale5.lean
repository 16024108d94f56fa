/-! words of light(), now(), turn() -/
theorem fl_e {r z : Int32} (h : r = if (¬ z.toInt = 0) then 1 else 0) (hz : 0 ≤ z.toInt ∧ z.toInt ≤ 1) : r.toInt = z.toInt := by
  by_cases q : z.toInt = 0
  · rw [if_neg (fun w => w q)] at h; rw [h, q]; decide
  · rw [if_pos q] at h; rw [h, show (1 : Int32).toInt = 1 from by decide]; omega
theorem fl_iv {r z : Int32} {P : Prop} (h : r = if (¬ z.toInt = 0) then 1 else 0) (hz : Sm z P) : r.toInt = iV P 1 0 := by
  rcases hz with ⟨a, b⟩ | ⟨a, b⟩
  · rw [if_pos (by omega)] at h; rw [h, iV_y b]; decide
  · rw [if_neg (by omega)] at h; rw [h, iV_n b]; decide
noncomputable def nwV (s fm at_ : Int) (sh op lk : Prop) (sn rc : Int) : Int := if s = 0 then fm else if s = 1 then at_ else if s = 2 then iV sh (iV op 1 0) (-9) else if s = 3 then iV sh (iV lk 1 0) (-9) else if s = 4 then sn else rc
def NwR (s r fm at_ : Int) (sh op lk : Prop) (sn rc : Int) (RM : Int → Prop) : Prop := (s ≤ 5 ∧ r = nwV s fm at_ sh op lk sn rc) ∨ (6 ≤ s ∧ RM r)
/-- an act in one number -/
theorem deed_e {v x y s1 s2 o1 r : Int32} (hv : 0 ≤ v.toInt ∧ v.toInt ≤ 12) (hx : 0 ≤ x.toInt ∧ x.toInt ≤ 31) (hy : 0 ≤ y.toInt ∧ y.toInt ≤ 31) (e1 : s1 = v <<< (10 &&& 31)) (e2 : s2 = x <<< (5 &&& 31)) (e3 : o1 = s1 ||| s2) (e4 : r = o1 ||| y) : r.toInt = v.toInt * 1024 + x.toInt * 32 + y.toInt := by
  have a1 : v <<< ((10 : Int32) &&& 31) = nI (2 ^ 10 * v.toInt.toNat) := by
    conv => lhs; rw [x_n hv.1]
    exact shl_n (j := 10) (by omega)
  have a2 : x <<< ((5 : Int32) &&& 31) = nI (2 ^ 5 * x.toInt.toNat) := by
    conv => lhs; rw [x_n hx.1]
    exact shl_n (j := 5) (by omega)
  have a3 : 2 ^ 10 * v.toInt.toNat ||| 2 ^ 5 * x.toInt.toNat = 2 ^ 10 * v.toInt.toNat + 2 ^ 5 * x.toInt.toNat := (Nat.two_pow_add_eq_or_of_lt (by omega) _).symm
  have a4 : 2 ^ 10 * v.toInt.toNat + 2 ^ 5 * x.toInt.toNat = 2 ^ 5 * (2 ^ 5 * v.toInt.toNat + x.toInt.toNat) := by omega
  have a5 : 2 ^ 5 * (2 ^ 5 * v.toInt.toNat + x.toInt.toNat) ||| y.toInt.toNat = 2 ^ 5 * (2 ^ 5 * v.toInt.toNat + x.toInt.toNat) + y.toInt.toNat := (Nat.two_pow_add_eq_or_of_lt (by omega) _).symm
  rw [e4, e3, e1, e2, a1, a2, or_n, a3, a4]
  conv => lhs; rw [x_n hy.1]
  rw [or_n, a5, nI_toInt (by omega)]
  omega
theorem shrN {x r s : Int32} {k : Nat} (hx : 0 ≤ x.toInt) (hk : k < 32) (es : s = nI k) (e : r = x >>> (s &&& 31)) : r.toInt = x.toInt / (2 ^ k : Nat) := by
  have q := Int32.toInt_lt x
  have le : x.toInt.toNat / 2 ^ k ≤ x.toInt.toNat := Nat.div_le_self _ _
  have e1 : r = nI (x.toInt.toNat / 2 ^ k) := by
    rw [e, es]
    conv => lhs; rw [x_n hx]
    exact shr_n (by omega) hk
  rw [e1, nI_toInt (by omega), Int.natCast_ediv]
  rw [show ((x.toInt.toNat : Nat) : Int) = x.toInt by omega]
def dpV (s d : Int) : Int := if s = 0 then d / 1024 else if s = 1 then d / 32 % 32 else d % 32
def hyQ (v : Int) : Prop := v = 3 ∨ v = 4 ∨ v = 7 ∨ v = 8
noncomputable def ddV (v x y : Int) : Int := v * 1024 + iV (v ≤ 10) x 0 * 32 + iV (hyQ v) y 0
def DdX (v x y : Int) (tu : Int32) (d d2 : Nat → Int32) : Prop := ∃ e : Int32, e.toInt = ddV v x y ∧ d2 = upd d tu.toNatClampNeg e
def TrX (v x y tu : Int) (t t2 : Nat → Int32) : Prop := ∃ a b e : Int32, a.toInt = v ∧ b.toInt = iV (v ≤ 10) x 0 ∧ e.toInt = iV (hyQ v) y 0 ∧ t2 = upd (upd (upd t (3 * tu).toNat a) (3 * tu + 1).toNat b) (3 * tu + 2).toNat e
