def EnW (Q : Prop) (th tu th2 tu2 : Int32) : Prop := (¬ Q ∧ th2 = th ∧ tu2 = tu) ∨ (Q ∧ th2.toInt = 0 ∧ tu2.toInt = 0)
def EnM (Q : Prop) (p tu p2 tu2 : Int32) : Prop := (¬ Q ∧ p2 = p ∧ tu2 = tu) ∨ (Q ∧ p2.toInt = -9 ∧ tu2.toInt = 0)
def SzU (a b : Nat → Int32) (k s1 kn ob : Int32) : Prop := (¬ (0 ≤ k.toInt ∧ k.toInt < kn.toInt ∧ 0 ≤ s1.toInt ∧ s1.toInt ≤ 99 ∧ ob.toInt ≤ 29) ∧ b = a) ∨ (0 ≤ k.toInt ∧ k.toInt < kn.toInt ∧ 0 ≤ s1.toInt ∧ s1.toInt ≤ 99 ∧ ob.toInt ≤ 29 ∧ b = upd a ob.toNatClampNeg s1)
theorem SzU_e {a b a2 b2 : Nat → Int32} {k s1 kn ob k2 s2 kn2 ob2 : Int32} (h : a = a2) (h1 : SzU a b k s1 kn ob) (h2 : SzU a2 b2 k2 s2 kn2 ob2) (ek : k2.toInt = k.toInt) (es : s2.toInt = s1.toInt) (en : kn.toInt = kn2.toInt) (eo : ob.toInt = ob2.toInt) : b = b2 := by
  have q1 := Int32.toInt_inj.mp es
  have q2 := Int32.toInt_inj.mp eo
  subst h q1 q2
  rcases h1 with h1 | h1
  · rcases h2 with h2 | h2
    · rw [h1.2, h2.2]
    · exfalso; omega
  · rcases h2 with h2 | h2
    · exfalso; omega
    · rw [h1.2.2.2.2.2, h2.2.2.2.2.2]
def StB (k f v : Int32) (kn : Int) : Prop := ¬ (0 ≤ k.toInt ∧ k.toInt < kn) ∨ ¬ (0 ≤ f.toInt ∧ f.toInt ≤ 5) ∨ ¬ (v.toInt = -9 ∨ v.toInt = 0 ∨ v.toInt = 1)
def StU (a b : Nat → Int32) (k f v : Int32) (kn : Int) : Prop := (StB k f v kn ∧ b = a) ∨ (¬ StB k f v kn ∧ b = upd a (k.toInt * 6 + f.toInt).toNat v)
def StR (a : Nat → Int32) (k f v : Int32) (kn : Int) (r : Int32) : Prop := (StB k f v kn ∧ r.toInt = -1) ∨ (¬ StB k f v kn ∧ r = a (k.toInt * 6 + f.toInt).toNat)
theorem cl_t {x : Int32} {a : Int} (e : x.toInt = a) : x.toNatClampNeg = a.toNat := by rw [← e]; rfl
def KU (a b : Nat → Int32) (k kn : Int32) : Prop := (¬ (0 ≤ k.toInt ∧ k.toInt < kn.toInt ∧ kn.toInt ≤ 23) ∧ b = a) ∨ (0 ≤ k.toInt ∧ k.toInt < kn.toInt ∧ kn.toInt ≤ 23 ∧ b = upd a kn.toNatClampNeg k)
def OU (a b : Nat → Int32) (k s1 kn ob : Int32) : Prop := (¬ (0 ≤ k.toInt ∧ k.toInt < kn.toInt ∧ 0 ≤ s1.toInt ∧ s1.toInt ≤ 99 ∧ ob.toInt ≤ 29) ∧ b = a) ∨ (0 ≤ k.toInt ∧ k.toInt < kn.toInt ∧ 0 ≤ s1.toInt ∧ s1.toInt ≤ 99 ∧ ob.toInt ≤ 29 ∧ b = upd a ob.toNatClampNeg k)
def PD (pa : Nat → Int32) : Prop := ∀ j : Nat, (pa j).toInt = -9 ∨ (0 ≤ (pa j).toInt ∧ (pa j).toInt < (j : Int))
def IsR (pa ko : Nat → Int32) (w k : Int32) (ob kn : Int) (r : Int32) : Prop := (¬ (0 ≤ w.toInt ∧ w.toInt < ob ∧ 0 ≤ k.toInt ∧ k.toInt < kn) ∧ r.toInt = -1) ∨ ((0 ≤ w.toInt ∧ w.toInt < ob ∧ 0 ≤ k.toInt ∧ k.toInt < kn) ∧ Sm r (Kd pa ko w.toInt k.toInt))
theorem sm_fl {r z : Int32} {P : Prop} (h : r = if (¬ z.toInt = 0) then 1 else 0) (hz : Sm z P) : Sm r P := by
  rcases hz with ⟨a, b⟩ | ⟨a, b⟩
  · rw [if_pos (by omega)] at h; subst h; exact sm_1 b
  · rw [if_neg (by omega)] at h; subst h; exact sm_0 b
def SoR (pa so : Nat → Int32) (kn : Int32) : Prop := ∀ k : Nat, (k : Int) < kn.toInt → ∀ c : Int, 0 ≤ c → c ≤ 5 → (Ch (kF pa) (k : Int) c ↔ ((so k).toInt = c ∨ (c = 1 ∧ 1 < (so k).toInt)))
def RoR (a b : Nat → Int32) (md : Int32) : Prop := ∀ j : Nat, j < 120 → ((j : Int) < 12 * md.toInt → a j = b j) ∧ (12 * md.toInt ≤ (j : Int) → (a j).toInt = -9)
def KS (a b : Nat → Int32) (k kn : Int32) : Prop := (¬ (0 ≤ k.toInt ∧ k.toInt < kn.toInt ∧ kn.toInt ≤ 23) ∧ b = a) ∨ (0 ≤ k.toInt ∧ k.toInt < kn.toInt ∧ kn.toInt ≤ 23 ∧ b = upd a kn.toNatClampNeg (a k.toNatClampNeg))
def CNew (s1 n1 md : Int32) : Prop := 1 ≤ s1.toInt ∧ s1.toInt ≤ 5 ∧ n1.toInt ≤ 12 ∧ md.toInt ≤ 9 ∧ 0 ≤ n1.toInt
def CUx (a b a2 b2 : Nat → Int32) (s1 n1 md : Int32) : Prop := (¬ CNew s1 n1 md ∧ a2 = a ∧ b2 = b) ∨ (CNew s1 n1 md ∧ a2 = upd a md.toNatClampNeg s1 ∧ b2 = upd b md.toNatClampNeg n1)
def CRo (r r2 : Nat → Int32) (md : Int32) (k : Int) : Prop := ∀ j : Nat, r2 j = if 12 * md.toInt ≤ (j : Int) ∧ (j : Int) < 12 * md.toInt + k then -9 else r j
def CUm (a b r a2 b2 r2 : Nat → Int32) (s1 n1 md : Int32) : Prop := (¬ CNew s1 n1 md ∧ a2 = a ∧ b2 = b ∧ r2 = r) ∨ (CNew s1 n1 md ∧ a2 = upd a md.toNatClampNeg s1 ∧ b2 = upd b md.toNatClampNeg n1 ∧ CRo r r2 md 12)
theorem CRo_s {r f : Nat → Int32} {md x y z : Int32} {v : Int32} (h : CRo r f md x.toInt) (h0 : 0 ≤ md.toInt ∧ md.toInt ≤ 9) (hx : 0 ≤ x.toInt ∧ x.toInt ≤ 11) (ey : y.toInt = x.toInt + 1) (ez : z.toInt = 12 * md.toInt + x.toInt) (hv : v = -9) : CRo r (upd f z.toNatClampNeg v) md y.toInt := by
  intro j
  have e : z.toNatClampNeg = z.toInt.toNat := rfl
  by_cases q : j = z.toNatClampNeg
  · rw [q, pk_us, if_pos (by omega), hv]
  · rw [pk_un q, h j]
    by_cases p : 12 * md.toInt ≤ (j : Int) ∧ (j : Int) < 12 * md.toInt + x.toInt
    · rw [if_pos p, if_pos (by omega)]
    · rw [if_neg p, if_neg (by omega)]
def RA (w o md ob : Int32) : Prop := 0 ≤ w.toInt ∧ w.toInt < md.toInt ∧ (o.toInt = -9 ∨ (0 ≤ o.toInt ∧ o.toInt < ob.toInt))
/-- role(): what it answers, what it writes; B: the object may have that role -/
def RoW (a b : Nat → Int32) (w n1 o md ob r : Int32) (B : Prop) : Prop := (¬ RA w o md ob ∧ r.toInt = -1 ∧ b = a) ∨ (RA w o md ob ∧ ¬ B ∧ r.toInt = -3 ∧ b = a) ∨ (RA w o md ob ∧ B ∧ r.toInt = 1 ∧ b = upd a (w.toInt * 12 + n1.toInt).toNat o)
def RBx (ko so cs cl : Nat → Int32) (w n1 o : Int32) : Prop := 0 ≤ n1.toInt ∧ n1.toInt < (cl w.toNatClampNeg).toInt ∧ (o.toInt = -9 ∨ (¬ (so (ko o.toInt.toNat).toNatClampNeg).toInt = 0 ∧ ((so (ko o.toInt.toNat).toNatClampNeg).toInt = (cs w.toNatClampNeg).toInt ∨ ((cs w.toNatClampNeg).toInt = 1 ∧ 1 < (so (ko o.toInt.toNat).toNatClampNeg).toInt))))
def RBm (pa ko cs cl : Nat → Int32) (w n1 o : Int32) : Prop := 0 ≤ n1.toInt ∧ n1.toInt < (cl w.toNatClampNeg).toInt ∧ (o.toInt = -9 ∨ (¬ Kd pa ko o.toInt 0 ∧ Kd pa ko o.toInt (cs w.toNatClampNeg).toInt))
def WhR (ro cl : Nat → Int32) (w n1 md r : Int32) : Prop := (¬ (0 ≤ w.toInt ∧ w.toInt < md.toInt) ∧ r.toInt = -1) ∨ (0 ≤ w.toInt ∧ w.toInt < md.toInt ∧ ¬ (0 ≤ n1.toInt ∧ n1.toInt < (cl w.toNatClampNeg).toInt) ∧ r.toInt = -3) ∨ (0 ≤ w.toInt ∧ w.toInt < md.toInt ∧ 0 ≤ n1.toInt ∧ n1.toInt < (cl w.toNatClampNeg).toInt ∧ n1.toInt ≤ 11 ∧ (((ro (w.toInt * 12 + n1.toInt).toNat).toInt = -9 ∧ r.toInt = -3) ∨ (¬ (ro (w.toInt * 12 + n1.toInt).toNat).toInt = -9 ∧ r = ro (w.toInt * 12 + n1.toInt).toNat)))
