/-! turns -/
/-! places alike, in a tale and outside of one -/
def PlR (N : Int) (Z : Int → Int) (ce : Nat → Int32) (gm ga : Int → Int) : Prop := ∀ x : Nat, (x : Int) < N → (gm (x : Int) = -9 ∧ ga (x : Int) = -9 ∧ (ce x).toInt % 256 = 255) ∨ (0 ≤ gm (x : Int) ∧ gm (x : Int) ≤ 4 ∧ 0 ≤ ga (x : Int) ∧ ga (x : Int) ≤ 29 ∧ ¬ Z (x : Int) = 2 ∧ (ce x).toInt % 256 = ga (x : Int) * 8 + gm (x : Int))
theorem NoD_p {N : Int} {Z gm ga : Int → Int} {ce : Nat → Int32} (h : PlR N Z ce gm ga) : NoD Z gm N := fun x x0 x1 hx => by
  have w := h x.toNat (by omega)
  rw [show ((x.toNat : Nat) : Int) = x by omega] at w
  rcases w with w | w
  · exact absurd w.1 hx
  · exact w.2.2.2.2.1
theorem PlR_of {N : Int} {Z : Int → Int} {Qf : Int → Int → Prop} {LK : Prop} {th pl tu : Int32} {ce sb fc : Nat → Int32} {p tu2 : Int32} {F2 A2 O L W1 W2 W3 W4 : Nat → Int32} {F A B C S pb eb fb kb cb G9 G10 G11 G12 G13 : Nat → Int32} {n n2 : Int32} (hT : TL N Z Qf LK th pl tu ce sb fc p tu2 F2 A2 O L W1 W2 W3 W4) (hSN : SN F A B C S n pb eb fb kb cb G9 G10 G11 G12 G13 n2) (hr : RR F A B C pb eb fb kb) (hF : FtS Z F A B n.toInt) (hN : N ≤ 30) : PlR N Z (ceX th ce cb) (gM G9 G10 G13 F2 n2.toInt p.toInt) (gA G9 G10 G11 G13 A2 n2.toInt p.toInt) := fun x x1 => by
  rcases hT.2.2 with q | q
  · have e : ceX th ce cb = cb := if_neg q.1
    obtain ⟨e1, e2, e3, e4, e5, e6, hI⟩ := hSN
    have n1 := Int32.toInt_inj.mp e6
    subst e1 e2 e3 e4 e5 n1
    have c5 := hI.2.2.2.2.1 x (by omega)
    have er : (pb x).toNatClampNeg = (pb x).toInt.toNat := rfl
    have eL := IX_pL hI hr (x := (x : Int)) (by omega) (by omega)
    have eL : pL F A S n.toInt (x : Int) = (pb x).toInt := eL
    rw [er] at c5
    have rF := hr.1 (pb x).toInt.toNat
    rw [e]
    unfold gM gA
    rw [if_pos q.2.1, if_pos q.2.1, eL]
    rcases c5 with ⟨u1, u2⟩ | ⟨u1, u2⟩
    · rw [if_pos u1, if_pos u1]
      exact Or.inl ⟨rfl, rfl, by omega⟩
    · have w := (hI.1 x (pb x).toInt.toNat (by omega)).mpr (by omega)
      have f := hF (pb x).toInt.toNat w.1 w.2.2.1
      have q2 : ¬ (pb x).toInt = -9 := by omega
      have w3 := w.2.2.1
      rw [if_neg q2, if_neg q2]
      rw [w.2.2.2] at f
      exact Or.inr ⟨by omega, by omega, by omega, by omega, f.1, by omega⟩
  · have hp : ¬ p.toInt = -9 := by have := q.2.2.1; omega
    have e : ceX th ce cb = ce := if_pos q.1
    rw [e]
    unfold gM gA
    rw [if_neg hp, if_neg hp, show ((x : Nat) : Int).toNat = x from rfl]
    have w := (q.2.2.2.2.1 x x1).1
    rcases w with w | w
    · exact Or.inl ⟨w.1, w.2.1, w.2.2⟩
    · obtain ⟨⟨a1, a2, a3, a4, a5, _⟩, b⟩ := w
      exact Or.inr ⟨a1, a2, a3, by omega, a5, b⟩
theorem PlR_l {N : Int} {Z gm ga : Int → Int} {ce : Nat → Int32} (h : PlR N Z ce gm ga) {g o : Int} {x : Nat} (hg : g = 0 ∨ g = 1) (x1 : (x : Int) < N) : lsP ce g o x = true ↔ (gm (x : Int) = g ∧ ga (x : Int) = o) := by
  unfold lsP
  rw [decide_eq_true_iff]
  have w := h x x1
  omega
