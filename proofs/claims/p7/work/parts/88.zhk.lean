/-! turns -/
/-! places alike, in a tale and outside of one -/
def PlR (N : Int) (Z : Int → Int) (ce : Nat → Int32) (gm ga : Int → Int) : Prop := ∀ x : Nat, (x : Int) < N → (gm (x : Int) = -9 ∧ ga (x : Int) = -9 ∧ (ce x).toInt % 256 = 255) ∨ (0 ≤ gm (x : Int) ∧ gm (x : Int) ≤ 4 ∧ 0 ≤ ga (x : Int) ∧ ga (x : Int) ≤ 29 ∧ ¬ Z (x : Int) = 2 ∧ (ce x).toInt % 256 = ga (x : Int) * 8 + gm (x : Int))
theorem NoD_p {N : Int} {Z gm ga : Int → Int} {ce : Nat → Int32} (h : PlR N Z ce gm ga) : NoD Z gm N := fun x x0 x1 hx => by
  have w := h x.toNat (by omega)
  rw [show ((x.toNat : Nat) : Int) = x by omega] at w
  rcases w with w | w
  · exact absurd w.1 hx
  · exact w.2.2.2.2.1
theorem PlR_of {N : Int} {Z : Int → Int} {Qf : Int → Int → Prop} {LK : Prop} {th pl tu : Int32} {ce sb fc : Nat → Int32} {p tu2 : Int32} {F2 A2 O L W1 W2 W3 W4 : Nat → Int32} {F A B C S pb eb fb kb cb G9 G10 G11 G12 G13 : Nat → Int32} {n n2 : Int32} (hT : TL N Z Qf LK th pl tu ce sb fc p tu2 F2 A2 O L W1 W2 W3 W4) (hSN : SN F A B C S n pb eb fb kb cb G9 G10 G11 G12 G13 n2) (hr : RR F A B C pb eb fb kb) (hF : FtS Z F A B n.toInt) (hN : N ≤ 30) : PlR N Z (ceX th ce cb) (gM G9 G10 G13 F2 n2.toInt p.toInt) (gA G9 G10 G11 G13 A2 n2.toInt p.toInt) := fun x x1 => by
  rcases hT.2.2 with q | q
  · have e : ceX th ce cb = cb := if_neg q.1
    obtain ⟨e1, e2, e3, e4, e5, e6, hI⟩ := hSN
    have n1 := Int32.toInt_inj.mp e6
    subst e1 e2 e3 e4 e5 n1
    have c5 := hI.2.2.2.2.1 x (by omega)
    have er : (pb x).toNatClampNeg = (pb x).toInt.toNat := rfl
    have eL := IX_pL hI hr (x := (x : Int)) (by omega) (by omega)
    have eL : pL F A S n.toInt (x : Int) = (pb x).toInt := eL
    rw [er] at c5
    have rF := hr.1 (pb x).toInt.toNat
    rw [e]
    unfold gM gA
    rw [if_pos q.2.1, if_pos q.2.1, eL]
    rcases c5 with ⟨u1, u2⟩ | ⟨u1, u2⟩
    · rw [if_pos u1, if_pos u1]
      exact Or.inl ⟨rfl, rfl, by omega⟩
    · have w := (hI.1 x (pb x).toInt.toNat (by omega)).mpr (by omega)
      have f := hF (pb x).toInt.toNat w.1 w.2.2.1
      have q2 : ¬ (pb x).toInt = -9 := by omega
      have w3 := w.2.2.1
      rw [if_neg q2, if_neg q2]
      rw [w.2.2.2] at f
      exact Or.inr ⟨by omega, by omega, by omega, by omega, f.1, by omega⟩
  · have hp : ¬ p.toInt = -9 := by have := q.2.2.1; omega
    have e : ceX th ce cb = ce := if_pos q.1
    rw [e]
    unfold gM gA
    rw [if_neg hp, if_neg hp, show ((x : Nat) : Int).toNat = x from rfl]
    have w := (q.2.2.2.2.1 x x1).1
    rcases w with w | w
    · exact Or.inl ⟨w.1, w.2.1, w.2.2⟩
    · obtain ⟨⟨a1, a2, a3, a4, a5, _⟩, b⟩ := w
      exact Or.inr ⟨a1, a2, a3, by omega, a5, b⟩
theorem PlR_l {N : Int} {Z gm ga : Int → Int} {ce : Nat → Int32} (h : PlR N Z ce gm ga) {g o : Int} {x : Nat} (hg : g = 0 ∨ g = 1) (x1 : (x : Int) < N) : lsP ce g o x = true ↔ (gm (x : Int) = g ∧ ga (x : Int) = o) := by
  unfold lsP
  rw [decide_eq_true_iff]
  have w := h x x1
  omega
theorem PlR_h {N : Int} {Z gm ga : Int → Int} {ce : Nat → Int32} (h : PlR N Z ce gm ga) {b : Int} {x : Nat} (hb : 0 ≤ b) (x1 : (x : Int) < N) (hN : N ≤ 30) : hF ce (x : Int) = b ↔ (¬ gm (x : Int) = -9 ∧ ga (x : Int) = b) := by
  have w := h x x1
  unfold hF
  rw [show ((x : Nat) : Int).toNat = x from rfl]
  rcases w with w | w
  · rw [if_neg (fun z => z.2.2 w.2.2)]
    omega
  · rw [if_pos ⟨by omega, by omega, by omega⟩]
    omega
theorem PlR_u {Z : Int → Int} {ce : Nat → Int32} {x o p : Nat} (h1 : chB Z (lsP ce) (o : Int) x = true) (h2 : chB Z (lsP ce) (p : Int) x = true) : o = p := by
  have e : ∀ k : Nat, chB Z (lsP ce) (k : Int) x = true → (ce x).toInt % 256 / 8 = (k : Int) := fun k hk => by
    unfold chB at hk
    by_cases q3 : Z (k : Int) = 3
    · rw [if_pos q3] at hk; unfold lsP at hk; rw [decide_eq_true_iff] at hk; omega
    · rw [if_neg q3] at hk
      by_cases q4 : Z (k : Int) = 4
      · rw [if_pos q4] at hk; unfold lsP at hk; rw [decide_eq_true_iff] at hk; omega
      · rw [if_neg q4] at hk; cases hk
  have a := e o h1
  have b := e p h2
  omega
/-- bulks alike: none is below nought but a door's of no size -/
theorem Wt_n {N : Int} {Z gm ga : Int → Int} {ce sz : Nat → Int32} (hP : PlR N Z ce gm ga) (hN : N ≤ 30) (hs : ∀ x : Nat, x < N.toNat → 0 ≤ (sz x).toInt ∧ (sz x).toInt ≤ 99) : (∀ x : Nat, x < N.toNat → ¬ Z (x : Int) = 2 → (wtB Z sz (lsP ce) N.toNat 31 x).toInt = wI Z sz (lsP ce) N.toNat 31 x) ∧ (∀ x : Nat, x < N.toNat → 0 ≤ wI Z sz (lsP ce) N.toNat 31 x) ∧ sumZ (wI Z sz (lsP ce) N.toNat 31) N.toNat ≤ 184140 := by
  have hd : ∀ (g : Int) (o x : Nat), (g = 0 ∨ g = 1) → x < N.toNat → lsP ce g (o : Int) x = true → ¬ Z (x : Int) = 2 := fun g o x hg hx hl => NoD_p hP x (by omega) (by omega) (by have := (PlR_l hP hg (by omega)).mp hl; omega)
  have hu : ∀ x, x < N.toNat → ∀ o p : Nat, o < N.toNat → p < N.toNat → chB Z (lsP ce) (o : Int) x = true → chB Z (lsP ce) (p : Int) x = true → o = p := fun x _ o p _ _ h1 h2 => PlR_u h1 h2
  refine ⟨wtB_I hs (by omega) hu hd 31 (by omega), wI_p hs 31, ?_⟩
  have B := wI_b (Z := Z) (ls := lsP ce) hs (by omega) hu 31
  omega
theorem Wt_s {N : Int} {Z gm ga : Int → Int} {ce sz : Nat → Int32} (hP : PlR N Z ce gm ga) (hN : N ≤ 30) (hs : ∀ x : Nat, x < N.toNat → 0 ≤ (sz x).toInt ∧ (sz x).toInt ≤ 99) {a : Int} (h0 : 0 ≤ a) (h1 : a < N) : (wtB Z sz (lsP ce) N.toNat 31 a.toNat).toInt < 0 ↔ (Z a = 2 ∧ (sz a.toNat).toInt = 0) := by
  have e : ((a.toNat : Nat) : Int) = a := by omega
  have s := hs a.toNat (by omega)
  by_cases q : Z a = 2
  · by_cases q0 : (sz a.toNat).toInt = 0
    · rw [wtB_d0 (k := 30) (by rw [e]; exact q) q0]
      exact ⟨fun _ => ⟨q, q0⟩, fun _ => by decide⟩
    · rw [wtB_d (k := 30) (by rw [e]; exact q) q0]
      have d := dr_p s q0
      exact ⟨fun w => by omega, fun w => absurd w.2 q0⟩
  · have w := Wt_n hP hN hs
    have i := w.1 a.toNat (by omega) (by rw [e]; exact q)
    have p := w.2.1 a.toNat (by omega)
    rw [i]
    exact ⟨fun w => by omega, fun w => absurd w.1 q⟩
theorem Wt_c {N : Int} {Z : Int → Int} {ce sz fo le mi sa F A : Nat → Int32} {n p : Int} (hP : PlR N Z ce (gM fo le sa F n p) (gA fo le mi sa A n p)) (k x : Nat) : wtB Z sz (lsP ce) N.toNat k x = wtB Z sz (lsG fo le mi sa F A n p) N.toNat k x :=
  wtB_c (fun g o x hg _ hx => by rw [PlR_l hP hg (by omega)]; unfold lsG; rw [decide_eq_true_iff]) k x
/-- what one has at once, in both ways of adding -/
theorem Wt_a {N b : Int} {Z : Int → Int} {ce sz fo le mi sa F A : Nat → Int32} {n p : Int} (hP : PlR N Z ce (gM fo le sa F n p) (gA fo le mi sa A n p)) (hN : N ≤ 30) (hs : ∀ x : Nat, x < N.toNat → 0 ≤ (sz x).toInt ∧ (sz x).toInt ≤ 99) (hb : 0 ≤ b) : 0 ≤ (sumI (fun x => if hF ce (x : Int) = b then wtB Z sz (lsP ce) N.toNat 31 x else 0) N.toNat).toInt ∧ (sumL (fun x => if ¬ gM fo le sa F n p (x : Int) = -9 ∧ gA fo le mi sa A n p (x : Int) = b then wtB Z sz (lsG fo le mi sa F A n p) N.toNat 31 x else 0) N.toNat).toInt = (sumI (fun x => if hF ce (x : Int) = b then wtB Z sz (lsP ce) N.toNat 31 x else 0) N.toNat).toInt := by
  obtain ⟨I, P, B⟩ := Wt_n hP hN hs
  have pw : ∀ x, x < N.toNat → 0 ≤ (if hF ce (x : Int) = b then wI Z sz (lsP ce) N.toNat 31 x else 0) := fun x hx => by
    by_cases q : hF ce (x : Int) = b
    · rw [if_pos q]; exact P x hx
    · rw [if_neg q]; exact Int.le_refl _
  have ub : sumZ (fun x : Nat => if hF ce (x : Int) = b then wI Z sz (lsP ce) N.toNat 31 x else 0) N.toNat ≤ sumZ (wI Z sz (lsP ce) N.toNat 31) N.toNat := sumZ_m N.toNat (fun x hx => by
    show (if hF ce (x : Int) = b then wI Z sz (lsP ce) N.toNat 31 x else 0) ≤ _
    by_cases q : hF ce (x : Int) = b
    · rw [if_pos q]; exact Int.le_refl _
    · rw [if_neg q]; exact P x hx)
  have nd : ∀ x : Nat, x < N.toNat → hF ce (x : Int) = b → ¬ Z (x : Int) = 2 := fun x hx q => NoD_p hP x (by omega) (by omega) ((PlR_h hP hb (by omega) hN).mp q).1
  have s1 := sumI_Z (g := fun x => if hF ce (x : Int) = b then wtB Z sz (lsP ce) N.toNat 31 x else 0) (f := fun x : Nat => if hF ce (x : Int) = b then wI Z sz (lsP ce) N.toNat 31 x else 0) N.toNat (fun x hx => by
    refine ⟨?_, pw x hx⟩
    show (if hF ce (x : Int) = b then wtB Z sz (lsP ce) N.toNat 31 x else 0).toInt = (if hF ce (x : Int) = b then wI Z sz (lsP ce) N.toNat 31 x else 0)
    by_cases q : hF ce (x : Int) = b
    · rw [if_pos q, if_pos q]; exact I x hx (nd x hx q)
    · rw [if_neg q, if_neg q]; decide) (by omega)
  have s2 := sumL_Z (g := fun x => if ¬ gM fo le sa F n p (x : Int) = -9 ∧ gA fo le mi sa A n p (x : Int) = b then wtB Z sz (lsG fo le mi sa F A n p) N.toNat 31 x else 0) (f := fun x : Nat => if hF ce (x : Int) = b then wI Z sz (lsP ce) N.toNat 31 x else 0) N.toNat (fun x hx => by
    refine ⟨?_, pw x hx⟩
    show (if ¬ gM fo le sa F n p (x : Int) = -9 ∧ gA fo le mi sa A n p (x : Int) = b then wtB Z sz (lsG fo le mi sa F A n p) N.toNat 31 x else 0).toInt = (if hF ce (x : Int) = b then wI Z sz (lsP ce) N.toNat 31 x else 0)
    have c := PlR_h hP (b := b) (x := x) hb (by omega) hN
    by_cases q : hF ce (x : Int) = b
    · rw [if_pos q, if_pos (c.mp q), ← Wt_c hP]; exact I x hx (nd x hx q)
    · rw [if_neg q, if_neg (fun w => q (c.mpr w))]; decide) (by omega)
  have nn := sumZ_n N.toNat pw
  rw [s1, s2]
  exact ⟨nn, rfl⟩

