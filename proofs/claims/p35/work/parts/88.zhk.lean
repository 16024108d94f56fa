/-! turns -/
/-! the law of the search: what both sides hold for a state -/
def RlX (N : Int) (Z : Int → Int) (Qf : Int → Int → Prop) (z F A O L : CeT) : Prop := ScR N Z Qf z F A O L ∧ Abs z N ∧ (∀ o, 0 ≤ (z o).toInt ∧ (z o).toInt ≤ 16383) ∧ ∀ o : Nat, (o : Int) < N → (0 ≤ (O o).toInt ∧ (O o).toInt ≤ 1) ∧ 0 ≤ (L o).toInt ∧ (L o).toInt ≤ 1
theorem ce_u {r s : Int32} (h : ∀ f : Int, 0 ≤ f → f ≤ 5 → (hbt r f ↔ hbt s f)) (r0 : 0 ≤ r.toInt ∧ r.toInt ≤ 16383) (s0 : 0 ≤ s.toInt ∧ s.toInt ≤ 16383) (e : r.toInt % 256 = s.toInt % 256) : r = s :=
  FlB_u (c := s) (k := 9) (on := False) (fun f f0 f5 => ⟨fun w => Or.inr ⟨by omega, (h f f0 f5).mp w⟩, fun w => w.elim (fun w => absurd w.2 id) (fun w => (h f f0 f5).mpr w.2)⟩) (fun f f0 f5 => ⟨fun w => Or.inr ⟨by omega, w⟩, fun w => w.elim (fun w => absurd w.2 id) (fun w => w.2)⟩) r0 s0 e
/-- states are alike just where their rows are -/
theorem Rl_s {N : Int} {Z : Int → Int} {Qf : Int → Int → Prop} {z z2 F A O L F2 A2 O2 L2 : CeT} (h : RlX N Z Qf z F A O L) (h2 : RlX N Z Qf z2 F2 A2 O2 L2) (hN : N ≤ 30) : smC N z z2 ↔ Sk4 F A O L F2 A2 O2 L2 N := by
  constructor
  · intro e o ho
    have a := h.1 o ho
    have b := h2.1 o ho
    have c := h.2.2.2 o ho
    have d := h2.2.2.2 o ho
    rw [← e o ho] at b
    have a1 := a.1
    have b1 := b.1
    unfold PlOk at a1 b1
    have a2 := a.2.1.symm.trans b.2.1
    have a3 := a.2.2.1.symm.trans b.2.2.1
    clear a b
    exact ⟨Int32.toInt_inj.mp (by omega), Int32.toInt_inj.mp (by omega), Int32.toInt_inj.mp (by omega), Int32.toInt_inj.mp (by omega)⟩
  · intro e o ho
    have a := h.1 o ho
    have b := h2.1 o ho
    have q := e o ho
    rw [← q.1, ← q.2.1, ← q.2.2.1, ← q.2.2.2] at b
    refine ce_u (fun f f0 f5 => ?_) (h.2.2.1 o) (h2.2.2.1 o) ?_
    · by_cases q0 : f = 0
      · subst q0; exact a.2.1.trans b.2.1.symm
      · by_cases q1 : f = 1
        · subst q1; exact a.2.2.1.trans b.2.2.1.symm
        · exact (a.2.2.2 f (by omega) f5).trans (b.2.2.2 f (by omega) f5).symm
    · have a1 := a.1
      have b1 := b.1
      unfold PlOk at a1 b1
      clear a b
      omega
theorem Rl_g {N : Int} {Z : Int → Int} {Qf : Int → Int → Prop} {z F A O L : CeT} {gx gy : Int} (h : RlX N Z Qf z F A O L) (hN : N ≤ 30) (x0 : 0 ≤ gx) (x1 : gx < N) (y0 : 0 ≤ gy) : glC gx gy z ↔ (¬ (F gx.toNat).toInt = -9 ∧ (A gx.toNat).toInt = gy) := by
  unfold glC
  rw [Sc_h h.1 h.2.1 hN]
  unfold nF
  by_cases q : (F gx.toNat).toInt = -9
  · rw [if_neg (fun w => w.2.2 q)]
    exact ⟨fun w => by omega, fun w => absurd q w.1⟩
  · rw [if_pos ⟨x0, x1, q⟩]
    exact ⟨fun w => ⟨q, w⟩, fun w => w.2⟩
theorem Rl_x {N : Int} {Z : Int → Int} {Qf : Int → Int → Prop} {z F A O L F2 A2 O2 L2 : CeT} (h : RlX N Z Qf z F A O L) (e : Sk4 F2 A2 O2 L2 F A O L N) : RlX N Z Qf z F2 A2 O2 L2 := ⟨Sc_x h.1 e, h.2.1, h.2.2.1, fun o ho => by
  have q := e o ho
  rw [q.2.2.1, q.2.2.2]; exact h.2.2.2 o ho⟩
/-- an act has an end -/
theorem Ou_x {v f g : Int} {c : Int32} (hc : 0 ≤ c.toInt ∧ c.toInt ≤ 16383) (hv : 0 ≤ v ∧ v ≤ 11) (h : v ≤ 4 ∨ (9 ≤ v ∧ v ≤ 11) → 0 ≤ f ∧ f ≤ 4 ∧ 0 ≤ g ∧ g ≤ 29) : OuR v c (ouV v c f g) f g ∧ 0 ≤ (ouV v c f g).toInt ∧ (ouV v c f g).toInt ≤ 16383 := by
  refine @Classical.epsilon_spec Int32 (fun r => OuR v c r f g ∧ 0 ≤ r.toInt ∧ r.toInt ≤ 16383) ?_
  by_cases q : v ≤ 4 ∨ (9 ≤ v ∧ v ≤ 11)
  · have w := h q
    have e : (Int32.ofInt (c.toInt / 256 * 256 + g * 8 + f)).toInt = c.toInt / 256 * 256 + g * 8 + f := Int32.toInt_ofInt_of_le (by omega) (by omega)
    exact ⟨Int32.ofInt (c.toInt / 256 * 256 + g * 8 + f), Or.inl ⟨q, e⟩, by omega, by omega⟩
  · by_cases q5 : v = 5
    · have w := flag_or (c := c) (b := nI (2 ^ (8 + 0))) 0 (by omega) hc rfl rfl
      exact ⟨_, Or.inr (Or.inl ⟨Or.inl q5, w.2.2, FlB_on (k := 0) (by omega) rfl rfl rfl q5⟩), w.1, w.2.1⟩
    · by_cases q6 : v = 6
      · have w := flag_and (c := c) (b := nI (2 ^ (8 + 0))) 0 (by omega) hc rfl rfl rfl
        exact ⟨_, Or.inr (Or.inl ⟨Or.inr q6, w.2.2, FlB_off (k := 0) (by omega) rfl rfl rfl rfl q5⟩), w.1, w.2.1⟩
      · by_cases q8 : v = 8
        · have w := flag_or (c := c) (b := nI (2 ^ (8 + 1))) 1 (by omega) hc rfl rfl
          exact ⟨_, Or.inr (Or.inr (Or.inl ⟨Or.inr q8, w.2.2, FlB_on (k := 1) (by omega) rfl rfl rfl q8⟩)), w.1, w.2.1⟩
        · have w := flag_and (c := c) (b := nI (2 ^ (8 + 1))) 1 (by omega) hc rfl rfl rfl
          exact ⟨_, Or.inr (Or.inr (Or.inl ⟨Or.inl (by omega), w.2.2, FlB_off (k := 1) (by omega) rfl rfl rfl rfl q8⟩)), w.1, w.2.1⟩
noncomputable def snA (P : Int → Prop) (o : Nat) : Int32 := pI (P (o : Int)) 1 0
theorem snA_s {P : Int → Prop} {o : Nat} : Sm (snA P o) (P (o : Int)) := by
  unfold snA
  by_cases q : P (o : Int)
  · rw [pI_y q]; exact sm_1 q
  · rw [pI_n q]; exact sm_0 q
/-- a look, told as rows -/
theorem LkAr {Z f fm : Int → Int} {op gl lt : Int → Prop} {sd : Int → Int → Prop} {p N : Int} : LkR Z f fm op gl lt sd p N (snA (SnP Z f fm op gl lt sd p N)) (snA (RcP Z f fm op gl lt sd p N)) (pI (BrM Z f op gl lt sd p N) 1 0) := by
  refine ⟨?_, fun o _ => ⟨snA_s, snA_s⟩⟩
  by_cases q : BrM Z f op gl lt sd p N
  · rw [pI_y q]; exact sm_1 q
  · rw [pI_n q]; exact sm_0 q
theorem plV_w {a b : Int} : plV a b = 0 ↔ a = 0 ∧ b = 0 := ⟨plV_i, fun h => by unfold plV; rw [if_pos h.1]; exact h.2⟩
theorem TrA_a {N v x y : Int} (h : TrA N v x y) : IsA v x y N := by
  obtain ⟨h1, h2, h3, h4, h5, h6⟩ := h
  refine ⟨h1, by omega, fun q => ?_, fun q => ?_, fun q => ?_⟩
  · rw [nX_0 q] at h4; omega
  · rw [nX_1 (by omega) (by omega)] at h4; omega
  · unfold nY at h6
    rw [pI_y (show hyB v from q)] at h6
    omega

