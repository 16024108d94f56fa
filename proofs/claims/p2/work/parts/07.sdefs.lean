/-! sentences, tales -/
def mP (fo le sa : Nat → Int32) (o : Int) (s : Nat) : Prop := (sa s).toInt = 1 ∧ (fo s).toInt < 5 ∧ (le s).toInt = o
/-- the sentence that places o -/
noncomputable def pL (fo le sa : Nat → Int32) (n o : Int) : Int := fsF (mP fo le sa o) n.toNat
/-- where the sentences lay an object -/
noncomputable def fP (fo le mi sa : Nat → Int32) (n x : Int) : Int := if 0 ≤ x ∧ x ≤ 29 ∧ ¬ pL fo le sa n x = -9 then (mi (pL fo le sa n x).toNat).toInt else -9
/-- where a tale lays an object -/
def nF (N : Int) (F A : Nat → Int32) (x : Int) : Int := if 0 ≤ x ∧ x < N ∧ ¬ (F x.toNat).toInt = -9 then (A x.toNat).toInt else -9
/-- a tale's places -/
def TI (N : Int) (Rm : Int → Prop) (p : Int) (F A : Nat → Int32) : Prop :=
  (0 ≤ p ∧ p < N ∧ ¬ Rm p) ∧ (∀ x : Int, 0 ≤ x → x < N → ¬ (F x.toNat).toInt = -9 → 0 ≤ (A x.toNat).toInt ∧ (A x.toNat).toInt < N) ∧ (∀ x : Int, 0 ≤ x → x < N → Rm x → (F x.toNat).toInt = -9) ∧ Acy (nF N F A) ∧ ∃ r, 0 ≤ r ∧ r < N ∧ Rm r ∧ Ch (nF N F A) p r
theorem nF_at {N : Int} {F A : Nat → Int32} {x f y : Int32} (h : 0 ≤ x.toInt ∧ x.toInt < N) (ef : f = F x.toNatClampNeg) (hf : ¬ f.toInt = -9) (e : y = A x.toNatClampNeg) : nF N F A x.toInt = y.toInt := by
  have q : ¬ (F x.toInt.toNat).toInt = -9 := by rw [ef] at hf; exact hf
  unfold nF
  rw [if_pos ⟨h.1, h.2, q⟩, e]
  rfl
theorem nF_no {N : Int} {F A : Nat → Int32} {x f : Int32} (ef : f = F x.toNatClampNeg) (hf : f.toInt = -9) : nF N F A x.toInt = -9 := by
  have q : (F x.toInt.toNat).toInt = -9 := by rw [ef] at hf; exact hf
  unfold nF
  rw [if_neg (fun h => h.2.2 q)]
theorem nF_Sp {N : Int} {F A : Nat → Int32} (hN : N ≤ 30) (h : ∀ x : Int, 0 ≤ x → x < N → ¬ (F x.toNat).toInt = -9 → 0 ≤ (A x.toNat).toInt ∧ (A x.toNat).toInt < N) : Sp (nF N F A) := by
  refine ⟨if_neg (by omega), fun x => ?_⟩
  unfold nF
  by_cases q : 0 ≤ x ∧ x < N ∧ ¬ (F x.toNat).toInt = -9
  · rw [if_pos q]
    have := h x q.1 q.2.1 q.2.2
    omega
  · rw [if_neg q]; exact Or.inl rfl
theorem TI_ext {N : Int} {Rm : Int → Prop} {p : Int} {F A F2 A2 : Nat → Int32} (h : TI N Rm p F A) (e : ∀ j : Nat, (j : Int) < N → F2 j = F j ∧ A2 j = A j) : TI N Rm p F2 A2 := by
  have en : nF N F2 A2 = nF N F A := by
    funext x
    unfold nF
    by_cases q : 0 ≤ x ∧ x < N
    · rw [(e x.toNat (by omega)).1, (e x.toNat (by omega)).2]
    · rw [if_neg (fun z => q ⟨z.1, z.2.1⟩), if_neg (fun z => q ⟨z.1, z.2.1⟩)]
  obtain ⟨h1, h2, h3, h4, h5⟩ := h
  refine ⟨h1, fun x a b d => ?_, fun x a b d => ?_, by rw [en]; exact h4, by rw [en]; exact h5⟩
  · rw [(e x.toNat (by omega)).1] at d
    rw [(e x.toNat (by omega)).2]
    exact h2 x a b d
  · rw [(e x.toNat (by omega)).1]
    exact h3 x a b d
theorem nF_lay {N : Int} {F A : Nat → Int32} {z : Nat} {f w : Int32} (hz : (z : Int) < N) (hf : ¬ f.toInt = -9) : nF N (upd F z f) (upd A z w) = rp (nF N F A) (z : Int) w.toInt := by
  funext x
  by_cases e : x = (z : Int)
  · rw [e, rp_s]
    unfold nF
    rw [show ((z : Int)).toNat = z by omega, pk_us, pk_us, if_pos ⟨by omega, hz, hf⟩]
  · rw [rp_n e]
    unfold nF
    by_cases q : 0 ≤ x ∧ x < N
    · rw [pk_un (show ¬ x.toNat = z by omega), pk_un (show ¬ x.toNat = z by omega)]
    · rw [if_neg (fun y => q ⟨y.1, y.2.1⟩), if_neg (fun y => q ⟨y.1, y.2.1⟩)]
/-- something is laid elsewhere -/
theorem TI_lay {N : Int} {Rm : Int → Prop} {p : Int} {F A : Nat → Int32} {z : Nat} {f w : Int32} (hN : N ≤ 30) (h : TI N Rm p F A) (hz : (z : Int) < N) (hr : ¬ Rm (z : Int)) (hf : ¬ f.toInt = -9) (hw : 0 ≤ w.toInt ∧ w.toInt < N) (hn : ¬ Ch (nF N F A) w.toInt (z : Int)) (hp : ∃ r, 0 ≤ r ∧ r < N ∧ Rm r ∧ Ch (rp (nF N F A) (z : Int) w.toInt) p r) : TI N Rm p (upd F z f) (upd A z w) := by
  obtain ⟨h1, h2, h3, h4, h5⟩ := h
  refine ⟨h1, fun x a b d => ?_, fun x a b d => ?_, ?_, ?_⟩
  · by_cases e : x.toNat = z
    · rw [e, pk_us]; exact hw
    · rw [pk_un e] at d ⊢; exact h2 x a b d
  · have e : ¬ x.toNat = z := fun e => hr (by rw [show (z : Int) = x by omega]; exact d)
    rw [pk_un e]; exact h3 x a b d
  · rw [nF_lay hz hf]
    exact Acy_rp (nF_Sp hN h2) h4 (by omega) (by omega) hn
  · rw [nF_lay hz hf]; exact hp
/-- what p holds is not above p -/
theorem Ch_held {f : Int → Int} (hs : Sp f) (hA : Acy f) {x p : Int} (hp : 0 ≤ p) (hp2 : p ≤ 29) (h : f x = p) (hx : ¬ x = -9) : ¬ Ch f p x := by
  intro hc
  rcases Ch_st.mp hc with q | q
  · rw [← q] at h
    have := Acy_no hs hA hp hp2
    rw [h] at this
    exact this Ch_rf
  · exact Acy_no hs hA hp hp2 (Ch_tr q (Ch_up (by rw [h]; exact Ch_rf)))
/-- the way of p leads to a room: it is placed -/
theorem TI_p {N : Int} {Rm : Int → Prop} {p : Int} {F A : Nat → Int32} (h : TI N Rm p F A) : ¬ (F p.toNat).toInt = -9 := by
  obtain ⟨h1, h2, h3, h4, r, r0, r1, r2, r3⟩ := h
  intro e
  rcases Ch_st.mp r3 with q | q
  · exact h1.2.2 (by rw [q]; exact r2)
  · have n : nF N F A p = -9 := if_neg (fun z => z.2.2 e)
    rw [n] at q
    have := Ch_nd (f := nF N F A) (if_neg (by omega)) q
    omega

