theorem SB_of {jm : Nat → Int32} {em : Nat → Nat → Int32} {F A B C S pb eb fb kb ce : Nat → Int32} {n : Int32} {kn N N2 : Int} (hM : mInv jm em) (h : SN F A B C S n pb eb fb kb ce (em 9) (em 10) (em 11) (em 12) (em 13) (jm 8)) (hr : RR F A B C pb eb fb kb) (hs : SJ (em 3) (em 6) (em 9) (em 10) (em 11) (em 13) kn N2 (jm 8).toInt) (eN : N = N2) : SB F B n.toInt N := fun s h1 h5 => by
  have R := hr.1 s
  rw [h.2.2.2.2.2.1] at h1
  rw [h.1] at h5
  have q := hB_of hM hs s h1 h5
  rw [← h.2.2.1] at q
  omega
theorem zX_e {so ko : Nat → Int32} {N b : Int} (h : 0 ≤ b ∧ b < N) : zX so ko N b = (so (ko b.toNat).toNatClampNeg).toInt := if_pos h
theorem Sg_e {F A B C S pb eb fb kb ce : Nat → Int32} {n o f v r r2 : Int} (h : IX F A B C S n pb eb fb kb ce) (hr : RR F A B C pb eb fb kb) (ho : 0 ≤ o ∧ o ≤ 29) (hf : 0 ≤ f ∧ f ≤ 5) (h1 : SgX fb C o f v r) (h2 : SgM F A B C S n o f v r2) : r = r2 := by
  have y1 := Sy_e (v := 1) h hr ho hf
  have y0 := Sy_e (v := 0) h hr ho hf
  rw [← fsF_x] at y1 y0
  unfold SyX at y1 y0
  unfold SgX at h1
  unfold SgM at h2
  have e : (fb (o * 6 + f).toNat).toNatClampNeg = (fb (o * 6 + f).toNat).toInt.toNat := rfl
  rcases Ix_at h.2.2.1 (k := (o * 6 + f).toNat) (by omega) (hr.2.1 _).2.2.1 with ⟨a, b⟩ | ⟨a, b, d⟩
  · omega
  · have v6 := h.2.2.2.2.2 _ b.1 b.2.2.1
    have rC := hr.1 (fb (o * 6 + f).toNat).toNatClampNeg
    omega
theorem IX_kb {F A B C S pb eb fb kb ce : Nat → Int32} {n : Int} (h : IX F A B C S n pb eb fb kb ce) (hr : RR F A B C pb eb fb kb) {x : Int} (h0 : 0 ≤ x) (h1 : x ≤ 29) : fsF (KB F B S x) n.toNat = (kb x.toNat).toInt := by
  have e : (kb x.toNat).toNatClampNeg = (kb x.toNat).toInt.toNat := rfl
  refine (fsF_e ?_).symm
  rcases Ix_at h.2.2.2.1 (k := x.toNat) (by omega) (hr.2.1 _).2.2.2 with ⟨a, b⟩ | ⟨a, b, d⟩
  · exact Or.inl ⟨a, fun s hs q => b s ⟨by omega, q.1, q.2.1, by rw [q.2.2]; omega⟩⟩
  · refine Or.inr ⟨(kb x.toNat).toNatClampNeg, by omega, by have := b.1; omega, ⟨b.2.1, b.2.2.1, by have := b.2.2.2; omega⟩, fun s hs q => ?_⟩
    have := d s ⟨by have := b.1; omega, q.1, q.2.1, by rw [q.2.2]; omega⟩
    omega
theorem RmS_u {f : Int → Int} {Rm : Int → Prop} {w r r2 : Int} (hf : f (-9) = -9) (hr : ∀ t, Rm t → f t = -9) (h1 : RmS f Rm w r) (h2 : RmS f Rm w r2) : r = r2 := by
  rcases h1 with ⟨a, b, d⟩ | ⟨a, b⟩
  · rcases h2 with ⟨a2, b2, d2⟩ | ⟨a2, b2⟩
    · rcases Ch_ln b b2 with q | q
      · rcases Ch_st.mp q with z | z
        · exact z
        · rw [hr r d] at z; exact absurd (Ch_nd hf z) a2
      · rcases Ch_st.mp q with z | z
        · exact z.symm
        · rw [hr r2 d2] at z; exact absurd (Ch_nd hf z) a
    · exact absurd b (b2 r d)
  · rcases h2 with ⟨a2, b2, d2⟩ | ⟨a2, b2⟩
    · exact absurd b2 (b r2 d2)
    · rw [a, a2]
theorem Bg_e {F A B C S pb eb fb kb ce F2 A2 B2 C2 S2 ko so pa2 ko2 : Nat → Int32} {n n2 r r2 : Int32} {kn2 N N2 w w2 s s2 : Int} (h : SN F A B C S n pb eb fb kb ce F2 A2 B2 C2 S2 n2) (hr : RR F A B C pb eb fb kb) (hs : SJ pa2 ko2 F2 A2 B2 S2 kn2 N2 n2.toInt) (h6 : K6 pa2) (hN : N ≤ 30) (eN : N = N2) (ew : w2 = w) (es : 0 ≤ w ∧ w < N → s = s2) (hz : ∀ t, 0 ≤ t → t < N → (so (ko t.toNat).toNatClampNeg).toInt = kS pa2 ko2 t)
    (h1 : BgR N w s r.toInt (fun z => RmS (hF ce) (RmX so ko N) w z)) (h2 : BgR N2 w2 s2 r2.toInt (fun z => RmS (fP F2 A2 B2 S2 n2.toInt) (RmM pa2 ko2 N2) w2 z)) : r = r2 := by
  obtain ⟨e1, e2, e3, e4, e5, e6, hI⟩ := h
  have n1 := Int32.toInt_inj.mp e6
  subst e1 e2 e3 e4 e5 n1 eN ew
  apply Int32.toInt_inj.mp
  have eR : RmX so ko N = RmM pa2 ko2 N := by
    funext t
    apply propext
    unfold RmX RmM
    constructor
    · rintro ⟨a, b, d⟩; exact ⟨a, b, by rw [← hz t a b]; exact d⟩
    · rintro ⟨a, b, d⟩; exact ⟨a, b, by rw [hz t a b]; exact d⟩
  have hu : ∀ z z2, RmS (hF ce) (RmX so ko N) w2 z → RmS (fP F A B S n.toInt) (RmM pa2 ko2 N) w2 z2 → z = z2 := fun z z2 q1 q2 => by
    rw [eR, IX_hF hI hr] at q1
    refine RmS_u fP_9 (fun t ht => ?_) q1 q2
    by_cases y : pL F A S n.toInt t = -9
    · exact fP_no y
    · exfalso
      have w9 := fsF_q y
      have v := (hs.2.1 _ w9.1).2.2.1 w9.2.2.1
      rw [w9.2.2.2] at v
      rcases kS_c (pa := pa2) (ko := ko2) (o := t) with u | u | u | u | u | u
      · exact v u.2
      all_goals (have := ht.2.2; omega)
  unfold BgR at h1 h2
  rcases h1 with ⟨a, b⟩ | ⟨a, b, d⟩ | ⟨a, b, d⟩
  · rcases h2 with ⟨a2, b2⟩ | ⟨a2, b2, d2⟩ | ⟨a2, b2, d2⟩
    · omega
    · exact absurd a2 a
    · exact absurd a2 a
  · have z := es a
    rcases h2 with ⟨a2, b2⟩ | ⟨a2, b2, d2⟩ | ⟨a2, b2, d2⟩
    · exact absurd a a2
    · omega
    · omega
  · have z := es a
    rcases h2 with ⟨a2, b2⟩ | ⟨a2, b2, d2⟩ | ⟨a2, b2, d2⟩
    · exact absurd a a2
    · omega
    · rcases d with d | d
      · rcases d2 with d2 | d2
        · omega
        · have := hu _ _ d.1 d2.2; omega
      · rcases d2 with d2 | d2
        · have := hu _ _ d.2 d2.1; omega
        · exact hu _ _ d.2 d2.2
/-! the law of tales: what both sides keep -/
def PlOk (N : Int) (Z : Int → Int) (o f h : Int) : Prop := 0 ≤ f ∧ f ≤ 4 ∧ 0 ≤ h ∧ h < N ∧ ¬ Z o = 2 ∧ ¬ Z o = 0 ∧ (f = 1 → Z h = 4) ∧ (Z o = 5 → f ≤ 1)
/-- a row of cells and the reference's rows tell the same -/
def ScR (N : Int) (Z : Int → Int) (Qf : Int → Int → Prop) (ce F A O L : Nat → Int32) : Prop := ∀ o : Nat, (o : Int) < N → (((F o).toInt = -9 ∧ (A o).toInt = -9 ∧ (ce o).toInt % 256 = 255) ∨ (PlOk N Z (o : Int) (F o).toInt (A o).toInt ∧ (ce o).toInt % 256 = (A o).toInt * 8 + (F o).toInt)) ∧ (hbt (ce o) 0 ↔ (O o).toInt = 1) ∧ (hbt (ce o) 1 ↔ (L o).toInt = 1) ∧ ∀ k : Int, 2 ≤ k → k ≤ 5 → (hbt (ce o) k ↔ Qf (o : Int) k)
def Abs (ce : Nat → Int32) (N : Int) : Prop := ∀ o : Nat, N ≤ (o : Int) → (ce o).toInt % 256 = 255
theorem Sc_h {N : Int} {Z : Int → Int} {Qf : Int → Int → Prop} {ce F A O L : Nat → Int32} (h : ScR N Z Qf ce F A O L) (ha : Abs ce N) (hN : N ≤ 30) : hF ce = nF N F A := by
  funext x
  unfold hF nF
  by_cases q : 0 ≤ x ∧ x < N
  · have w := (h x.toNat (by omega)).1
    unfold PlOk at w
    by_cases e : (F x.toNat).toInt = -9
    · rw [if_neg (by omega), if_neg (by omega)]
    · rw [if_pos (by omega), if_pos (by omega)]
      omega
  · rw [if_neg (c := 0 ≤ x ∧ x < N ∧ ¬ (F x.toNat).toInt = -9) (by omega)]
    by_cases e : 0 ≤ x
    · have w := ha x.toNat (by omega)
      rw [if_neg (by omega)]
    · rw [if_neg (by omega)]
theorem Sc_f {N : Int} {Z : Int → Int} {Qf : Int → Int → Prop} {ce F A O L : Nat → Int32} (h : ScR N Z Qf ce F A O L) (ha : Abs ce N) (hN : N ≤ 30) : fX ce = fMn N F := by
  funext x
  unfold fX fMn
  by_cases q : 0 ≤ x ∧ x < N
  · have w := (h x.toNat (by omega)).1
    unfold PlOk at w
    rw [if_pos q]
    by_cases e : (F x.toNat).toInt = -9
    · rw [if_neg (by omega)]; omega
    · rw [if_pos (by omega)]
      omega
  · rw [if_neg q]
    by_cases e : 0 ≤ x
    · have w := ha x.toNat (by omega)
      rw [if_neg (by omega)]
    · rw [if_neg (by omega)]
theorem Sc_p {N : Int} {Z : Int → Int} {Qf : Int → Int → Prop} {ce F A O L : Nat → Int32} (h : ScR N Z Qf ce F A O L) : ∀ o : Int, 0 ≤ o → o < N → fMn N F o = -9 ∨ PlOk N Z o (fMn N F o) (nF N F A o) := by
  intro o h0 h1
  have w := (h o.toNat (by omega)).1
  rw [show ((o.toNat : Nat) : Int) = o by omega] at w
  unfold fMn nF
  rw [if_pos ⟨h0, h1⟩]
  by_cases e : (F o.toNat).toInt = -9
  · exact Or.inl e
  · rcases w with w | w
    · exact absurd w.1 e
    · rw [if_pos ⟨h0, h1, e⟩]; exact Or.inr w.1
theorem Sc_b {N : Int} {Z : Int → Int} {Qf : Int → Int → Prop} {ce F A O L : Nat → Int32} (h : ScR N Z Qf ce F A O L) {x : Int} (h0 : 0 ≤ x) (h1 : x < N) : (bT ce 0 x ↔ bM O x) ∧ (bT ce 1 x ↔ bM L x) ∧ ∀ k : Int, 2 ≤ k → k ≤ 5 → (bT ce k x ↔ Qf x k) := by
  have w := (h x.toNat (by omega)).2
  rw [show ((x.toNat : Nat) : Int) = x by omega] at w
  exact w
theorem Sc_l {N : Int} {Z : Int → Int} {Qf : Int → Int → Prop} {ce F A O L : Nat → Int32} (h : ScR N Z Qf ce F A O L) {f g : Int} {x : Nat} (hx : (x : Int) < N) (hf : 0 ≤ f ∧ f ≤ 4) (hg : 0 ≤ g) : lsP ce f g x = true ↔ lsM F A f g x = true := by
  have w := (h x hx).1
  unfold PlOk at w
  constructor
  · intro e
    have e := lsP_e e
    exact lsM_y (by omega)
  · intro e
    have e := lsM_e e
    exact lsP_y (by omega)
/-! looks are alike -/
theorem Cv_c {Z : Int → Int} {op gl op2 gl2 : Int → Prop} {l : Prop} (h : ∀ x, Z x = 3 → (op x ↔ op2 x) ∧ (gl x ↔ gl2 x)) : Cv Z op gl l = Cv Z op2 gl2 l := by
  funext x
  apply propext
  unfold Cv
  constructor
  · rintro ⟨a, b, c⟩
    exact ⟨a, fun w => b ((h x a).1.mpr w), c.elim Or.inl (fun w => Or.inr (fun z => w ((h x a).2.mpr z)))⟩
  · rintro ⟨a, b, c⟩
    exact ⟨a, fun w => b ((h x a).1.mp w), c.elim Or.inl (fun w => Or.inr (fun z => w ((h x a).2.mp z)))⟩
theorem shl_c {Z f : Int → Int} {op gl op2 gl2 : Int → Prop} {l : Prop} {p : Int} (h : ∀ x, Z x = 3 → (op x ↔ op2 x) ∧ (gl x ↔ gl2 x)) : shl Z f op gl l p = shl Z f op2 gl2 l p := by
  have e : StpC Z op gl l = StpC Z op2 gl2 l := by
    funext x
    unfold StpC
    rw [Cv_c h]
  unfold shl
  rw [e]
theorem V1_c {Z f : Int → Int} {op gl op2 gl2 : Int → Prop} {sd sd2 : Int → Int → Prop} {l : Prop} {p o : Int} (h : ∀ x, Z x = 3 → (op x ↔ op2 x) ∧ (gl x ↔ gl2 x)) (hs : ∀ s x, ¬ s = -9 → Z x = 2 → (sd s x ↔ sd2 s x)) : V1 Z f op gl sd l p o ↔ V1 Z f op2 gl2 sd2 l p o := by
  unfold V1 Vw
  rw [shl_c (f := f) (p := p) (l := l) h, Cv_c (l := l) h]
  constructor
  · rintro (a | ⟨a, b | b | b⟩)
    · exact Or.inl a
    · exact Or.inr ⟨a, Or.inl b⟩
    · exact Or.inr ⟨a, Or.inr (Or.inl ⟨b.1, b.2.1, (hs _ _ a b.2.1).mp b.2.2⟩)⟩
    · exact Or.inr ⟨a, Or.inr (Or.inr b)⟩
  · rintro (a | ⟨a, b | b | b⟩)
    · exact Or.inl a
    · exact Or.inr ⟨a, Or.inl b⟩
    · exact Or.inr ⟨a, Or.inr (Or.inl ⟨b.1, b.2.1, (hs _ _ a b.2.1).mpr b.2.2⟩)⟩
    · exact Or.inr ⟨a, Or.inr (Or.inr b)⟩
theorem BrM_c {Z f : Int → Int} {op gl lt op2 gl2 lt2 : Int → Prop} {sd sd2 : Int → Int → Prop} {p N : Int} (h : ∀ x, Z x = 3 → (op x ↔ op2 x) ∧ (gl x ↔ gl2 x)) (hs : ∀ s x, ¬ s = -9 → Z x = 2 → (sd s x ↔ sd2 s x)) (hl : ∀ x, 0 ≤ x → x < N → (lt x ↔ lt2 x)) (hZ : ∀ x, Z x = 0 → 0 ≤ x ∧ x < N) : BrM Z f op gl lt sd p N ↔ BrM Z f op2 gl2 lt2 sd2 p N := by
  unfold BrM
  rw [shl_c (f := f) (p := p) (l := (1 : Int) ≤ 0) h]
  constructor
  · rintro (⟨a, b⟩ | ⟨o, a, b, c, d⟩)
    · exact Or.inl ⟨a, (hl _ (hZ _ a).1 (hZ _ a).2).mp b⟩
    · exact Or.inr ⟨o, a, b, (V1_c h hs).mp c, (hl _ a b).mp d⟩
  · rintro (⟨a, b⟩ | ⟨o, a, b, c, d⟩)
    · exact Or.inl ⟨a, (hl _ (hZ _ a).1 (hZ _ a).2).mpr b⟩
    · exact Or.inr ⟨o, a, b, (V1_c h hs).mpr c, (hl _ a b).mpr d⟩
theorem Sm_i {a b : Int32} {P Q : Prop} (h : Sm a P) (h2 : Sm b Q) (e : P ↔ Q) : a.toInt = 1 ↔ b.toInt = 1 := by
  rcases h with h | h <;> rcases h2 with h2 | h2
  · exact ⟨fun _ => h2.1, fun _ => h.1⟩
  · exact absurd (e.mp h.2) h2.2
  · exact absurd (e.mpr h2.2) h.2
  · exact ⟨fun _ => by omega, fun _ => by omega⟩
theorem Lk_e {Z f fm : Int → Int} {op gl lt op2 gl2 lt2 : Int → Prop} {sd sd2 : Int → Int → Prop} {p N : Int} {sn rc sn2 rc2 : Nat → Int32} {br br2 : Int32} (h1 : LkR Z f fm op gl lt sd p N sn rc br) (h2 : LkR Z f fm op2 gl2 lt2 sd2 p N sn2 rc2 br2) (h : ∀ x, Z x = 3 → (op x ↔ op2 x) ∧ (gl x ↔ gl2 x)) (hs : ∀ s x, ¬ s = -9 → Z x = 2 → (sd s x ↔ sd2 s x)) (hl : ∀ x, 0 ≤ x → x < N → (lt x ↔ lt2 x)) (hZ : ∀ x, Z x = 0 → 0 ≤ x ∧ x < N) {x : Int} (x0 : 0 ≤ x) (x1 : x < N) : ((sn x.toNat).toInt = 1 ↔ (sn2 x.toNat).toInt = 1) ∧ ((rc x.toNat).toInt = 1 ↔ (rc2 x.toNat).toInt = 1) := by
  have a := h1.2 x.toNat (by omega)
  have b := h2.2 x.toNat (by omega)
  rw [show ((x.toNat : Nat) : Int) = x by omega] at a b
  have eB := BrM_c (f := f) (p := p) (N := N) h hs hl hZ
  have eS : SnP Z f fm op gl lt sd p N x ↔ SnP Z f fm op2 gl2 lt2 sd2 p N x := by
    unfold SnP
    rw [propext eB, propext (V1_c (f := f) (p := p) (o := x) (l := (1 : Int) ≤ 0) h hs)]
  have eR : RcP Z f fm op gl lt sd p N x ↔ RcP Z f fm op2 gl2 lt2 sd2 p N x := by
    unfold RcP
    rw [propext eS, propext (V1_c (f := f) (p := p) (o := x) (l := (1 : Int) ≤ 1) h hs)]
  exact ⟨Sm_i a.1 b.1 eS, Sm_i a.2 b.2 eR⟩
/-! reasons are alike -/
theorem plV_0 {a : Int} : plV a 0 = a := by
  unfold plV
  by_cases h : a = 0
  · rw [if_pos h, h]
  · rw [if_neg h]
theorem plV_n {a k : Int} (h : ¬ a = 0) : plV a k = a := if_neg h
theorem plV_z {k : Int} : plV 0 k = k := if_pos rfl
theorem shutV_k {v : Int} {sn sh op lk rc : Prop} {k : Int} : plV (shutV v sn sh op lk rc 0) k = shutV v sn sh op lk rc k := by
  unfold shutV
  by_cases a : ¬ sn
  · rw [iV_y a, iV_y a, plV_n (by decide +kernel)]
  · rw [iV_n a, iV_n a]
    by_cases b : ¬ sh
    · rw [iV_y b, iV_y b, plV_n (by decide +kernel)]
    · rw [iV_n b, iV_n b]
      by_cases c : ¬ rc
      · rw [iV_y c, iV_y c]
        refine plV_n ?_
        rcases leafV_k (v := v) (op := op) (lk := lk) (k := 8) with w | w
        · rw [w.2]; decide
        · rw [w.2]; exact w.1
      · rw [iV_n c, iV_n c]
        rcases leafV_k (v := v) (op := op) (lk := lk) (k := k) with w | w
        · rw [w.1, w.2, plV_z]
        · rw [w.2, plV_n w.1]
theorem iVp {H : Prop} {k : Int} : plV (iV H 11 0) k = iV H 11 k := by
  by_cases h : H
  · rw [iV_y h, iV_y h, plV_n (by decide +kernel)]
  · rw [iV_n h, iV_n h, plV_z]
theorem Wyx_e {v go tk pi po ky wr en lv : Int} {H sn sh op lk rc : Prop} (h0 : ¬ v = 0) : plV (rxV v go tk (iV H 11 0) (shutV v sn sh op lk rc 0) wr en lv) (ryV v pi po ky) = wyV v tk (iV H 11 0) (iV H 11 pi) (iV H 11 po) (shutV v sn sh op lk rc (if 7 ≤ v then (if v ≤ 8 then ky else 0) else 0)) wr en lv := by
  unfold rxV ryV wyV
  rw [if_neg h0]
  by_cases q1 : v = 1
  · rw [if_pos q1, if_pos q1, if_neg (by omega), if_neg (by omega), if_neg (by omega)]; exact plV_0
  rw [if_neg q1, if_neg q1]
  by_cases q2 : v = 2
  · rw [if_pos (by omega), if_pos q2, if_neg (by omega), if_neg (by omega), if_neg (by omega)]; exact plV_0
  rw [if_neg q2]
  by_cases q3 : v = 3
  · rw [if_pos (by omega), if_pos q3, if_pos q3]; exact iVp
  rw [if_neg q3, if_neg q3]
  by_cases q4 : v = 4
  · rw [if_pos (by omega), if_pos q4, if_pos q4]; exact iVp
  rw [if_neg (c := v = 2 ∨ v = 3 ∨ v = 4) (by omega), if_neg q4, if_neg q4]
  by_cases q5 : 5 ≤ v ∧ v ≤ 8
  · rw [if_pos q5, if_pos q5, shutV_k]
    by_cases q7 : 7 ≤ v
    · rw [if_pos (by omega), if_pos q7, if_pos (by omega)]
    · rw [if_neg (by omega), if_neg q7]
  rw [if_neg q5, if_neg q5, if_neg (c := v = 7 ∨ v = 8) (by omega), plV_0]
theorem wtB_c {Z : Int → Int} {sz : Nat → Int32} {ls ls2 : Int → Int → Nat → Bool} {N : Nat} (h : ∀ (g o : Int) (x : Nat), (g = 0 ∨ g = 1) → 0 ≤ o → x < N → (ls g o x = true ↔ ls2 g o x = true)) : ∀ (k x : Nat), wtB Z sz ls N k x = wtB Z sz ls2 N k x := by
  intro k
  induction k with
  | zero => intro x; rfl
  | succ k ih =>
    intro x
    have e : ∀ g : Int, (g = 0 ∨ g = 1) → sumI (fun y => if ls g (x : Int) y = true then wtB Z sz ls N k y else 0) N = sumI (fun y => if ls2 g (x : Int) y = true then wtB Z sz ls2 N k y else 0) N := fun g hg => sumI_c N (fun y hy => by
      have w := h g (x : Int) y hg (by omega) hy
      by_cases q : ls g (x : Int) y = true
      · rw [if_pos q, if_pos (w.mp q)]; exact ih y
      · rw [if_neg q, if_neg (fun z => q (w.mpr z))])
    show (if _ then _ else _) = (if _ then _ else _)
    rw [e 0 (by omega), e 1 (by omega)]
theorem iV_0 {P : Prop} {a b : Int} (h : iV P a b = 0) (ha : ¬ a = 0) : ¬ P ∧ b = 0 := by
  by_cases q : P
  · rw [iV_y q] at h; exact absurd h ha
  · rw [iV_n q] at h; exact ⟨q, h⟩
theorem iV_e {P Q : Prop} {a b c : Int} (h : P ↔ Q) (e : ¬ P → b = c) : iV P a b = iV Q a c := by
  by_cases q : P
  · rw [iV_y q, iV_y (h.mp q)]
  · rw [iV_n q, iV_n (fun z => q (h.mpr z)), e q]
theorem takeV_c {sn up hd bad rc an ov sn2 bad2 rc2 ov2 : Prop} (h1 : sn ↔ sn2) (h4 : bad ↔ bad2) (h5 : rc ↔ rc2) (h7 : ov ↔ ov2) : takeV sn up hd bad rc an ov = takeV sn2 up hd bad2 rc2 an ov2 := by rw [propext h1, propext h4, propext h5, propext h7]
theorem putV_c {sn fit slf cl rc ful sn2 fit2 cl2 rc2 ful2 : Prop} (h1 : sn ↔ sn2) (h2 : fit ↔ fit2) (h4 : cl ↔ cl2) (h5 : rc ↔ rc2) (h6 : ful ↔ ful2) : putV sn fit slf cl rc ful = putV sn2 fit2 slf cl2 rc2 ful2 := by rw [propext h1, propext h2, propext h4, propext h5, propext h6]
theorem shutV_c {v : Int} {sn sh op lk rc sn2 op2 lk2 rc2 : Prop} {k k2 : Int} (h1 : sn ↔ sn2) (h3 : op ↔ op2) (h4 : lk ↔ lk2) (h5 : rc ↔ rc2) (e : k = k2) : shutV v sn sh op lk rc k = shutV v sn2 sh op2 lk2 rc2 k2 := by rw [propext h1, propext h3, propext h4, propext h5, e]
theorem wearV_c {hd g g2 : Prop} (h : hd → (g ↔ g2)) : wearV hd g = wearV hd g2 := by
  unfold wearV
  refine iV_e Iff.rfl (fun q => ?_)
  have w := h (Classical.not_not.mp q)
  rw [propext w]
theorem enterV_c {sn fit up cl rc at_ sn2 cl2 rc2 : Prop} (h1 : sn ↔ sn2) (h4 : cl ↔ cl2) (h5 : rc ↔ rc2) : enterV sn fit up cl rc at_ = enterV sn2 fit up cl2 rc2 at_ := by rw [propext h1, propext h4, propext h5]
theorem leaveV_c {bw cl fo bw2 cl2 : Prop} (h1 : bw ↔ bw2) (h2 : ¬ bw → (cl ↔ cl2)) : leaveV bw cl fo = leaveV bw2 cl2 fo := by
  unfold leaveV
  refine iV_e h1 (fun q => ?_)
  rw [propext (h2 q)]

