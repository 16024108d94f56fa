/-! the law of tales: what both sides keep -/
def PlOk (N : Int) (Z : Int → Int) (o f h : Int) : Prop := 0 ≤ f ∧ f ≤ 4 ∧ 0 ≤ h ∧ h < N ∧ ¬ Z o = 2 ∧ ¬ Z o = 0 ∧ (f = 1 → Z h = 4) ∧ (Z o = 5 → f ≤ 1)
/-- a row of cells and the reference's rows tell the same -/
def ScR (N : Int) (Z : Int → Int) (Qf : Int → Int → Prop) (ce F A O L : Nat → Int32) : Prop := ∀ o : Nat, (o : Int) < N → (((F o).toInt = -9 ∧ (A o).toInt = -9 ∧ (ce o).toInt % 256 = 255) ∨ (PlOk N Z (o : Int) (F o).toInt (A o).toInt ∧ (ce o).toInt % 256 = (A o).toInt * 8 + (F o).toInt)) ∧ (hb (ce o) 0 ↔ (O o).toInt = 1) ∧ (hb (ce o) 1 ↔ (L o).toInt = 1) ∧ ∀ k : Int, 2 ≤ k → k ≤ 5 → (hb (ce o) k ↔ Qf (o : Int) k)
def Abs (ce : Nat → Int32) (N : Int) : Prop := ∀ o : Nat, N ≤ (o : Int) → (ce o).toInt % 256 = 255
theorem Sc_h {N : Int} {Z : Int → Int} {Qf : Int → Int → Prop} {ce F A O L : Nat → Int32} (h : ScR N Z Qf ce F A O L) (ha : Abs ce N) (hN : N ≤ 30) : hF ce = nF N F A := by
  funext x
  unfold hF nF
  by_cases q : 0 ≤ x ∧ x < N
  · have w := (h x.toNat (by omega)).1
    unfold PlOk at w
    by_cases e : (F x.toNat).toInt = -9
    · rw [if_neg (by omega), if_neg (by omega)]
    · rw [if_pos (by omega), if_pos (by omega)]
      omega
  · rw [if_neg (c := 0 ≤ x ∧ x < N ∧ ¬ (F x.toNat).toInt = -9) (by omega)]
    by_cases e : 0 ≤ x
    · have w := ha x.toNat (by omega)
      rw [if_neg (by omega)]
    · rw [if_neg (by omega)]
theorem Sc_f {N : Int} {Z : Int → Int} {Qf : Int → Int → Prop} {ce F A O L : Nat → Int32} (h : ScR N Z Qf ce F A O L) (ha : Abs ce N) (hN : N ≤ 30) : fX ce = fMn N F := by
  funext x
  unfold fX fMn
  by_cases q : 0 ≤ x ∧ x < N
  · have w := (h x.toNat (by omega)).1
    unfold PlOk at w
    rw [if_pos q]
    by_cases e : (F x.toNat).toInt = -9
    · rw [if_neg (by omega)]; omega
    · rw [if_pos (by omega)]
      omega
  · rw [if_neg q]
    by_cases e : 0 ≤ x
    · have w := ha x.toNat (by omega)
      rw [if_neg (by omega)]
    · rw [if_neg (by omega)]
theorem Sc_p {N : Int} {Z : Int → Int} {Qf : Int → Int → Prop} {ce F A O L : Nat → Int32} (h : ScR N Z Qf ce F A O L) : ∀ o : Int, 0 ≤ o → o < N → fMn N F o = -9 ∨ PlOk N Z o (fMn N F o) (nF N F A o) := by
  intro o h0 h1
  have w := (h o.toNat (by omega)).1
  rw [show ((o.toNat : Nat) : Int) = o by omega] at w
  unfold fMn nF
  rw [if_pos ⟨h0, h1⟩]
  by_cases e : (F o.toNat).toInt = -9
  · exact Or.inl e
  · rcases w with w | w
    · exact absurd w.1 e
    · rw [if_pos ⟨h0, h1, e⟩]; exact Or.inr w.1
theorem Sc_b {N : Int} {Z : Int → Int} {Qf : Int → Int → Prop} {ce F A O L : Nat → Int32} (h : ScR N Z Qf ce F A O L) {x : Int} (h0 : 0 ≤ x) (h1 : x < N) : (bT ce 0 x ↔ bM O x) ∧ (bT ce 1 x ↔ bM L x) ∧ ∀ k : Int, 2 ≤ k → k ≤ 5 → (bT ce k x ↔ Qf x k) := by
  have w := (h x.toNat (by omega)).2
  rw [show ((x.toNat : Nat) : Int) = x by omega] at w
  exact w
theorem Sc_l {N : Int} {Z : Int → Int} {Qf : Int → Int → Prop} {ce F A O L : Nat → Int32} (h : ScR N Z Qf ce F A O L) {f g : Int} {x : Nat} (hx : (x : Int) < N) (hf : 0 ≤ f ∧ f ≤ 4) (hg : 0 ≤ g) : lsP ce f g x = true ↔ lsM F A f g x = true := by
  have w := (h x hx).1
  unfold PlOk at w
  constructor
  · intro e
    have e := lsP_e e
    exact lsM_y (by omega)
  · intro e
    have e := lsM_e e
    exact lsP_y (by omega)
/-! looks are alike -/
theorem Cv_c {Z : Int → Int} {op gl op2 gl2 : Int → Prop} {l : Prop} (h : ∀ x, Z x = 3 → (op x ↔ op2 x) ∧ (gl x ↔ gl2 x)) : Cv Z op gl l = Cv Z op2 gl2 l := by
  funext x
  apply propext
  unfold Cv
  constructor
  · rintro ⟨a, b, c⟩
    exact ⟨a, fun w => b ((h x a).1.mpr w), c.elim Or.inl (fun w => Or.inr (fun z => w ((h x a).2.mpr z)))⟩
  · rintro ⟨a, b, c⟩
    exact ⟨a, fun w => b ((h x a).1.mp w), c.elim Or.inl (fun w => Or.inr (fun z => w ((h x a).2.mp z)))⟩
theorem shl_c {Z f : Int → Int} {op gl op2 gl2 : Int → Prop} {l : Prop} {p : Int} (h : ∀ x, Z x = 3 → (op x ↔ op2 x) ∧ (gl x ↔ gl2 x)) : shl Z f op gl l p = shl Z f op2 gl2 l p := by
  have e : StpC Z op gl l = StpC Z op2 gl2 l := by
    funext x
    unfold StpC
    rw [Cv_c h]
  unfold shl
  rw [e]
theorem V1_c {Z f : Int → Int} {op gl op2 gl2 : Int → Prop} {sd sd2 : Int → Int → Prop} {l : Prop} {p o : Int} (h : ∀ x, Z x = 3 → (op x ↔ op2 x) ∧ (gl x ↔ gl2 x)) (hs : ∀ s x, ¬ s = -9 → Z x = 2 → (sd s x ↔ sd2 s x)) : V1 Z f op gl sd l p o ↔ V1 Z f op2 gl2 sd2 l p o := by
  unfold V1 Vw
  rw [shl_c (f := f) (p := p) (l := l) h, Cv_c (l := l) h]
  constructor
  · rintro (a | ⟨a, b | b | b⟩)
    · exact Or.inl a
    · exact Or.inr ⟨a, Or.inl b⟩
    · exact Or.inr ⟨a, Or.inr (Or.inl ⟨b.1, b.2.1, (hs _ _ a b.2.1).mp b.2.2⟩)⟩
    · exact Or.inr ⟨a, Or.inr (Or.inr b)⟩
  · rintro (a | ⟨a, b | b | b⟩)
    · exact Or.inl a
    · exact Or.inr ⟨a, Or.inl b⟩
    · exact Or.inr ⟨a, Or.inr (Or.inl ⟨b.1, b.2.1, (hs _ _ a b.2.1).mpr b.2.2⟩)⟩
    · exact Or.inr ⟨a, Or.inr (Or.inr b)⟩
theorem BrM_c {Z f : Int → Int} {op gl lt op2 gl2 lt2 : Int → Prop} {sd sd2 : Int → Int → Prop} {p N : Int} (h : ∀ x, Z x = 3 → (op x ↔ op2 x) ∧ (gl x ↔ gl2 x)) (hs : ∀ s x, ¬ s = -9 → Z x = 2 → (sd s x ↔ sd2 s x)) (hl : ∀ x, 0 ≤ x → x < N → (lt x ↔ lt2 x)) (hZ : ∀ x, Z x = 0 → 0 ≤ x ∧ x < N) : BrM Z f op gl lt sd p N ↔ BrM Z f op2 gl2 lt2 sd2 p N := by
  unfold BrM
  rw [shl_c (f := f) (p := p) (l := (1 : Int) ≤ 0) h]
  constructor
  · rintro (⟨a, b⟩ | ⟨o, a, b, c, d⟩)
    · exact Or.inl ⟨a, (hl _ (hZ _ a).1 (hZ _ a).2).mp b⟩
    · exact Or.inr ⟨o, a, b, (V1_c h hs).mp c, (hl _ a b).mp d⟩
  · rintro (⟨a, b⟩ | ⟨o, a, b, c, d⟩)
    · exact Or.inl ⟨a, (hl _ (hZ _ a).1 (hZ _ a).2).mpr b⟩
    · exact Or.inr ⟨o, a, b, (V1_c h hs).mpr c, (hl _ a b).mpr d⟩
theorem Sm_i {a b : Int32} {P Q : Prop} (h : Sm a P) (h2 : Sm b Q) (e : P ↔ Q) : a.toInt = 1 ↔ b.toInt = 1 := by
  rcases h with h | h <;> rcases h2 with h2 | h2
  · exact ⟨fun _ => h2.1, fun _ => h.1⟩
  · exact absurd (e.mp h.2) h2.2
  · exact absurd (e.mpr h2.2) h.2
  · exact ⟨fun _ => by omega, fun _ => by omega⟩
theorem Lk_e {Z f fm : Int → Int} {op gl lt op2 gl2 lt2 : Int → Prop} {sd sd2 : Int → Int → Prop} {p N : Int} {sn rc sn2 rc2 : Nat → Int32} {br br2 : Int32} (h1 : LkR Z f fm op gl lt sd p N sn rc br) (h2 : LkR Z f fm op2 gl2 lt2 sd2 p N sn2 rc2 br2) (h : ∀ x, Z x = 3 → (op x ↔ op2 x) ∧ (gl x ↔ gl2 x)) (hs : ∀ s x, ¬ s = -9 → Z x = 2 → (sd s x ↔ sd2 s x)) (hl : ∀ x, 0 ≤ x → x < N → (lt x ↔ lt2 x)) (hZ : ∀ x, Z x = 0 → 0 ≤ x ∧ x < N) {x : Int} (x0 : 0 ≤ x) (x1 : x < N) : ((sn x.toNat).toInt = 1 ↔ (sn2 x.toNat).toInt = 1) ∧ ((rc x.toNat).toInt = 1 ↔ (rc2 x.toNat).toInt = 1) := by
  have a := h1.2 x.toNat (by omega)
  have b := h2.2 x.toNat (by omega)
  rw [show ((x.toNat : Nat) : Int) = x by omega] at a b
  have eB := BrM_c (f := f) (p := p) (N := N) h hs hl hZ
  have eS : SnP Z f fm op gl lt sd p N x ↔ SnP Z f fm op2 gl2 lt2 sd2 p N x := by
    unfold SnP
    rw [propext eB, propext (V1_c (f := f) (p := p) (o := x) (l := (1 : Int) ≤ 0) h hs)]
  have eR : RcP Z f fm op gl lt sd p N x ↔ RcP Z f fm op2 gl2 lt2 sd2 p N x := by
    unfold RcP
    rw [propext eS, propext (V1_c (f := f) (p := p) (o := x) (l := (1 : Int) ≤ 1) h hs)]
  exact ⟨Sm_i a.1 b.1 eS, Sm_i a.2 b.2 eR⟩
/-! reasons are alike -/
theorem plV_0 {a : Int} : plV a 0 = a := by
  unfold plV
  by_cases h : a = 0
  · rw [if_pos h, h]
  · rw [if_neg h]
theorem plV_n {a k : Int} (h : ¬ a = 0) : plV a k = a := if_neg h
theorem plV_z {k : Int} : plV 0 k = k := if_pos rfl
theorem shutV_k {v : Int} {sn sh op lk rc : Prop} {k : Int} : plV (shutV v sn sh op lk rc 0) k = shutV v sn sh op lk rc k := by
  unfold shutV
  by_cases a : ¬ sn
  · rw [iV_y a, iV_y a, plV_n (by decide)]
  · rw [iV_n a, iV_n a]
    by_cases b : ¬ sh
    · rw [iV_y b, iV_y b, plV_n (by decide)]
    · rw [iV_n b, iV_n b]
      by_cases c : ¬ rc
      · rw [iV_y c, iV_y c]
        refine plV_n ?_
        rcases leafV_k (v := v) (op := op) (lk := lk) (k := 8) with w | w
        · rw [w.2]; decide
        · rw [w.2]; exact w.1
      · rw [iV_n c, iV_n c]
        rcases leafV_k (v := v) (op := op) (lk := lk) (k := k) with w | w
        · rw [w.1, w.2, plV_z]
        · rw [w.2, plV_n w.1]
theorem iVp {H : Prop} {k : Int} : plV (iV H 11 0) k = iV H 11 k := by
  by_cases h : H
  · rw [iV_y h, iV_y h, plV_n (by decide)]
  · rw [iV_n h, iV_n h, plV_z]
theorem Wyx_e {v go tk pi po ky wr en lv : Int} {H sn sh op lk rc : Prop} (h0 : ¬ v = 0) : plV (rxV v go tk (iV H 11 0) (shutV v sn sh op lk rc 0) wr en lv) (ryV v pi po ky) = wyV v tk (iV H 11 0) (iV H 11 pi) (iV H 11 po) (shutV v sn sh op lk rc (if 7 ≤ v then (if v ≤ 8 then ky else 0) else 0)) wr en lv := by
  unfold rxV ryV wyV
  rw [if_neg h0]
  by_cases q1 : v = 1
  · rw [if_pos q1, if_pos q1, if_neg (by omega), if_neg (by omega), if_neg (by omega)]; exact plV_0
  rw [if_neg q1, if_neg q1]
  by_cases q2 : v = 2
  · rw [if_pos (by omega), if_pos q2, if_neg (by omega), if_neg (by omega), if_neg (by omega)]; exact plV_0
  rw [if_neg q2]
  by_cases q3 : v = 3
  · rw [if_pos (by omega), if_pos q3, if_pos q3]; exact iVp
  rw [if_neg q3, if_neg q3]
  by_cases q4 : v = 4
  · rw [if_pos (by omega), if_pos q4, if_pos q4]; exact iVp
  rw [if_neg (c := v = 2 ∨ v = 3 ∨ v = 4) (by omega), if_neg q4, if_neg q4]
  by_cases q5 : 5 ≤ v ∧ v ≤ 8
  · rw [if_pos q5, if_pos q5, shutV_k]
    by_cases q7 : 7 ≤ v
    · rw [if_pos (by omega), if_pos q7, if_pos (by omega)]
    · rw [if_neg (by omega), if_neg q7]
  rw [if_neg q5, if_neg q5, if_neg (c := v = 7 ∨ v = 8) (by omega), plV_0]
theorem wtB_c {Z : Int → Int} {sz : Nat → Int32} {ls ls2 : Int → Int → Nat → Bool} {N : Nat} (h : ∀ (g o : Int) (x : Nat), (g = 0 ∨ g = 1) → 0 ≤ o → x < N → (ls g o x = true ↔ ls2 g o x = true)) : ∀ (k x : Nat), wtB Z sz ls N k x = wtB Z sz ls2 N k x := by
  intro k
  induction k with
  | zero => intro x; rfl
  | succ k ih =>
    intro x
    have e : ∀ g : Int, (g = 0 ∨ g = 1) → sumI (fun y => if ls g (x : Int) y = true then wtB Z sz ls N k y else 0) N = sumI (fun y => if ls2 g (x : Int) y = true then wtB Z sz ls2 N k y else 0) N := fun g hg => sumI_c N (fun y hy => by
      have w := h g (x : Int) y hg (by omega) hy
      by_cases q : ls g (x : Int) y = true
      · rw [if_pos q, if_pos (w.mp q)]; exact ih y
      · rw [if_neg q, if_neg (fun z => q (w.mpr z))])
    show (if _ then _ else _) = (if _ then _ else _)
    rw [e 0 (by omega), e 1 (by omega)]
theorem iV_0 {P : Prop} {a b : Int} (h : iV P a b = 0) (ha : ¬ a = 0) : ¬ P ∧ b = 0 := by
  by_cases q : P
  · rw [iV_y q] at h; exact absurd h ha
  · rw [iV_n q] at h; exact ⟨q, h⟩
theorem iV_e {P Q : Prop} {a b c : Int} (h : P ↔ Q) (e : ¬ P → b = c) : iV P a b = iV Q a c := by
  by_cases q : P
  · rw [iV_y q, iV_y (h.mp q)]
  · rw [iV_n q, iV_n (fun z => q (h.mpr z)), e q]
theorem takeV_c {sn up hd bad rc an ov sn2 bad2 rc2 ov2 : Prop} (h1 : sn ↔ sn2) (h4 : bad ↔ bad2) (h5 : rc ↔ rc2) (h7 : ov ↔ ov2) : takeV sn up hd bad rc an ov = takeV sn2 up hd bad2 rc2 an ov2 := by rw [propext h1, propext h4, propext h5, propext h7]
theorem putV_c {sn fit slf cl rc ful sn2 fit2 cl2 rc2 ful2 : Prop} (h1 : sn ↔ sn2) (h2 : fit ↔ fit2) (h4 : cl ↔ cl2) (h5 : rc ↔ rc2) (h6 : ful ↔ ful2) : putV sn fit slf cl rc ful = putV sn2 fit2 slf cl2 rc2 ful2 := by rw [propext h1, propext h2, propext h4, propext h5, propext h6]
theorem shutV_c {v : Int} {sn sh op lk rc sn2 op2 lk2 rc2 : Prop} {k k2 : Int} (h1 : sn ↔ sn2) (h3 : op ↔ op2) (h4 : lk ↔ lk2) (h5 : rc ↔ rc2) (e : k = k2) : shutV v sn sh op lk rc k = shutV v sn2 sh op2 lk2 rc2 k2 := by rw [propext h1, propext h3, propext h4, propext h5, e]
theorem keyV_c {hd ky ky2 : Prop} (h : ky ↔ ky2) : keyV hd ky = keyV hd ky2 := by rw [propext h]
theorem wearV_c {hd g g2 : Prop} (h : hd → (g ↔ g2)) : wearV hd g = wearV hd g2 := by
  unfold wearV
  refine iV_e Iff.rfl (fun q => ?_)
  have w := h (Classical.not_not.mp q)
  rw [propext w]
theorem enterV_c {sn fit up cl rc at_ sn2 cl2 rc2 : Prop} (h1 : sn ↔ sn2) (h4 : cl ↔ cl2) (h5 : rc ↔ rc2) : enterV sn fit up cl rc at_ = enterV sn2 fit up cl2 rc2 at_ := by rw [propext h1, propext h4, propext h5]
theorem leaveV_c {bw cl fo bw2 cl2 : Prop} (h1 : bw ↔ bw2) (h2 : ¬ bw → (cl ↔ cl2)) : leaveV bw cl fo = leaveV bw2 cl2 fo := by
  unfold leaveV
  refine iV_e h1 (fun q => ?_)
  rw [propext (h2 q)]
theorem goV_c {bw : Prop} {ld dr ld2 dr2 : Int} {op op2 : Int → Prop} (h : bw → ld = ld2 ∧ dr = dr2) (ho : bw → ¬ dr = -9 → (op dr ↔ op2 dr)) : goV bw ld dr op = goV bw ld2 dr2 op2 := by
  unfold goV
  refine iV_e Iff.rfl (fun q => ?_)
  have b := Classical.not_not.mp q
  rw [← (h b).1, ← (h b).2]
  refine iV_d (fun _ => ?_)
  refine iV_e ?_ (fun _ => rfl)
  constructor
  · rintro ⟨x, y⟩; exact ⟨x, fun z => y ((ho b x).mpr z)⟩
  · rintro ⟨x, y⟩; exact ⟨x, fun z => y ((ho b x).mp z)⟩
/-! what an act does is alike -/
theorem Gd {N v p x y ld : Int} {Z f fm : Int → Int} (h : ∀ o : Int, 0 ≤ o → o < N → fm o = -9 ∨ PlOk N Z o (fm o) (f o)) (hp : 0 ≤ p ∧ p < N) (hp5 : Z p = 5) (hpp : ¬ fm p = -9) (ha : IsA v x y N) (hv : v ≤ 4 ∨ (9 ≤ v ∧ v ≤ 11)) (g0 : v = 0 → 0 ≤ ld ∧ ld < N) (g1 : v = 1 → (Z x = 1 ∨ 3 ≤ Z x) ∧ ¬ Z x = 5) (g2 : v = 2 ∨ v = 3 ∨ v = 4 ∨ v = 9 → fm x = 2) (g4 : v = 4 → Z y = 4) (g10 : v = 10 → Z x = 3 ∨ Z x = 4) (g11 : v = 11 → fm (f p) = 0 ∨ fm (f p) = 1) : PlOk N Z (if v = 0 ∨ 10 ≤ v then p else x) (plF v Z fm f p x) (plH v f p ld x y) := by
  have hP := (h p hp.1 hp.2).resolve_left hpp
  unfold IsA at ha
  obtain ⟨a1, a2, a3, a4, a5⟩ := ha
  unfold plF plH
  have hX : v = 2 ∨ v = 3 ∨ v = 4 ∨ v = 9 → PlOk N Z x (fm x) (f x) := fun q => (h x (by omega) (by omega)).resolve_left (by have := g2 q; omega)
  have hF : v = 11 → PlOk N Z (f p) (fm (f p)) (f (f p)) := fun q => (h (f p) (by unfold PlOk at hP; omega) (by unfold PlOk at hP; omega)).resolve_left (by have := g11 q; omega)
  rcases (show v = 0 ∨ v = 1 ∨ v = 2 ∨ v = 3 ∨ v = 4 ∨ v = 9 ∨ v = 10 ∨ v = 11 by omega) with q | q | q | q | q | q | q | q
  · have := g0 q
    rw [if_pos (by omega), if_pos q, if_pos q]
    unfold PlOk at hP ⊢; omega
  · have := g1 q
    rw [if_neg (by omega), if_neg (by omega), if_pos q, if_neg (by omega), if_pos (by omega)]
    unfold PlOk at hP ⊢; omega
  · have w := hX (by omega)
    have := g2 (by omega)
    rw [if_neg (by omega), if_neg (by omega), if_neg (by omega), if_pos q, if_neg (by omega), if_neg (by omega), if_pos q]
    unfold PlOk at hP w ⊢; omega
  · have w := hX (by omega)
    have := g2 (by omega)
    rw [if_neg (by omega), if_neg (by omega), if_neg (by omega), if_neg (by omega), if_pos q, if_neg (by omega), if_neg (by omega), if_neg (by omega), if_pos (by omega)]
    unfold PlOk at hP w ⊢; omega
  · have w := hX (by omega)
    have := g2 (by omega)
    have := g4 q
    rw [if_neg (by omega), if_neg (by omega), if_neg (by omega), if_neg (by omega), if_neg (by omega), if_pos q, if_neg (by omega), if_neg (by omega), if_neg (by omega), if_pos (by omega)]
    unfold PlOk at hP w ⊢; omega
  · have w := hX (by omega)
    have := g2 (by omega)
    rw [if_neg (by omega), if_neg (by omega), if_neg (by omega), if_neg (by omega), if_neg (by omega), if_neg (by omega), if_pos q, if_neg (by omega), if_pos (by omega)]
    unfold PlOk at hP w ⊢; omega
  · have := g10 q
    rw [if_pos (by omega), if_neg (by omega), if_neg (by omega), if_neg (by omega), if_neg (by omega), if_neg (by omega), if_neg (by omega), if_pos q]
    by_cases e : Z x = 3
    · rw [if_pos e, if_neg (by omega), if_neg (by omega), if_neg (by omega), if_neg (by omega), if_pos q]; unfold PlOk at hP ⊢; omega
    · rw [if_neg e, if_neg (by omega), if_neg (by omega), if_neg (by omega), if_neg (by omega), if_pos q]; unfold PlOk at hP ⊢; omega
  · have w := hF q
    have := g11 q
    rw [if_pos (by omega), if_neg (by omega), if_neg (by omega), if_neg (by omega), if_neg (by omega), if_neg (by omega), if_neg (by omega), if_neg (by omega), if_neg (by omega), if_neg (by omega), if_neg (by omega), if_neg (by omega), if_neg (by omega)]
    unfold PlOk at hP w ⊢; omega
theorem AcR_h {v f g : Int} {F A O L F2 A2 O2 L2 : Nat → Int32} {sj x : Int32} {H : Int → Prop} (h : AcR v F A O L F2 A2 O2 L2 sj x f H) (e : ∀ z, H z → z = g) : AcR v F A O L F2 A2 O2 L2 sj x f (fun z => z = g) := by
  unfold AcR at h ⊢
  rcases h with ⟨a, ⟨f9, h9, b, c, d⟩, k⟩ | h | h | h
  · exact Or.inl ⟨a, ⟨f9, h9, b, e _ c, d⟩, k⟩
  · exact Or.inr (Or.inl h)
  · exact Or.inr (Or.inr (Or.inl h))
  · exact Or.inr (Or.inr (Or.inr h))
theorem Sc_x {N : Int} {Z : Int → Int} {Qf : Int → Int → Prop} {ce F A O L F2 A2 O2 L2 : Nat → Int32} (h : ScR N Z Qf ce F A O L) (e : ∀ o : Nat, (o : Int) < N → F2 o = F o ∧ A2 o = A o ∧ O2 o = O o ∧ L2 o = L o) : ScR N Z Qf ce F2 A2 O2 L2 := fun o ho => by
  have q := e o ho
  rw [q.1, q.2.1, q.2.2.1, q.2.2.2]
  exact h o ho
theorem Sc_a {N v f g : Int} {Z : Int → Int} {Qf : Int → Int → Prop} {ce F A O L F2 A2 O2 L2 : Nat → Int32} {sj x2 ou : Int32} (h : ScR N Z Qf ce F A O L) (hce : ∀ o, 0 ≤ (ce o).toInt) (hN : N ≤ 30) (hs : 0 ≤ sj.toInt ∧ sj.toInt < N) (ho : OuR v (ce sj.toNatClampNeg) ou f g) (ha : AcR v F A O L F2 A2 O2 L2 sj x2 f (fun z => z = g)) (hx : 5 ≤ v ∧ v ≤ 8 → x2 = sj) (hg : v ≤ 4 ∨ (9 ≤ v ∧ v ≤ 11) → PlOk N Z sj.toInt f g) : ScR N Z Qf (upd ce sj.toNatClampNeg ou) F2 A2 O2 L2 := by
  intro o hlt
  have hs0 := cl_nn (x := sj) hs.1
  by_cases e : o = sj.toNatClampNeg
  · subst e
    have w := h sj.toNatClampNeg hlt
    rw [pk_us]
    rcases ho with ⟨v1, ho⟩ | ⟨v1, hm, hB⟩ | ⟨v1, hm, hB⟩ | ⟨v1, ho⟩
    · rcases ha with ⟨_, ⟨f9, h9, b, c, d1, d2⟩, k1, k2⟩ | ⟨v2, _⟩ | ⟨v2, _⟩ | ⟨v2, _⟩
      · have p := hg v1
        have p2 := p
        unfold PlOk at p2
        have c9 : h9.toInt = g := c
        rw [d1, d2, k1, k2, pk_us, pk_us, b, c9, hs0]
        refine ⟨Or.inr ⟨p, by omega⟩, ?_, ?_, fun k q1 q2 => ?_⟩
        · rw [pl_hb (hce _) (by omega) (by omega) ho (by omega)]; exact w.2.1
        · rw [pl_hb (hce _) (by omega) (by omega) ho (by omega)]; exact w.2.2.1
        · rw [pl_hb (hce _) (by omega) (by omega) ho (by omega)]
          have u := w.2.2.2 k q1 q2
          rw [hs0] at u
          exact u
      · exfalso; omega
      · exfalso; omega
      · exfalso; omega
    · rcases ha with ⟨v2, _⟩ | ⟨_, d1, d2, ⟨z, hz, k1⟩, k2⟩ | ⟨v2, _⟩ | ⟨v2, _⟩
      · exfalso; omega
      · rw [d1, d2, k1, k2, hx (by omega), pk_us, hm]
        refine ⟨w.1, ?_, ?_, fun k q1 q2 => ?_⟩
        · rw [hB 0 (by omega) (by omega)]
          constructor
          · rintro (u | u)
            · rcases hz with y | y
              · exact y.1
              · exact absurd u.2 y.2
            · exact absurd rfl u.1
          · intro u
            rcases hz with y | y
            · exact Or.inl ⟨rfl, y.2⟩
            · omega
        · rw [hB 1 (by omega) (by omega), ← w.2.2.1]
          exact ⟨fun u => u.elim (fun y => absurd y.1 (by decide)) (fun y => y.2), fun u => Or.inr ⟨by decide, u⟩⟩
        · rw [hB k (by omega) q2, ← w.2.2.2 k q1 q2]
          exact ⟨fun u => u.elim (fun y => absurd y.1 (by omega)) (fun y => y.2), fun u => Or.inr ⟨by omega, u⟩⟩
      · exfalso; omega
      · exfalso; omega
    · rcases ha with ⟨v2, _⟩ | ⟨v2, _⟩ | ⟨_, d1, d2, k1, z, hz, k2⟩ | ⟨v2, _⟩
      · exfalso; omega
      · exfalso; omega
      · rw [d1, d2, k1, k2, hx (by omega), pk_us, hm]
        refine ⟨w.1, ?_, ?_, fun k q1 q2 => ?_⟩
        · rw [hB 0 (by omega) (by omega), ← w.2.1]
          exact ⟨fun u => u.elim (fun y => absurd y.1 (by decide)) (fun y => y.2), fun u => Or.inr ⟨by decide, u⟩⟩
        · rw [hB 1 (by omega) (by omega)]
          constructor
          · rintro (u | u)
            · rcases hz with y | y
              · exact y.1
              · exact absurd u.2 y.2
            · exact absurd rfl u.1
          · intro u
            rcases hz with y | y
            · exact Or.inl ⟨rfl, y.2⟩
            · omega
        · rw [hB k (by omega) q2, ← w.2.2.2 k q1 q2]
          exact ⟨fun u => u.elim (fun y => absurd y.1 (by omega)) (fun y => y.2), fun u => Or.inr ⟨by omega, u⟩⟩
      · exfalso; omega
    · rcases ha with ⟨v2, _⟩ | ⟨v2, _⟩ | ⟨v2, _⟩ | ⟨_, d1, d2, k1, k2⟩
      · exfalso; omega
      · exfalso; omega
      · exfalso; omega
      · rw [d1, d2, k1, k2, ho]; exact w
  · rw [pk_un e]
    have w := h o hlt
    rcases ha with ⟨_, ⟨f9, h9, b, c, d1, d2⟩, k1, k2⟩ | ⟨v2, d1, d2, ⟨z, hz, k1⟩, k2⟩ | ⟨v2, d1, d2, k1, z, hz, k2⟩ | ⟨_, d1, d2, k1, k2⟩
    · rw [d1, d2, k1, k2, pk_un e, pk_un e]; exact w
    · rw [d1, d2, k1, k2, hx (by omega), pk_un e]; exact w
    · rw [d1, d2, k1, k2, hx (by omega), pk_un e]; exact w
    · rw [d1, d2, k1, k2]; exact w
theorem Abs_u {ce : Nat → Int32} {N : Int} {j v : Int32} (h : Abs ce N) (h0 : 0 ≤ j.toInt) (h1 : j.toInt < N) : Abs (upd ce j.toNatClampNeg v) N := by
  intro o ho
  have e := cl_nn (x := j) h0
  rw [pk_un (by omega)]
  exact h o ho
/-! what is undone -/
def UdR (N : Int) (Z : Int → Int) (Qf : Int → Int → Prop) (tu : Nat) (ce sb fc W1 W2 W3 W4 : Nat → Int32) : Prop := ∃ cs : Nat → Nat → Int32, cs tu = ce ∧ ∀ j : Nat, j < tu → cs j = upd (cs (j + 1)) (sb j).toNatClampNeg (fc j) ∧ (0 ≤ (sb j).toInt ∧ (sb j).toInt < N) ∧ ScR N Z Qf (cs j) (fun o => W1 (30 * j + o)) (fun o => W2 (30 * j + o)) (fun o => W3 (30 * j + o)) (fun o => W4 (30 * j + o))
theorem Un_0 {N : Int} {Z : Int → Int} {Qf : Int → Int → Prop} {tu : Nat} {ce sb fc W1 W2 W3 W4 : Nat → Int32} (h : tu = 0) : UdR N Z Qf tu ce sb fc W1 W2 W3 W4 := ⟨fun _ => ce, rfl, fun j hj => by omega⟩
def csN (T : Nat) (cs : Nat → Nat → Int32) (x : Nat → Int32) (j : Nat) : Nat → Int32 := if j ≤ T then cs j else x
theorem csN_l {T : Nat} {cs : Nat → Nat → Int32} {x : Nat → Int32} {j : Nat} (h : j ≤ T) : csN T cs x j = cs j := if_pos h
theorem csN_g {T : Nat} {cs : Nat → Nat → Int32} {x : Nat → Int32} {j : Nat} (h : ¬ j ≤ T) : csN T cs x j = x := if_neg h
theorem Un_s {N : Int} {Z : Int → Int} {Qf : Int → Int → Prop} {T : Nat} {ce sb fc W1 W2 W3 W4 F A O L V1 V2 V3 V4 : Nat → Int32} {sj ou tu : Int32} (h : UdR N Z Qf T ce sb fc W1 W2 W3 W4) (hS : ScR N Z Qf ce F A O L) (hj : 0 ≤ sj.toInt ∧ sj.toInt < N) (hN : N ≤ 30) (hT : tu.toNatClampNeg = T) (r1 : RW V1 V2 W1 W2 F A T 30) (r2 : RW V3 V4 W3 W4 O L T 30) : UdR N Z Qf (T + 1) (upd ce sj.toNatClampNeg ou) (upd sb tu.toNatClampNeg sj) (upd fc tu.toNatClampNeg (ce sj.toNatClampNeg)) V1 V2 V3 V4 := by
  obtain ⟨cs, e, h⟩ := h
  refine ⟨csN T cs (upd ce sj.toNatClampNeg ou), csN_g (by omega), fun j hj2 => ?_⟩
  rw [hT]
  by_cases q : j = T
  · subst q
    rw [csN_l (Nat.le_refl j), csN_g (by omega), pk_us, pk_us, e]
    refine ⟨?_, hj, Sc_x hS (fun o ho => ?_)⟩
    · funext o
      by_cases w : o = sj.toNatClampNeg
      · rw [w, pk_us]
      · rw [pk_un w, pk_un w]
    · have a := r1.2 o (by omega)
      have b := r2.2 o (by omega)
      exact ⟨a.1, a.2, b.1, b.2⟩
  · have w := h j (by omega)
    rw [csN_l (by omega), csN_l (by omega), pk_un q, pk_un q]
    refine ⟨w.1, w.2.1, Sc_x w.2.2 (fun o ho => ?_)⟩
    have a := r1.1 (30 * j + o) (by omega)
    have b := r2.1 (30 * j + o) (by omega)
    exact ⟨a.1, a.2, b.1, b.2⟩
theorem Un_b {N : Int} {Z : Int → Int} {Qf : Int → Int → Prop} {T : Nat} {ce sb fc W1 W2 W3 W4 F A O L : Nat → Int32} (h : UdR N Z Qf (T + 1) ce sb fc W1 W2 W3 W4) (g1 : GB F A W1 W2 T 30) (g2 : GB O L W3 W4 T 30) (hN : N ≤ 30) : UdR N Z Qf T (upd ce (sb T).toNatClampNeg (fc T)) sb fc W1 W2 W3 W4 ∧ ScR N Z Qf (upd ce (sb T).toNatClampNeg (fc T)) F A O L ∧ 0 ≤ (sb T).toInt ∧ (sb T).toInt < N := by
  obtain ⟨cs, e, h⟩ := h
  have w := h T (by omega)
  rw [e] at w
  refine ⟨⟨cs, w.1, fun j hj => h j (by omega)⟩, ?_, w.2.1⟩
  rw [← w.1]
  refine Sc_x w.2.2 (fun o ho => ?_)
  have a := g1 o (by omega)
  have b := g2 o (by omega)
  exact ⟨a.1, a.2, b.1, b.2⟩
/-- the tale: as both sides keep it -/
def TL (N : Int) (Z : Int → Int) (Qf : Int → Int → Prop) (LK : Prop) (th pl tu : Int32) (ce sb fc : Nat → Int32) (p tu2 : Int32) (F A O L W1 W2 W3 W4 : Nat → Int32) : Prop := Abs ce N ∧ tu.toInt = tu2.toInt ∧ ((¬ th.toInt = 1 ∧ p.toInt = -9 ∧ tu.toInt = 0) ∨ (th.toInt = 1 ∧ pl = p ∧ (0 ≤ p.toInt ∧ p.toInt < N) ∧ Z p.toInt = 5 ∧ ScR N Z Qf ce F A O L ∧ UdR N Z Qf tu.toInt.toNat ce sb fc W1 W2 W3 W4 ∧ LK))
theorem TL_e {N N2 : Int} {Z Z2 : Int → Int} {Qf Qf2 : Int → Int → Prop} {LK LK2 : Prop} {th pl tu th2 tu3 : Int32} {ce sb fc : Nat → Int32} {p tu2 p2 tu4 : Int32} {F A O L W1 W2 W3 W4 : Nat → Int32} (h : TL N Z Qf LK th pl tu ce sb fc p tu2 F A O L W1 W2 W3 W4) (hN : N ≤ N2) (h1 : ¬ th2.toInt = 1) (h2 : tu3.toInt = 0) (h3 : p2.toInt = -9) (h4 : tu4.toInt = 0) : TL N2 Z2 Qf2 LK2 th2 pl tu3 ce sb fc p2 tu4 F A O L W1 W2 W3 W4 := ⟨fun o ho => h.1 o (by omega), by omega, Or.inl ⟨h1, h3, h2⟩⟩
theorem TL_a {N v f g : Int} {Z : Int → Int} {Qf : Int → Int → Prop} {LK LK2 : Prop} {th pl tu tu3 sj x2 ou : Int32} {ce sb fc ce2 sb2 fc2 : Nat → Int32} {p tu2 tu4 : Int32} {F A O L W1 W2 W3 W4 F2 A2 O2 L2 V1 V2 V3 V4 : Nat → Int32} (h : TL N Z Qf LK th pl tu ce sb fc p tu2 F A O L W1 W2 W3 W4) (h1 : th.toInt = 1) (hce : ∀ o, 0 ≤ (ce o).toInt) (hN : N ≤ 30) (ht : 0 ≤ tu.toInt) (hs : 0 ≤ sj.toInt ∧ sj.toInt < N) (ho : OuR v (ce sj.toNatClampNeg) ou f g) (e1 : ce2 = upd ce sj.toNatClampNeg ou) (e2 : sb2 = upd sb tu.toNatClampNeg sj) (e3 : fc2 = upd fc tu.toNatClampNeg (ce sj.toNatClampNeg)) (e4 : tu3.toInt = tu.toInt + 1) (hk : LK2) (ha : AcR v F A O L F2 A2 O2 L2 sj x2 f (fun z => z = g)) (hx : 5 ≤ v ∧ v ≤ 8 → x2 = sj) (hg : v ≤ 4 ∨ (9 ≤ v ∧ v ≤ 11) → PlOk N Z sj.toInt f g) (r1 : RW V1 V2 W1 W2 F A tu2.toInt.toNat 30) (r2 : RW V3 V4 W3 W4 O L tu2.toInt.toNat 30) (e5 : tu4.toInt = tu2.toInt + 1) : TL N Z Qf LK2 th pl tu3 ce2 sb2 fc2 p tu4 F2 A2 O2 L2 V1 V2 V3 V4 := by
  obtain ⟨a, b, c⟩ := h
  have c := c.resolve_left (fun q => q.1 h1)
  subst e1 e2 e3
  rw [← b] at r1 r2
  refine ⟨Abs_u a hs.1 hs.2, by omega, Or.inr ⟨h1, c.2.1, c.2.2.1, c.2.2.2.1, Sc_a c.2.2.2.2.1 hce hN hs ho ha hx hg, ?_, hk⟩⟩
  rw [show tu3.toInt.toNat = tu.toInt.toNat + 1 by omega]
  exact Un_s c.2.2.2.2.2.1 c.2.2.2.2.1 hs hN rfl r1 r2
theorem TL_b {N : Int} {Z : Int → Int} {Qf : Int → Int → Prop} {LK LK2 : Prop} {th pl tu tu3 : Int32} {ce sb fc ce2 : Nat → Int32} {p tu2 tu4 : Int32} {F A O L W1 W2 W3 W4 F2 A2 O2 L2 : Nat → Int32} (h : TL N Z Qf LK th pl tu ce sb fc p tu2 F A O L W1 W2 W3 W4) (h1 : th.toInt = 1) (hN : N ≤ 30) (ht : 1 ≤ tu.toInt) (e1 : ce2 = upd ce (sb (tu.toInt - 1).toNat).toNatClampNeg (fc (tu.toInt - 1).toNat)) (e4 : tu3.toInt = tu.toInt - 1) (hk : LK2) (g1 : GB F2 A2 W1 W2 (tu2.toInt - 1).toNat 30) (g2 : GB O2 L2 W3 W4 (tu2.toInt - 1).toNat 30) (e5 : tu4.toInt = tu2.toInt - 1) : TL N Z Qf LK2 th pl tu3 ce2 sb fc p tu4 F2 A2 O2 L2 W1 W2 W3 W4 := by
  obtain ⟨a, b, c⟩ := h
  have c := c.resolve_left (fun q => q.1 h1)
  subst e1
  rw [← b] at g1 g2
  have u := c.2.2.2.2.2.1
  rw [show tu.toInt.toNat = (tu.toInt - 1).toNat + 1 by omega] at u
  have w := Un_b u g1 g2 hN
  refine ⟨Abs_u a w.2.2.1 w.2.2.2, by omega, Or.inr ⟨h1, c.2.1, c.2.2.1, c.2.2.2.1, w.2.1, ?_, hk⟩⟩
  rw [show tu3.toInt.toNat = (tu.toInt - 1).toNat by omega]
  exact w.1
/-! reasons, all of them -/
theorem wyV_c {v tk hd pi po tu wr en lv tk2 pi2 po2 tu2 wr2 en2 lv2 : Int} (h1 : v = 1 → tk = tk2) (h3 : v = 3 → pi = pi2) (h4 : v = 4 → po = po2) (h5 : 5 ≤ v ∧ v ≤ 8 → tu = tu2) (h9 : v = 9 → wr = wr2) (h10 : v = 10 → en = en2) (h11 : v = 11 → lv = lv2) : wyV v tk hd pi po tu wr en lv = wyV v tk2 hd pi2 po2 tu2 wr2 en2 lv2 := by
  unfold wyV
  by_cases q1 : v = 1
  · rw [if_pos q1, if_pos q1]; exact h1 q1
  rw [if_neg q1, if_neg q1]
  by_cases q2 : v = 2
  · rw [if_pos q2, if_pos q2]
  rw [if_neg q2, if_neg q2]
  by_cases q3 : v = 3
  · rw [if_pos q3, if_pos q3]; exact h3 q3
  rw [if_neg q3, if_neg q3]
  by_cases q4 : v = 4
  · rw [if_pos q4, if_pos q4]; exact h4 q4
  rw [if_neg q4, if_neg q4]
  by_cases q5 : 5 ≤ v ∧ v ≤ 8
  · rw [if_pos q5, if_pos q5]; exact h5 q5
  rw [if_neg q5, if_neg q5]
  by_cases q9 : v = 9
  · rw [if_pos q9, if_pos q9]; exact h9 q9
  rw [if_neg q9, if_neg q9]
  by_cases q10 : v = 10
  · rw [if_pos q10, if_pos q10]; exact h10 q10
  rw [if_neg q10, if_neg q10]
  by_cases q11 : v = 11
  · rw [if_pos q11, if_pos q11]; exact h11 q11
  rw [if_neg q11, if_neg q11]
theorem cnt_ce {P Q : Nat → Bool} : ∀ n : Nat, (∀ x, x < n → (P x = true ↔ Q x = true)) → cnt P n = cnt Q n := by
  intro n
  induction n with
  | zero => intro _; rfl
  | succ n ih =>
    intro e
    show cnt P n + (if P n = true then 1 else 0) = cnt Q n + (if Q n = true then 1 else 0)
    rw [ih (fun x hx => e x (by omega))]
    have w := e n (by omega)
    by_cases q : P n = true
    · rw [if_pos q, if_pos (w.mp q)]
    · rw [if_neg q, if_neg (fun z => q (w.mpr z))]
theorem Wy_t {N v p x y go kx km : Int} {Z : Int → Int} {Qf SM : Int → Int → Prop} {ce F A O L sz sn rc sn2 rc2 : Nat → Int32} {lsg : Int → Int → Nat → Bool} {rk : Int → Nat} (hS : ScR N Z Qf ce F A O L) (ha : Abs ce N) (hN : N ≤ 30) (hp : 0 ≤ p ∧ p < N) (hp5 : Z p = 5) (hpp : ¬ fMn N F p = -9) (hA : IsA v x y N) (h0 : ¬ v = 0) (hsn : ∀ z, 0 ≤ z → z < N → ((sn z.toNat).toInt = 1 ↔ (sn2 z.toNat).toInt = 1) ∧ ((rc z.toNat).toInt = 1 ↔ (rc2 z.toNat).toInt = 1)) (hq : ∀ z k, 0 ≤ z → z < N → 2 ≤ k → k ≤ 5 → (Qf z k ↔ (Can (Z z) k ∧ SM z k))) (hk : 0 ≤ x → x < N → kx = km) (hls : ∀ (g o : Int) (z : Nat), lsg g o z = lsM F A g o z) (hrk : Rk (nF N F A) rk) (hz : ∀ z, 0 ≤ z → z < N → 0 ≤ Z z ∧ Z z ≤ 5) :
    plV (rxV v go (takeV ((sn x.toNat).toInt = 1) (x = p ∨ ChB 30 (hF ce) (hF ce p) x) (Hd (hF ce) (fX ce) p x) (¬ ((Z x = 1 ∨ 3 ≤ Z x) ∧ ¬ Z x = 5) ∨ bT ce 3 x ∨ fX ce x = 4) ((rc x.toNat).toInt = 1) (AnB Z (hF ce) p 30 (hF ce x)) (100 < (wtB Z sz (lsP ce) N.toNat ((31 : Int) - 0).toNat x.toNat + sumI (fun z => if lsP ce 2 p z = true then wtB Z sz (lsP ce) N.toNat ((30 : Int) - 0).toNat z else 0) N.toNat).toInt)) (iV (¬ (Hd (hF ce) (fX ce) p x)) 11 0) (shutV v ((sn x.toNat).toInt = 1) (Z x = 2 ∨ Z x = 3) (bT ce 0 x) (bT ce 1 x) ((rc x.toNat).toInt = 1) 0) (wearV (Hd (hF ce) (fX ce) p x) (bT ce 4 x)) (enterV ((sn x.toNat).toInt = 1) (Z x = 3 ∨ Z x = 4) (ChB 30 (hF ce) (hF ce x) p) (Z x = 3 ∧ ¬ bT ce 0 x) ((rc x.toNat).toInt = 1) (hF ce p = x)) (leaveV (hF ce p = -9 ∨ ByR Z (hF ce) (fX ce) p) (Z (hF ce p) = 3 ∧ ¬ bT ce 0 (hF ce p)) (fX ce (hF ce p) = 0 ∨ fX ce (hF ce p) = 1)))
      (ryV v (putV ((sn y.toNat).toInt = 1) (((0 : Int) = 0 ∧ Z y = 3) ∨ (¬ (0 : Int) = 0 ∧ Z y = 4)) (y = x ∨ ChB 30 (hF ce) (hF ce y) x) ((0 : Int) = 0 ∧ ¬ bT ce 0 y) ((rc y.toNat).toInt = 1) (8 ≤ ((cnt (lsP ce 0 y) N.toNat : Nat) : Int))) (putV ((sn y.toNat).toInt = 1) (((1 : Int) = 0 ∧ Z y = 3) ∨ (¬ (1 : Int) = 0 ∧ Z y = 4)) (y = x ∨ ChB 30 (hF ce) (hF ce y) x) ((1 : Int) = 0 ∧ ¬ bT ce 0 y) ((rc y.toNat).toInt = 1) (8 ≤ ((cnt (lsP ce 1 y) N.toNat : Nat) : Int))) (keyV (Hd (hF ce) (fX ce) p y) (kx = y))) =
    wyV v (takeV ((sn2 x.toNat).toInt = 1) (x = p ∨ ChB 30 (nF N F A) (nF N F A p) x) (Hd (nF N F A) (fMn N F) p x) (¬ ((Z x = 1 ∨ 3 ≤ Z x) ∧ ¬ Z x = 5) ∨ SM x 3 ∨ fMn N F x = 4) ((rc2 x.toNat).toInt = 1) (AnB Z (nF N F A) p 30 (nF N F A x)) (100 < (wtB Z sz lsg N.toNat 31 x.toNat + sumI (fun z => if lsM F A 2 p z = true then wtB Z sz lsg N.toNat 31 z else 0) N.toNat).toInt)) (iV (¬ (Hd (nF N F A) (fMn N F) p x)) 11 0) (iV (¬ (Hd (nF N F A) (fMn N F) p x)) 11 (putV ((sn2 y.toNat).toInt = 1) (((1 : Int) ≤ 1 ∧ Z y = 3) ∨ (¬ (1 : Int) ≤ 1 ∧ Z y = 4)) (y = x ∨ ChB 30 (nF N F A) (nF N F A y) x) ((1 : Int) ≤ 1 ∧ ¬ bM O y) ((rc2 y.toNat).toInt = 1) (8 ≤ ((cnt (lsM F A (if (1 : Int) ≤ 1 then 0 else 1) y) N.toNat : Nat) : Int)))) (iV (¬ (Hd (nF N F A) (fMn N F) p x)) 11 (putV ((sn2 y.toNat).toInt = 1) (((1 : Int) ≤ 0 ∧ Z y = 3) ∨ (¬ (1 : Int) ≤ 0 ∧ Z y = 4)) (y = x ∨ ChB 30 (nF N F A) (nF N F A y) x) ((1 : Int) ≤ 0 ∧ ¬ bM O y) ((rc2 y.toNat).toInt = 1) (8 ≤ ((cnt (lsM F A (if (1 : Int) ≤ 0 then 0 else 1) y) N.toNat : Nat) : Int)))) (shutV v ((sn2 x.toNat).toInt = 1) (Z x = 2 ∨ Z x = 3) (bM O x) (bM L x) ((rc2 x.toNat).toInt = 1) (if 7 ≤ v then keyV (Hd (nF N F A) (fMn N F) p y) (km = y) else 0)) (wearV (Hd (nF N F A) (fMn N F) p x) (SM x 4)) (enterV ((sn2 x.toNat).toInt = 1) (Z x = 3 ∨ Z x = 4) (ChB 30 (nF N F A) (nF N F A x) p) (Z x = 3 ∧ ¬ bM O x) ((rc2 x.toNat).toInt = 1) (nF N F A p = x)) (leaveV (ByR Z (nF N F A) (fMn N F) p) (fMn N F p = 0 ∧ Z (nF N F A p) = 3 ∧ ¬ bM O (nF N F A p)) (fMn N F (nF N F A p) = 0 ∨ fMn N F (nF N F A p) = 1)) := by
  have eH := Sc_h hS ha hN
  have eF := Sc_f hS ha hN
  have hP := (Sc_p hS p hp.1 hp.2).resolve_left hpp
  rw [eH, eF, Wyx_e h0]
  unfold IsA at hA
  obtain ⟨a1, a2, a3, a4, a5⟩ := hA
  have hL : ∀ (g o : Int) (z : Nat), (g = 0 ∨ g = 1) → 0 ≤ o → z < N.toNat → (lsP ce g o z = true ↔ lsg g o z = true) := fun g o z g1 o1 z1 => by
    rw [hls]; exact Sc_l hS (by omega) (by omega) o1
  have hr : ∀ (g o : Int) (z : Nat), (g = 0 ∨ g = 1) → 0 ≤ o → z < N.toNat → lsg g o z = true → rk o < rk (z : Int) := fun g o z g1 o1 z1 e => by
    rw [hls] at e
    have e := lsM_e e
    have w : nF N F A (z : Int) = o := by
      unfold nF
      rw [if_pos ⟨by omega, by omega, by rw [show ((z : Nat) : Int).toNat = z by omega]; omega⟩, show ((z : Nat) : Int).toNat = z by omega]
      exact e.2
    have u := hrk.2 (z : Int) (by omega) (by omega) (by rw [w]; omega)
    rw [w] at u
    exact u
  refine wyV_c (fun q => ?_) (fun q => ?_) (fun q => ?_) (fun q => ?_) (fun q => ?_) (fun q => ?_) (fun q => ?_)
  · have x0 := a4 (by omega)
    have s := hsn x x0.1 x0.2
    have b := Sc_b hS x0.1 x0.2
    refine takeV_c s.1 ?_ s.2 ?_
    · rw [b.2.2 3 (by omega) (by omega), hq x 3 x0.1 x0.2 (by omega) (by omega)]
      constructor
      · rintro (u | u | u)
        · exact Or.inl u
        · exact Or.inr (Or.inl u.2)
        · exact Or.inr (Or.inr u)
      · rintro (u | u | u)
        · exact Or.inl u
        · by_cases g : (Z x = 1 ∨ 3 ≤ Z x) ∧ ¬ Z x = 5
          · exact Or.inr (Or.inl ⟨Or.inr (Or.inr (Or.inl ⟨rfl, g.1⟩)), u⟩)
          · exact Or.inl g
        · exact Or.inr (Or.inr u)
    · rw [show ((31 : Int) - 0).toNat = 31 from rfl, show ((30 : Int) - 0).toNat = 30 from rfl, wtB_c hL 31 x.toNat]
      rw [sumI_c (g := fun z => if lsP ce 2 p z = true then wtB Z sz (lsP ce) N.toNat 30 z else 0) (h := fun z => if lsM F A 2 p z = true then wtB Z sz lsg N.toNat 31 z else 0) N.toNat (fun z hz9 => by
        have w := Sc_l hS (f := 2) (g := p) (x := z) (by omega) (by omega) hp.1
        by_cases g : lsP ce 2 p z = true
        · rw [if_pos g, if_pos (w.mp g), wtB_c hL 30 z]
          exact wtB_st hrk.1 hr 30 31 z (by omega) (by omega)
        · rw [if_neg g, if_neg (fun u => g (w.mpr u))])]
  · have y0 := a5 (by omega)
    have s := hsn y y0.1 y0.2
    have b := Sc_b hS y0.1 y0.2
    refine iV_d (fun _ => putV_c s.1 (by omega) ⟨fun u => ⟨by decide, fun w => u.2 (b.1.mpr w)⟩, fun u => ⟨by decide, fun w => u.2 (b.1.mp w)⟩⟩ s.2 ?_)
    rw [if_pos (by decide), cnt_ce N.toNat (fun z hz9 => Sc_l hS (f := 0) (g := y) (x := z) (by omega) (by omega) y0.1)]
  · have y0 := a5 (by omega)
    have s := hsn y y0.1 y0.2
    refine iV_d (fun _ => putV_c s.1 (by omega) ⟨fun u => absurd u.1 (by decide), fun u => absurd u.1 (by decide)⟩ s.2 ?_)
    rw [if_neg (by decide), cnt_ce N.toNat (fun z hz9 => Sc_l hS (f := 1) (g := y) (x := z) (by omega) (by omega) y0.1)]
  · have x0 := a4 (by omega)
    have s := hsn x x0.1 x0.2
    have b := Sc_b hS x0.1 x0.2
    refine shutV_c s.1 b.1 b.2.1 s.2 ?_
    by_cases q7 : 7 ≤ v
    · rw [if_pos q7, if_pos q7, if_pos (by omega), hk x0.1 x0.2]
    · rw [if_neg q7, if_neg q7]
  · have x0 := a4 (by omega)
    have b := Sc_b hS x0.1 x0.2
    refine wearV_c (fun hd => ?_)
    rw [b.2.2 4 (by omega) (by omega), hq x 4 x0.1 x0.2 (by omega) (by omega)]
    have w := (Sc_p hS x x0.1 x0.2).resolve_left (by have := hd.2; omega)
    have z5 := hz x x0.1 x0.2
    have h2 := hd.2
    unfold PlOk at w
    exact ⟨fun u => u.2, fun u => ⟨Or.inr (Or.inr (Or.inr (Or.inl ⟨rfl, by omega, by omega⟩))), u⟩⟩
  · have x0 := a4 (by omega)
    have s := hsn x x0.1 x0.2
    have b := Sc_b hS x0.1 x0.2
    exact enterV_c s.1 ⟨fun u => ⟨u.1, fun w => u.2 (b.1.mpr w)⟩, fun u => ⟨u.1, fun w => u.2 (b.1.mp w)⟩⟩ s.2
  · unfold PlOk at hP
    have b := Sc_b hS (x := nF N F A p) (by omega) (by omega)
    refine leaveV_c ⟨fun u => u.elim (fun w => by omega) id, Or.inr⟩ (fun _ => ⟨fun u => ⟨by omega, u.1, fun w => u.2 (b.1.mpr w)⟩, fun u => ⟨u.2.1, fun w => u.2.2 (b.1.mp w)⟩⟩)
theorem Wy_0 {v go tk hd sh wr en lv pi po ky : Int} (h : v = 0) : plV (rxV v go tk hd sh wr en lv) (ryV v pi po ky) = go := by
  unfold rxV ryV
  rw [if_pos h, if_neg (by omega), if_neg (by omega), if_neg (by omega)]
  exact plV_0
theorem FeM_d {pa ko F A B C S : Nat → Int32} {n r d ld dr bw im : Int} (h : FeM pa ko F A B C S n r d ld dr bw im) (hd : ¬ dr = -9) : ∃ s : Nat, (s : Int) < n ∧ (F s).toInt = 5 ∧ dr = (B s).toInt := by
  unfold FeM at h
  rcases h with ⟨a, _, _, ⟨k, b, c⟩ | ⟨k, b, c⟩⟩ | ⟨a, b, _⟩
  · have w := lsF_r a
    exact ⟨_, w.1, w.2.2.1, b⟩
  · exact absurd b hd
  · exact absurd b hd
/-- a reason to go, or none -/
theorem Go_e {N p x : Int} {so ko pa ko2 F A B C S pb eb fb kb cb ld dr bw im f1 f2 ce nf na nO nL : Nat → Int32} {Qf : Int → Int → Prop} {n ld2 dr2 bw2 im2 : Int} (hS : ScR N (zX so ko N) Qf ce nf na nO nL) (ha : Abs ce N) (hN : N ≤ 30) (hp : 0 ≤ p ∧ p < N) (hx : 0 ≤ x ∧ x ≤ 9) (h : RDS (zX so ko N) F A B C S n.toNat ld dr bw im f1 f2) (hI : IX F A B C S n pb eb fb kb cb) (hr : RR F A B C pb eb fb kb) (hD : DR (zX so ko N) F A B S n N) (hz : ∀ t, 0 ≤ t → t < N → zX so ko N t = kS pa ko2 t) (hB : ∀ s : Nat, (s : Int) < n → (F s).toInt = 5 → (B s).toInt < N ∧ (kS pa ko2 (B s).toInt = 0 ∨ kS pa ko2 (B s).toInt = 2)) (hf : FeM pa ko2 F A B C S n (na p.toNat).toInt x ld2 dr2 bw2 im2) : goV (ByR (zX so ko N) (hF ce) (fX ce) p) (ld ((hF ce) p * 10 + x).toNat).toInt (dr ((hF ce) p * 10 + x).toNat).toInt (bT ce 0) = goV (ByR (zX so ko N) (nF N nf na) (fMn N nf) p) ld2 dr2 (bM nO) := by
  rw [Sc_h hS ha hN, Sc_f hS ha hN]
  have hb : ByR (zX so ko N) (nF N nf na) (fMn N nf) p → FeM pa ko2 F A B C S n (na p.toNat).toInt x (ld (nF N nf na p * 10 + x).toNat).toInt (dr (nF N nf na p * 10 + x).toNat).toInt (bw (nF N nf na p * 10 + x).toNat).toInt (im (nF N nf na p * 10 + x).toNat).toInt := fun b => by
    have e0 : (nf p.toNat).toInt = 0 := by have w := b.1; unfold fMn at w; rw [if_pos hp] at w; exact w
    have e1 : nF N nf na p = (na p.toNat).toInt := by unfold nF; rw [if_pos ⟨hp.1, hp.2, by omega⟩]
    have e2 := b.2
    rw [e1] at e2 ⊢
    have e3 : 0 ≤ (na p.toNat).toInt ∧ (na p.toNat).toInt < N := by
      by_cases q : 0 ≤ (na p.toNat).toInt ∧ (na p.toNat).toInt < N
      · exact q
      · unfold zX at e2; rw [if_neg q] at e2; omega
    exact RD_fe h hI hr hD hz hB hN e3 (by rw [← hz _ e3.1 e3.2]; exact e2) hx
  refine goV_c (fun b => ⟨(FeM_u (hb b) hf).1, (FeM_u (hb b) hf).2.1⟩) (fun b q => ?_)
  obtain ⟨s, s1, s2, s3⟩ := FeM_d (hb b) q
  have w := hB s s1 s2
  have u := hr.1 s
  rw [s3]
  exact (Sc_b hS (by omega) (by omega)).1
/-- the sides of doors are alike -/
theorem Sd_e {Z : Int → Int} {F A B C S ld dr bw im f1 f2 : Nat → Int32} {n N s x : Int} (h : RDS Z F A B C S n.toNat ld dr bw im f1 f2) (hD : DR Z F A B S n N) (hA : ∀ t : Nat, (t : Int) < n → (F t).toInt = 5 → Z (A t).toInt = 0) (hN : N ≤ 30) (hx : 0 ≤ x ∧ x < N) (hz : Z x = 2) (hs : ¬ s = -9) : sD f1 f2 s x ↔ sdM Z F A B S n s x := by
  obtain ⟨b1, l1, l2, ⟨_, h2⟩, _, _⟩ := h
  obtain ⟨r1, r2, a1, a2, a3, a4⟩ := h2 x.toNat (by omega)
  rw [show ((x.toNat : Nat) : Int) = x by omega] at a1 a2
  have hd := hD x hx.1 hx.2 hz
  have mk : ∀ t : Nat, t < n.toNat → Dt Z F B S x t → (A t).toInt = s → sdM Z F A B S n s x := fun t t1 t2 t3 => ⟨by rw [← t3]; exact hA t (by omega) t2.2.1, t, by omega, t2.1, t2.2.1, t2.2.2.2, t3⟩
  have eb : ∀ t : Nat, sdP F A B S x s t → Dt Z F B S x t := fun t q => ⟨q.1, q.2.1, by rw [q.2.2.1]; omega, q.2.2.1⟩
  unfold sD
  rcases a1 with ⟨e1, n1⟩ | ⟨t1, e1, c1, p1, n1⟩
  · constructor
    · intro q
      exfalso
      rcases a2 with ⟨e2, _⟩ | ⟨t2, e2, c2, p2, _⟩
      · rw [e1, e2, if_pos rfl] at a4
        rw [e1, vI_n] at a3
        omega
      · exact n1 t2 c2 p2
    · rintro ⟨_, t, u1, u2⟩
      exact absurd (eb t u2) (n1 t (by omega))
  · rcases a2 with ⟨e2, n2⟩ | ⟨t2, e2, c2, p2, n2⟩
    · exact absurd p1 (n2 t1 c1)
    · rw [e1, vI_y] at a3
      constructor
      · rintro (q | q)
        · exact mk t1 c1 p1 (by omega)
        · by_cases e : r1 = r2
          · rw [if_pos e] at a4; omega
          · rw [if_neg e, e2, vI_y] at a4
            exact mk t2 c2 p2 (by omega)
      · rintro ⟨_, t, u1, u2⟩
        have ut := eb t u2
        have u5 := u2.2.2.2
        by_cases q1 : t = t1
        · rw [q1] at u5; exact Or.inl (by omega)
        · by_cases q2 : t = t2
          · have e : ¬ r1 = r2 := by omega
            rw [if_neg e, e2, vI_y] at a4
            rw [q2] at u5
            exact Or.inr (by omega)
          · exfalso
            have g1 : t1 < t := by
              rcases Nat.lt_or_ge t t1 with z | z
              · exact absurd ut (n1 t z)
              · omega
            have g2 : t < t2 := by
              rcases Nat.lt_or_ge t2 t with z | z
              · exact absurd ut (n2 t z (by omega))
              · omega
            exact hd.2 t1 t t2 g1 g2 (by omega) ⟨p1.1, p1.2.1, p1.2.2.2⟩ ⟨ut.1, ut.2.1, ut.2.2.2⟩ ⟨p2.1, p2.2.1, p2.2.2.2⟩
theorem Aa_e {Q : Prop} {tu th w p tu2 : Int} {X : Prop} {r r2 : Int32} (h1 : AaR Q tu th w r.toInt) (h2 : AaM Q p tu2 X r2.toInt) (ht : tu = tu2) (h100 : tu ≤ 100) (hT : (¬ th = 1 ∧ p = -9 ∧ tu = 0) ∨ (th = 1 ∧ ¬ p = -9)) (hW : Q → th = 1 → X → r2.toInt = w) : r = r2 := by
  apply Int32.toInt_inj.mp
  unfold AaR at h1
  unfold AaM at h2
  rcases h1 with ⟨a, b⟩ | ⟨a, b, c⟩ | ⟨a, b, c, d⟩ | ⟨a, b, c, d⟩
  · rcases h2 with ⟨a2, b2⟩ | ⟨a2, _⟩ | ⟨a2, _⟩ | ⟨a2, _⟩
    · omega
    · exact absurd a2 a
    · exact absurd a2 a
    · exact absurd a2 a
  all_goals (rcases h2 with ⟨a2, b2⟩ | ⟨a2, b2, c2, d2⟩ | ⟨a2, b2, c2⟩ | ⟨a2, b2, c2, d2⟩)
  all_goals first | exact absurd a a2 | omega | (have z := hW a c d2; omega)
theorem Sx_e {F A B C S pb eb fb kb ce : Nat → Int32} {n o f v v2 : Int} (h : IX F A B C S n pb eb fb kb ce) (hr : RR F A B C pb eb fb kb) (ho : 0 ≤ o ∧ o ≤ 29) (hf : 0 ≤ f ∧ f ≤ 5) (ev : v = v2) : sgX fb C o f v = 1 ↔ SgM F A B C S n o f v2 1 := by
  subst ev
  have w := sgM_i (F := F) (A := A) (B := B) (C := C) (S := S) (n := n) (o := o) (f := f) (v := v)
  have e := Sg_e h hr ho hf (sgX_i (fb := fb) (C := C) (o := o) (f := f) (v := v)) w
  rw [e]
  constructor
  · intro q; rw [q] at w; exact w
  · intro q; exact (sgM_e q).symm
theorem zXM {so ko pa ko2 : Nat → Int32} {N : Int} (hz : ∀ t, 0 ≤ t → t < N → zX so ko N t = kS pa ko2 t) : zX so ko N = zM pa ko2 N := by
  funext x
  by_cases q : 0 ≤ x ∧ x < N
  · rw [hz x q.1 q.2, zM_i q]
  · unfold zX zM; rw [if_neg q, if_neg q]
theorem sfV_c {pa ko st st2 : Nat → Int32} {s s2 f o : Int} (hf : 0 ≤ f ∧ f ≤ 5) (h : ∀ j : Nat, j < 144 → st j = st2 j) (e : s = s2) : sfV pa ko st s f o = sfV pa ko st2 s2 f o := by
  unfold sfV
  rw [stL_c hf h, e]
/-- what stands where two calls meet: all that a look and a reason need -/
theorem At_e {jm : Nat → Int32} {em : Nat → Nat → Int32} {so ko pa st sz F A B C S pb eb fb kb cb ld dr bw im f1 f2 ce sb fc sn rc : Nat → Int32} {gl lt bx rm dd sn2 rc2 : Nat → Int32} {n th pl ap tu br br2 r r2 : Int32} {N kn v x y v2 x2 y2 : Int} (hM : mInv jm em) (hN : N ≤ 30) (eN : N = (jm 5).toInt) (ev : v2 = v) (ex : x2 = x) (ey : y2 = y)
    (hSN : SN F A B C S n pb eb fb kb cb (em 9) (em 10) (em 11) (em 12) (em 13) (jm 8)) (hr : RR F A B C pb eb fb kb) (hD : DR (zX so ko N) F A B S n.toInt N) (hRD : RDS (zX so ko N) F A B C S n.toInt.toNat ld dr bw im f1 f2) (hs : SJ (em 3) (em 6) (em 9) (em 10) (em 11) (em 13) kn (jm 5).toInt (jm 8).toInt)
    (hz : ∀ t, 0 ≤ t → t < N → zX so ko N t = kS (em 3) (em 6) t) (hZ5 : ∀ t, 0 ≤ t → t < N → 0 ≤ zX so ko N t ∧ zX so ko N t ≤ 5) (ePA : pa = em 3) (eKO : ko = em 6) (est : ∀ j : Nat, j < 144 → st j = em 4 j) (eSZ : sz = em 7)
    (hT : TL N (zX so ko N) (fun o f : Int => Can ((zX so ko N) o) f ∧ sgX fb C o f (sfV pa ko st (so (ko o.toNat).toNatClampNeg).toInt f o) = 1) (LkR (zX so ko N) (hF ce) (fX ce) (bT ce 0) (bT ce 5) (bT ce 2) (sD f1 f2) pl.toInt N sn rc br) th pl tu ce sb fc (jm 22) (jm 27) (em 23) (em 24) (em 25) (em 26) (em 29) (em 30) (em 31) (em 32)) (hPJ : PJ th pl ap tu ce sb fc) (hTI : ¬ (jm 22).toInt = -9 → Acy (nF (jm 5).toInt (em 23) (em 24))) (h100 : tu.toInt ≤ 100)
    (h1 : AaR (IsA v x y N) tu.toInt th.toInt (plV (rxV v (goV (ByR (zX so ko N) (hF ce) (fX ce) ap.toInt) (ld ((hF ce) ap.toInt * 10 + x).toNat).toInt (dr ((hF ce) ap.toInt * 10 + x).toNat).toInt (bT ce 0)) (takeV ((sn x.toNat).toInt = 1) (x = ap.toInt ∨ ChB 30 (hF ce) (hF ce ap.toInt) x) (Hd (hF ce) (fX ce) ap.toInt x) (¬ (((zX so ko N) x = 1 ∨ 3 ≤ (zX so ko N) x) ∧ ¬ (zX so ko N) x = 5) ∨ bT ce 3 x ∨ fX ce x = 4) ((rc x.toNat).toInt = 1) (AnB (zX so ko N) (hF ce) ap.toInt 30 (hF ce x)) (100 < (wtB (zX so ko N) sz (lsP ce) N.toNat ((31 : Int) - 0).toNat x.toNat + sumI (fun z => if lsP ce 2 ap.toInt z = true then wtB (zX so ko N) sz (lsP ce) N.toNat ((30 : Int) - 0).toNat z else 0) N.toNat).toInt)) (iV (¬ (Hd (hF ce) (fX ce) ap.toInt x)) 11 0) (shutV v ((sn x.toNat).toInt = 1) ((zX so ko N) x = 2 ∨ (zX so ko N) x = 3) (bT ce 0 x) (bT ce 1 x) ((rc x.toNat).toInt = 1) 0) (wearV (Hd (hF ce) (fX ce) ap.toInt x) (bT ce 4 x)) (enterV ((sn x.toNat).toInt = 1) ((zX so ko N) x = 3 ∨ (zX so ko N) x = 4) (ChB 30 (hF ce) (hF ce x) ap.toInt) ((zX so ko N) x = 3 ∧ ¬ bT ce 0 x) ((rc x.toNat).toInt = 1) (hF ce ap.toInt = x)) (leaveV (hF ce ap.toInt = -9 ∨ ByR (zX so ko N) (hF ce) (fX ce) ap.toInt) ((zX so ko N) (hF ce ap.toInt) = 3 ∧ ¬ bT ce 0 (hF ce ap.toInt)) (fX ce (hF ce ap.toInt) = 0 ∨ fX ce (hF ce ap.toInt) = 1)))
      (ryV v (putV ((sn y.toNat).toInt = 1) (((0 : Int) = 0 ∧ (zX so ko N) y = 3) ∨ (¬ (0 : Int) = 0 ∧ (zX so ko N) y = 4)) (y = x ∨ ChB 30 (hF ce) (hF ce y) x) ((0 : Int) = 0 ∧ ¬ bT ce 0 y) ((rc y.toNat).toInt = 1) (8 ≤ ((cnt (lsP ce 0 y) N.toNat : Nat) : Int))) (putV ((sn y.toNat).toInt = 1) (((1 : Int) = 0 ∧ (zX so ko N) y = 3) ∨ (¬ (1 : Int) = 0 ∧ (zX so ko N) y = 4)) (y = x ∨ ChB 30 (hF ce) (hF ce y) x) ((1 : Int) = 0 ∧ ¬ bT ce 0 y) ((rc y.toNat).toInt = 1) (8 ≤ ((cnt (lsP ce 1 y) N.toNat : Nat) : Int))) (keyV (Hd (hF ce) (fX ce) ap.toInt y) (kyV kb A x = y)))) r.toInt)
    (h2 : AaM (IsA v2 x2 y2 (jm 5).toInt) (jm 22).toInt (jm 27).toInt ((LkK (em 3) (em 6) (jm 5).toInt lt gl bx rm dd (fun z : Int => SgM (em 9) (em 10) (em 11) (em 12) (em 13) (jm 8).toInt z 2 (sfV (em 3) (em 6) (em 4) (kS (em 3) (em 6) z) 2 z) 1) (fun z : Int => SgM (em 9) (em 10) (em 11) (em 12) (em 13) (jm 8).toInt z 5 (sfV (em 3) (em 6) (em 4) (kS (em 3) (em 6) z) 5 z) 1) (jm 5).toInt) ∧ (LkR (zM (em 3) (em 6) (jm 5).toInt) (nF (jm 5).toInt (em 23) (em 24)) (fMn (jm 5).toInt (em 23)) (bM (em 25)) (bM gl) (bM lt) (sdM (zM (em 3) (em 6) (jm 5).toInt) (em 9) (em 10) (em 11) (em 13) (jm 8).toInt) (jm 22).toInt (jm 5).toInt sn2 rc2 br2) ∧
      ((v2 = 0 ∧ ∃ l9 d9 b9 i9 : Int, FeM (em 3) (em 6) (em 9) (em 10) (em 11) (em 12) (em 13) (jm 8).toInt (em 24 (jm 22).toInt.toNat).toInt x2 l9 d9 b9 i9 ∧ r2.toInt = goV (ByR (zM (em 3) (em 6) (jm 5).toInt) (nF (jm 5).toInt (em 23) (em 24)) (fMn (jm 5).toInt (em 23)) (jm 22).toInt) l9 d9 (bM (em 25))) ∨
       (¬ v2 = 0 ∧ r2.toInt = wyV v2 (takeV ((sn2 x2.toNat).toInt = 1) (x2 = (jm 22).toInt ∨ ChB 30 (nF (jm 5).toInt (em 23) (em 24)) (nF (jm 5).toInt (em 23) (em 24) (jm 22).toInt) x2) (Hd (nF (jm 5).toInt (em 23) (em 24)) (fMn (jm 5).toInt (em 23)) (jm 22).toInt x2) (¬ (((zM (em 3) (em 6) (jm 5).toInt) x2 = 1 ∨ 3 ≤ (zM (em 3) (em 6) (jm 5).toInt) x2) ∧ ¬ (zM (em 3) (em 6) (jm 5).toInt) x2 = 5) ∨ SgM (em 9) (em 10) (em 11) (em 12) (em 13) (jm 8).toInt x2 3 (sfV (em 3) (em 6) (em 4) (kS (em 3) (em 6) x2) 3 x2) 1 ∨ fMn (jm 5).toInt (em 23) x2 = 4) ((rc2 x2.toNat).toInt = 1) (AnB (zM (em 3) (em 6) (jm 5).toInt) (nF (jm 5).toInt (em 23) (em 24)) (jm 22).toInt 30 (nF (jm 5).toInt (em 23) (em 24) x2)) (100 < (wtB (zM (em 3) (em 6) (jm 5).toInt) (em 7) (lsG (em 9) (em 10) (em 11) (em 13) (em 23) (em 24) (jm 8).toInt (jm 22).toInt) (jm 5).toInt.toNat 31 x2.toNat + sumI (fun z => if lsM (em 23) (em 24) 2 (jm 22).toInt z = true then wtB (zM (em 3) (em 6) (jm 5).toInt) (em 7) (lsG (em 9) (em 10) (em 11) (em 13) (em 23) (em 24) (jm 8).toInt (jm 22).toInt) (jm 5).toInt.toNat 31 z else 0) (jm 5).toInt.toNat).toInt)) (iV (¬ (Hd (nF (jm 5).toInt (em 23) (em 24)) (fMn (jm 5).toInt (em 23)) (jm 22).toInt x2)) 11 0) (iV (¬ (Hd (nF (jm 5).toInt (em 23) (em 24)) (fMn (jm 5).toInt (em 23)) (jm 22).toInt x2)) 11 (putV ((sn2 y2.toNat).toInt = 1) (((1 : Int) ≤ 1 ∧ (zM (em 3) (em 6) (jm 5).toInt) y2 = 3) ∨ (¬ (1 : Int) ≤ 1 ∧ (zM (em 3) (em 6) (jm 5).toInt) y2 = 4)) (y2 = x2 ∨ ChB 30 (nF (jm 5).toInt (em 23) (em 24)) (nF (jm 5).toInt (em 23) (em 24) y2) x2) ((1 : Int) ≤ 1 ∧ ¬ bM (em 25) y2) ((rc2 y2.toNat).toInt = 1) (8 ≤ ((cnt (lsM (em 23) (em 24) (if (1 : Int) ≤ 1 then 0 else 1) y2) (jm 5).toInt.toNat : Nat) : Int)))) (iV (¬ (Hd (nF (jm 5).toInt (em 23) (em 24)) (fMn (jm 5).toInt (em 23)) (jm 22).toInt x2)) 11 (putV ((sn2 y2.toNat).toInt = 1) (((1 : Int) ≤ 0 ∧ (zM (em 3) (em 6) (jm 5).toInt) y2 = 3) ∨ (¬ (1 : Int) ≤ 0 ∧ (zM (em 3) (em 6) (jm 5).toInt) y2 = 4)) (y2 = x2 ∨ ChB 30 (nF (jm 5).toInt (em 23) (em 24)) (nF (jm 5).toInt (em 23) (em 24) y2) x2) ((1 : Int) ≤ 0 ∧ ¬ bM (em 25) y2) ((rc2 y2.toNat).toInt = 1) (8 ≤ ((cnt (lsM (em 23) (em 24) (if (1 : Int) ≤ 0 then 0 else 1) y2) (jm 5).toInt.toNat : Nat) : Int)))) (shutV v2 ((sn2 x2.toNat).toInt = 1) ((zM (em 3) (em 6) (jm 5).toInt) x2 = 2 ∨ (zM (em 3) (em 6) (jm 5).toInt) x2 = 3) (bM (em 25) x2) (bM (em 26) x2) ((rc2 x2.toNat).toInt = 1) (if 7 ≤ v2 then keyV (Hd (nF (jm 5).toInt (em 23) (em 24)) (fMn (jm 5).toInt (em 23)) (jm 22).toInt y2) (kyM (em 9) (em 10) (em 11) (em 13) (jm 8).toInt x2 = y2) else 0)) (wearV (Hd (nF (jm 5).toInt (em 23) (em 24)) (fMn (jm 5).toInt (em 23)) (jm 22).toInt x2) (SgM (em 9) (em 10) (em 11) (em 12) (em 13) (jm 8).toInt x2 4 (sfV (em 3) (em 6) (em 4) (kS (em 3) (em 6) x2) 4 x2) 1)) (enterV ((sn2 x2.toNat).toInt = 1) ((zM (em 3) (em 6) (jm 5).toInt) x2 = 3 ∨ (zM (em 3) (em 6) (jm 5).toInt) x2 = 4) (ChB 30 (nF (jm 5).toInt (em 23) (em 24)) (nF (jm 5).toInt (em 23) (em 24) x2) (jm 22).toInt) ((zM (em 3) (em 6) (jm 5).toInt) x2 = 3 ∧ ¬ bM (em 25) x2) ((rc2 x2.toNat).toInt = 1) (nF (jm 5).toInt (em 23) (em 24) (jm 22).toInt = x2)) (leaveV (ByR (zM (em 3) (em 6) (jm 5).toInt) (nF (jm 5).toInt (em 23) (em 24)) (fMn (jm 5).toInt (em 23)) (jm 22).toInt) (fMn (jm 5).toInt (em 23) (jm 22).toInt = 0 ∧ (zM (em 3) (em 6) (jm 5).toInt) (nF (jm 5).toInt (em 23) (em 24) (jm 22).toInt) = 3 ∧ ¬ bM (em 25) (nF (jm 5).toInt (em 23) (em 24) (jm 22).toInt)) (fMn (jm 5).toInt (em 23) (nF (jm 5).toInt (em 23) (em 24) (jm 22).toInt) = 0 ∨ fMn (jm 5).toInt (em 23) (nF (jm 5).toInt (em 23) (em 24) (jm 22).toInt) = 1))))) r2.toInt) : r = r2 := by
  subst ev ex ey ePA eKO eSZ
  obtain ⟨e1, e2, e3, e4, e5, e6, hI⟩ := hSN
  subst e1 e2 e3 e4 e5
  rw [e6] at hI hD hRD
  rw [← eN] at h2 hs
  have eZ := zXM hz
  obtain ⟨hAb, htu, hT⟩ := hT
  refine Aa_e h1 h2 htu h100 ?_ (fun hQ hth hX => ?_)
  · rcases hT with q | q
    · exact Or.inl q
    · exact Or.inr ⟨q.1, by have := q.2.2.1; omega⟩
  · obtain ⟨_, epl, hp, hp5, hSc, _, hLk⟩ := hT.resolve_left (fun q => q.1 hth)
    have hpj := hPJ hth
    have eap : ap = jm 22 := hpj.2.2.1.trans epl
    subst eap
    rw [epl] at hLk hpj
    obtain ⟨hK, hL, hW⟩ := hX
    rw [← eZ] at hL hW
    have hq : ∀ z k, 0 ≤ z → z < N → 2 ≤ k → k ≤ 5 → ((Can ((zX so (em 6) N) z) k ∧ sgX fb (em 12) z k (sfV (em 3) (em 6) st (so ((em 6) z.toNat).toNatClampNeg).toInt k z) = 1) ↔ (Can ((zX so (em 6) N) z) k ∧ SgM (em 9) (em 10) (em 11) (em 12) (em 13) (jm 8).toInt z k (sfV (em 3) (em 6) (em 4) (kS (em 3) (em 6) z) k z) 1)) := fun z k z0 z1 k2 k5 => by
      rw [Sx_e hI hr ⟨z0, by omega⟩ ⟨by omega, k5⟩ (sfV_c (pa := em 3) (ko := em 6) (o := z) ⟨by omega, k5⟩ est ((zX_e ⟨z0, z1⟩).symm.trans (hz z z0 z1)))]
    have hA : ∀ t : Nat, (t : Int) < (jm 8).toInt → (em 9 t).toInt = 5 → (zX so (em 6) N) (em 10 t).toInt = 0 := fun t t1 t2 => by
      have w := hs.2.1 t t1
      have u := hr.1 t
      rw [hz _ (by omega) w.1]
      exact (kS_k hM (by omega) (by omega)).mp (w.2.2.2 t2).1
    have hB : ∀ t : Nat, (t : Int) < (jm 8).toInt → (em 9 t).toInt = 5 → (em 11 t).toInt < N ∧ (kS (em 3) (em 6) (em 11 t).toInt = 0 ∨ kS (em 3) (em 6) (em 11 t).toInt = 2) := fun t t1 t2 => by
      have w := hs.2.1 t t1
      refine ⟨w.2.1 (by omega), ?_⟩
      rcases (w.2.2.2 t2).2 with u | u
      · exact Or.inl ((kS_k hM (by omega) (by omega)).mp u)
      · exact Or.inr ((kS_k hM (by omega) (by omega)).mp u)
    have hin : ∀ z k, (zX so (em 6) N) z = k → 0 ≤ k → 0 ≤ z ∧ z < N := fun z k q1 q2 => by
      by_cases q : 0 ≤ z ∧ z < N
      · exact q
      · unfold zX at q1; rw [if_neg q] at q1; omega
    have eH := Sc_h hSc hAb hN
    have eF := Sc_f hSc hAb hN
    rw [eH, eF] at hLk
    have hsn : ∀ z, 0 ≤ z → z < N → ((sn z.toNat).toInt = 1 ↔ (sn2 z.toNat).toInt = 1) ∧ ((rc z.toNat).toInt = 1 ↔ (rc2 z.toNat).toInt = 1) := fun z z0 z1 => by
      refine Lk_e hLk hL (fun x q => ?_) (fun s x s9 q => ?_) (fun x x0 x1 => ?_) (fun x q => hin x 0 q (by omega)) z0 z1
      · have xr := hin x 3 q (by omega)
        have b := Sc_b hSc xr.1 xr.2
        have k := hK x xr.1 xr.2
        refine ⟨b.1, ?_⟩
        rw [b.2.2 5 (by omega) (by omega)]
        refine (hq x 5 xr.1 xr.2 (by omega) (by omega)).trans ?_
        show _ ↔ (gl x.toNat).toInt = 1
        rw [k.2.1, ← eZ]
        exact ⟨fun u => ⟨q, u.2⟩, fun u => ⟨Or.inr (Or.inr (Or.inr (Or.inr ⟨by omega, q⟩))), u.2⟩⟩
      · exact Sd_e hRD hD hA hN (hin x 2 q (by omega)) q s9
      · have b := Sc_b hSc x0 x1
        have k := hK x x0 x1
        rw [b.2.2 2 (by omega) (by omega)]
        refine (hq x 2 x0 x1 (by omega) (by omega)).trans ?_
        show _ ↔ (lt x.toNat).toInt = 1
        rw [k.1]
        exact ⟨fun u => u.2, fun u => ⟨Or.inr (Or.inl rfl), u⟩⟩
    by_cases q0 : v2 = 0
    · rw [Wy_0 q0]
      obtain ⟨l9, d9, b9, i9, hf, e⟩ := (hW.resolve_right (fun u => u.1 q0)).2
      rw [e]
      unfold IsA at hQ
      exact (Go_e hSc hAb hN hp (hQ.2.2.1 q0) hRD hI hr hD hz hB hf).symm
    · have e := (hW.resolve_left (fun u => q0 u.1)).2
      rw [e]
      obtain ⟨rk, hrk⟩ := hTI (by omega)
      rw [← eN] at hrk
      have hpp : ¬ fMn N (em 23) (jm 22).toInt = -9 := by
        rw [← eF]
        have w := hpj.2.2.2.1
        have u : (jm 22).toNatClampNeg = (jm 22).toInt.toNat := rfl
        rw [u] at w
        unfold fX
        rw [if_pos ⟨hp.1, by omega, w⟩]
        omega
      refine (Wy_t hSc hAb hN hp hp5 hpp hQ q0 hsn hq (fun x0 x1 => ?_) (fun g o z => ?_) hrk hZ5).symm
      · unfold kyV kyM
        rw [IX_kb hI hr x0 (by omega)]
        rfl
      · unfold lsG lsM
        rw [gM_t (by omega), show gA (em 9) (em 10) (em 11) (em 13) (em 24) (jm 8).toInt (jm 22).toInt (z : Int) = (em 24 (z : Int).toNat).toInt from if_neg (by omega), show ((z : Nat) : Int).toNat = z by omega]
/-! what an act that is done tells of itself -/
theorem plV_i {a b : Int} (h : plV a b = 0) : a = 0 ∧ b = 0 := by
  unfold plV at h
  by_cases q : a = 0
  · rw [if_pos q] at h; exact ⟨q, h⟩
  · rw [if_neg q] at h; exact absurd h q
theorem rx_g {v go tk hd sh wr en lv : Int} (h : rxV v go tk hd sh wr en lv = 0) : (v = 1 → tk = 0) ∧ (v = 2 ∨ v = 3 ∨ v = 4 → hd = 0) ∧ (v = 9 → wr = 0) ∧ (v = 10 → en = 0) ∧ (v = 11 → lv = 0) ∧ (v = 0 → go = 0) := by
  unfold rxV at h
  refine ⟨fun q => ?_, fun q => ?_, fun q => ?_, fun q => ?_, fun q => ?_, fun q => ?_⟩
  · rw [if_neg (by omega), if_pos q] at h; exact h
  · rw [if_neg (by omega), if_neg (by omega), if_pos q] at h; exact h
  · rw [if_neg (by omega), if_neg (by omega), if_neg (by omega), if_neg (by omega), if_pos q] at h; exact h
  · rw [if_neg (by omega), if_neg (by omega), if_neg (by omega), if_neg (by omega), if_neg (by omega), if_pos q] at h; exact h
  · rw [if_neg (by omega), if_neg (by omega), if_neg (by omega), if_neg (by omega), if_neg (by omega), if_neg (by omega), if_pos q] at h; exact h
  · rw [if_pos q] at h; exact h
theorem ry_g {v pi po ky : Int} (h : ryV v pi po ky = 0) : v = 4 → po = 0 := fun q => by
  unfold ryV at h
  rw [if_neg (by omega), if_pos q] at h
  exact h
theorem At_g {Q : Prop} {tu th r v l0 d0 sh pi ky : Int} {b0 : Prop} {o0 : Int → Prop} {sn up hd bad rc an ov H gm s2 fit up2 cl rc2 at_ bw cl2 fo s3 fit3 sl3 cl3 rc3 fu3 : Prop} (h : AaR Q tu th (plV (rxV v (goV b0 l0 d0 o0) (takeV sn up hd bad rc an ov) (iV (¬ H) 11 0) sh (wearV H gm) (enterV s2 fit up2 cl rc2 at_) (leaveV bw cl2 fo)) (ryV v pi (putV s3 fit3 sl3 cl3 rc3 fu3) ky)) r) (hr : r = 0) : Q ∧ th = 1 ∧ (v = 1 → ¬ bad) ∧ (v = 2 ∨ v = 3 ∨ v = 4 ∨ v = 9 → H) ∧ (v = 4 → fit3) ∧ (v = 10 → fit) ∧ (v = 11 → fo) ∧ (v = 0 → b0) := by
  unfold AaR at h
  have w : Q ∧ th = 1 ∧ r = plV (rxV v (goV b0 l0 d0 o0) (takeV sn up hd bad rc an ov) (iV (¬ H) 11 0) sh (wearV H gm) (enterV s2 fit up2 cl rc2 at_) (leaveV bw cl2 fo)) (ryV v pi (putV s3 fit3 sl3 cl3 rc3 fu3) ky) := by
    rcases h with h | h | h | h
    · exfalso; have := h.2; omega
    · exfalso; have := h.2.2; omega
    · exfalso; have := h.2.2.2; omega
    · exact ⟨h.1, h.2.2.1, h.2.2.2⟩
  obtain ⟨a, b, c⟩ := w
  have z := plV_i (c.symm.trans hr)
  have x := rx_g z.1
  refine ⟨a, b, fun q => ?_, fun q => ?_, fun q => ?_, fun q => ?_, fun q => ?_, fun q => ?_⟩
  · have t := x.1 q
    unfold takeV at t
    exact (iV_0 (iV_0 (iV_0 (iV_0 t (by decide)).2 (by decide)).2 (by decide)).2 (by decide)).1
  · by_cases q9 : v = 9
    · have t := x.2.2.1 q9
      unfold wearV at t
      exact Classical.not_not.mp (iV_0 t (by decide)).1
    · exact Classical.not_not.mp (iV_0 (x.2.1 (by omega)) (by decide)).1
  · have t := ry_g z.2 q
    unfold putV at t
    exact Classical.not_not.mp (iV_0 (iV_0 t (by decide)).2 (by decide)).1
  · have t := x.2.2.2.1 q
    unfold enterV at t
    exact Classical.not_not.mp (iV_0 (iV_0 t (by decide)).2 (by decide)).1
  · have t := x.2.2.2.2.1 q
    unfold leaveV at t
    exact Classical.not_not.mp (iV_0 (iV_0 (iV_0 t (by decide)).2 (by decide)).2 (by decide)).1
  · have t := x.2.2.2.2.2 q
    unfold goV at t
    exact Classical.not_not.mp (iV_0 t (by decide)).1
theorem plH_n {v p ld x y : Int} {f : Int → Int} (h : ¬ v = 0) : plH v f p ld x y = plH v f p 0 x y := by
  unfold plH
  rw [if_neg h, if_neg h]
theorem plH_0 {v p ld x y : Int} {f : Int → Int} (h : v = 0) : plH v f p ld x y = ld := if_pos h
theorem sbI_i {v : Int} {p x : Int32} : (sbI v p x).toInt = if v = 0 ∨ 10 ≤ v then p.toInt else x.toInt := by
  unfold sbI
  by_cases q : v = 0 ∨ 10 ≤ v
  · rw [if_pos q, if_pos q]
  · rw [if_neg q, if_neg q]
theorem TLa_e {N : Int} {Z : Int → Int} {Qf : Int → Int → Prop} {LK LK2 : Prop} {th pl ap tu tu3 ou w w2 x1 y1 : Int32} {v v2 : Int} {ce sb fc ce2 sb2 fc2 ld : Nat → Int32} {p tu2 tu4 : Int32} {F A O L W1 W2 W3 W4 F2 A2 O2 L2 V1 V2 V3 V4 : Nat → Int32} {Rm : Int → Prop} {P9 : Int → Prop}
    (h : TL N Z Qf LK th pl tu ce sb fc p tu2 F A O L W1 W2 W3 W4) (hPJ : PJ th pl ap tu ce sb fc) (h1 : th.toInt = 1) (hce : ∀ o, 0 ≤ (ce o).toInt) (hN : N ≤ 30) (ht : 0 ≤ tu.toInt) (hQ : IsA v w.toInt w2.toInt N) (ev : v2 = v) (ex : x1.toInt = w.toInt) (ey : y1.toInt = w2.toInt)
    (g1 : v = 1 → ¬ (¬ ((Z w.toInt = 1 ∨ 3 ≤ Z w.toInt) ∧ ¬ Z w.toInt = 5) ∨ bT ce 3 w.toInt ∨ fX ce w.toInt = 4)) (g2 : v = 2 ∨ v = 3 ∨ v = 4 ∨ v = 9 → Hd (hF ce) (fX ce) ap.toInt w.toInt) (g4 : v = 4 → ((1 : Int) = 0 ∧ Z w2.toInt = 3) ∨ (¬ (1 : Int) = 0 ∧ Z w2.toInt = 4)) (g10 : v = 10 → Z w.toInt = 3 ∨ Z w.toInt = 4) (g11 : v = 11 → fX ce (hF ce ap.toInt) = 0 ∨ fX ce (hF ce ap.toInt) = 1)
    (ho : OuR v (ce (sbI v ap w).toNatClampNeg) ou (plF v Z (fX ce) (hF ce) ap.toInt w.toInt) (plH v (hF ce) ap.toInt (ld ((hF ce) ap.toInt * 10 + w.toInt).toNat).toInt w.toInt w2.toInt)) (e1 : ce2 = upd ce (sbI v ap w).toNatClampNeg ou) (e2 : sb2 = upd sb tu.toNatClampNeg (sbI v ap w)) (e3 : fc2 = upd fc tu.toNatClampNeg (ce (sbI v ap w).toNatClampNeg)) (e4 : tu3.toInt = tu.toInt + 1) (hk : LK2)
    (ha : AcR v2 F A O L F2 A2 O2 L2 (sbI v2 p x1) x1 (plF v2 Z (fMn N F) (nF N F A) p.toInt x1.toInt) (fun z : Int => (v2 = 0 ∧ P9 z) ∨ (¬ v2 = 0 ∧ z = plH v2 (nF N F A) p.toInt 0 x1.toInt y1.toInt))) (hP9 : v = 0 → ∀ z, P9 z → z = (ld ((nF N F A) p.toInt * 10 + w.toInt).toNat).toInt) (hTI : TI N Rm p.toInt F2 A2) (r1 : RW V1 V2 W1 W2 F A tu2.toInt.toNat 30) (r2 : RW V3 V4 W3 W4 O L tu2.toInt.toNat 30) (e5 : tu4.toInt = tu2.toInt + 1) : TL N Z Qf LK2 th pl tu3 ce2 sb2 fc2 p tu4 F2 A2 O2 L2 V1 V2 V3 V4 := by
  have hT := h.2.2.resolve_left (fun q => q.1 h1)
  have hpj := hPJ h1
  have eap : ap = p := hpj.2.2.1.trans hT.2.1
  have exx : x1 = w := Int32.toInt_inj.mp ex
  subst eap ev exx
  have hSc := hT.2.2.2.2.1
  have eH := Sc_h hSc h.1 hN
  have eF := Sc_f hSc h.1 hN
  rw [eH, eF] at ho g2 g11
  rw [ey] at ha
  have hp := hT.2.2.1
  have hs : 0 ≤ (sbI v2 ap x1).toInt ∧ (sbI v2 ap x1).toInt < N := by
    rw [sbI_i]
    unfold IsA at hQ
    by_cases q : v2 = 0 ∨ 10 ≤ v2
    · rw [if_pos q]; exact hp
    · rw [if_neg q]; exact hQ.2.2.2.1 (by omega)
  have hpp : ¬ fMn N F ap.toInt = -9 := by
    rw [← eF]
    have u : ap.toNatClampNeg = ap.toInt.toNat := rfl
    have w9 := hpj.2.2.2.1
    rw [hT.2.1, u] at w9
    unfold fX
    rw [if_pos ⟨hp.1, by omega, w9⟩]
    omega
  have ha2 := AcR_h (g := plH v2 (nF N F A) ap.toInt (ld ((nF N F A) ap.toInt * 10 + x1.toInt).toNat).toInt x1.toInt w2.toInt) ha (fun z q => by
    rcases q with q | q
    · rw [plH_0 q.1]; exact hP9 q.1 z q.2
    · rw [plH_n q.1]; exact q.2)
  refine TL_a h h1 hce hN ht hs ho e1 e2 e3 e4 hk ha2 (fun q => ?_) (fun q => ?_) r1 r2 e5
  · unfold sbI; rw [if_neg (by omega)]
  · rw [sbI_i]
    refine Gd (Sc_p hSc) hp hT.2.2.2.1 hpp hQ q (fun q0 => ?_) (fun q1 => ?_) (fun q2 => (g2 q2).2) (fun q4 => ?_) g10 g11
    · unfold AcR at ha2
      rcases ha2 with ⟨_, ⟨f9, h9, b, c, d1, d2⟩, _⟩ | ⟨z, _⟩ | ⟨z, _⟩ | ⟨z, _⟩
      · have t := hTI.2.1 ap.toInt hp.1 hp.2
        have es : (sbI v2 ap x1).toNatClampNeg = ap.toInt.toNat := by rw [sbI_p (Or.inl q0)]; rfl
        rw [d1, d2, es, pk_us, pk_us, b] at t
        have c9 : h9.toInt = plH v2 (nF N F A) ap.toInt (ld ((nF N F A) ap.toInt * 10 + x1.toInt).toNat).toInt x1.toInt w2.toInt := c
        rw [plH_0 q0] at c9
        have t2 := t (by unfold plF; rw [if_pos q0]; decide)
        omega
      · exfalso; omega
      · exfalso; omega
      · exfalso; omega
    · exact Classical.not_not.mp (fun u => g1 q1 (Or.inl u))
    · rcases g4 q4 with u | u
      · exact absurd u.1 (by decide)
      · exact u.2
