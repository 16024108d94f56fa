theorem Cl_e {F A B C S pb eb fb kb ce : Nat → Int32} {n z f a b c : Int} (h : IX F A B C S n pb eb fb kb ce) (hr : RR F A B C pb eb fb kb) (hf : 0 ≤ f ∧ f ≤ 7) (ha : 0 ≤ a ∧ a ≤ 29) (hb : 0 ≤ b ∧ b ≤ 29) (h6 : f = 6 → b ≤ 5 ∧ 0 ≤ c ∧ c ≤ 1) (h5 : f = 5 → 0 ≤ c ∧ c ≤ 9) (hn : ¬ SX F A B C (sFv pb eb fb kb f a b c) f a b c) : ClX F B C S pb eb fb kb ce n z f a b c ↔ BaM F A B C S n z f a b c := by
  obtain ⟨r0, w⟩ := Sl_e h hr hf ha hb (fun q => (h6 q).1) h5
  rw [SX_e h hr hf ha hb (fun q => (h6 q).1) h5] at hn
  have ex : ¬ (sFv pb eb fb kb f a b c).toInt = -9 ↔ ∃ s : Nat, (sFv pb eb fb kb f a b c).toInt = (s : Int) :=
    ⟨fun q => ⟨(sFv pb eb fb kb f a b c).toInt.toNat, by omega⟩, fun ⟨s, q⟩ => by omega⟩
  unfold ClX BaM PbM XbM FbM
  rw [ex, fsF_x, fsF_x, fsF_x, fsF_x, fsF_x]
  have pl := IX_pL h hr ha.1 ha.2
  rcases (show f = 5 ∨ f = 6 ∨ f = 7 ∨ f < 5 by omega) with q | q | q | q
  · have e1 : (∃ s : Nat, (sFv pb eb fb kb f a b c).toInt = (s : Int)) ↔ ∃ s : Nat, (s : Int) < n ∧ bP F A C S a c s :=
      ⟨fun ⟨s, y⟩ => by have y2 := (w s).mp y; exact ⟨s, y2.1, y2.2.1, by omega, by omega, by omega⟩, fun ⟨s, y, y1, y2, y3, y4⟩ => ⟨s, (w s).mpr ⟨y, y1, by omega⟩⟩⟩
    rw [e1]
    unfold DoX
    rw [Do_e h hr ha]
    constructor
    · rintro (y | y | y | y)
      · exact Or.inr (Or.inl ⟨q, Or.inl y⟩)
      · exact Or.inr (Or.inl ⟨q, Or.inr ⟨y.2.1, y.2.2⟩⟩)
      · exfalso; omega
      · exfalso; omega
    · rintro (y | y | y | y)
      · exfalso; omega
      · rcases y.2 with x | x
        · exact Or.inl x
        · exact Or.inr (Or.inl ⟨q, x.1, x.2⟩)
      · exfalso; omega
      · exfalso; omega
  · have hc := h6 q
    have e1 : (∃ s : Nat, (sFv pb eb fb kb f a b c).toInt = (s : Int)) ↔ ∃ s : Nat, (s : Int) < n ∧ sE F A B C S 6 a b (1 - c) s := by
      constructor
      · rintro ⟨s, y⟩
        have y2 := (w s).mp y
        have v := h.2.2.2.2.2 s y2.1 (by omega)
        have r := hr.1 s
        refine ⟨s, y2.1, y2.2.1, by omega, by omega, by omega, ?_⟩
        by_cases x : (C s).toInt = c
        · exact absurd ⟨s, y2.1, y2.2.1, by omega, by omega, by omega, x⟩ hn
        · omega
      · rintro ⟨s, y, y1, y2, y3, y4, y5⟩
        exact ⟨s, (w s).mpr ⟨y, y1, by omega⟩⟩
    rw [e1]
    unfold FlX
    rw [Sy_e h hr ha (by omega), Sy_e h hr ha (by omega), pl]
    have c5 := h.2.2.2.2.1 a.toNat (by omega)
    have er : (pb a.toNat).toNatClampNeg = (pb a.toNat).toInt.toNat := rfl
    have rF := hr.1 (pb a.toNat).toNatClampNeg
    have p5 : 0 ≤ (pb a.toNat).toInt → (F (pb a.toNat).toInt.toNat).toInt < 5 := fun y => ((h.1 a.toNat (pb a.toNat).toInt.toNat (by omega)).mpr (by omega)).2.2.1
    rw [er] at c5 rF
    constructor
    · rintro (y | y | y | y)
      · exact Or.inr (Or.inr (Or.inl ⟨q, Or.inl y⟩))
      · exfalso; omega
      · rcases y.2 with ⟨x1, x2, x3⟩ | ⟨x1, x2, x3⟩ | ⟨x1, x2, x3, x4, x5⟩
        · exact Or.inr (Or.inr (Or.inl ⟨q, Or.inr (Or.inl ⟨x2, Or.inl x1, by rw [x1]; exact x3⟩)⟩))
        · exact Or.inr (Or.inr (Or.inl ⟨q, Or.inr (Or.inl ⟨x2, Or.inr x1, by rw [x1]; exact x3⟩)⟩))
        · exact Or.inr (Or.inr (Or.inl ⟨q, Or.inr (Or.inr ⟨x1, x2, x5, by rcases c5 with u | u; exact absurd u.1 x5; (have p := p5 u.1; omega)⟩)⟩))
      · exfalso; omega
    · rintro (y | y | y | y)
      · exfalso; omega
      · exfalso; omega
      · rcases y.2 with x | ⟨x1, x2, x3⟩ | ⟨x1, x2, x3, x4⟩
        · exact Or.inl x
        · rcases x2 with x2 | x2
          · exact Or.inr (Or.inr (Or.inl ⟨q, Or.inl ⟨x2, x1, by rw [x2] at x3; exact x3⟩⟩))
          · exact Or.inr (Or.inr (Or.inl ⟨q, Or.inr (Or.inl ⟨x2, x1, by rw [x2] at x3; exact x3⟩)⟩))
        · rcases c5 with u | u
          · exact absurd u.1 x3
          · have p := p5 u.1
            exact Or.inr (Or.inr (Or.inl ⟨q, Or.inr (Or.inr ⟨x1, x2, by omega, by omega, x3⟩)⟩))
      · exfalso; omega
  · have e1 : (∃ s : Nat, (sFv pb eb fb kb f a b c).toInt = (s : Int)) ↔ ∃ s : Nat, (s : Int) < n ∧ KB F B S b s :=
      ⟨fun ⟨s, y⟩ => by have y2 := (w s).mp y; exact ⟨s, y2.1, y2.2.1, by omega, by omega⟩, fun ⟨s, y, y1, y2, y3⟩ => ⟨s, (w s).mpr ⟨y, y1, by omega⟩⟩⟩
    rw [e1]
    constructor
    · rintro (y | y | y | y)
      · exact Or.inr (Or.inr (Or.inr ⟨q, y⟩))
      · exfalso; omega
      · exfalso; omega
      · exfalso; omega
    · rintro (y | y | y | y)
      · exfalso; omega
      · exfalso; omega
      · exfalso; omega
      · exact Or.inl y.2
  · rw [← ex, pl, show sFv pb eb fb kb f a b c = pb a.toNat by unfold sFv; rw [if_neg (by omega), if_neg (by omega), if_neg (by omega)], ← IX_hF h hr]
    unfold PlX
    rw [Sy_e h hr ha (by omega), Ch_st (f := hF ce) (x := b) (t := a)]
    constructor
    · rintro (y | y | y | y)
      · exact Or.inl ⟨q, Or.inl y⟩
      · exfalso; omega
      · exfalso; omega
      · rcases y.2 with x | x | x
        · exact Or.inl ⟨q, Or.inr (Or.inl (Or.inl x.symm))⟩
        · exact Or.inl ⟨q, Or.inr (Or.inl (Or.inr x))⟩
        · exact Or.inl ⟨q, Or.inr (Or.inr x)⟩
    · rintro (y | y | y | y)
      · rcases y.2 with x | (x | x) | x
        · exact Or.inl x
        · exact Or.inr (Or.inr (Or.inr ⟨q, Or.inl x.symm⟩))
        · exact Or.inr (Or.inr (Or.inr ⟨q, Or.inr (Or.inl x)⟩))
        · exact Or.inr (Or.inr (Or.inr ⟨q, Or.inr (Or.inr x)⟩))
      · exfalso; omega
      · exfalso; omega
      · exfalso; omega
/-! both sides' sentences alike -/
def SN (F A B C S : Nat → Int32) (n : Int32) (pb eb fb kb ce F2 A2 B2 C2 S2 : Nat → Int32) (n2 : Int32) : Prop := F = F2 ∧ A = A2 ∧ B = B2 ∧ C = C2 ∧ S = S2 ∧ n.toInt = n2.toInt ∧ IX F A B C S n.toInt pb eb fb kb ce
theorem IX_0 {F A B C S pb eb fb kb ce : Nat → Int32} {n : Int} (hn : n = 0) (h : ∀ k, (pb k).toInt = -9 ∧ (eb k).toInt = -9 ∧ (fb k).toInt = -9 ∧ (kb k).toInt = -9 ∧ (ce k).toInt = 255) : IX F A B C S n pb eb fb kb ce :=
  ⟨fun k s _ => ⟨fun q => by have := q.1; omega, fun q => by have := (h k).1; omega⟩, fun k s _ => ⟨fun q => by have := q.1; omega, fun q => by have := (h k).2.1; omega⟩, fun k s _ => ⟨fun q => by have := q.1; omega, fun q => by have := (h k).2.2.1; omega⟩, fun k s _ => ⟨fun q => by have := q.1; omega, fun q => by have := (h k).2.2.2.1; omega⟩, fun o _ => Or.inl ⟨(h o).1, (h o).2.2.2.2⟩, fun s hs => by omega⟩
/-- the class's sorts are those of the kinds -/
theorem xS_e {pa ko so pa2 ko2 : Nat → Int32} {kn : Int32} {o N : Int} (h : SoR pa so kn) (e1 : pa = pa2) (e2 : ko = ko2) (hk : KI ko2 N kn.toInt) (h0 : ∀ j, 0 ≤ (ko2 j).toInt) (ho : 0 ≤ o ∧ o < N) (hr : 0 ≤ (so (ko o.toNat).toNatClampNeg).toInt ∧ (so (ko o.toNat).toNatClampNeg).toInt ≤ 5) : (so (ko o.toNat).toNatClampNeg).toInt = kS pa2 ko2 o := by
  subst e1 e2
  have k0 := h0 o.toNat
  have k1 := hk o.toNat (by omega)
  have e : (ko o.toNat).toNatClampNeg = (ko o.toNat).toInt.toNat := rfl
  have q := h (ko o.toNat).toNatClampNeg (by omega)
  rw [show (((ko o.toNat).toNatClampNeg : Nat) : Int) = (ko o.toNat).toInt by omega] at q
  have K : ∀ c : Int, 0 ≤ c → c ≤ 5 → (Kd pa ko o c ↔ ((so (ko o.toNat).toNatClampNeg).toInt = c ∨ (c = 1 ∧ 1 < (so (ko o.toNat).toNatClampNeg).toInt))) := q
  rcases kS_c (pa := pa) (ko := ko) (o := o) with ⟨a, b⟩ | ⟨a, b⟩ | ⟨a, b⟩ | ⟨a, b⟩ | ⟨a, b⟩ | ⟨a, b0, b2, b3, b4, b5⟩
  · have := (K 0 (by omega) (by omega)).mp b; omega
  · have := (K 2 (by omega) (by omega)).mp b; omega
  · have := (K 3 (by omega) (by omega)).mp b; omega
  · have := (K 4 (by omega) (by omega)).mp b; omega
  · have := (K 5 (by omega) (by omega)).mp b; omega
  · rw [K 0 (by omega) (by omega)] at b0
    rw [K 2 (by omega) (by omega)] at b2
    rw [K 3 (by omega) (by omega)] at b3
    rw [K 4 (by omega) (by omega)] at b4
    rw [K 5 (by omega) (by omega)] at b5
    omega
theorem Ac_e {F A B C S pb eb fb kb ce : Nat → Int32} {n N z y z2 y2 f a b c l : Int} (h : IX F A B C S n pb eb fb kb ce) (hr : RR F A B C pb eb fb kb) (hN : N ≤ 30) (hl1 : f = 5 ∨ f = 6 → l = c) (hl0 : ¬ (f = 5 ∨ f = 6) → l = 0) (hz : WF f a b c N → z = z2) (hy : WF f a b c N → ¬ f = 6 → y = y2) : AcX F A B C S pb eb fb kb ce n N z y f a b c l ↔ AcM F A B C S n N z2 y2 f a b c l := by
  by_cases w : WF f a b c N
  · have w2 := w
    unfold WF at w2
    have e1 := hz w
    have e2 := hy w
    subst e1
    have hc : f = 6 → b ≤ 5 ∧ 0 ≤ l ∧ l ≤ 1 := fun q => by have := hl1 (Or.inr q); omega
    have h5 : f = 5 → 0 ≤ l ∧ l ≤ 9 := fun q => by have := hl1 (Or.inl q); omega
    have es := SX_e (c := l) h hr (by omega) (a := a) (by omega) (b := b) (by omega) (fun q => (hc q).1) h5
    rw [← fsF_x] at es
    have ef : Fit f z b y ↔ Fit f z b y2 := by
      by_cases q : f = 6
      · unfold Fit; exact ⟨fun u => ⟨u.1, Or.inl q⟩, fun u => ⟨u.1, Or.inl q⟩⟩
      · rw [e2 q]
    have ec : ¬ SX F A B C (sFv pb eb fb kb f a b l) f a b l → (ClX F B C S pb eb fb kb ce n y f a b l ↔ BaM F A B C S n y2 f a b l) := fun u => by
      have v := Cl_e (z := y) h hr (by omega) (a := a) (by omega) (b := b) (by omega) hc h5 u
      rw [v]
      by_cases q : f = 6
      · rw [← Ba_6 q, ← Ba_6 q]
      · rw [e2 q]
    constructor
    · rintro ⟨_, q2, q3, q4, q5⟩
      exact ⟨w, ef.mp q2, Decidable.byContradiction (fun u => q3 (es.mpr u)), q4, fun u => q5 ((ec q3).mpr u)⟩
    · rintro ⟨_, q2, q3, q4, q5⟩
      have u3 : ¬ SX F A B C (sFv pb eb fb kb f a b l) f a b l := fun u => (es.mp u) q3
      exact ⟨w, ef.mpr q2, u3, q4, fun u => q5 ((ec u3).mp u)⟩
  · exact ⟨fun q => absurd q.1 w, fun q => absurd q.1 w⟩
theorem SN_say {F A B C S pb eb fb kb ce F2 A2 B2 C2 S2 F' A' B' C' S' pb' eb' fb' kb' ce' F2' A2' B2' C2' S2' : Nat → Int32} {n n2 n' n2' N N2 f a b c f2 a2 b2 c2 : Int32} {z y z2 y2 : Int} (h : SN F A B C S n pb eb fb kb ce F2 A2 B2 C2 S2 n2) (hr : RR F A B C pb eb fb kb) (hN : N.toInt ≤ 30) (hn : 0 ≤ n.toInt) (eN : N.toInt = N2.toInt)
    (hz : WF f.toInt a.toInt b.toInt c.toInt N.toInt → z = z2) (hy : WF f.toInt a.toInt b.toInt c.toInt N.toInt → ¬ f.toInt = 6 → y = y2) (ef : f2.toInt = f.toInt) (ea : a2.toInt = a.toInt) (eb0 : b2.toInt = b.toInt) (ec : c2.toInt = c.toInt)
    (h1 : SyW (AcX F A B C S pb eb fb kb ce n.toInt N.toInt z y f.toInt a.toInt b.toInt c.toInt (lI f c).toInt) F A B C S F' A' B' C' S' n n' f a b (lI f c))
    (h2 : PtW (AcX F A B C S pb eb fb kb ce n.toInt N.toInt z y f.toInt a.toInt b.toInt c.toInt (lI f c).toInt) pb eb fb kb ce pb' eb' fb' kb' ce' f.toInt a.toInt b.toInt (lI f c).toInt n)
    (h3 : SyW (AcM F2 A2 B2 C2 S2 n2.toInt N2.toInt z2 y2 f2.toInt a2.toInt b2.toInt c2.toInt (lI f2 c2).toInt) F2 A2 B2 C2 S2 F2' A2' B2' C2' S2' n2 n2' f2 a2 b2 (lI f2 c2)) : SN F' A' B' C' S' n' pb' eb' fb' kb' ce' F2' A2' B2' C2' S2' n2' := by
  obtain ⟨e1, e2, e3, e4, e5, e6, hI⟩ := h
  have f1 := Int32.toInt_inj.mp ef
  have a1 := Int32.toInt_inj.mp ea
  have b1 := Int32.toInt_inj.mp eb0
  have c1 := Int32.toInt_inj.mp ec
  have n1 := Int32.toInt_inj.mp e6
  subst e1 e2 e3 e4 e5 f1 a1 b1 c1 n1
  rw [← eN] at h3
  have l1 : f2.toInt = 5 ∨ f2.toInt = 6 → (lI f2 c2).toInt = c2.toInt := fun q => by rw [lI_y q]
  have l0 : ¬ (f2.toInt = 5 ∨ f2.toInt = 6) → (lI f2 c2).toInt = 0 := fun q => by rw [lI_n q]; decide
  have E := Ac_e hI hr hN l1 l0 hz hy
  rcases h1 with ⟨q, r1, r2, r3, r4, r5, r6⟩ | ⟨q, r1, r2, r3, r4, r5, r6⟩
  · rcases h3 with ⟨p, t1, t2, t3, t4, t5, t6⟩ | ⟨p, _⟩
    · rcases h2 with ⟨_, u1, u2, u3, u4, u5⟩ | ⟨u, _⟩
      · rw [r1, r2, r3, r4, r5, t1, t2, t3, t4, t5, u1, u2, u3, u4, u5]
        exact ⟨rfl, rfl, rfl, rfl, rfl, by omega, by rw [r6]; exact hI⟩
      · exact absurd u q
    · exact absurd (E.mpr p) q
  · rcases h3 with ⟨p, _⟩ | ⟨p, t1, t2, t3, t4, t5, t6⟩
    · exact absurd (E.mp q) p
    · rcases h2 with ⟨u, _⟩ | ⟨_, u⟩
      · exact absurd q u
      · obtain ⟨w, _, _, w4, w5⟩ := q
        unfold WF at w
        have hf : (sFv pb eb fb kb f2.toInt a2.toInt b2.toInt (lI f2 c2).toInt).toInt = -9 := Decidable.byContradiction (fun v => w5 (Or.inl v))
        rw [r1, r2, r3, r4, r5, t1, t2, t3, t4, t5]
        refine ⟨rfl, rfl, rfl, rfl, rfl, by omega, ?_⟩
        rw [r6]
        exact IX_add hI hn rfl (by omega) (by omega) (by omega) (fun v => by have := l1 (Or.inr v); omega) (fun v => by have := l1 (Or.inl v); omega) hf u
theorem SN_un {F A B C S pb eb fb kb ce F2 A2 B2 C2 S2 S' pb' eb' fb' kb' ce' S2' : Nat → Int32} {n n2 s s2 : Int32} (h : SN F A B C S n pb eb fb kb ce F2 A2 B2 C2 S2 n2) (hr : RR F A B C pb eb fb kb) (es : s2.toInt = s.toInt)
    (h1 : UnW S S' n s) (h2 : PtW (UnQ S n s) pb eb fb kb ce pb' eb' fb' kb' ce' (F s.toNatClampNeg).toInt (A s.toNatClampNeg).toInt (B s.toNatClampNeg).toInt (C s.toNatClampNeg).toInt (-9)) (h3 : UnW S2 S2' n2 s2) : SN F A B C S' n pb' eb' fb' kb' ce' F2 A2 B2 C2 S2' n2 := by
  obtain ⟨e1, e2, e3, e4, e5, e6, hI⟩ := h
  have s1 := Int32.toInt_inj.mp es
  have n1 := Int32.toInt_inj.mp e6
  subst e1 e2 e3 e4 e5 s1 n1
  rcases h1 with ⟨q, r⟩ | ⟨q, r⟩
  · rcases h3 with ⟨_, t⟩ | ⟨p, _⟩
    · rcases h2 with ⟨_, u1, u2, u3, u4, u5⟩ | ⟨u, _⟩
      · rw [r, t, u1, u2, u3, u4, u5]; exact ⟨rfl, rfl, rfl, rfl, rfl, rfl, hI⟩
      · exact absurd u q
    · exact absurd p q
  · rcases h3 with ⟨p, _⟩ | ⟨_, t⟩
    · exact absurd q p
    · rcases h2 with ⟨u, _⟩ | ⟨_, u⟩
      · exact absurd q u
      · rw [r, t]
        refine ⟨rfl, rfl, rfl, rfl, rfl, rfl, ?_⟩
        obtain ⟨q1, q2, q3⟩ := q
        have e : s2.toNatClampNeg = s2.toInt.toNat := rfl
        have R := hr.1 s2.toNatClampNeg
        exact IX_rm hI (by omega) q3 (by decide +kernel) (by omega) (by omega) (fun v => hr.2.2 _ v) (by omega) u
theorem RR_of {i : Nat → Int32} {c : Nat → Nat → Int32} (hI : xInv i c) (hF : xFl (c 113) (c 115)) : RR (c 113) (c 114) (c 115) (c 116) (c 118) (c 119) (c 120) (c 121) := by
  refine ⟨fun s => ?_, fun k => ?_, hF⟩
  · have q1 : 0 ≤ (c 113 s).toInt ∧ (c 113 s).toInt ≤ 7 := hI.2 113 s
    have q2 : 0 ≤ (c 114 s).toInt ∧ (c 114 s).toInt ≤ 29 := hI.2 114 s
    have q3 : 0 ≤ (c 115 s).toInt ∧ (c 115 s).toInt ≤ 29 := hI.2 115 s
    have q4 : 0 ≤ (c 116 s).toInt ∧ (c 116 s).toInt ≤ 9 := hI.2 116 s
    omega
  · have q1 : (c 118 k).toInt = -9 ∨ (0 ≤ (c 118 k).toInt ∧ (c 118 k).toInt ≤ 199) := hI.2 118 k
    have q2 : (c 119 k).toInt = -9 ∨ (0 ≤ (c 119 k).toInt ∧ (c 119 k).toInt ≤ 199) := hI.2 119 k
    have q3 : (c 120 k).toInt = -9 ∨ (0 ≤ (c 120 k).toInt ∧ (c 120 k).toInt ≤ 199) := hI.2 120 k
    have q4 : (c 121 k).toInt = -9 ∨ (0 ≤ (c 121 k).toInt ∧ (c 121 k).toInt ≤ 199) := hI.2 121 k
    omega
/-- the class's ways up end -/
theorem Ac_hF {F A B C S pb eb fb kb ce F2 A2 B2 C2 S2 pa ko : Nat → Int32} {n n2 : Int32} {kn N : Int} (h : SN F A B C S n pb eb fb kb ce F2 A2 B2 C2 S2 n2) (hr : RR F A B C pb eb fb kb) (hs : SJ pa ko F2 A2 B2 S2 kn N n2.toInt) : Acy (hF ce) := by
  obtain ⟨e1, e2, e3, e4, e5, e6, hI⟩ := h
  rw [IX_hF hI hr, e1, e2, e3, e5, e6]
  exact hs.2.2.2
/-! what is drawn is what the sentences say -/
def DR (Z : Int → Int) (F A B S : Nat → Int32) (n N : Int) : Prop := ∀ b : Int, 0 ≤ b → b < N → Z b = 2 → (∀ s1 s2 : Nat, (s1 : Int) < n → (s2 : Int) < n → EB F B S b s1 → EB F B S b s2 → (A s1).toInt = (A s2).toInt → s1 = s2) ∧ ∀ s1 s2 s3 : Nat, s1 < s2 → s2 < s3 → (s3 : Int) < n → EB F B S b s1 → EB F B S b s2 → EB F B S b s3 → False
theorem lst_ag {P Q : Nat → Prop} {n : Nat} {r : Int} (e : ∀ s, s < n → (P s ↔ Q s)) (h : lst P n r) : lst Q n r := by
  rcases h with ⟨a, b⟩ | ⟨s, a, b, c, d⟩
  · exact Or.inl ⟨a, fun s hs q => b s hs ((e s hs).mpr q)⟩
  · exact Or.inr ⟨s, a, b, (e s b).mp c, fun s2 h2 h3 q => d s2 h2 h3 ((e s2 h3).mpr q)⟩
theorem fst_ag {P Q : Nat → Prop} {n : Nat} {r : Int} (e : ∀ s, s < n → (P s ↔ Q s)) (h : fst P n r) : fst Q n r := by
  rcases h with ⟨a, b⟩ | ⟨s, a, b, c, d⟩
  · exact Or.inl ⟨a, fun s hs q => b s hs ((e s hs).mpr q)⟩
  · exact Or.inr ⟨s, a, b, (e s b).mp c, fun s2 h2 q => d s2 h2 ((e s2 (by omega)).mpr q)⟩
theorem vI_l {P : Nat → Prop} {B B' : Nat → Int32} {n : Nat} {r : Int} (h : lst P n r) (e : ∀ s, s < n → P s → B' s = B s) : vI B' r = vI B r := by
  rcases h with ⟨a, b⟩ | ⟨s, a, b, c, d⟩
  · rw [a, vI_n, vI_n]
  · rw [a, vI_y, vI_y, e s b c]
theorem vI_f {P : Nat → Prop} {B B' : Nat → Int32} {n : Nat} {r : Int} (h : fst P n r) (e : ∀ s, s < n → P s → B' s = B s) : vI B' r = vI B r := by
  rcases h with ⟨a, b⟩ | ⟨s, a, b, c, d⟩
  · rw [a, vI_n, vI_n]
  · rw [a, vI_y, vI_y, e s b c]
/-- the same exits stand -/
def Ag (Z Z' : Int → Int) (F A B C S F' A' B' C' S' : Nat → Int32) (n : Nat) : Prop := ∀ s, s < n → (((S' s).toInt = 1 ∧ (F' s).toInt = 5) ↔ ((S s).toInt = 1 ∧ (F s).toInt = 5)) ∧ ((S s).toInt = 1 → (F s).toInt = 5 → A' s = A s ∧ B' s = B s ∧ C' s = C s ∧ Z' (B s).toInt = Z (B s).toInt)
theorem RDS_e {Z Z' : Int → Int} {F A B C S F' A' B' C' S' ld dr bw im f1 f2 : Nat → Int32} {n : Nat} (g : Ag Z Z' F A B C S F' A' B' C' S' n) (h : RDS Z F A B C S n ld dr bw im f1 f2) : RDS Z' F' A' B' C' S' n ld dr bw im f1 f2 := by
  have x5 : ∀ s, s < n → (S' s).toInt = 1 → (F' s).toInt = 5 → (S s).toInt = 1 ∧ (F s).toInt = 5 ∧ A' s = A s ∧ B' s = B s ∧ C' s = C s ∧ Z' (B s).toInt = Z (B s).toInt := fun s hs a b => by
    have q := (g s hs).1.mp ⟨a, b⟩
    exact ⟨q.1, q.2, (g s hs).2 q.1 q.2⟩
  have y5 : ∀ s, s < n → (S s).toInt = 1 → (F s).toInt = 5 → (S' s).toInt = 1 ∧ (F' s).toInt = 5 := fun s hs a b => (g s hs).1.mpr ⟨a, b⟩
  have eK : ∀ k s, s < n → (Ek F A C S k s ↔ Ek F' A' C' S' k s) := fun k s hs => by
    constructor
    · rintro ⟨a, b, d⟩
      have q := (g s hs).2 a b
      have w := y5 s hs a b
      exact ⟨w.1, w.2, by rw [q.1, q.2.2.1]; exact d⟩
    · rintro ⟨a, b, d⟩
      have q := x5 s hs a b
      exact ⟨q.1, q.2.1, by rw [← q.2.2.1, ← q.2.2.2.2.1]; exact d⟩
  have eZ : ∀ s, s < n → (S s).toInt = 1 → (F s).toInt = 5 → Z' (B' s).toInt = Z (B s).toInt := fun s hs a b => by
    have q := (g s hs).2 a b
    rw [q.2.1]; exact q.2.2.2
  have eR : ∀ k s, s < n → (Er Z F A B C S k s ↔ Er Z' F' A' B' C' S' k s) := fun k s hs => by
    constructor
    · rintro ⟨a, b⟩
      exact ⟨(eK k s hs).mp a, by rw [eZ s hs a.1 a.2.1]; exact b⟩
    · rintro ⟨a, b⟩
      have a2 := (eK k s hs).mpr a
      exact ⟨a2, by rw [← eZ s hs a2.1 a2.2.1]; exact b⟩
  have eD : ∀ k s, s < n → (Ed Z F A B C S k s ↔ Ed Z' F' A' B' C' S' k s) := fun k s hs => by
    constructor
    · rintro ⟨a, b⟩
      exact ⟨(eK k s hs).mp a, by rw [eZ s hs a.1 a.2.1]; exact b⟩
    · rintro ⟨a, b⟩
      have a2 := (eK k s hs).mpr a
      exact ⟨a2, by rw [← eZ s hs a2.1 a2.2.1]; exact b⟩
  have eT : ∀ t s, s < n → (Dt Z F B S t s ↔ Dt Z' F' B' S' t s) := fun t s hs => by
    constructor
    · rintro ⟨a, b, d, f⟩
      have q := (g s hs).2 a b
      have w := y5 s hs a b
      exact ⟨w.1, w.2, by rw [eZ s hs a b]; exact d, by rw [q.2.1]; exact f⟩
    · rintro ⟨a, b, d, f⟩
      have q := x5 s hs a b
      exact ⟨q.1, q.2.1, by rw [← eZ s hs q.1 q.2.1]; exact d, by rw [← q.2.2.2.1]; exact f⟩
  have eI : ∀ k s, s < n → (Iq Z F B C S k s ↔ Iq Z' F' B' C' S' k s) := fun k s hs => by
    constructor
    · rintro ⟨a, b, d, f⟩
      have q := (g s hs).2 a b
      have w := y5 s hs a b
      exact ⟨w.1, w.2, by rw [eZ s hs a b]; exact d, by rw [q.2.1, q.2.2.1]; exact f⟩
    · rintro ⟨a, b, d, f⟩
      have q := x5 s hs a b
      exact ⟨q.1, q.2.1, by rw [← eZ s hs q.1 q.2.1]; exact d, by rw [← q.2.2.2.1, ← q.2.2.2.2.1]; exact f⟩
  obtain ⟨b1, l1, l2, ⟨h1, h2⟩, h3, h4⟩ := h
  refine ⟨b1, l1, l2, ⟨fun k hk => ?_, fun t ht => ?_⟩, fun k hk => ?_, h4⟩
  · obtain ⟨a, ⟨r, b, d⟩, ⟨q, f, w⟩⟩ := h1 k hk
    exact ⟨lst_ag (eK k) a, ⟨r, lst_ag (eR k) b, by rw [d, vI_l b (fun s hs p => ((g s hs).2 p.1.1 p.1.2.1).2.1)]⟩, ⟨q, lst_ag (eD k) f, by rw [w, vI_l f (fun s hs p => ((g s hs).2 p.1.1 p.1.2.1).2.1)]⟩⟩
  · obtain ⟨r1, r2, a, b, d, f⟩ := h2 t ht
    refine ⟨r1, r2, fst_ag (eT t) a, lst_ag (eT t) b, by rw [d, vI_f a (fun s hs p => ((g s hs).2 p.1 p.2.1).1)], ?_⟩
    rw [f, vI_l b (fun s hs p => ((g s hs).2 p.1 p.2.1).1)]
  · obtain ⟨q, a, b⟩ := h3 k hk
    refine ⟨q, fst_ag (eI k) a, ?_⟩
    rw [vI_f a (fun s hs p => ((g s hs).2 p.1 p.2.1).1)]
    exact b

