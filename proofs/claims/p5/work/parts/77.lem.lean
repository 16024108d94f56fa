def LRel (kn ob md : Int32) (st : Nat → Int32) (kn2 ob2 md2 : Int32) (st2 : Nat → Int32) : Prop := kn.toInt = kn2.toInt ∧ ob.toInt = ob2.toInt ∧ md.toInt = md2.toInt ∧ ∀ j : Nat, j < 144 → st j = st2 j
theorem LRel_su {kn ob md kn2 ob2 md2 k f v k2 f2 v2 : Int32} {a b a2 b2 : Nat → Int32} (h : LRel kn ob md a kn2 ob2 md2 a2) (h1 : StU a b k f v kn.toInt) (h2 : StU a2 b2 k2 f2 v2 kn2.toInt) (ek : k2.toInt = k.toInt) (ef : f2.toInt = f.toInt) (ev : v2.toInt = v.toInt) : LRel kn ob md b kn2 ob2 md2 b2 := by
  obtain ⟨r1, r2, r3, r4⟩ := h
  refine ⟨r1, r2, r3, fun j hj => ?_⟩
  unfold StU StB at h1 h2
  rcases h1 with ⟨c1, e1⟩ | ⟨c1, e1⟩ <;> rcases h2 with ⟨c2, e2⟩ | ⟨c2, e2⟩
  · rw [e1, e2]; exact r4 j hj
  · exfalso; omega
  · exfalso; omega
  · rw [e1, e2, show k2.toInt * 6 + f2.toInt = k.toInt * 6 + f.toInt by omega, show v2 = v from Int32.toInt_inj.mp ev]
    by_cases q : j = (k.toInt * 6 + f.toInt).toNat
    · subst q; rw [pk_us, pk_us]
    · rw [pk_un q, pk_un q]; exact r4 j hj
theorem LRel_se {kn ob md kn2 ob2 md2 k f v k2 f2 v2 r r2 : Int32} {a a2 : Nat → Int32} (h : LRel kn ob md a kn2 ob2 md2 a2) (h1 : StR a k f v kn.toInt r) (h2 : StR a2 k2 f2 v2 kn2.toInt r2) (hk : kn.toInt ≤ 24) (ek : k2.toInt = k.toInt) (ef : f2.toInt = f.toInt) (ev : v2.toInt = v.toInt) : r = r2 := by
  obtain ⟨q1, q2, q3, q4⟩ := h
  unfold StR StB at h1 h2
  rcases h1 with ⟨c1, e1⟩ | ⟨c1, e1⟩ <;> rcases h2 with ⟨c2, e2⟩ | ⟨c2, e2⟩
  · exact Int32.toInt_inj.mp (by omega)
  · exfalso; omega
  · exfalso; omega
  · rw [e1, e2, show k2.toInt * 6 + f2.toInt = k.toInt * 6 + f.toInt by omega]
    exact q4 _ (by omega)
theorem KU_e {a b a2 b2 : Nat → Int32} {k kn k2 kn2 : Int32} (h : a = a2) (h1 : KU a b k kn) (h2 : KU a2 b2 k2 kn2) (ek : k2.toInt = k.toInt) (en : kn.toInt = kn2.toInt) : b = b2 := by
  subst h
  unfold KU at h1 h2
  rcases h1 with ⟨c1, e1⟩ | ⟨c1, c3, c4, e1⟩ <;> rcases h2 with ⟨c2, e2⟩ | ⟨c2, c5, c6, e2⟩
  · rw [e1, e2]
  · exfalso; omega
  · exfalso; omega
  · rw [e1, e2, show k2 = k from Int32.toInt_inj.mp ek, show kn2 = kn from Int32.toInt_inj.mp en.symm]
theorem OU_e {a b a2 b2 : Nat → Int32} {k s1 kn ob k2 s2 kn2 ob2 : Int32} (h : a = a2) (h1 : OU a b k s1 kn ob) (h2 : OU a2 b2 k2 s2 kn2 ob2) (ek : k2.toInt = k.toInt) (es : s2.toInt = s1.toInt) (en : kn.toInt = kn2.toInt) (eo : ob.toInt = ob2.toInt) : b = b2 := by
  subst h
  unfold OU at h1 h2
  rcases h1 with ⟨c1, e1⟩ | ⟨c1, c3, c4, c5, c6, e1⟩ <;> rcases h2 with ⟨c2, e2⟩ | ⟨c2, d3, d4, d5, d6, e2⟩
  · rw [e1, e2]
  · exfalso; omega
  · exfalso; omega
  · rw [e1, e2, show k2 = k from Int32.toInt_inj.mp ek, show ob2 = ob from Int32.toInt_inj.mp eo.symm]
theorem PD_m {jm : Nat → Int32} {em : Nat → Nat → Int32} (h : mInv jm em) : PD (em 3) := fun j => by
  have q : ((j : Int) ≤ 1 ∧ (em 3 j).toInt = -9) ∨ (2 ≤ (j : Int) ∧ (j : Int) ≤ 5 ∧ (em 3 j).toInt = 1) ∨ (6 ≤ (j : Int) ∧ 0 ≤ (em 3 j).toInt ∧ (em 3 j).toInt ≤ 23 ∧ (em 3 j).toInt < (j : Int)) := h.2 3 j
  omega
theorem IsR_e {pa ko pa2 ko2 : Nat → Int32} {w k w2 k2 r r2 : Int32} {ob kn ob2 kn2 : Int} (e1 : pa = pa2) (e2 : ko = ko2) (h1 : IsR pa ko w k ob kn r) (h2 : IsR pa2 ko2 w2 k2 ob2 kn2 r2) (ew : w2.toInt = w.toInt) (ek : k2.toInt = k.toInt) (eo : ob = ob2) (en : kn = kn2) : r = r2 := by
  subst e1 e2
  unfold IsR at h1 h2
  apply Int32.toInt_inj.mp
  rcases h1 with ⟨c1, d1⟩ | ⟨c1, d1⟩ <;> rcases h2 with ⟨c2, d2⟩ | ⟨c2, d2⟩
  · omega
  · exfalso; omega
  · exfalso; omega
  · rw [ew, ek] at d2
    rcases d1 with ⟨x1, y1⟩ | ⟨x1, y1⟩ <;> rcases d2 with ⟨x2, y2⟩ | ⟨x2, y2⟩
    · omega
    · exact absurd y1 y2
    · exact absurd y2 y1
    · omega
theorem SoR_k {pa pb so sb : Nat → Int32} {k kn kn2 : Int32} (h : SoR pa so kn) (hd : PD pa) (h1 : KU pa pb k kn) (h2 : KS so sb k kn) (hk : 6 ≤ kn.toInt ∧ kn.toInt ≤ 24) (h3 : (¬ (0 ≤ k.toInt ∧ k.toInt < kn.toInt ∧ kn.toInt ≤ 23) ∧ kn2.toInt = kn.toInt) ∨ ((0 ≤ k.toInt ∧ k.toInt < kn.toInt ∧ kn.toInt ≤ 23) ∧ kn2.toInt = kn.toInt + 1)) : SoR pb sb kn2 := by
  unfold KU at h1
  unfold KS at h2
  rcases h1 with ⟨c1, e1⟩ | ⟨c1, c2, c3, e1⟩
  · rcases h2 with ⟨d1, e2⟩ | ⟨d1, d2, d3, e2⟩
    · rw [e1, e2]; intro j hj; exact h j (by omega)
    · exfalso; omega
  · rcases h2 with ⟨d1, e2⟩ | ⟨d1, d2, d3, e2⟩
    · exfalso; omega
    · have en : kn.toNatClampNeg = kn.toInt.toNat := rfl
      have he : ∀ j : Nat, (j : Int) < kn.toInt → pb j = pa j := fun j hj => by rw [e1, pk_un (by omega)]
      intro j hj
      by_cases q : j = kn.toNatClampNeg
      · have ek : k.toNatClampNeg = k.toInt.toNat := rfl
        intro c g0 g1
        have a1 := h k.toNatClampNeg (by omega) c g0 g1
        have ej : (j : Int) = kn.toInt := by omega
        rw [show ((k.toNatClampNeg : Nat) : Int) = k.toInt by omega] at a1
        have e5 : kF pb (j : Int) = k.toInt := by
          rw [ej, kF_in (by omega) (by omega), e1, show kn.toInt.toNat = kn.toNatClampNeg from rfl, pk_us]
        rw [e2, q, pk_us, ← q, Ch_nx (by omega), e5, ← a1]
        exact kF_new he (fun j _ => hd j) (by omega) (by omega) (Or.inl (by omega))
      · intro c g0 g1
        rw [e2, pk_un q, ← h j (by omega) c g0 g1]
        exact kF_new he (fun j _ => hd j) (by omega) (by omega) (Or.inl (by omega))
theorem SoR_0 {pa so : Nat → Int32} {kn : Int32} (h6 : K6 pa) (hn : kn.toInt = 6) (hs : ∀ k : Nat, k < 6 → (so k).toInt = (k : Int)) : SoR pa so kn := by
  intro k hk c g0 g1
  rw [hs k (by omega)]
  constructor
  · intro h
    rcases (show k = 0 ∨ k = 1 ∨ (2 ≤ k ∧ k ≤ 5) by omega) with z | z | z
    · rw [z] at h; have := K6_0 h6 h; omega
    · rw [z] at h; have := K6_1 h6 h; omega
    · have := K6_a h6 (a := (k : Int)) (by omega) h; omega
  · intro h
    rcases h with h | ⟨h1, h2⟩
    · rw [h]; exact Ch_rf
    · rw [h1]; exact Ch_up (by rw [K6_f h6 (by omega)]; exact Ch_rf)
theorem RB_e {pa ko so cs cl pa2 ko2 cs2 cl2 : Nat → Int32} {w n1 o w2 n2 o2 kn ob : Int32} (h6 : K6 pa2) (e1 : pa = pa2) (e2 : ko = ko2) (e3 : cs = cs2) (e4 : cl = cl2) (hS : SoR pa so kn) (hk : ∀ j : Nat, (j : Int) < ob.toInt → (ko2 j).toInt < kn.toInt) (hk0 : ∀ j, 0 ≤ (ko2 j).toInt) (hc : 0 ≤ (cs w.toNatClampNeg).toInt ∧ (cs w.toNatClampNeg).toInt ≤ 5) (ho : o.toInt = -9 ∨ (0 ≤ o.toInt ∧ o.toInt < ob.toInt)) (ew : w2.toInt = w.toInt) (en : n2.toInt = n1.toInt) (eo : o2.toInt = o.toInt) : RBx ko so cs cl w n1 o ↔ RBm pa2 ko2 cs2 cl2 w2 n2 o2 := by
  subst e1 e2 e3 e4
  unfold RBx RBm
  rw [cl_e ew, en, eo]
  rcases ho with ho | ho
  · constructor <;> exact fun h => ⟨h.1, h.2.1, Or.inl ho⟩
  · have q1 := hk o.toInt.toNat (by omega)
    have q2 := hk0 o.toInt.toNat
    have ek : (ko o.toInt.toNat).toNatClampNeg = (ko o.toInt.toNat).toInt.toNat := rfl
    have a0 := hS (ko o.toInt.toNat).toNatClampNeg (by omega)
    rw [show (((ko o.toInt.toNat).toNatClampNeg : Nat) : Int) = (ko o.toInt.toNat).toInt by omega] at a0
    have b0 : Kd pa ko o.toInt 0 ↔ _ := a0 0 (by omega) (by omega)
    have b1 : Kd pa ko o.toInt (cs w.toNatClampNeg).toInt ↔ _ := a0 _ hc.1 hc.2
    rw [b0, b1]
    constructor
    · intro ⟨h1, h2, h3⟩
      refine ⟨h1, h2, ?_⟩
      rcases h3 with h3 | ⟨h3, h4⟩
      · exact Or.inl h3
      · exact Or.inr ⟨by omega, h4⟩
    · intro ⟨h1, h2, h3⟩
      refine ⟨h1, h2, ?_⟩
      rcases h3 with h3 | ⟨h3, h4⟩
      · exact Or.inl h3
      · exact Or.inr ⟨by omega, h4⟩
theorem RoW_e {a b a2 b2 : Nat → Int32} {w n1 o md ob r w2 n2 o2 md2 ob2 r2 : Int32} {B B2 : Prop} (h1 : RoW a b w n1 o md ob r B) (h2 : RoW a2 b2 w2 n2 o2 md2 ob2 r2 B2) (hB : RA w o md ob → (B ↔ B2)) (ew : w2.toInt = w.toInt) (eo : o2.toInt = o.toInt) (em : md.toInt = md2.toInt) (eb : ob.toInt = ob2.toInt) : r = r2 := by
  have hA : RA w o md ob ↔ RA w2 o2 md2 ob2 := by unfold RA; rw [ew, eo, em, eb]
  apply Int32.toInt_inj.mp
  unfold RoW at h1 h2
  rcases h1 with ⟨c1, c2, _⟩ | ⟨c1, c3, c2, _⟩ | ⟨c1, c3, c2, _⟩ <;> rcases h2 with ⟨d1, d2, _⟩ | ⟨d1, d3, d2, _⟩ | ⟨d1, d3, d2, _⟩
  · omega
  · exact absurd (hA.mpr d1) c1
  · exact absurd (hA.mpr d1) c1
  · exact absurd (hA.mp c1) d1
  · omega
  · exact absurd ((hB c1).mpr d3) c3
  · exact absurd (hA.mp c1) d1
  · exact absurd ((hB c1).mp c3) d3
  · omega
theorem RoR_r {a b a2 b2 : Nat → Int32} {w n1 o md ob r w2 n2 o2 md2 ob2 r2 : Int32} {B B2 : Prop} (h : RoR a a2 md) (h1 : RoW a b w n1 o md ob r B) (h2 : RoW a2 b2 w2 n2 o2 md2 ob2 r2 B2) (hB : RA w o md ob → (B ↔ B2)) (hB2 : B → 0 ≤ n1.toInt ∧ n1.toInt ≤ 11) (ew : w2.toInt = w.toInt) (en : n2.toInt = n1.toInt) (eo : o2.toInt = o.toInt) (em : md.toInt = md2.toInt) (eb : ob.toInt = ob2.toInt) (hm : md.toInt ≤ 10) : RoR b b2 md := by
  have hA : RA w o md ob ↔ RA w2 o2 md2 ob2 := by unfold RA; rw [ew, eo, em, eb]
  unfold RoW at h1 h2
  rcases h1 with ⟨c1, c2, e1⟩ | ⟨c1, c3, c2, e1⟩ | ⟨c1, c3, c2, e1⟩ <;> rcases h2 with ⟨d1, d2, e2⟩ | ⟨d1, d3, d2, e2⟩ | ⟨d1, d3, d2, e2⟩
  · rw [e1, e2]; exact h
  · exact absurd (hA.mpr d1) c1
  · exact absurd (hA.mpr d1) c1
  · exact absurd (hA.mp c1) d1
  · rw [e1, e2]; exact h
  · exact absurd ((hB c1).mpr d3) c3
  · exact absurd (hA.mp c1) d1
  · exact absurd ((hB c1).mp c3) d3
  · obtain ⟨r0, r1, _⟩ := c1
    have hn := hB2 c3
    rw [e1, e2, ew, en, show o2 = o from Int32.toInt_inj.mp eo]
    intro j hj
    obtain ⟨g1, g2⟩ := h j hj
    by_cases q : j = (w.toInt * 12 + n1.toInt).toNat
    · subst q
      rw [pk_us, pk_us]
      exact ⟨fun _ => rfl, fun z => by exfalso; omega⟩
    · rw [pk_un q, pk_un q]; exact ⟨g1, g2⟩
theorem CU_e {a b a2 b2 c e r c2 e2 r2 : Nat → Int32} {s1 n1 md s2 n2 md2 : Int32} (ha : a = c) (hb : b = e) (h1 : CUx a b a2 b2 s1 n1 md) (h2 : CUm c e r c2 e2 r2 s2 n2 md2) (es : s2.toInt = s1.toInt) (en : n2.toInt = n1.toInt) (em : md.toInt = md2.toInt) : a2 = c2 ∧ b2 = e2 := by
  subst ha hb
  unfold CUx CNew at h1
  unfold CUm CNew at h2
  rcases h1 with ⟨c1, x1, x2⟩ | ⟨c1, x1, x2⟩ <;> rcases h2 with ⟨d1, y1, y2, _⟩ | ⟨d1, y1, y2, _⟩
  · rw [x1, x2, y1, y2]; exact ⟨rfl, rfl⟩
  · exfalso; omega
  · exfalso; omega
  · rw [x1, x2, y1, y2, show s2 = s1 from Int32.toInt_inj.mp es, show n2 = n1 from Int32.toInt_inj.mp en, show md2 = md from Int32.toInt_inj.mp em.symm]; exact ⟨rfl, rfl⟩
theorem RoR_c {x c e r c2 e2 r2 : Nat → Int32} {s2 n2 md md2 mdn : Int32} (h : RoR x r md) (h2 : CUm c e r c2 e2 r2 s2 n2 md2) (em : md.toInt = md2.toInt) (hm : 0 ≤ md.toInt) (h3 : (¬ CNew s2 n2 md2 ∧ mdn.toInt = md.toInt) ∨ (CNew s2 n2 md2 ∧ mdn.toInt = md.toInt + 1)) : RoR x r2 mdn := by
  unfold CUm at h2
  rcases h2 with ⟨d1, _, _, y3⟩ | ⟨d1, _, _, y3⟩
  · rcases h3 with ⟨_, g⟩ | ⟨g, _⟩
    · rw [y3]; intro j hj; rw [g]; exact h j hj
    · exact absurd g d1
  · rcases h3 with ⟨g, _⟩ | ⟨_, g⟩
    · exact absurd d1 g
    · intro j hj
      obtain ⟨g1, g2⟩ := h j hj
      refine ⟨fun hl => ?_, fun hl => g2 (by omega)⟩
      rw [y3 j]
      by_cases p : 12 * md2.toInt ≤ (j : Int) ∧ (j : Int) < 12 * md2.toInt + 12
      · rw [if_pos p]; exact Int32.toInt_inj.mp (by rw [g2 (by omega)]; decide)
      · rw [if_neg p]; exact g1 (by omega)
theorem WhR_e {ro cl ro2 cl2 : Nat → Int32} {w n1 md r w2 n2 md2 r2 : Int32} (e4 : cl = cl2) (h : RoR ro ro2 md) (h1 : WhR ro cl w n1 md r) (h2 : WhR ro2 cl2 w2 n2 md2 r2) (ew : w2.toInt = w.toInt) (en : n2.toInt = n1.toInt) (em : md.toInt = md2.toInt) (hm : md.toInt ≤ 10) : r = r2 := by
  subst e4
  apply Int32.toInt_inj.mp
  unfold WhR at h1 h2
  rw [cl_e ew, ew, en, ← em] at h2
  by_cases q : 0 ≤ w.toInt ∧ w.toInt < md.toInt ∧ 0 ≤ n1.toInt ∧ n1.toInt ≤ 11
  · have g := (h (w.toInt * 12 + n1.toInt).toNat (by omega)).1 (by omega)
    rw [← g] at h2
    rcases h1 with h1 | h1 | ⟨_, _, _, _, _, h1 | ⟨_, h1⟩⟩ <;> rcases h2 with h2 | h2 | ⟨_, _, _, _, _, h2 | ⟨_, h2⟩⟩
    all_goals first | omega | (rw [h1, h2]) | (exfalso; omega)
  · rcases h1 with h1 | h1 | h1 <;> rcases h2 with h2 | h2 | h2
    all_goals first | omega | (exfalso; omega)
/-! by which sentences something is as it is: the rows of the class -/
def Px (F A S : Nat → Int32) (n : Int) (k s : Nat) : Prop := (s : Int) < n ∧ (S s).toInt = 1 ∧ (F s).toInt < 5 ∧ (A s).toInt = (k : Int)
def Ex (F A C S : Nat → Int32) (n : Int) (k s : Nat) : Prop := (s : Int) < n ∧ (S s).toInt = 1 ∧ (F s).toInt = 5 ∧ (A s).toInt * 10 + (C s).toInt = (k : Int)
def Fx (F A B S : Nat → Int32) (n : Int) (k s : Nat) : Prop := (s : Int) < n ∧ (S s).toInt = 1 ∧ (F s).toInt = 6 ∧ (A s).toInt * 6 + (B s).toInt = (k : Int)
def Kx (F B S : Nat → Int32) (n : Int) (k s : Nat) : Prop := (s : Int) < n ∧ (S s).toInt = 1 ∧ (F s).toInt = 7 ∧ (B s).toInt = (k : Int)
def Ix (P : Nat → Nat → Prop) (m : Nat) (b : Nat → Int32) : Prop := ∀ k s : Nat, k < m → (P k s ↔ (b k).toInt = (s : Int))
def Cx (F B pb ce : Nat → Int32) : Prop := ∀ o : Nat, o < 30 → ((pb o).toInt = -9 ∧ (ce o).toInt = 255) ∨ (0 ≤ (pb o).toInt ∧ (ce o).toInt = (B (pb o).toNatClampNeg).toInt * 8 + (F (pb o).toNatClampNeg).toInt)
def V6 (F C : Nat → Int32) (n : Int) : Prop := ∀ s : Nat, (s : Int) < n → (F s).toInt = 6 → (C s).toInt ≤ 1
def IX (F A B C S : Nat → Int32) (n : Int) (pb eb fb kb ce : Nat → Int32) : Prop := Ix (Px F A S n) 30 pb ∧ Ix (Ex F A C S n) 300 eb ∧ Ix (Fx F A B S n) 180 fb ∧ Ix (Kx F B S n) 30 kb ∧ Cx F B pb ce ∧ V6 F C n
theorem Ix_same {P P2 : Nat → Nat → Prop} {m : Nat} {b : Nat → Int32} (h : Ix P m b) (e : ∀ k s, k < m → (P2 k s ↔ P k s)) : Ix P2 m b := fun k s hk => (e k s hk).trans (h k s hk)
theorem Ix_add {P P2 : Nat → Nat → Prop} {m k0 s0 : Nat} {b : Nat → Int32} {v : Int32} (h : Ix P m b) (h0 : (b k0).toInt = -9) (hv : v.toInt = (s0 : Int)) (hm : k0 < m) (e : ∀ k s, k < m → (P2 k s ↔ P k s ∨ (k = k0 ∧ s = s0))) : Ix P2 m (upd b k0 v) := fun k s hk => by
  rw [e k s hk]
  by_cases q : k = k0
  · subst q
    rw [pk_us]
    have w := h k s hk
    constructor
    · rintro (z | z)
      · have := w.mp z; omega
      · omega
    · intro z; exact Or.inr ⟨rfl, by omega⟩
  · rw [pk_un q]
    exact ⟨fun z => (h k s hk).mp (z.resolve_right (fun y => q y.1)), fun z => Or.inl ((h k s hk).mpr z)⟩
theorem Ix_rm {P P2 : Nat → Nat → Prop} {m k0 s0 : Nat} {b : Nat → Int32} {v : Int32} (h : Ix P m b) (h0 : P k0 s0) (hv : v.toInt = -9) (hm : k0 < m) (hu : ∀ k, P k s0 → k = k0) (e : ∀ k s, k < m → (P2 k s ↔ P k s ∧ ¬ s = s0)) : Ix P2 m (upd b k0 v) := fun k s hk => by
  rw [e k s hk]
  by_cases q : k = k0
  · subst q
    rw [pk_us]
    have w := (h k s0 hk).mp h0
    constructor
    · rintro ⟨z, y⟩
      have := (h k s hk).mp z
      omega
    · intro z; omega
  · rw [pk_un q]
    constructor
    · intro z; exact (h k s hk).mp z.1
    · intro z
      have z2 := (h k s hk).mpr z
      exact ⟨z2, fun y => q (hu k (by rw [← y]; exact z2))⟩
theorem Ix_at {P : Nat → Nat → Prop} {m k : Nat} {b : Nat → Int32} (h : Ix P m b) (hm : k < m) (hr : (b k).toInt = -9 ∨ 0 ≤ (b k).toInt) : ((b k).toInt = -9 ∧ ∀ s, ¬ P k s) ∨ (0 ≤ (b k).toInt ∧ P k (b k).toNatClampNeg ∧ ∀ s, P k s → s = (b k).toNatClampNeg) := by
  have e : (b k).toNatClampNeg = (b k).toInt.toNat := rfl
  rcases hr with q | q
  · exact Or.inl ⟨q, fun s z => by have := (h k s hm).mp z; omega⟩
  · exact Or.inr ⟨q, (h k _ hm).mpr (by omega), fun s z => by have := (h k s hm).mp z; omega⟩
theorem un_i {n : Int} {s : Nat} (hn : 0 ≤ n) (h : (s : Int) < n) : ¬ s = n.toNat := by omega
/-- a sentence more -/
theorem IX_add {F A B C S pb eb fb kb ce pb2 eb2 fb2 kb2 ce2 : Nat → Int32} {n : Int} {f a b c v : Int32} (h : IX F A B C S n pb eb fb kb ce) (hn : 0 ≤ n) (hv : v.toInt = n) (hf : 0 ≤ f.toInt ∧ f.toInt ≤ 7) (ha : 0 ≤ a.toInt ∧ a.toInt ≤ 29) (hb : 0 ≤ b.toInt ∧ b.toInt ≤ 29) (h6 : f.toInt = 6 → b.toInt ≤ 5 ∧ c.toInt ≤ 1) (h5 : f.toInt = 5 → 0 ≤ c.toInt ∧ c.toInt ≤ 9) (hfr : (sFv pb eb fb kb f.toInt a.toInt b.toInt c.toInt).toInt = -9) (hp : PT pb eb fb kb ce pb2 eb2 fb2 kb2 ce2 f.toInt a.toInt b.toInt c.toInt v) : IX (upd F n.toNat f) (upd A n.toNat a) (upd B n.toNat b) (upd C n.toNat c) (upd S n.toNat 1) (n + 1) pb2 eb2 fb2 kb2 ce2 := by
  obtain ⟨i1, i2, i3, i4, i5, i6⟩ := h
  have one : (1 : Int32).toInt = 1 := by decide
  have e1 : ∀ k s, Px (upd F n.toNat f) (upd A n.toNat a) (upd S n.toNat 1) (n + 1) k s ↔ Px F A S n k s ∨ (f.toInt < 5 ∧ a.toInt = (k : Int) ∧ s = n.toNat) := fun k s => by
    unfold Px
    by_cases q : s = n.toNat
    · subst q; rw [pk_us, pk_us, pk_us]; omega
    · rw [pk_un q, pk_un q, pk_un q]; omega
  have e2 : ∀ k s, Ex (upd F n.toNat f) (upd A n.toNat a) (upd C n.toNat c) (upd S n.toNat 1) (n + 1) k s ↔ Ex F A C S n k s ∨ (f.toInt = 5 ∧ a.toInt * 10 + c.toInt = (k : Int) ∧ s = n.toNat) := fun k s => by
    unfold Ex
    by_cases q : s = n.toNat
    · subst q; rw [pk_us, pk_us, pk_us, pk_us]; omega
    · rw [pk_un q, pk_un q, pk_un q, pk_un q]; omega
  have e3 : ∀ k s, Fx (upd F n.toNat f) (upd A n.toNat a) (upd B n.toNat b) (upd S n.toNat 1) (n + 1) k s ↔ Fx F A B S n k s ∨ (f.toInt = 6 ∧ a.toInt * 6 + b.toInt = (k : Int) ∧ s = n.toNat) := fun k s => by
    unfold Fx
    by_cases q : s = n.toNat
    · subst q; rw [pk_us, pk_us, pk_us, pk_us]; omega
    · rw [pk_un q, pk_un q, pk_un q, pk_un q]; omega
  have e4 : ∀ k s, Kx (upd F n.toNat f) (upd B n.toNat b) (upd S n.toNat 1) (n + 1) k s ↔ Kx F B S n k s ∨ (f.toInt = 7 ∧ b.toInt = (k : Int) ∧ s = n.toNat) := fun k s => by
    unfold Kx
    by_cases q : s = n.toNat
    · subst q; rw [pk_us, pk_us, pk_us]; omega
    · rw [pk_un q, pk_un q, pk_un q]; omega
  have i6' : V6 (upd F n.toNat f) (upd C n.toNat c) (n + 1) := fun s hs q => by
    by_cases z : s = n.toNat
    · subst z; rw [pk_us] at q ⊢; exact (h6 q).2
    · rw [pk_un z] at q ⊢; exact i6 s (by omega) q
  have i5' : Cx (upd F n.toNat f) (upd B n.toNat b) pb ce := fun o ho => by
    rcases i5 o ho with q | q
    · exact Or.inl q
    · have e : (pb o).toNatClampNeg = (pb o).toInt.toNat := rfl
      have w := (i1 o (pb o).toNatClampNeg ho).mpr (by omega)
      have z : ¬ (pb o).toNatClampNeg = n.toNat := un_i hn w.1
      rw [pk_un z, pk_un z]
      exact Or.inr q
  have nsm : ∀ {P P2 : Nat → Nat → Prop} {Q : Nat → Nat → Prop} {m : Nat} {x : Nat → Int32}, Ix P m x → (∀ k s, P2 k s ↔ P k s ∨ Q k s) → (∀ k s, ¬ Q k s) → Ix P2 m x := fun hI e nq => Ix_same hI (fun k s _ => (e k s).trans ⟨fun z => z.resolve_right (nq k s), Or.inl⟩)
  unfold sFv at hfr
  rcases hp with ⟨q, r1, r2, r3, r4, r5⟩ | ⟨q, r1, r2, r3, r4, r5⟩ | ⟨q, r1, r2, r3, r4, r5⟩ | ⟨q, r1, r2, r3, r4, w, r5, r6⟩
  · rw [if_pos q] at hfr
    rw [r1, r2, r3, r4, r5]
    have hc := h5 q
    refine ⟨nsm i1 e1 (fun k s z => by omega), Ix_add i2 hfr (s0 := n.toNat) (by omega) (by omega) (fun k s _ => (e2 k s).trans ⟨fun z => z.imp_right (fun y => by omega), fun z => z.imp_right (fun y => by omega)⟩), nsm i3 e3 (fun k s z => by omega), nsm i4 e4 (fun k s z => by omega), i5', i6'⟩
  · rw [if_neg (by omega), if_pos q] at hfr
    rw [r1, r2, r3, r4, r5]
    have hc := h6 q
    refine ⟨nsm i1 e1 (fun k s z => by omega), nsm i2 e2 (fun k s z => by omega), Ix_add i3 hfr (s0 := n.toNat) (by omega) (by omega) (fun k s _ => (e3 k s).trans ⟨fun z => z.imp_right (fun y => by omega), fun z => z.imp_right (fun y => by omega)⟩), nsm i4 e4 (fun k s z => by omega), i5', i6'⟩
  · rw [if_neg (by omega), if_neg (by omega), if_pos q] at hfr
    rw [r1, r2, r3, r4, r5]
    refine ⟨nsm i1 e1 (fun k s z => by omega), nsm i2 e2 (fun k s z => by omega), nsm i3 e3 (fun k s z => by omega), Ix_add i4 hfr (s0 := n.toNat) (by omega) (by omega) (fun k s _ => (e4 k s).trans ⟨fun z => z.imp_right (fun y => by omega), fun z => z.imp_right (fun y => by omega)⟩), i5', i6'⟩
  · rw [if_neg (by omega), if_neg (by omega), if_neg (by omega)] at hfr
    rw [r1, r2, r3, r4, r5]
    refine ⟨Ix_add i1 hfr (s0 := n.toNat) (by omega) (by omega) (fun k s _ => (e1 k s).trans ⟨fun z => z.imp_right (fun y => by omega), fun z => z.imp_right (fun y => by omega)⟩), nsm i2 e2 (fun k s z => by omega), nsm i3 e3 (fun k s z => by omega), nsm i4 e4 (fun k s z => by omega), fun o ho => ?_, i6'⟩
    by_cases z : o = a.toInt.toNat
    · subst z
      rw [pk_us, pk_us, show v.toNatClampNeg = n.toNat by show v.toInt.toNat = n.toNat; rw [hv], pk_us, pk_us]
      exact Or.inr ⟨by omega, by omega⟩
    · rw [pk_un z, pk_un z]; exact i5' o ho
/-- a sentence is taken back -/
theorem IX_rm {F A B C S pb eb fb kb ce pb2 eb2 fb2 kb2 ce2 : Nat → Int32} {n : Int} {s0 : Nat} {v : Int32} (h : IX F A B C S n pb eb fb kb ce) (hs : (s0 : Int) < n) (hS : (S s0).toInt = 1) (hv : v.toInt = -9) (ha : 0 ≤ (A s0).toInt ∧ (A s0).toInt ≤ 29) (hb : 0 ≤ (B s0).toInt ∧ (B s0).toInt ≤ 29) (h6 : (F s0).toInt = 6 → (B s0).toInt ≤ 5) (hc : 0 ≤ (C s0).toInt ∧ (C s0).toInt ≤ 9) (hp : PT pb eb fb kb ce pb2 eb2 fb2 kb2 ce2 (F s0).toInt (A s0).toInt (B s0).toInt (C s0).toInt v) : IX F A B C (upd S s0 0) n pb2 eb2 fb2 kb2 ce2 := by
  obtain ⟨i1, i2, i3, i4, i5, i6⟩ := h
  have zero : (0 : Int32).toInt = 0 := by decide
  have e1 : ∀ k s, Px F A (upd S s0 0) n k s ↔ Px F A S n k s ∧ ¬ s = s0 := fun k s => by
    unfold Px
    by_cases q : s = s0
    · subst q; rw [pk_us]; omega
    · rw [pk_un q]; omega
  have e2 : ∀ k s, Ex F A C (upd S s0 0) n k s ↔ Ex F A C S n k s ∧ ¬ s = s0 := fun k s => by
    unfold Ex
    by_cases q : s = s0
    · subst q; rw [pk_us]; omega
    · rw [pk_un q]; omega
  have e3 : ∀ k s, Fx F A B (upd S s0 0) n k s ↔ Fx F A B S n k s ∧ ¬ s = s0 := fun k s => by
    unfold Fx
    by_cases q : s = s0
    · subst q; rw [pk_us]; omega
    · rw [pk_un q]; omega
  have e4 : ∀ k s, Kx F B (upd S s0 0) n k s ↔ Kx F B S n k s ∧ ¬ s = s0 := fun k s => by
    unfold Kx
    by_cases q : s = s0
    · subst q; rw [pk_us]; omega
    · rw [pk_un q]; omega
  have nsm : ∀ {P P2 : Nat → Nat → Prop} {m : Nat} {x : Nat → Int32}, Ix P m x → (∀ k s, P2 k s ↔ P k s ∧ ¬ s = s0) → (∀ k, ¬ P k s0) → Ix P2 m x := fun hI e nq => Ix_same hI (fun k s _ => (e k s).trans ⟨fun z => z.1, fun z => ⟨z, fun y => nq k (by rw [← y]; exact z)⟩⟩)
  have n1 : ¬ (F s0).toInt < 5 → ∀ k, ¬ Px F A S n k s0 := fun q k z => q z.2.2.1
  have n2 : ¬ (F s0).toInt = 5 → ∀ k, ¬ Ex F A C S n k s0 := fun q k z => q z.2.2.1
  have n3 : ¬ (F s0).toInt = 6 → ∀ k, ¬ Fx F A B S n k s0 := fun q k z => q z.2.2.1
  have n4 : ¬ (F s0).toInt = 7 → ∀ k, ¬ Kx F B S n k s0 := fun q k z => q z.2.2.1
  rcases hp with ⟨q, r1, r2, r3, r4, r5⟩ | ⟨q, r1, r2, r3, r4, r5⟩ | ⟨q, r1, r2, r3, r4, r5⟩ | ⟨q, r1, r2, r3, r4, w, r5, r6⟩
  · rw [r1, r2, r3, r4, r5]
    exact ⟨nsm i1 e1 (n1 (by omega)), Ix_rm i2 (s0 := s0) ⟨hs, hS, q, by omega⟩ hv (by omega) (fun k z => by have y := z.2.2.2; omega) (fun k s _ => e2 k s), nsm i3 e3 (n3 (by omega)), nsm i4 e4 (n4 (by omega)), i5, i6⟩
  · rw [r1, r2, r3, r4, r5]
    have hb2 := h6 q
    exact ⟨nsm i1 e1 (n1 (by omega)), nsm i2 e2 (n2 (by omega)), Ix_rm i3 (s0 := s0) ⟨hs, hS, q, by omega⟩ hv (by omega) (fun k z => by have y := z.2.2.2; omega) (fun k s _ => e3 k s), nsm i4 e4 (n4 (by omega)), i5, i6⟩
  · rw [r1, r2, r3, r4, r5]
    exact ⟨nsm i1 e1 (n1 (by omega)), nsm i2 e2 (n2 (by omega)), nsm i3 e3 (n3 (by omega)), Ix_rm i4 (s0 := s0) ⟨hs, hS, q, by omega⟩ hv (by omega) (fun k z => by have y := z.2.2.2; omega) (fun k s _ => e4 k s), i5, i6⟩
  · rw [r1, r2, r3, r4, r5]
    refine ⟨Ix_rm i1 (s0 := s0) ⟨hs, hS, q, by omega⟩ hv (by omega) (fun k z => by have y := z.2.2.2; omega) (fun k s _ => e1 k s), nsm i2 e2 (n2 (by omega)), nsm i3 e3 (n3 (by omega)), nsm i4 e4 (n4 (by omega)), fun o ho => ?_, i6⟩
    by_cases z : o = (A s0).toInt.toNat
    · subst z
      rw [pk_us, pk_us]
      exact Or.inl ⟨hv, by omega⟩
    · rw [pk_un z, pk_un z]; exact i5 o ho
/-- the ranges of the rows -/
def RR (F A B C pb eb fb kb : Nat → Int32) : Prop := (∀ s, 0 ≤ (F s).toInt ∧ (F s).toInt ≤ 7 ∧ 0 ≤ (A s).toInt ∧ (A s).toInt ≤ 29 ∧ 0 ≤ (B s).toInt ∧ (B s).toInt ≤ 29 ∧ 0 ≤ (C s).toInt ∧ (C s).toInt ≤ 9) ∧ (∀ k, ((pb k).toInt = -9 ∨ 0 ≤ (pb k).toInt) ∧ ((eb k).toInt = -9 ∨ 0 ≤ (eb k).toInt) ∧ ((fb k).toInt = -9 ∨ 0 ≤ (fb k).toInt) ∧ ((kb k).toInt = -9 ∨ 0 ≤ (kb k).toInt)) ∧ ∀ s, (F s).toInt = 6 → (B s).toInt ≤ 5
theorem IX_pL {F A B C S pb eb fb kb ce : Nat → Int32} {n : Int} (h : IX F A B C S n pb eb fb kb ce) (hr : RR F A B C pb eb fb kb) {x : Int} (h0 : 0 ≤ x) (h1 : x ≤ 29) : pL F A S n x = (pb x.toNat).toInt := by
  have e : (pb x.toNat).toNatClampNeg = (pb x.toNat).toInt.toNat := rfl
  refine (fsF_e ?_).symm
  rcases Ix_at h.1 (k := x.toNat) (by omega) (hr.2.1 _).1 with ⟨a, b⟩ | ⟨a, b, d⟩
  · exact Or.inl ⟨a, fun s hs q => b s ⟨by omega, q.1, q.2.1, by rw [q.2.2]; omega⟩⟩
  · refine Or.inr ⟨(pb x.toNat).toNatClampNeg, by omega, by have := b.1; omega, ⟨b.2.1, b.2.2.1, by have := b.2.2.2; omega⟩, fun s hs q => ?_⟩
    have := d s ⟨by have := b.1; omega, q.1, q.2.1, by rw [q.2.2]; omega⟩
    omega
theorem IX_hF {F A B C S pb eb fb kb ce : Nat → Int32} {n : Int} (h : IX F A B C S n pb eb fb kb ce) (hr : RR F A B C pb eb fb kb) : hF ce = fP F A B S n := by
  funext x
  unfold hF fP
  by_cases q : 0 ≤ x ∧ x ≤ 29
  · have w := IX_pL h hr q.1 q.2
    have rF := hr.1 (pb x.toNat).toNatClampNeg
    have e : (pb x.toNat).toNatClampNeg = (pb x.toNat).toInt.toNat := rfl
    rw [w]
    rcases Ix_at h.1 (k := x.toNat) (by omega) (hr.2.1 _).1 with ⟨a, b⟩ | ⟨a, b, d⟩
    · rcases h.2.2.2.2.1 x.toNat (by omega) with c | c
      · rw [if_neg (fun y => by omega), if_neg (fun y => y.2.2 a)]
      · exfalso; omega
    · rcases h.2.2.2.2.1 x.toNat (by omega) with c | c
      · exfalso; omega
      · have f5 := b.2.2.1
        rw [if_pos ⟨q.1, q.2, by omega⟩, if_pos ⟨q.1, q.2, by omega⟩, ← e]
        omega
  · rw [if_neg (fun y => q ⟨y.1, y.2.1⟩), if_neg (fun y => q ⟨y.1, y.2.1⟩)]
theorem Sy_e {F A B C S pb eb fb kb ce : Nat → Int32} {n a g v : Int} (h : IX F A B C S n pb eb fb kb ce) (hr : RR F A B C pb eb fb kb) (ha : 0 ≤ a ∧ a ≤ 29) (hg : 0 ≤ g ∧ g ≤ 5) : SyX fb C a g v ↔ ∃ s : Nat, (s : Int) < n ∧ sE F A B C S 6 a g v s := by
  have e : (fb (a * 6 + g).toNat).toNatClampNeg = (fb (a * 6 + g).toNat).toInt.toNat := rfl
  unfold SyX
  constructor
  · rintro ⟨q1, q2⟩
    rcases Ix_at h.2.2.1 (k := (a * 6 + g).toNat) (by omega) (hr.2.1 _).2.2.1 with ⟨x, b⟩ | ⟨x, b, d⟩
    · exact absurd x q1
    · have r := hr.1 (fb (a * 6 + g).toNat).toNatClampNeg
      have k := b.2.2.2
      have r6 := hr.2.2 _ b.2.2.1
      exact ⟨_, b.1, b.2.1, b.2.2.1, by omega, by omega, q2⟩
  · rintro ⟨s, q, w1, w2, w3, w4, w5⟩
    have z := (h.2.2.1 (a * 6 + g).toNat s (by omega)).mp ⟨q, w1, w2, by omega⟩
    refine ⟨by omega, ?_⟩
    rw [show (fb (a * 6 + g).toNat).toNatClampNeg = s by omega]; exact w5
theorem Do_e {F A B C S pb eb fb kb ce : Nat → Int32} {n a b : Int} (h : IX F A B C S n pb eb fb kb ce) (hr : RR F A B C pb eb fb kb) (ha : 0 ≤ a ∧ a ≤ 29) : (∃ d : Nat, (d : Int) < 10 ∧ DP eb B a b d) ↔ ∃ s : Nat, (s : Int) < n ∧ aP F A B S a b s := by
  constructor
  · rintro ⟨d, q, q1, q2⟩
    have e : (eb (a * 10 + (d : Int)).toNat).toNatClampNeg = (eb (a * 10 + (d : Int)).toNat).toInt.toNat := rfl
    rcases Ix_at h.2.1 (k := (a * 10 + (d : Int)).toNat) (by omega) (hr.2.1 _).2.1 with ⟨x, b⟩ | ⟨x, b, y⟩
    · exact absurd x q1
    · have r := hr.1 (eb (a * 10 + (d : Int)).toNat).toNatClampNeg
      have k := b.2.2.2
      exact ⟨_, b.1, b.2.1, b.2.2.1, by omega, q2⟩
  · rintro ⟨s, q, w1, w2, w3, w4⟩
    have r := hr.1 s
    have ec : (((C s).toInt.toNat : Nat) : Int) = (C s).toInt := by omega
    have z := (h.2.1 (a * 10 + (((C s).toInt.toNat : Nat) : Int)).toNat s (by omega)).mp ⟨q, w1, w2, by omega⟩
    refine ⟨(C s).toInt.toNat, by omega, by omega, ?_⟩
    rw [show (eb (a * 10 + (((C s).toInt.toNat : Nat) : Int)).toNat).toNatClampNeg = s by show (eb (a * 10 + (((C s).toInt.toNat : Nat) : Int)).toNat).toInt.toNat = s; omega]; exact w4
/-- where a slot is free or not -/
theorem Sl_e {F A B C S pb eb fb kb ce : Nat → Int32} {n f a b c : Int} (h : IX F A B C S n pb eb fb kb ce) (hr : RR F A B C pb eb fb kb) (hf : 0 ≤ f ∧ f ≤ 7) (ha : 0 ≤ a ∧ a ≤ 29) (hb : 0 ≤ b ∧ b ≤ 29) (h6 : f = 6 → b ≤ 5) (h5 : f = 5 → 0 ≤ c ∧ c ≤ 9) : ((sFv pb eb fb kb f a b c).toInt = -9 ∨ 0 ≤ (sFv pb eb fb kb f a b c).toInt) ∧ ∀ s : Nat, (sFv pb eb fb kb f a b c).toInt = (s : Int) ↔ (s : Int) < n ∧ (S s).toInt = 1 ∧ ((f = 5 ∧ (F s).toInt = 5 ∧ (A s).toInt = a ∧ (C s).toInt = c) ∨ (f = 6 ∧ (F s).toInt = 6 ∧ (A s).toInt = a ∧ (B s).toInt = b) ∨ (f = 7 ∧ (F s).toInt = 7 ∧ (B s).toInt = b) ∨ (f < 5 ∧ (F s).toInt < 5 ∧ (A s).toInt = a)) := by
  unfold sFv
  by_cases q5 : f = 5
  · rw [if_pos q5]
    have hc := h5 q5
    refine ⟨(hr.2.1 _).2.1, fun s => ?_⟩
    rw [← h.2.1 (a * 10 + c).toNat s (by omega)]
    have r := hr.1 s
    unfold Ex
    omega
  · rw [if_neg q5]
    by_cases q6 : f = 6
    · rw [if_pos q6]
      have hc := h6 q6
      refine ⟨(hr.2.1 _).2.2.1, fun s => ?_⟩
      rw [← h.2.2.1 (a * 6 + b).toNat s (by omega)]
      have r := hr.1 s
      have r6 := hr.2.2 s
      unfold Fx
      constructor
      · rintro ⟨z1, z2, z3, z4⟩
        have z5 := r6 z3
        omega
      · omega
    · rw [if_neg q6]
      by_cases q7 : f = 7
      · rw [if_pos q7]
        refine ⟨(hr.2.1 _).2.2.2, fun s => ?_⟩
        rw [← h.2.2.2.1 b.toNat s (by omega)]
        unfold Kx
        omega
      · rw [if_neg q7]
        refine ⟨(hr.2.1 _).1, fun s => ?_⟩
        rw [← h.1 a.toNat s (by omega)]
        unfold Px
        omega
theorem SX_e {F A B C S pb eb fb kb ce : Nat → Int32} {n f a b c : Int} (h : IX F A B C S n pb eb fb kb ce) (hr : RR F A B C pb eb fb kb) (hf : 0 ≤ f ∧ f ≤ 7) (ha : 0 ≤ a ∧ a ≤ 29) (hb : 0 ≤ b ∧ b ≤ 29) (h6 : f = 6 → b ≤ 5) (h5 : f = 5 → 0 ≤ c ∧ c ≤ 9) : SX F A B C (sFv pb eb fb kb f a b c) f a b c ↔ ∃ s : Nat, (s : Int) < n ∧ sE F A B C S f a b c s := by
  obtain ⟨r0, w⟩ := Sl_e h hr hf ha hb h6 h5
  have e : (sFv pb eb fb kb f a b c).toNatClampNeg = (sFv pb eb fb kb f a b c).toInt.toNat := rfl
  constructor
  · rintro ⟨q1, q2, q3, q4, q5⟩
    have z := (w (sFv pb eb fb kb f a b c).toNatClampNeg).mp (by omega)
    exact ⟨_, z.1, z.2.1, q2, q3, q4, q5⟩
  · rintro ⟨s, q, w1, w2, w3, w4, w5⟩
    have z := (w s).mpr ⟨q, w1, by omega⟩
    have z2 : (sFv pb eb fb kb f a b c).toNatClampNeg = s := by omega
    exact ⟨by omega, by rw [z2]; exact w2, by rw [z2]; exact w3, by rw [z2]; exact w4, by rw [z2]; exact w5⟩
theorem Cl_e {F A B C S pb eb fb kb ce : Nat → Int32} {n z f a b c : Int} (h : IX F A B C S n pb eb fb kb ce) (hr : RR F A B C pb eb fb kb) (hf : 0 ≤ f ∧ f ≤ 7) (ha : 0 ≤ a ∧ a ≤ 29) (hb : 0 ≤ b ∧ b ≤ 29) (h6 : f = 6 → b ≤ 5 ∧ 0 ≤ c ∧ c ≤ 1) (h5 : f = 5 → 0 ≤ c ∧ c ≤ 9) (hn : ¬ SX F A B C (sFv pb eb fb kb f a b c) f a b c) : ClX F B C S pb eb fb kb ce n z f a b c ↔ BaM F A B C S n z f a b c := by
  obtain ⟨r0, w⟩ := Sl_e h hr hf ha hb (fun q => (h6 q).1) h5
  rw [SX_e h hr hf ha hb (fun q => (h6 q).1) h5] at hn
  have ex : ¬ (sFv pb eb fb kb f a b c).toInt = -9 ↔ ∃ s : Nat, (sFv pb eb fb kb f a b c).toInt = (s : Int) :=
    ⟨fun q => ⟨(sFv pb eb fb kb f a b c).toInt.toNat, by omega⟩, fun ⟨s, q⟩ => by omega⟩
  unfold ClX BaM PbM XbM FbM
  rw [ex, fsF_x, fsF_x, fsF_x, fsF_x, fsF_x]
  have pl := IX_pL h hr ha.1 ha.2
  rcases (show f = 5 ∨ f = 6 ∨ f = 7 ∨ f < 5 by omega) with q | q | q | q
  · have e1 : (∃ s : Nat, (sFv pb eb fb kb f a b c).toInt = (s : Int)) ↔ ∃ s : Nat, (s : Int) < n ∧ bP F A C S a c s :=
      ⟨fun ⟨s, y⟩ => by have y2 := (w s).mp y; exact ⟨s, y2.1, y2.2.1, by omega, by omega, by omega⟩, fun ⟨s, y, y1, y2, y3, y4⟩ => ⟨s, (w s).mpr ⟨y, y1, by omega⟩⟩⟩
    rw [e1]
    unfold DoX
    rw [Do_e h hr ha]
    constructor
    · rintro (y | y | y | y)
      · exact Or.inr (Or.inl ⟨q, Or.inl y⟩)
      · exact Or.inr (Or.inl ⟨q, Or.inr ⟨y.2.1, y.2.2⟩⟩)
      · exfalso; omega
      · exfalso; omega
    · rintro (y | y | y | y)
      · exfalso; omega
      · rcases y.2 with x | x
        · exact Or.inl x
        · exact Or.inr (Or.inl ⟨q, x.1, x.2⟩)
      · exfalso; omega
      · exfalso; omega
  · have hc := h6 q
    have e1 : (∃ s : Nat, (sFv pb eb fb kb f a b c).toInt = (s : Int)) ↔ ∃ s : Nat, (s : Int) < n ∧ sE F A B C S 6 a b (1 - c) s := by
      constructor
      · rintro ⟨s, y⟩
        have y2 := (w s).mp y
        have v := h.2.2.2.2.2 s y2.1 (by omega)
        have r := hr.1 s
        refine ⟨s, y2.1, y2.2.1, by omega, by omega, by omega, ?_⟩
        by_cases x : (C s).toInt = c
        · exact absurd ⟨s, y2.1, y2.2.1, by omega, by omega, by omega, x⟩ hn
        · omega
      · rintro ⟨s, y, y1, y2, y3, y4, y5⟩
        exact ⟨s, (w s).mpr ⟨y, y1, by omega⟩⟩
    rw [e1]
    unfold FlX
    rw [Sy_e h hr ha (by omega), Sy_e h hr ha (by omega), pl]
    have c5 := h.2.2.2.2.1 a.toNat (by omega)
    have er : (pb a.toNat).toNatClampNeg = (pb a.toNat).toInt.toNat := rfl
    have rF := hr.1 (pb a.toNat).toNatClampNeg
    have p5 : 0 ≤ (pb a.toNat).toInt → (F (pb a.toNat).toInt.toNat).toInt < 5 := fun y => ((h.1 a.toNat (pb a.toNat).toInt.toNat (by omega)).mpr (by omega)).2.2.1
    rw [er] at c5 rF
    constructor
    · rintro (y | y | y | y)
      · exact Or.inr (Or.inr (Or.inl ⟨q, Or.inl y⟩))
      · exfalso; omega
      · rcases y.2 with ⟨x1, x2, x3⟩ | ⟨x1, x2, x3⟩ | ⟨x1, x2, x3, x4, x5⟩
        · exact Or.inr (Or.inr (Or.inl ⟨q, Or.inr (Or.inl ⟨x2, Or.inl x1, by rw [x1]; exact x3⟩)⟩))
        · exact Or.inr (Or.inr (Or.inl ⟨q, Or.inr (Or.inl ⟨x2, Or.inr x1, by rw [x1]; exact x3⟩)⟩))
        · exact Or.inr (Or.inr (Or.inl ⟨q, Or.inr (Or.inr ⟨x1, x2, x5, by rcases c5 with u | u; exact absurd u.1 x5; (have p := p5 u.1; omega)⟩)⟩))
      · exfalso; omega
    · rintro (y | y | y | y)
      · exfalso; omega
      · exfalso; omega
      · rcases y.2 with x | ⟨x1, x2, x3⟩ | ⟨x1, x2, x3, x4⟩
        · exact Or.inl x
        · rcases x2 with x2 | x2
          · exact Or.inr (Or.inr (Or.inl ⟨q, Or.inl ⟨x2, x1, by rw [x2] at x3; exact x3⟩⟩))
          · exact Or.inr (Or.inr (Or.inl ⟨q, Or.inr (Or.inl ⟨x2, x1, by rw [x2] at x3; exact x3⟩)⟩))
        · rcases c5 with u | u
          · exact absurd u.1 x3
          · have p := p5 u.1
            exact Or.inr (Or.inr (Or.inl ⟨q, Or.inr (Or.inr ⟨x1, x2, by omega, by omega, x3⟩)⟩))
      · exfalso; omega
  · have e1 : (∃ s : Nat, (sFv pb eb fb kb f a b c).toInt = (s : Int)) ↔ ∃ s : Nat, (s : Int) < n ∧ KB F B S b s :=
      ⟨fun ⟨s, y⟩ => by have y2 := (w s).mp y; exact ⟨s, y2.1, y2.2.1, by omega, by omega⟩, fun ⟨s, y, y1, y2, y3⟩ => ⟨s, (w s).mpr ⟨y, y1, by omega⟩⟩⟩
    rw [e1]
    constructor
    · rintro (y | y | y | y)
      · exact Or.inr (Or.inr (Or.inr ⟨q, y⟩))
      · exfalso; omega
      · exfalso; omega
      · exfalso; omega
    · rintro (y | y | y | y)
      · exfalso; omega
      · exfalso; omega
      · exfalso; omega
      · exact Or.inl y.2
  · rw [← ex, pl, show sFv pb eb fb kb f a b c = pb a.toNat by unfold sFv; rw [if_neg (by omega), if_neg (by omega), if_neg (by omega)], ← IX_hF h hr]
    unfold PlX
    rw [Sy_e h hr ha (by omega), Ch_st (f := hF ce) (x := b) (t := a)]
    constructor
    · rintro (y | y | y | y)
      · exact Or.inl ⟨q, Or.inl y⟩
      · exfalso; omega
      · exfalso; omega
      · rcases y.2 with x | x | x
        · exact Or.inl ⟨q, Or.inr (Or.inl (Or.inl x.symm))⟩
        · exact Or.inl ⟨q, Or.inr (Or.inl (Or.inr x))⟩
        · exact Or.inl ⟨q, Or.inr (Or.inr x)⟩
    · rintro (y | y | y | y)
      · rcases y.2 with x | (x | x) | x
        · exact Or.inl x
        · exact Or.inr (Or.inr (Or.inr ⟨q, Or.inl x.symm⟩))
        · exact Or.inr (Or.inr (Or.inr ⟨q, Or.inr (Or.inl x)⟩))
        · exact Or.inr (Or.inr (Or.inr ⟨q, Or.inr (Or.inr x)⟩))
      · exfalso; omega
      · exfalso; omega
      · exfalso; omega
/-! both sides' sentences alike -/
def SN (F A B C S : Nat → Int32) (n : Int32) (pb eb fb kb ce F2 A2 B2 C2 S2 : Nat → Int32) (n2 : Int32) : Prop := F = F2 ∧ A = A2 ∧ B = B2 ∧ C = C2 ∧ S = S2 ∧ n.toInt = n2.toInt ∧ IX F A B C S n.toInt pb eb fb kb ce
theorem IX_0 {F A B C S pb eb fb kb ce : Nat → Int32} {n : Int} (hn : n = 0) (h : ∀ k, (pb k).toInt = -9 ∧ (eb k).toInt = -9 ∧ (fb k).toInt = -9 ∧ (kb k).toInt = -9 ∧ (ce k).toInt = 255) : IX F A B C S n pb eb fb kb ce :=
  ⟨fun k s _ => ⟨fun q => by have := q.1; omega, fun q => by have := (h k).1; omega⟩, fun k s _ => ⟨fun q => by have := q.1; omega, fun q => by have := (h k).2.1; omega⟩, fun k s _ => ⟨fun q => by have := q.1; omega, fun q => by have := (h k).2.2.1; omega⟩, fun k s _ => ⟨fun q => by have := q.1; omega, fun q => by have := (h k).2.2.2.1; omega⟩, fun o _ => Or.inl ⟨(h o).1, (h o).2.2.2.2⟩, fun s hs => by omega⟩
/-- the class's sorts are those of the kinds -/
theorem xS_e {pa ko so pa2 ko2 : Nat → Int32} {kn : Int32} {o N : Int} (h : SoR pa so kn) (e1 : pa = pa2) (e2 : ko = ko2) (hk : KI ko2 N kn.toInt) (h0 : ∀ j, 0 ≤ (ko2 j).toInt) (ho : 0 ≤ o ∧ o < N) (hr : 0 ≤ (so (ko o.toNat).toNatClampNeg).toInt ∧ (so (ko o.toNat).toNatClampNeg).toInt ≤ 5) : (so (ko o.toNat).toNatClampNeg).toInt = kS pa2 ko2 o := by
  subst e1 e2
  have k0 := h0 o.toNat
  have k1 := hk o.toNat (by omega)
  have e : (ko o.toNat).toNatClampNeg = (ko o.toNat).toInt.toNat := rfl
  have q := h (ko o.toNat).toNatClampNeg (by omega)
  rw [show (((ko o.toNat).toNatClampNeg : Nat) : Int) = (ko o.toNat).toInt by omega] at q
  have K : ∀ c : Int, 0 ≤ c → c ≤ 5 → (Kd pa ko o c ↔ ((so (ko o.toNat).toNatClampNeg).toInt = c ∨ (c = 1 ∧ 1 < (so (ko o.toNat).toNatClampNeg).toInt))) := q
  rcases kS_c (pa := pa) (ko := ko) (o := o) with ⟨a, b⟩ | ⟨a, b⟩ | ⟨a, b⟩ | ⟨a, b⟩ | ⟨a, b⟩ | ⟨a, b0, b2, b3, b4, b5⟩
  · have := (K 0 (by omega) (by omega)).mp b; omega
  · have := (K 2 (by omega) (by omega)).mp b; omega
  · have := (K 3 (by omega) (by omega)).mp b; omega
  · have := (K 4 (by omega) (by omega)).mp b; omega
  · have := (K 5 (by omega) (by omega)).mp b; omega
  · rw [K 0 (by omega) (by omega)] at b0
    rw [K 2 (by omega) (by omega)] at b2
    rw [K 3 (by omega) (by omega)] at b3
    rw [K 4 (by omega) (by omega)] at b4
    rw [K 5 (by omega) (by omega)] at b5
    omega
theorem Ac_e {F A B C S pb eb fb kb ce : Nat → Int32} {n N z y z2 y2 f a b c l : Int} (h : IX F A B C S n pb eb fb kb ce) (hr : RR F A B C pb eb fb kb) (hN : N ≤ 30) (hl1 : f = 5 ∨ f = 6 → l = c) (hl0 : ¬ (f = 5 ∨ f = 6) → l = 0) (hz : WF f a b c N → z = z2) (hy : WF f a b c N → ¬ f = 6 → y = y2) : AcX F A B C S pb eb fb kb ce n N z y f a b c l ↔ AcM F A B C S n N z2 y2 f a b c l := by
  by_cases w : WF f a b c N
  · have w2 := w
    unfold WF at w2
    have e1 := hz w
    have e2 := hy w
    subst e1
    have hc : f = 6 → b ≤ 5 ∧ 0 ≤ l ∧ l ≤ 1 := fun q => by have := hl1 (Or.inr q); omega
    have h5 : f = 5 → 0 ≤ l ∧ l ≤ 9 := fun q => by have := hl1 (Or.inl q); omega
    have es := SX_e (c := l) h hr (by omega) (a := a) (by omega) (b := b) (by omega) (fun q => (hc q).1) h5
    rw [← fsF_x] at es
    have ef : Fit f z b y ↔ Fit f z b y2 := by
      by_cases q : f = 6
      · unfold Fit; exact ⟨fun u => ⟨u.1, Or.inl q⟩, fun u => ⟨u.1, Or.inl q⟩⟩
      · rw [e2 q]
    have ec : ¬ SX F A B C (sFv pb eb fb kb f a b l) f a b l → (ClX F B C S pb eb fb kb ce n y f a b l ↔ BaM F A B C S n y2 f a b l) := fun u => by
      have v := Cl_e (z := y) h hr (by omega) (a := a) (by omega) (b := b) (by omega) hc h5 u
      rw [v]
      by_cases q : f = 6
      · rw [← Ba_6 q, ← Ba_6 q]
      · rw [e2 q]
    constructor
    · rintro ⟨_, q2, q3, q4, q5⟩
      exact ⟨w, ef.mp q2, Decidable.byContradiction (fun u => q3 (es.mpr u)), q4, fun u => q5 ((ec q3).mpr u)⟩
    · rintro ⟨_, q2, q3, q4, q5⟩
      have u3 : ¬ SX F A B C (sFv pb eb fb kb f a b l) f a b l := fun u => (es.mp u) q3
      exact ⟨w, ef.mpr q2, u3, q4, fun u => q5 ((ec u3).mp u)⟩
  · exact ⟨fun q => absurd q.1 w, fun q => absurd q.1 w⟩
theorem SN_say {F A B C S pb eb fb kb ce F2 A2 B2 C2 S2 F' A' B' C' S' pb' eb' fb' kb' ce' F2' A2' B2' C2' S2' : Nat → Int32} {n n2 n' n2' N N2 f a b c f2 a2 b2 c2 : Int32} {z y z2 y2 : Int} (h : SN F A B C S n pb eb fb kb ce F2 A2 B2 C2 S2 n2) (hr : RR F A B C pb eb fb kb) (hN : N.toInt ≤ 30) (hn : 0 ≤ n.toInt) (eN : N.toInt = N2.toInt)
    (hz : WF f.toInt a.toInt b.toInt c.toInt N.toInt → z = z2) (hy : WF f.toInt a.toInt b.toInt c.toInt N.toInt → ¬ f.toInt = 6 → y = y2) (ef : f2.toInt = f.toInt) (ea : a2.toInt = a.toInt) (eb0 : b2.toInt = b.toInt) (ec : c2.toInt = c.toInt)
    (h1 : SyW (AcX F A B C S pb eb fb kb ce n.toInt N.toInt z y f.toInt a.toInt b.toInt c.toInt (lI f c).toInt) F A B C S F' A' B' C' S' n n' f a b (lI f c))
    (h2 : PtW (AcX F A B C S pb eb fb kb ce n.toInt N.toInt z y f.toInt a.toInt b.toInt c.toInt (lI f c).toInt) pb eb fb kb ce pb' eb' fb' kb' ce' f.toInt a.toInt b.toInt (lI f c).toInt n)
    (h3 : SyW (AcM F2 A2 B2 C2 S2 n2.toInt N2.toInt z2 y2 f2.toInt a2.toInt b2.toInt c2.toInt (lI f2 c2).toInt) F2 A2 B2 C2 S2 F2' A2' B2' C2' S2' n2 n2' f2 a2 b2 (lI f2 c2)) : SN F' A' B' C' S' n' pb' eb' fb' kb' ce' F2' A2' B2' C2' S2' n2' := by
  obtain ⟨e1, e2, e3, e4, e5, e6, hI⟩ := h
  have f1 := Int32.toInt_inj.mp ef
  have a1 := Int32.toInt_inj.mp ea
  have b1 := Int32.toInt_inj.mp eb0
  have c1 := Int32.toInt_inj.mp ec
  have n1 := Int32.toInt_inj.mp e6
  subst e1 e2 e3 e4 e5 f1 a1 b1 c1 n1
  rw [← eN] at h3
  have l1 : f2.toInt = 5 ∨ f2.toInt = 6 → (lI f2 c2).toInt = c2.toInt := fun q => by rw [lI_y q]
  have l0 : ¬ (f2.toInt = 5 ∨ f2.toInt = 6) → (lI f2 c2).toInt = 0 := fun q => by rw [lI_n q]; decide
  have E := Ac_e hI hr hN l1 l0 hz hy
  rcases h1 with ⟨q, r1, r2, r3, r4, r5, r6⟩ | ⟨q, r1, r2, r3, r4, r5, r6⟩
  · rcases h3 with ⟨p, t1, t2, t3, t4, t5, t6⟩ | ⟨p, _⟩
    · rcases h2 with ⟨_, u1, u2, u3, u4, u5⟩ | ⟨u, _⟩
      · rw [r1, r2, r3, r4, r5, t1, t2, t3, t4, t5, u1, u2, u3, u4, u5]
        exact ⟨rfl, rfl, rfl, rfl, rfl, by omega, by rw [r6]; exact hI⟩
      · exact absurd u q
    · exact absurd (E.mpr p) q
  · rcases h3 with ⟨p, _⟩ | ⟨p, t1, t2, t3, t4, t5, t6⟩
    · exact absurd (E.mp q) p
    · rcases h2 with ⟨u, _⟩ | ⟨_, u⟩
      · exact absurd q u
      · obtain ⟨w, _, _, w4, w5⟩ := q
        unfold WF at w
        have hf : (sFv pb eb fb kb f2.toInt a2.toInt b2.toInt (lI f2 c2).toInt).toInt = -9 := Decidable.byContradiction (fun v => w5 (Or.inl v))
        rw [r1, r2, r3, r4, r5, t1, t2, t3, t4, t5]
        refine ⟨rfl, rfl, rfl, rfl, rfl, by omega, ?_⟩
        rw [r6]
        exact IX_add hI hn rfl (by omega) (by omega) (by omega) (fun v => by have := l1 (Or.inr v); omega) (fun v => by have := l1 (Or.inl v); omega) hf u
theorem SN_un {F A B C S pb eb fb kb ce F2 A2 B2 C2 S2 S' pb' eb' fb' kb' ce' S2' : Nat → Int32} {n n2 s s2 : Int32} (h : SN F A B C S n pb eb fb kb ce F2 A2 B2 C2 S2 n2) (hr : RR F A B C pb eb fb kb) (es : s2.toInt = s.toInt)
    (h1 : UnW S S' n s) (h2 : PtW (UnQ S n s) pb eb fb kb ce pb' eb' fb' kb' ce' (F s.toNatClampNeg).toInt (A s.toNatClampNeg).toInt (B s.toNatClampNeg).toInt (C s.toNatClampNeg).toInt (-9)) (h3 : UnW S2 S2' n2 s2) : SN F A B C S' n pb' eb' fb' kb' ce' F2 A2 B2 C2 S2' n2 := by
  obtain ⟨e1, e2, e3, e4, e5, e6, hI⟩ := h
  have s1 := Int32.toInt_inj.mp es
  have n1 := Int32.toInt_inj.mp e6
  subst e1 e2 e3 e4 e5 s1 n1
  rcases h1 with ⟨q, r⟩ | ⟨q, r⟩
  · rcases h3 with ⟨_, t⟩ | ⟨p, _⟩
    · rcases h2 with ⟨_, u1, u2, u3, u4, u5⟩ | ⟨u, _⟩
      · rw [r, t, u1, u2, u3, u4, u5]; exact ⟨rfl, rfl, rfl, rfl, rfl, rfl, hI⟩
      · exact absurd u q
    · exact absurd p q
  · rcases h3 with ⟨p, _⟩ | ⟨_, t⟩
    · exact absurd q p
    · rcases h2 with ⟨u, _⟩ | ⟨_, u⟩
      · exact absurd q u
      · rw [r, t]
        refine ⟨rfl, rfl, rfl, rfl, rfl, rfl, ?_⟩
        obtain ⟨q1, q2, q3⟩ := q
        have e : s2.toNatClampNeg = s2.toInt.toNat := rfl
        have R := hr.1 s2.toNatClampNeg
        exact IX_rm hI (by omega) q3 (by decide) (by omega) (by omega) (fun v => hr.2.2 _ v) (by omega) u
theorem RR_of {i : Nat → Int32} {c : Nat → Nat → Int32} (hI : xInv i c) (hF : xFl (c 113) (c 115)) : RR (c 113) (c 114) (c 115) (c 116) (c 118) (c 119) (c 120) (c 121) := by
  refine ⟨fun s => ?_, fun k => ?_, hF⟩
  · have q1 : 0 ≤ (c 113 s).toInt ∧ (c 113 s).toInt ≤ 7 := hI.2 113 s
    have q2 : 0 ≤ (c 114 s).toInt ∧ (c 114 s).toInt ≤ 29 := hI.2 114 s
    have q3 : 0 ≤ (c 115 s).toInt ∧ (c 115 s).toInt ≤ 29 := hI.2 115 s
    have q4 : 0 ≤ (c 116 s).toInt ∧ (c 116 s).toInt ≤ 9 := hI.2 116 s
    omega
  · have q1 : (c 118 k).toInt = -9 ∨ (0 ≤ (c 118 k).toInt ∧ (c 118 k).toInt ≤ 199) := hI.2 118 k
    have q2 : (c 119 k).toInt = -9 ∨ (0 ≤ (c 119 k).toInt ∧ (c 119 k).toInt ≤ 199) := hI.2 119 k
    have q3 : (c 120 k).toInt = -9 ∨ (0 ≤ (c 120 k).toInt ∧ (c 120 k).toInt ≤ 199) := hI.2 120 k
    have q4 : (c 121 k).toInt = -9 ∨ (0 ≤ (c 121 k).toInt ∧ (c 121 k).toInt ≤ 199) := hI.2 121 k
    omega
/-- the class's ways up end -/
theorem Ac_hF {F A B C S pb eb fb kb ce F2 A2 B2 C2 S2 pa ko : Nat → Int32} {n n2 : Int32} {kn N : Int} (h : SN F A B C S n pb eb fb kb ce F2 A2 B2 C2 S2 n2) (hr : RR F A B C pb eb fb kb) (hs : SJ pa ko F2 A2 B2 S2 kn N n2.toInt) : Acy (hF ce) := by
  obtain ⟨e1, e2, e3, e4, e5, e6, hI⟩ := h
  rw [IX_hF hI hr, e1, e2, e3, e5, e6]
  exact hs.2.2.2
/-! what is drawn is what the sentences say -/
def DR (Z : Int → Int) (F A B S : Nat → Int32) (n N : Int) : Prop := ∀ b : Int, 0 ≤ b → b < N → Z b = 2 → (∀ s1 s2 : Nat, (s1 : Int) < n → (s2 : Int) < n → EB F B S b s1 → EB F B S b s2 → (A s1).toInt = (A s2).toInt → s1 = s2) ∧ ∀ s1 s2 s3 : Nat, s1 < s2 → s2 < s3 → (s3 : Int) < n → EB F B S b s1 → EB F B S b s2 → EB F B S b s3 → False
theorem lst_ag {P Q : Nat → Prop} {n : Nat} {r : Int} (e : ∀ s, s < n → (P s ↔ Q s)) (h : lst P n r) : lst Q n r := by
  rcases h with ⟨a, b⟩ | ⟨s, a, b, c, d⟩
  · exact Or.inl ⟨a, fun s hs q => b s hs ((e s hs).mpr q)⟩
  · exact Or.inr ⟨s, a, b, (e s b).mp c, fun s2 h2 h3 q => d s2 h2 h3 ((e s2 h3).mpr q)⟩
theorem fst_ag {P Q : Nat → Prop} {n : Nat} {r : Int} (e : ∀ s, s < n → (P s ↔ Q s)) (h : fst P n r) : fst Q n r := by
  rcases h with ⟨a, b⟩ | ⟨s, a, b, c, d⟩
  · exact Or.inl ⟨a, fun s hs q => b s hs ((e s hs).mpr q)⟩
  · exact Or.inr ⟨s, a, b, (e s b).mp c, fun s2 h2 q => d s2 h2 ((e s2 (by omega)).mpr q)⟩
theorem vI_l {P : Nat → Prop} {B B' : Nat → Int32} {n : Nat} {r : Int} (h : lst P n r) (e : ∀ s, s < n → P s → B' s = B s) : vI B' r = vI B r := by
  rcases h with ⟨a, b⟩ | ⟨s, a, b, c, d⟩
  · rw [a, vI_n, vI_n]
  · rw [a, vI_y, vI_y, e s b c]
theorem vI_f {P : Nat → Prop} {B B' : Nat → Int32} {n : Nat} {r : Int} (h : fst P n r) (e : ∀ s, s < n → P s → B' s = B s) : vI B' r = vI B r := by
  rcases h with ⟨a, b⟩ | ⟨s, a, b, c, d⟩
  · rw [a, vI_n, vI_n]
  · rw [a, vI_y, vI_y, e s b c]
/-- the same exits stand -/
def Ag (Z Z' : Int → Int) (F A B C S F' A' B' C' S' : Nat → Int32) (n : Nat) : Prop := ∀ s, s < n → (((S' s).toInt = 1 ∧ (F' s).toInt = 5) ↔ ((S s).toInt = 1 ∧ (F s).toInt = 5)) ∧ ((S s).toInt = 1 → (F s).toInt = 5 → A' s = A s ∧ B' s = B s ∧ C' s = C s ∧ Z' (B s).toInt = Z (B s).toInt)
theorem RDS_e {Z Z' : Int → Int} {F A B C S F' A' B' C' S' ld dr bw im f1 f2 : Nat → Int32} {n : Nat} (g : Ag Z Z' F A B C S F' A' B' C' S' n) (h : RDS Z F A B C S n ld dr bw im f1 f2) : RDS Z' F' A' B' C' S' n ld dr bw im f1 f2 := by
  have x5 : ∀ s, s < n → (S' s).toInt = 1 → (F' s).toInt = 5 → (S s).toInt = 1 ∧ (F s).toInt = 5 ∧ A' s = A s ∧ B' s = B s ∧ C' s = C s ∧ Z' (B s).toInt = Z (B s).toInt := fun s hs a b => by
    have q := (g s hs).1.mp ⟨a, b⟩
    exact ⟨q.1, q.2, (g s hs).2 q.1 q.2⟩
  have y5 : ∀ s, s < n → (S s).toInt = 1 → (F s).toInt = 5 → (S' s).toInt = 1 ∧ (F' s).toInt = 5 := fun s hs a b => (g s hs).1.mpr ⟨a, b⟩
  have eK : ∀ k s, s < n → (Ek F A C S k s ↔ Ek F' A' C' S' k s) := fun k s hs => by
    constructor
    · rintro ⟨a, b, d⟩
      have q := (g s hs).2 a b
      have w := y5 s hs a b
      exact ⟨w.1, w.2, by rw [q.1, q.2.2.1]; exact d⟩
    · rintro ⟨a, b, d⟩
      have q := x5 s hs a b
      exact ⟨q.1, q.2.1, by rw [← q.2.2.1, ← q.2.2.2.2.1]; exact d⟩
  have eZ : ∀ s, s < n → (S s).toInt = 1 → (F s).toInt = 5 → Z' (B' s).toInt = Z (B s).toInt := fun s hs a b => by
    have q := (g s hs).2 a b
    rw [q.2.1]; exact q.2.2.2
  have eR : ∀ k s, s < n → (Er Z F A B C S k s ↔ Er Z' F' A' B' C' S' k s) := fun k s hs => by
    constructor
    · rintro ⟨a, b⟩
      exact ⟨(eK k s hs).mp a, by rw [eZ s hs a.1 a.2.1]; exact b⟩
    · rintro ⟨a, b⟩
      have a2 := (eK k s hs).mpr a
      exact ⟨a2, by rw [← eZ s hs a2.1 a2.2.1]; exact b⟩
  have eD : ∀ k s, s < n → (Ed Z F A B C S k s ↔ Ed Z' F' A' B' C' S' k s) := fun k s hs => by
    constructor
    · rintro ⟨a, b⟩
      exact ⟨(eK k s hs).mp a, by rw [eZ s hs a.1 a.2.1]; exact b⟩
    · rintro ⟨a, b⟩
      have a2 := (eK k s hs).mpr a
      exact ⟨a2, by rw [← eZ s hs a2.1 a2.2.1]; exact b⟩
  have eT : ∀ t s, s < n → (Dt Z F B S t s ↔ Dt Z' F' B' S' t s) := fun t s hs => by
    constructor
    · rintro ⟨a, b, d, f⟩
      have q := (g s hs).2 a b
      have w := y5 s hs a b
      exact ⟨w.1, w.2, by rw [eZ s hs a b]; exact d, by rw [q.2.1]; exact f⟩
    · rintro ⟨a, b, d, f⟩
      have q := x5 s hs a b
      exact ⟨q.1, q.2.1, by rw [← eZ s hs q.1 q.2.1]; exact d, by rw [← q.2.2.2.1]; exact f⟩
  have eI : ∀ k s, s < n → (Iq Z F B C S k s ↔ Iq Z' F' B' C' S' k s) := fun k s hs => by
    constructor
    · rintro ⟨a, b, d, f⟩
      have q := (g s hs).2 a b
      have w := y5 s hs a b
      exact ⟨w.1, w.2, by rw [eZ s hs a b]; exact d, by rw [q.2.1, q.2.2.1]; exact f⟩
    · rintro ⟨a, b, d, f⟩
      have q := x5 s hs a b
      exact ⟨q.1, q.2.1, by rw [← eZ s hs q.1 q.2.1]; exact d, by rw [← q.2.2.2.1, ← q.2.2.2.2.1]; exact f⟩
  obtain ⟨b1, l1, l2, ⟨h1, h2⟩, h3, h4⟩ := h
  refine ⟨b1, l1, l2, ⟨fun k hk => ?_, fun t ht => ?_⟩, fun k hk => ?_, h4⟩
  · obtain ⟨a, ⟨r, b, d⟩, ⟨q, f, w⟩⟩ := h1 k hk
    exact ⟨lst_ag (eK k) a, ⟨r, lst_ag (eR k) b, by rw [d, vI_l b (fun s hs p => ((g s hs).2 p.1.1 p.1.2.1).2.1)]⟩, ⟨q, lst_ag (eD k) f, by rw [w, vI_l f (fun s hs p => ((g s hs).2 p.1.1 p.1.2.1).2.1)]⟩⟩
  · obtain ⟨r1, r2, a, b, d, f⟩ := h2 t ht
    refine ⟨r1, r2, fst_ag (eT t) a, lst_ag (eT t) b, by rw [d, vI_f a (fun s hs p => ((g s hs).2 p.1 p.2.1).1)], ?_⟩
    rw [f, vI_l b (fun s hs p => ((g s hs).2 p.1 p.2.1).1)]
  · obtain ⟨q, a, b⟩ := h3 k hk
    refine ⟨q, fst_ag (eI k) a, ?_⟩
    rw [vI_f a (fun s hs p => ((g s hs).2 p.1 p.2.1).1)]
    exact b
theorem RDS_n {Z : Int → Int} {F A B C S ld dr bw im f1 f2 : Nat → Int32} {n : Nat} (h : RDS Z F A B C S n ld dr bw im f1 f2) (hp : ¬ ((S n).toInt = 1 ∧ (F n).toInt = 5)) : RDS Z F A B C S (n + 1) ld dr bw im f1 f2 := by
  obtain ⟨b1, l1, l2, ⟨h1, h2⟩, h3, h4⟩ := h
  exact ⟨b1, l1, l2, ⟨fun k hk => DA_n (h1 k hk) (fun q => hp ⟨q.1, q.2.1⟩), fun t ht => DB_n (h2 t ht) (fun q => hp ⟨q.1, q.2.1⟩)⟩, fun k hk => DI_n (h3 k hk) (fun q => hp ⟨q.1, q.2.1⟩), h4⟩
theorem FeM_u {pa ko F A B C S : Nat → Int32} {n r d ld dr bw im ld2 dr2 bw2 im2 : Int} (h1 : FeM pa ko F A B C S n r d ld dr bw im) (h2 : FeM pa ko F A B C S n r d ld2 dr2 bw2 im2) : ld = ld2 ∧ dr = dr2 ∧ bw = bw2 ∧ im = im2 := by
  unfold FeM at h1 h2
  generalize lsF (bP F A C S r d) n.toNat = b at *
  generalize fsF (qP F B C S r (opp d)) n.toNat = q at *
  generalize oS F A B S n (B b.toNat).toInt r = o at *
  omega
theorem opp_i {d : Int} (h : 0 ≤ d ∧ d ≤ 9) : opp (opp d) = d ∧ 0 ≤ opp d ∧ opp d ≤ 9 := by
  by_cases e : d % 2 = 0
  · have q : opp d = d + 1 := opp_e e
    rw [q, opp_o (by omega)]; omega
  · have q : opp d = d - 1 := opp_o e
    rw [q, opp_e (by omega)]; omega
theorem lsF_c {P Q : Nat → Prop} {n : Nat} {r : Int} (e : ∀ s, s < n → (P s ↔ Q s)) (h : lst P n r) : lsF Q n = r := (lsF_e (lst_ag e h)).symm
theorem fsF_c {P Q : Nat → Prop} {n : Nat} {r : Int} (e : ∀ s, s < n → (P s ↔ Q s)) (h : fst P n r) : fsF Q n = r := (fsF_e (fst_ag e h)).symm
theorem RD_fe {pa ko so ko2 F A B C S pb eb fb kb ce ld dr bw im f1 f2 : Nat → Int32} {n N r d : Int} (h : RDS (zX so ko N) F A B C S n.toNat ld dr bw im f1 f2) (hI : IX F A B C S n pb eb fb kb ce) (hr : RR F A B C pb eb fb kb) (hD : DR (zX so ko N) F A B S n N) (hz : ∀ t, 0 ≤ t → t < N → zX so ko N t = kS pa ko2 t) (hB : ∀ s : Nat, (s : Int) < n → (F s).toInt = 5 → (B s).toInt < N ∧ (kS pa ko2 (B s).toInt = 0 ∨ kS pa ko2 (B s).toInt = 2)) (hN : N ≤ 30) (r0 : 0 ≤ r ∧ r < N) (rR : kS pa ko2 r = 0) (hd : 0 ≤ d ∧ d ≤ 9) : FeM pa ko2 F A B C S n r d (ld (r * 10 + d).toNat).toInt (dr (r * 10 + d).toNat).toInt (bw (r * 10 + d).toNat).toInt (im (r * 10 + d).toNat).toInt := by
  obtain ⟨b1, l1, l2, ⟨h1, h2⟩, h3, h4⟩ := h
  have kk : (((r * 10 + d).toNat : Nat) : Int) = r * 10 + d := by omega
  have hk : (r * 10 + d).toNat < 300 := by omega
  generalize (r * 10 + d).toNat = k at *
  have eK : ∀ s, s < n.toNat → (Ek F A C S k s ↔ bP F A C S r d s) := fun s hs => by
    have R := hr.1 s
    constructor
    · rintro ⟨a, b, e⟩; exact ⟨a, b, by omega, by omega⟩
    · rintro ⟨a, b, e, f⟩; exact ⟨a, b, by omega⟩
  have eI : ∀ s, s < n.toNat → (Iq (zX so ko N) F B C S k s ↔ qP F B C S r (opp d) s) := fun s hs => by
    have R := hr.1 s
    have O := opp_i (d := (C s).toInt) (by omega)
    have Od := opp_i hd
    constructor
    · rintro ⟨a, b, e, f⟩
      refine ⟨a, b, by omega, ?_⟩
      have : opp (C s).toInt = d := by omega
      rw [← this]; exact O.1.symm
    · rintro ⟨a, b, e, f⟩
      refine ⟨a, b, by rw [e, hz r r0.1 r0.2]; exact rR, ?_⟩
      rw [f, Od.1]; omega
  obtain ⟨a1, ⟨p1, a2, a3⟩, ⟨p2, a4, a5⟩⟩ := h1 k hk
  obtain ⟨q, c1, c2⟩ := h3 k hk
  have c4 := (h4 k hk).1 hk
  have B1 := lsF_c eK a1
  have Q1 := fsF_c eI c1
  unfold FeM
  rw [B1, Q1]
  -- one sentence a slot
  have uq : ∀ s s' : Nat, s < n.toNat → s' < n.toNat → Ek F A C S k s → Ek F A C S k s' → s = s' := fun s s' y1 y2 z1 z2 => by
    have w1 := (hI.2.1 k s hk).mp ⟨by omega, z1.1, z1.2.1, z1.2.2⟩
    have w2 := (hI.2.1 k s' hk).mp ⟨by omega, z2.1, z2.2.1, z2.2.2⟩
    omega
  rcases a1 with ⟨v, v2⟩ | ⟨s, v, v2, v3, v4⟩
  · -- none is said
    have p1' : p1 = -9 := by
      rcases a2 with y | ⟨s, _, y2, y3, _⟩
      · exact y.1
      · exact absurd y3.1 (v2 s y2)
    have p2' : p2 = -9 := by
      rcases a4 with y | ⟨s, _, y2, y3, _⟩
      · exact y.1
      · exact absurd y3.1 (v2 s y2)
    rw [p1', vI_n] at a3
    rw [p2', vI_n] at a5
    unfold thr at c4
    rw [if_pos a5] at c4
    refine Or.inr ⟨v, a5, ?_⟩
    rcases c2 with ⟨y, _⟩ | ⟨_, y1, y2, y3, y4⟩ | ⟨_, y1, y2, y3, y4⟩
    · exact absurd v y
    · exact Or.inr ⟨y1, y2, y4, by rw [c4, y3, a3]⟩
    · refine Or.inl ⟨y1, y2, y4, ?_⟩
      rw [c4, y3]
      unfold vI
      rw [if_neg y1]
  · have v9 : ¬ (b1 k).toInt = -9 := by omega
    have vs : (b1 k).toInt.toNat = s := by omega
    have hb := hB s (by omega) v3.2.1
    have R := hr.1 s
    have zz := hz (B s).toInt (by omega) hb.1
    have As : (A s).toInt = r ∧ (C s).toInt = d := by have := v3.2.2; have R2 := hr.1 s; omega
    obtain ⟨y1, y2, y3⟩ : bw k = b1 k ∧ l2 k = l1 k ∧ (im k).toInt = 0 := by
      rcases c2 with y | y | y
      · exact ⟨y.2.1, y.2.2.1, y.2.2.2⟩
      · exact absurd y.1 v9
      · exact absurd y.1 v9
    refine Or.inl ⟨v9, by rw [y1], y3, ?_⟩
    rw [vs]
    by_cases e : kS pa ko2 (B s).toInt = 2
    · -- a door
      have zd : zX so ko N (B s).toInt = 2 := by rw [zz]; exact e
      have p2' : p2 = (s : Int) := by
        rcases a4 with ⟨_, y⟩ | ⟨s', w1, w2, w3, _⟩
        · exact absurd ⟨v3, by rw [zd]; omega⟩ (y s v2)
        · rw [w1, uq s' s w2 v2 w3.1 v3]
      rw [p2', vI_y] at a5
      refine Or.inl ⟨e, a5, ?_⟩
      obtain ⟨u1, u2⟩ := hD (B s).toInt (by omega) hb.1 zd
      have tB : (B s).toInt.toNat < 30 := by omega
      obtain ⟨r1, r2, t1, t2, t3, t4⟩ := h2 (B s).toInt.toNat tB
      have tc : (((B s).toInt.toNat : Nat) : Int) = (B s).toInt := by omega
      have eT : ∀ s', Dt (zX so ko N) F B S (((B s).toInt.toNat : Nat) : Int) s' ↔ EB F B S (B s).toInt s' := fun s' => by
        constructor
        · rintro ⟨z1, z2, z3, z4⟩; exact ⟨z1, z2, by omega⟩
        · rintro ⟨z1, z2, z3⟩; exact ⟨z1, z2, by rw [z3, zd]; omega, by omega⟩
      have Es : EB F B S (B s).toInt s := ⟨v3.1, v3.2.1, rfl⟩
      unfold thr at c4
      have dk : (dr k).toNatClampNeg = (B s).toInt.toNat := by show (dr k).toInt.toNat = _; rw [a5]
      rw [if_neg (by omega), dk, show (k : Int) / 10 = r by omega] at c4
      rw [c4]
      -- the first and the last of that door
      rcases t1 with ⟨_, z⟩ | ⟨s1, m1, m2, m3, m4⟩
      · exact absurd ((eT s).mpr Es) (z s v2)
      · rcases t2 with ⟨_, z⟩ | ⟨s2, w1, w2, w3, w4⟩
        · exact absurd ((eT s).mpr Es) (z s v2)
        · have E1 := (eT s1).mp m3
          have E2 := (eT s2).mp w3
          rw [m1, vI_y] at t3
          have l1s : s1 ≤ s := Decidable.byContradiction (fun z => m4 s (by omega) ((eT s).mpr Es))
          have ls2 : s ≤ s2 := Decidable.byContradiction (fun z => w4 s (by omega) v2 ((eT s).mpr Es))
          have mid : s = s1 ∨ s = s2 := by
            by_cases z1 : s = s1
            · exact Or.inl z1
            · by_cases z2 : s = s2
              · exact Or.inr z2
              · exact absurd (u2 s1 s s2 (by omega) (by omega) (by omega) E1 Es E2) (fun z => z)
          have only : ∀ s', s' < n.toNat → EB F B S (B s).toInt s' → s' = s1 ∨ s' = s2 := fun s' y4 y5 => by
            have g1 : s1 ≤ s' := Decidable.byContradiction (fun z => m4 s' (by omega) ((eT s').mpr y5))
            have g2 : s' ≤ s2 := Decidable.byContradiction (fun z => w4 s' (by omega) y4 ((eT s').mpr y5))
            by_cases z1 : s' = s1
            · exact Or.inl z1
            · by_cases z2 : s' = s2
              · exact Or.inr z2
              · exact absurd (u2 s1 s' s2 (by omega) (by omega) (by omega) E1 y5 E2) (fun z => z)
          unfold oS
          by_cases ee : s1 = s2
          · -- one alone
            have no : fsF (oP F A B S (B s).toInt r) n.toNat = -9 := by
              refine (fsF_e (Or.inl ⟨rfl, fun s' y4 y5 => ?_⟩)).symm
              have := only s' y4 ⟨y5.1, y5.2.1, y5.2.2.1⟩
              have : s' = s := by omega
              rw [this] at y5
              exact y5.2.2.2 As.1
            rw [if_pos no, t3, show s1 = s by omega, if_pos As.1, t4, if_pos (by omega)]
          · have nA : ¬ (A s1).toInt = (A s2).toInt := fun z => ee (u1 s1 s2 (by omega) (by omega) E1 E2 z)
            rw [m1, w1, if_neg (by omega), vI_y] at t4
            rcases mid with g | g
            · have yes : fsF (oP F A B S (B s).toInt r) n.toNat = (s2 : Int) := by
                refine (fsF_e (Or.inr ⟨s2, rfl, w2, ⟨E2.1, E2.2.1, E2.2.2, by rw [← As.1, g]; exact fun z => nA z.symm⟩, fun s' y4 y5 => ?_⟩)).symm
                have := only s' (by omega) ⟨y5.1, y5.2.1, y5.2.2.1⟩
                have : s' = s := by omega
                rw [this] at y5
                exact y5.2.2.2 As.1
              rw [if_pos (by rw [t3, ← g]; exact As.1), yes, if_neg (show ¬ (s2 : Int) = -9 by omega), t4, show ((s2 : Int)).toNat = s2 by omega]
            · have n1 : ¬ (A s1).toInt = r := fun z => nA (by rw [z, ← g]; exact As.1.symm)
              have yes : fsF (oP F A B S (B s).toInt r) n.toNat = (s1 : Int) := by
                refine (fsF_e (Or.inr ⟨s1, rfl, m2, ⟨E1.1, E1.2.1, E1.2.2, n1⟩, fun s' y4 y5 => ?_⟩)).symm
                have := only s' (by omega) ⟨y5.1, y5.2.1, y5.2.2.1⟩
                omega
              rw [if_neg (by rw [t3]; exact n1), yes, if_neg (show ¬ (s1 : Int) = -9 by omega), t3, show ((s1 : Int)).toNat = s1 by omega]
    · -- a room
      have e0 : kS pa ko2 (B s).toInt = 0 := hb.2.resolve_right e
      have zr : zX so ko N (B s).toInt = 0 := by rw [zz]; exact e0
      have p1' : p1 = (s : Int) := by
        rcases a2 with ⟨_, y⟩ | ⟨s', w1, w2, w3, _⟩
        · exact absurd ⟨v3, zr⟩ (y s v2)
        · rw [w1, uq s' s w2 v2 w3.1 v3]
      have p2' : p2 = -9 := by
        rcases a4 with y | ⟨s', w1, w2, w3, _⟩
        · exact y.1
        · have := uq s' s w2 v2 w3.1 v3
          rw [this] at w3
          exact absurd zr w3.2
      rw [p1', vI_y] at a3
      rw [p2', vI_n] at a5
      unfold thr at c4
      rw [if_pos a5] at c4
      exact Or.inr ⟨e, a5, by rw [c4, y2, a3]⟩
/-! roads between two calls -/
def SB (F B : Nat → Int32) (n N : Int) : Prop := ∀ s : Nat, (s : Int) < n → (F s).toInt = 5 → 0 ≤ (B s).toInt ∧ (B s).toInt < N
theorem RDS_z {Z Z' : Int → Int} {F A B C S ld dr bw im f1 f2 : Nat → Int32} {n N : Int} (h : RDS Z F A B C S n.toNat ld dr bw im f1 f2) (hB : SB F B n N) (e : ∀ b, 0 ≤ b → b < N → Z' b = Z b) : RDS Z' F A B C S n.toNat ld dr bw im f1 f2 :=
  RDS_e (fun s hs => ⟨Iff.rfl, fun _ b => ⟨rfl, rfl, rfl, e _ (hB s (by omega) b).1 (hB s (by omega) b).2⟩⟩) h
theorem DR_z {Z Z' : Int → Int} {F A B S : Nat → Int32} {n N N' : Int} (h : DR Z F A B S n N) (hB : SB F B n N) (e : ∀ b, 0 ≤ b → b < N → Z' b = Z b) : DR Z' F A B S n N' := fun b b0 b1 bz => by
  by_cases q : b < N
  · exact h b b0 q (by rw [← e b b0 q]; exact bz)
  · refine ⟨fun s1 s2 a1 a2 p1 p2 _ => ?_, fun s1 s2 s3 a1 a2 a3 p1 p2 p3 => ?_⟩
    · have := (hB s1 a1 p1.2.1).2; have := p1.2.2; omega
    · have := (hB s3 a3 p3.2.1).2; have := p3.2.2; omega
theorem zX_k {so so2 ko : Nat → Int32} {k kn : Int32} {N : Int} (h : KS so so2 k kn) (hk : KI ko N kn.toInt) (h0 : ∀ j, 0 ≤ (ko j).toInt) : ∀ b, 0 ≤ b → b < N → zX so2 ko N b = zX so ko N b := fun b b0 b1 => by
  unfold zX
  rw [if_pos ⟨b0, b1⟩, if_pos ⟨b0, b1⟩]
  rcases h with ⟨_, e⟩ | ⟨a, a2, a3, e⟩
  · rw [e]
  · have k1 := hk b.toNat (by omega)
    have k2 := h0 b.toNat
    rw [e, pk_un (show ¬ (ko b.toNat).toNatClampNeg = kn.toNatClampNeg by show ¬ (ko b.toNat).toInt.toNat = kn.toInt.toNat; omega)]
theorem zX_m {so ko ko2 : Nat → Int32} {k s1 kn ob : Int32} {N2 : Int} (h : OU ko ko2 k s1 kn ob) (hb : 0 ≤ ob.toInt) (hN : ob.toInt ≤ N2) : ∀ b, 0 ≤ b → b < ob.toInt → zX so ko2 N2 b = zX so ko ob.toInt b := fun b b0 b1 => by
  unfold zX
  rw [if_pos ⟨b0, by omega⟩, if_pos ⟨b0, b1⟩]
  rcases h with ⟨_, e⟩ | ⟨a, a2, a3, a4, a5, e⟩
  · rw [e]
  · rw [e, pk_un (show ¬ b.toNat = ob.toNatClampNeg by show ¬ b.toNat = ob.toInt.toNat; omega)]
theorem RD_say {Q : Prop} {Z : Int → Int} {F A B C S F' A' B' C' S' ld dr bw im f1 f2 ld' dr' bw' im' f1' f2' : Nat → Int32} {n n' f a b l : Int32} (h : RDS Z F A B C S n.toInt.toNat ld dr bw im f1 f2) (hn : 0 ≤ n.toInt) (h1 : SyW Q F A B C S F' A' B' C' S' n n' f a b l) (h2 : RdQ Q Z F' A' B' C' S' ld dr bw im f1 f2 ld' dr' bw' im' f1' f2' n'.toInt f.toInt) : RDS Z F' A' B' C' S' n'.toInt.toNat ld' dr' bw' im' f1' f2' := by
  rcases h2 with ⟨q, e1, e2, e3, e4, e5, e6⟩ | ⟨_, _, q⟩
  · rw [e1, e2, e3, e4, e5, e6]
    rcases h1 with ⟨p, r1, r2, r3, r4, r5, r6⟩ | ⟨p, r1, r2, r3, r4, r5, r6⟩
    · rw [r1, r2, r3, r4, r5, r6]; exact h
    · have f5 : ¬ f.toInt = 5 := fun z => q ⟨p, z⟩
      have en : n'.toInt.toNat = n.toInt.toNat + 1 := by omega
      have en2 : n.toNatClampNeg = n.toInt.toNat := rfl
      rw [en]
      refine RDS_n (RDS_e (Z := Z) (F := F) (A := A) (B := B) (C := C) (S := S) (fun s hs => ?_) h) (fun z => f5 ?_)
      · have ne : ¬ s = n.toNatClampNeg := by omega
        rw [r1, r2, r3, r4, r5, pk_un ne, pk_un ne, pk_un ne, pk_un ne, pk_un ne]
        exact ⟨Iff.rfl, fun _ _ => ⟨rfl, rfl, rfl, rfl⟩⟩
      · have z2 := z.2
        rw [r1, en2, pk_us] at z2
        exact z2
  · exact q
theorem DR_say {Z : Int → Int} {F A B C S F' A' B' C' S' pb eb fb kb ce : Nat → Int32} {n n' f a b c N : Int32} {z y : Int} (h : DR Z F A B S n.toInt N.toInt) (hI : IX F A B C S n.toInt pb eb fb kb ce) (hr : RR F A B C pb eb fb kb) (hN : N.toInt ≤ 30) (hn : 0 ≤ n.toInt) (hy : WF f.toInt a.toInt b.toInt c.toInt N.toInt → ¬ f.toInt = 6 → y = Z b.toInt)
    (h1 : SyW (AcX F A B C S pb eb fb kb ce n.toInt N.toInt z y f.toInt a.toInt b.toInt c.toInt (lI f c).toInt) F A B C S F' A' B' C' S' n n' f a b (lI f c)) : DR Z F' A' B' S' n'.toInt N.toInt := by
  rcases h1 with ⟨p, r1, r2, r3, r4, r5, r6⟩ | ⟨p, r1, r2, r3, r4, r5, r6⟩
  · rw [r1, r2, r3, r5, r6]; exact h
  · obtain ⟨w, _, _, w4, w5⟩ := p
    have w2 := w
    unfold WF at w2
    have en2 : n.toNatClampNeg = n.toInt.toNat := rfl
    have one : (1 : Int32).toInt = 1 := by decide
    have old : ∀ (b' : Int) (s : Nat), ¬ s = n.toNatClampNeg → (EB F' B' S' b' s ↔ EB F B S b' s) := fun b' s ne => by
      unfold EB; rw [r1, r3, r5, pk_un ne, pk_un ne, pk_un ne]
    have new : ∀ b' : Int, EB F' B' S' b' n.toNatClampNeg → f.toInt = 5 ∧ b.toInt = b' := fun b' q => by
      unfold EB at q; rw [r1, r3, r5, pk_us, pk_us, pk_us] at q; exact ⟨q.2.1, q.2.2⟩
    have oA : ∀ s, ¬ s = n.toNatClampNeg → A' s = A s := fun s ne => by rw [r2, pk_un ne]
    have nA : A' n.toNatClampNeg = a := by rw [r2, pk_us]
    intro b' b0 b1 bz
    obtain ⟨u1, u2⟩ := h b' b0 b1 bz
    -- where the new one is of that door: none of this room, no two
    have nd : f.toInt = 5 → b.toInt = b' → (∀ s : Nat, (s : Int) < n.toInt → EB F B S b' s → ¬ (A s).toInt = a.toInt) ∧ ¬ Two (EB F B S b') n.toInt := fun f5 eb' => by
      have ny : y = 2 := by rw [hy w (by omega), eb']; exact bz
      have nx : ¬ DoX eb F B S n.toInt a.toInt b.toInt := fun q => w5 (Or.inr (Or.inl ⟨f5, ny, q⟩))
      unfold DoX at nx
      rw [Do_e hI hr (by omega), eb'] at nx
      exact ⟨fun s hs p z => nx (Or.inl ⟨s, hs, p.1, p.2.1, z, p.2.2⟩), fun q => nx (Or.inr q)⟩
    refine ⟨fun s1 s2 a1 a2 p1 p2 e => ?_, fun s1 s2 s3 a1 a2 a3 p1 p2 p3 => ?_⟩
    · by_cases q1 : s1 = n.toNatClampNeg
      · by_cases q2 : s2 = n.toNatClampNeg
        · omega
        · rw [q1] at p1 e
          have g := new b' p1
          have p2' := (old b' s2 q2).mp p2
          rw [nA, oA s2 q2] at e
          exact absurd e.symm ((nd g.1 g.2).1 s2 (by omega) p2')
      · by_cases q2 : s2 = n.toNatClampNeg
        · rw [q2] at p2 e
          have g := new b' p2
          have p1' := (old b' s1 q1).mp p1
          rw [nA, oA s1 q1] at e
          exact absurd e ((nd g.1 g.2).1 s1 (by omega) p1')
        · rw [oA s1 q1, oA s2 q2] at e
          exact u1 s1 s2 (by omega) (by omega) ((old b' s1 q1).mp p1) ((old b' s2 q2).mp p2) e
    · by_cases q3 : s3 = n.toNatClampNeg
      · rw [q3] at p3
        have g := new b' p3
        exact (nd g.1 g.2).2 ⟨s1, s2, a1, by omega, (old b' s1 (by omega)).mp p1, (old b' s2 (by omega)).mp p2⟩
      · have d3 : (s3 : Int) < n.toInt := by omega
        exact u2 s1 s2 s3 a1 a2 d3 ((old b' s1 (by omega)).mp p1) ((old b' s2 (by omega)).mp p2) ((old b' s3 q3).mp p3)
theorem RD_un {Z : Int → Int} {F A B C S S' ld dr bw im f1 f2 ld' dr' bw' im' f1' f2' : Nat → Int32} {n s : Int32} (h : RDS Z F A B C S n.toInt.toNat ld dr bw im f1 f2) (h1 : UnW S S' n s) (h2 : RdQ (UnQ S n s) Z F A B C S' ld dr bw im f1 f2 ld' dr' bw' im' f1' f2' n.toInt (F s.toNatClampNeg).toInt) : RDS Z F A B C S' n.toInt.toNat ld' dr' bw' im' f1' f2' := by
  rcases h2 with ⟨q, e1, e2, e3, e4, e5, e6⟩ | ⟨_, _, q⟩
  · rw [e1, e2, e3, e4, e5, e6]
    rcases h1 with ⟨_, t⟩ | ⟨p, t⟩
    · rw [t]; exact h
    · have f5 : ¬ (F s.toNatClampNeg).toInt = 5 := fun z => q ⟨p, z⟩
      refine RDS_e (Z := Z) (F := F) (A := A) (B := B) (C := C) (S := S) (fun j hj => ?_) h
      rw [t]
      by_cases e : j = s.toNatClampNeg
      · subst e
        exact ⟨⟨fun z => absurd z.2 f5, fun z => absurd z.2 f5⟩, fun _ _ => ⟨rfl, rfl, rfl, rfl⟩⟩
      · rw [pk_un e]
        exact ⟨Iff.rfl, fun _ _ => ⟨rfl, rfl, rfl, rfl⟩⟩
  · exact q
theorem DR_un {Z : Int → Int} {F A B S S' : Nat → Int32} {n s : Int32} {N : Int} (h : DR Z F A B S n.toInt N) (h1 : UnW S S' n s) : DR Z F A B S' n.toInt N := by
  rcases h1 with ⟨_, t⟩ | ⟨p, t⟩
  · rw [t]; exact h
  · have sub : ∀ (b : Int) (j : Nat), EB F B S' b j → EB F B S b j := fun b j q => by
      unfold EB at q ⊢
      rw [t] at q
      by_cases e : j = s.toNatClampNeg
      · subst e; rw [pk_us] at q; exact absurd q.1 (by decide)
      · rw [pk_un e] at q; exact q
    intro b b0 b1 bz
    obtain ⟨u1, u2⟩ := h b b0 b1 bz
    exact ⟨fun s1 s2 a1 a2 p1 p2 e => u1 s1 s2 a1 a2 (sub b s1 p1) (sub b s2 p2) e, fun s1 s2 s3 a1 a2 a3 p1 p2 p3 => u2 s1 s2 s3 a1 a2 a3 (sub b s1 p1) (sub b s2 p2) (sub b s3 p3)⟩
theorem RDS_0 {Z : Int → Int} {F A B C S ld dr bw im f1 f2 : Nat → Int32} {n : Int} (hn : n = 0) (h : ∀ k, (ld k).toInt = -9 ∧ (dr k).toInt = -9 ∧ (bw k).toInt = -9 ∧ (im k).toInt = 0 ∧ (f1 k).toInt = -9 ∧ (f2 k).toInt = -9) : RDS Z F A B C S n.toNat ld dr bw im f1 f2 := by
  rw [hn]
  refine ⟨bw, ld, ld, D1_0 (x := 0) (by decide) (fun k => ⟨(h k).2.2.1, (h k).1, (h k).2.1, (h k).2.2.2.2.1, (h k).2.2.2.2.2⟩), D2_0 (x := 0) (by decide) (fun k => (h k).2.2.2.1), fun k hk => ⟨fun _ => ?_, fun q => absurd hk q⟩⟩
  unfold thr
  rw [if_pos (h k).2.1]
theorem DR_0 {Z : Int → Int} {F A B S : Nat → Int32} {n N : Int} (hn : n = 0) : DR Z F A B S n N := fun b _ _ _ => ⟨fun s1 s2 a1 => by omega, fun s1 s2 s3 a1 a2 a3 => by omega⟩
theorem Ex_e {N N2 r r2 d d2 w w2 s s2 : Int} {v v2 : Int32} {P P2 : Int → Int → Int → Int → Prop} (eN : N = N2) (er : r2 = r) (ed : d2 = d) (ew : w2 = w) (es : 0 ≤ r ∧ r < N → s = s2) (hu : 0 ≤ r ∧ r < N → 0 ≤ d ∧ d ≤ 9 → s = 0 → ∀ a b c e a2 b2 c2 e2, P a b c e → P2 a2 b2 c2 e2 → a = a2 ∧ b = b2 ∧ c = c2 ∧ e = e2) (h1 : ExR N r d w s v.toInt P) (h2 : ExR N2 r2 d2 w2 s2 v2.toInt P2) : v = v2 := by
  subst eN er ed ew
  apply Int32.toInt_inj.mp
  rcases h1 with ⟨a, b⟩ | ⟨a, b, e⟩ | ⟨a, b, x1, x2, x3, x4, p, e⟩
  · rcases h2 with ⟨a2, b2⟩ | ⟨a2, b2, e2⟩ | ⟨a2, b2, _⟩
    · omega
    · exact absurd a2 a
    · exact absurd a2 a
  · have z := es ⟨a.1, a.2.1⟩
    rcases h2 with ⟨a2, b2⟩ | ⟨a2, b2, e2⟩ | ⟨a2, b2, _⟩
    · exact absurd a a2
    · omega
    · omega
  · have z := es ⟨a.1, a.2.1⟩
    rcases h2 with ⟨a2, b2⟩ | ⟨a2, b2, e2⟩ | ⟨a2, b2, y1, y2, y3, y4, p2, e2⟩
    · exact absurd a a2
    · omega
    · obtain ⟨g1, g2, g3, g4⟩ := hu ⟨a.1, a.2.1⟩ ⟨a.2.2.1, a.2.2.2.1⟩ b x1 x2 x3 x4 y1 y2 y3 y4 p p2
      omega
theorem hB_of {jm : Nat → Int32} {em : Nat → Nat → Int32} {kn N n : Int} (hM : mInv jm em) (hs : SJ (em 3) (em 6) (em 9) (em 10) (em 11) (em 13) kn N n) : ∀ s : Nat, (s : Int) < n → (em 9 s).toInt = 5 → (em 11 s).toInt < N ∧ (kS (em 3) (em 6) (em 11 s).toInt = 0 ∨ kS (em 3) (em 6) (em 11 s).toInt = 2) := fun s h1 h5 => by
  have q := hs.2.1 s h1
  refine ⟨q.2.1 (by omega), ?_⟩
  have e0 := kS_e (k := 0) (K6_of hM) (Kd_tot hM (em 11 s).toInt) (by omega)
  have e2 := kS_e (k := 2) (K6_of hM) (Kd_tot hM (em 11 s).toInt) (by omega)
  rcases (q.2.2.2 h5).2 with w | w
  · have := e0.mp w; omega
  · have := e2.mp w; omega
theorem SB_of {jm : Nat → Int32} {em : Nat → Nat → Int32} {F A B C S pb eb fb kb ce : Nat → Int32} {n : Int32} {kn N N2 : Int} (hM : mInv jm em) (h : SN F A B C S n pb eb fb kb ce (em 9) (em 10) (em 11) (em 12) (em 13) (jm 8)) (hr : RR F A B C pb eb fb kb) (hs : SJ (em 3) (em 6) (em 9) (em 10) (em 11) (em 13) kn N2 (jm 8).toInt) (eN : N = N2) : SB F B n.toInt N := fun s h1 h5 => by
  have R := hr.1 s
  rw [h.2.2.2.2.2.1] at h1
  rw [h.1] at h5
  have q := hB_of hM hs s h1 h5
  rw [← h.2.2.1] at q
  omega
theorem zX_e {so ko : Nat → Int32} {N b : Int} (h : 0 ≤ b ∧ b < N) : zX so ko N b = (so (ko b.toNat).toNatClampNeg).toInt := if_pos h
theorem Sg_e {F A B C S pb eb fb kb ce : Nat → Int32} {n o f v r r2 : Int} (h : IX F A B C S n pb eb fb kb ce) (hr : RR F A B C pb eb fb kb) (ho : 0 ≤ o ∧ o ≤ 29) (hf : 0 ≤ f ∧ f ≤ 5) (h1 : SgX fb C o f v r) (h2 : SgM F A B C S n o f v r2) : r = r2 := by
  have y1 := Sy_e (v := 1) h hr ho hf
  have y0 := Sy_e (v := 0) h hr ho hf
  rw [← fsF_x] at y1 y0
  unfold SyX at y1 y0
  unfold SgX at h1
  unfold SgM at h2
  have e : (fb (o * 6 + f).toNat).toNatClampNeg = (fb (o * 6 + f).toNat).toInt.toNat := rfl
  rcases Ix_at h.2.2.1 (k := (o * 6 + f).toNat) (by omega) (hr.2.1 _).2.2.1 with ⟨a, b⟩ | ⟨a, b, d⟩
  · omega
  · have v6 := h.2.2.2.2.2 _ b.1 b.2.2.1
    have rC := hr.1 (fb (o * 6 + f).toNat).toNatClampNeg
    omega
theorem Fg_e {F A B C S pb eb fb kb ce F2 A2 B2 C2 S2 pa ko st pa2 ko2 st2 : Nat → Int32} {n n2 r r2 : Int32} {N N2 o o2 f f2 s s2 : Int} (h : SN F A B C S n pb eb fb kb ce F2 A2 B2 C2 S2 n2) (hr : RR F A B C pb eb fb kb) (hN : N ≤ 30) (eN : N = N2) (eo : o2 = o) (ef : f2 = f) (es : 0 ≤ o ∧ o < N → s = s2) (ep : pa = pa2) (ek : ko = ko2) (est : ∀ j : Nat, j < 144 → st j = st2 j)
    (h1 : FgR N o f s r.toInt (SgX fb C o f (sfV pa ko st s f o) r.toInt)) (h2 : FgR N2 o2 f2 s2 r2.toInt (SgM F2 A2 B2 C2 S2 n2.toInt o2 f2 (sfV pa2 ko2 st2 s2 f2 o2) r2.toInt)) : r = r2 := by
  obtain ⟨e1, e2, e3, e4, e5, e6, hI⟩ := h
  have n1 := Int32.toInt_inj.mp e6
  subst e1 e2 e3 e4 e5 n1 eN eo ef ep ek
  apply Int32.toInt_inj.mp
  by_cases q : 0 ≤ o2 ∧ o2 < N ∧ 0 ≤ f2 ∧ f2 ≤ 5
  · have z := es ⟨q.1, q.2.1⟩
    subst z
    have ev : sfV pa ko st s f2 o2 = sfV pa ko st2 s f2 o2 := by unfold sfV; rw [stL_c q.2.2 est]
    rw [← ev] at h2
    rcases h1 with h1 | ⟨_, c1, h1⟩ | ⟨_, c1, h1⟩
    · exact absurd q h1.1
    · rcases h2 with h2 | ⟨_, c2, h2⟩ | ⟨_, c2, h2⟩
      · exact absurd q h2.1
      · omega
      · exact absurd c2 c1
    · rcases h2 with h2 | ⟨_, c2, h2⟩ | ⟨_, c2, h2⟩
      · exact absurd q h2.1
      · exact absurd c1 c2
      · exact Sg_e hI hr (by omega) q.2.2 h1 h2
  · rcases h1 with h1 | h1 | h1
    · rcases h2 with h2 | h2 | h2
      · omega
      · exact absurd h2.1 q
      · exact absurd h2.1 q
    · exact absurd h1.1 q
    · exact absurd h1.1 q
def KyX (kb A : Nat → Int32) (N o s r : Int) : Prop := (¬ (0 ≤ o ∧ o < N) ∧ r = -1) ∨ ((0 ≤ o ∧ o < N) ∧ ¬ (s = 2 ∨ s = 3) ∧ r = -3) ∨ ((0 ≤ o ∧ o < N) ∧ (s = 2 ∨ s = 3) ∧ (((kb o.toNat).toInt = -9 ∧ r = -9) ∨ (¬ (kb o.toNat).toInt = -9 ∧ r = (A (kb o.toNat).toNatClampNeg).toInt)))
def KyM (F A B S : Nat → Int32) (n N o s r : Int) : Prop := (¬ (0 ≤ o ∧ o < N) ∧ r = -1) ∨ ((0 ≤ o ∧ o < N) ∧ ¬ (s = 2 ∨ s = 3) ∧ r = -3) ∨ ((0 ≤ o ∧ o < N) ∧ (s = 2 ∨ s = 3) ∧ ((fsF (KB F B S o) n.toNat = -9 ∧ r = -9) ∨ (¬ fsF (KB F B S o) n.toNat = -9 ∧ r = (A (fsF (KB F B S o) n.toNat).toNat).toInt)))
theorem IX_kb {F A B C S pb eb fb kb ce : Nat → Int32} {n : Int} (h : IX F A B C S n pb eb fb kb ce) (hr : RR F A B C pb eb fb kb) {x : Int} (h0 : 0 ≤ x) (h1 : x ≤ 29) : fsF (KB F B S x) n.toNat = (kb x.toNat).toInt := by
  have e : (kb x.toNat).toNatClampNeg = (kb x.toNat).toInt.toNat := rfl
  refine (fsF_e ?_).symm
  rcases Ix_at h.2.2.2.1 (k := x.toNat) (by omega) (hr.2.1 _).2.2.2 with ⟨a, b⟩ | ⟨a, b, d⟩
  · exact Or.inl ⟨a, fun s hs q => b s ⟨by omega, q.1, q.2.1, by rw [q.2.2]; omega⟩⟩
  · refine Or.inr ⟨(kb x.toNat).toNatClampNeg, by omega, by have := b.1; omega, ⟨b.2.1, b.2.2.1, by have := b.2.2.2; omega⟩, fun s hs q => ?_⟩
    have := d s ⟨by have := b.1; omega, q.1, q.2.1, by rw [q.2.2]; omega⟩
    omega
theorem Ky_e {F A B C S pb eb fb kb ce F2 A2 B2 C2 S2 : Nat → Int32} {n n2 r r2 : Int32} {N N2 o o2 s s2 : Int} (h : SN F A B C S n pb eb fb kb ce F2 A2 B2 C2 S2 n2) (hr : RR F A B C pb eb fb kb) (hN : N ≤ 30) (eN : N = N2) (eo : o2 = o) (es : 0 ≤ o ∧ o < N → s = s2) (h1 : KyX kb A N o s r.toInt) (h2 : KyM F2 A2 B2 S2 n2.toInt N2 o2 s2 r2.toInt) : r = r2 := by
  obtain ⟨e1, e2, e3, e4, e5, e6, hI⟩ := h
  have n1 := Int32.toInt_inj.mp e6
  subst e1 e2 e3 e4 e5 n1 eN eo
  apply Int32.toInt_inj.mp
  unfold KyX at h1
  unfold KyM at h2
  by_cases q : 0 ≤ o2 ∧ o2 < N
  · rw [IX_kb hI hr q.1 (by omega)] at h2
    have er : (kb o2.toNat).toNatClampNeg = (kb o2.toNat).toInt.toNat := rfl
    rw [er] at h1
    have z := es q
    omega
  · omega
theorem RmS_u {f : Int → Int} {Rm : Int → Prop} {w r r2 : Int} (hf : f (-9) = -9) (hr : ∀ t, Rm t → f t = -9) (h1 : RmS f Rm w r) (h2 : RmS f Rm w r2) : r = r2 := by
  rcases h1 with ⟨a, b, d⟩ | ⟨a, b⟩
  · rcases h2 with ⟨a2, b2, d2⟩ | ⟨a2, b2⟩
    · rcases Ch_ln b b2 with q | q
      · rcases Ch_st.mp q with z | z
        · exact z
        · rw [hr r d] at z; exact absurd (Ch_nd hf z) a2
      · rcases Ch_st.mp q with z | z
        · exact z.symm
        · rw [hr r2 d2] at z; exact absurd (Ch_nd hf z) a
    · exact absurd b (b2 r d)
  · rcases h2 with ⟨a2, b2, d2⟩ | ⟨a2, b2⟩
    · exact absurd b2 (b r2 d2)
    · rw [a, a2]
theorem Bg_e {F A B C S pb eb fb kb ce F2 A2 B2 C2 S2 ko so pa2 ko2 : Nat → Int32} {n n2 r r2 : Int32} {kn2 N N2 w w2 s s2 : Int} (h : SN F A B C S n pb eb fb kb ce F2 A2 B2 C2 S2 n2) (hr : RR F A B C pb eb fb kb) (hs : SJ pa2 ko2 F2 A2 B2 S2 kn2 N2 n2.toInt) (h6 : K6 pa2) (hN : N ≤ 30) (eN : N = N2) (ew : w2 = w) (es : 0 ≤ w ∧ w < N → s = s2) (hz : ∀ t, 0 ≤ t → t < N → (so (ko t.toNat).toNatClampNeg).toInt = kS pa2 ko2 t)
    (h1 : BgR N w s r.toInt (fun z => RmS (hF ce) (RmX so ko N) w z)) (h2 : BgR N2 w2 s2 r2.toInt (fun z => RmS (fP F2 A2 B2 S2 n2.toInt) (RmM pa2 ko2 N2) w2 z)) : r = r2 := by
  obtain ⟨e1, e2, e3, e4, e5, e6, hI⟩ := h
  have n1 := Int32.toInt_inj.mp e6
  subst e1 e2 e3 e4 e5 n1 eN ew
  apply Int32.toInt_inj.mp
  have eR : RmX so ko N = RmM pa2 ko2 N := by
    funext t
    apply propext
    unfold RmX RmM
    constructor
    · rintro ⟨a, b, d⟩; exact ⟨a, b, by rw [← hz t a b]; exact d⟩
    · rintro ⟨a, b, d⟩; exact ⟨a, b, by rw [hz t a b]; exact d⟩
  have hu : ∀ z z2, RmS (hF ce) (RmX so ko N) w2 z → RmS (fP F A B S n.toInt) (RmM pa2 ko2 N) w2 z2 → z = z2 := fun z z2 q1 q2 => by
    rw [eR, IX_hF hI hr] at q1
    refine RmS_u fP_9 (fun t ht => ?_) q1 q2
    by_cases y : pL F A S n.toInt t = -9
    · exact fP_no y
    · exfalso
      have w9 := fsF_q y
      have v := (hs.2.1 _ w9.1).2.2.1 w9.2.2.1
      rw [w9.2.2.2] at v
      rcases kS_c (pa := pa2) (ko := ko2) (o := t) with u | u | u | u | u | u
      · exact v u.2
      all_goals (have := ht.2.2; omega)
  unfold BgR at h1 h2
  rcases h1 with ⟨a, b⟩ | ⟨a, b, d⟩ | ⟨a, b, d⟩
  · rcases h2 with ⟨a2, b2⟩ | ⟨a2, b2, d2⟩ | ⟨a2, b2, d2⟩
    · omega
    · exact absurd a2 a
    · exact absurd a2 a
  · have z := es a
    rcases h2 with ⟨a2, b2⟩ | ⟨a2, b2, d2⟩ | ⟨a2, b2, d2⟩
    · exact absurd a a2
    · omega
    · omega
  · have z := es a
    rcases h2 with ⟨a2, b2⟩ | ⟨a2, b2, d2⟩ | ⟨a2, b2, d2⟩
    · exact absurd a a2
    · omega
    · rcases d with d | d
      · rcases d2 with d2 | d2
        · omega
        · have := hu _ _ d.1 d2.2; omega
      · rcases d2 with d2 | d2
        · have := hu _ _ d.2 d2.1; omega
        · exact hu _ _ d.2 d2.2
