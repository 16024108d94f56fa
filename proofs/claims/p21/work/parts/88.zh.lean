/-! THE CLAIM OUT OF ONE WALK OF THE LAW'S BODY. Your part is whole_start (and what it stands on); all else here is the same for every law, but numbers. -/
def R_law : String := "TalePlayLaw"
def lw_P (b : Addr) (xs : List Int32) (args : Array Value) (s : State) : Prop := args = #[.ref b] ∧ s.IntsAt b xs ∧ xs.length ≤ 3584 ∧ (Jvm.Cond.and given_1 narrow_1).before args s = true
def lw_Q (_ : Array Value) (s : State) (o : Outcome) (t : State) : Prop := o = .returned (some (.int 1)) ∧ Framed s o t [] 600000 7302249
def lw_Z (below : List Frame) (a : Array Value) (s : State) : State → Prop := fun t => ∃ o, t.status = .running ∧ Ended t below o ∧ lw_Q a s o t
/-- the law's own end, with 1 on the stack, nothing written that was there before, its room as the claim has it -/
theorem lw_ret {p : Program} {l : Launch} {e : Env} {s : State} {m : MethodId} {below : List Frame} {meth : Method} {c : Code} {b : Nat} (hx : p.tables.exec = Jvm.exec) (hb : c.code = code) (hr : meth.sig.returnType = ret) (hlocks : meth.locks = false) {pc : Nat} {H : Heap} {ls : Array Slot} (hdg : decode code pc = .ok (.ireturn, 1)) : W p l e room_1 s m #[Value.ref b] below meth c H [] 600000 7302249 (lw_Z below #[Value.ref b] s) (F0 m pc ls [.int 1]) := by
  intro T hT X
  obtain ⟨fs, hret, hrun, hended, hW, hframe⟩ := X.leave (v := some (.int 1)) (hlocks := hlocks) (fun h => by rw [hr] at h; cases h)
  have hmeth' : T.vm.method? m = some meth := X.method'
  refine ⟨T.setFrames fs, ?_, .returned (some (.int 1)), hrun, hended, rfl, ⟨_, rfl⟩, hW, hframe⟩
  jvm_step X.here [X.here.top, hx, hb, hdg, hmeth', hr, ret, narrow_b1]
  (try refine ⟨rfl, ?_⟩); (try refine ⟨rfl, ?_⟩)
  first | (intro acts; rw [hret _ acts rfl rfl rfl]) | rw [hret _ _ rfl rfl rfl]
  exact Steps.refl _
/-- what holds at the law's entry: the machine, the code, the tables' words (any of lw_tbl by 'hts w (by decide +kernel)'), the script of L ints xs at the cell b, what the Statement gives of the start (any of its parts by flat_of_before) -/
def lw_At (p : Program) (s : State) (m : MethodId) (meth : Method) (c : Code) (b L : Nat) (xs : Nat → Int32) : Prop :=
  p.tables.exec = Jvm.exec ∧ c.code = code ∧ meth.sig.returnType = ret ∧ c.maxLocals = 4 ∧ s.vm.findClass R_law = some m.cls ∧ (∀ w ∈ lw_tbl, w.before #[Value.ref b] s = true) ∧ va_X b L xs s s.heap ∧ b < s.heap.size ∧ meth.locks = false ∧ (Jvm.Cond.and given_1 narrow_1).before #[Value.ref b] s = true
/-! what holds between two calls of the law -/
def LRel (kn ob md : Int32) (st : Nat → Int32) (kn2 ob2 md2 : Int32) (st2 : Nat → Int32) : Prop := kn.toInt = kn2.toInt ∧ ob.toInt = ob2.toInt ∧ md.toInt = md2.toInt ∧ ∀ j : Nat, j < 144 → st j = st2 j
theorem LRel_su {kn ob md kn2 ob2 md2 k f v k2 f2 v2 : Int32} {a b a2 b2 : Nat → Int32} (h : LRel kn ob md a kn2 ob2 md2 a2) (h1 : StU a b k f v kn.toInt) (h2 : StU a2 b2 k2 f2 v2 kn2.toInt) (ek : k2.toInt = k.toInt) (ef : f2.toInt = f.toInt) (ev : v2.toInt = v.toInt) : LRel kn ob md b kn2 ob2 md2 b2 := by
  obtain ⟨r1, r2, r3, r4⟩ := h
  refine ⟨r1, r2, r3, fun j hj => ?_⟩
  unfold StU StB at h1 h2
  rcases h1 with ⟨c1, e1⟩ | ⟨c1, e1⟩ <;> rcases h2 with ⟨c2, e2⟩ | ⟨c2, e2⟩
  · rw [e1, e2]; exact r4 j hj
  · exfalso; omega
  · exfalso; omega
  · rw [e1, e2, show k2.toInt * 6 + f2.toInt = k.toInt * 6 + f.toInt by omega, show v2 = v from Int32.toInt_inj.mp ev]
    by_cases q : j = (k.toInt * 6 + f.toInt).toNat
    · subst q; rw [pk_us, pk_us]
    · rw [pk_un q, pk_un q]; exact r4 j hj
theorem LRel_se {kn ob md kn2 ob2 md2 k f v k2 f2 v2 r r2 : Int32} {a a2 : Nat → Int32} (h : LRel kn ob md a kn2 ob2 md2 a2) (h1 : StR a k f v kn.toInt r) (h2 : StR a2 k2 f2 v2 kn2.toInt r2) (hk : kn.toInt ≤ 24) (ek : k2.toInt = k.toInt) (ef : f2.toInt = f.toInt) (ev : v2.toInt = v.toInt) : r = r2 := by
  obtain ⟨q1, q2, q3, q4⟩ := h
  unfold StR StB at h1 h2
  rcases h1 with ⟨c1, e1⟩ | ⟨c1, e1⟩ <;> rcases h2 with ⟨c2, e2⟩ | ⟨c2, e2⟩
  · exact Int32.toInt_inj.mp (by omega)
  · exfalso; omega
  · exfalso; omega
  · rw [e1, e2, show k2.toInt * 6 + f2.toInt = k.toInt * 6 + f.toInt by omega]
    exact q4 _ (by omega)
theorem KU_e {a b a2 b2 : Nat → Int32} {k kn k2 kn2 : Int32} (h : a = a2) (h1 : KU a b k kn) (h2 : KU a2 b2 k2 kn2) (ek : k2.toInt = k.toInt) (en : kn.toInt = kn2.toInt) : b = b2 := by
  subst h
  unfold KU at h1 h2
  rcases h1 with ⟨c1, e1⟩ | ⟨c1, c3, c4, e1⟩ <;> rcases h2 with ⟨c2, e2⟩ | ⟨c2, c5, c6, e2⟩
  · rw [e1, e2]
  · exfalso; omega
  · exfalso; omega
  · rw [e1, e2, show k2 = k from Int32.toInt_inj.mp ek, show kn2 = kn from Int32.toInt_inj.mp en.symm]
theorem OU_e {a b a2 b2 : Nat → Int32} {k s1 kn ob k2 s2 kn2 ob2 : Int32} (h : a = a2) (h1 : OU a b k s1 kn ob) (h2 : OU a2 b2 k2 s2 kn2 ob2) (ek : k2.toInt = k.toInt) (es : s2.toInt = s1.toInt) (en : kn.toInt = kn2.toInt) (eo : ob.toInt = ob2.toInt) : b = b2 := by
  subst h
  unfold OU at h1 h2
  rcases h1 with ⟨c1, e1⟩ | ⟨c1, c3, c4, c5, c6, e1⟩ <;> rcases h2 with ⟨c2, e2⟩ | ⟨c2, d3, d4, d5, d6, e2⟩
  · rw [e1, e2]
  · exfalso; omega
  · exfalso; omega
  · rw [e1, e2, show k2 = k from Int32.toInt_inj.mp ek, show ob2 = ob from Int32.toInt_inj.mp eo.symm]
theorem PD_m {jm : Nat → Int32} {em : Nat → Nat → Int32} (h : mInv jm em) : PD (em 3) := fun j => by
  have q : ((j : Int) ≤ 1 ∧ (em 3 j).toInt = -9) ∨ (2 ≤ (j : Int) ∧ (j : Int) ≤ 5 ∧ (em 3 j).toInt = 1) ∨ (6 ≤ (j : Int) ∧ 0 ≤ (em 3 j).toInt ∧ (em 3 j).toInt ≤ 23 ∧ (em 3 j).toInt < (j : Int)) := h.2 3 j
  omega
theorem IsR_e {pa ko pa2 ko2 : Nat → Int32} {w k w2 k2 r r2 : Int32} {ob kn ob2 kn2 : Int} (e1 : pa = pa2) (e2 : ko = ko2) (h1 : IsR pa ko w k ob kn r) (h2 : IsR pa2 ko2 w2 k2 ob2 kn2 r2) (ew : w2.toInt = w.toInt) (ek : k2.toInt = k.toInt) (eo : ob = ob2) (en : kn = kn2) : r = r2 := by
  subst e1 e2
  unfold IsR at h1 h2
  apply Int32.toInt_inj.mp
  rcases h1 with ⟨c1, d1⟩ | ⟨c1, d1⟩ <;> rcases h2 with ⟨c2, d2⟩ | ⟨c2, d2⟩
  · omega
  · exfalso; omega
  · exfalso; omega
  · rw [ew, ek] at d2
    rcases d1 with ⟨x1, y1⟩ | ⟨x1, y1⟩ <;> rcases d2 with ⟨x2, y2⟩ | ⟨x2, y2⟩
    · omega
    · exact absurd y1 y2
    · exact absurd y2 y1
    · omega
theorem SoR_k {pa pb so sb : Nat → Int32} {k kn kn2 : Int32} (h : SoR pa so kn) (hd : PD pa) (h1 : KU pa pb k kn) (h2 : KS so sb k kn) (hk : 6 ≤ kn.toInt ∧ kn.toInt ≤ 24) (h3 : (¬ (0 ≤ k.toInt ∧ k.toInt < kn.toInt ∧ kn.toInt ≤ 23) ∧ kn2.toInt = kn.toInt) ∨ ((0 ≤ k.toInt ∧ k.toInt < kn.toInt ∧ kn.toInt ≤ 23) ∧ kn2.toInt = kn.toInt + 1)) : SoR pb sb kn2 := by
  unfold KU at h1
  unfold KS at h2
  rcases h1 with ⟨c1, e1⟩ | ⟨c1, c2, c3, e1⟩
  · rcases h2 with ⟨d1, e2⟩ | ⟨d1, d2, d3, e2⟩
    · rw [e1, e2]; intro j hj; exact h j (by omega)
    · exfalso; omega
  · rcases h2 with ⟨d1, e2⟩ | ⟨d1, d2, d3, e2⟩
    · exfalso; omega
    · have en : kn.toNatClampNeg = kn.toInt.toNat := rfl
      have he : ∀ j : Nat, (j : Int) < kn.toInt → pb j = pa j := fun j hj => by rw [e1, pk_un (by omega)]
      intro j hj
      by_cases q : j = kn.toNatClampNeg
      · have ek : k.toNatClampNeg = k.toInt.toNat := rfl
        intro c g0 g1
        have a1 := h k.toNatClampNeg (by omega) c g0 g1
        have ej : (j : Int) = kn.toInt := by omega
        rw [show ((k.toNatClampNeg : Nat) : Int) = k.toInt by omega] at a1
        have e5 : kF pb (j : Int) = k.toInt := by
          rw [ej, kF_in (by omega) (by omega), e1, show kn.toInt.toNat = kn.toNatClampNeg from rfl, pk_us]
        rw [e2, q, pk_us, ← q, Ch_nx (by omega), e5, ← a1]
        exact kF_new he (fun j _ => hd j) (by omega) (by omega) (Or.inl (by omega))
      · intro c g0 g1
        rw [e2, pk_un q, ← h j (by omega) c g0 g1]
        exact kF_new he (fun j _ => hd j) (by omega) (by omega) (Or.inl (by omega))
theorem SoR_0 {pa so : Nat → Int32} {kn : Int32} (h6 : K6 pa) (hn : kn.toInt = 6) (hs : ∀ k : Nat, k < 6 → (so k).toInt = (k : Int)) : SoR pa so kn := by
  intro k hk c g0 g1
  rw [hs k (by omega)]
  constructor
  · intro h
    rcases (show k = 0 ∨ k = 1 ∨ (2 ≤ k ∧ k ≤ 5) by omega) with z | z | z
    · rw [z] at h; have := K6_0 h6 h; omega
    · rw [z] at h; have := K6_1 h6 h; omega
    · have := K6_a h6 (a := (k : Int)) (by omega) h; omega
  · intro h
    rcases h with h | ⟨h1, h2⟩
    · rw [h]; exact Ch_rf
    · rw [h1]; exact Ch_up (by rw [K6_f h6 (by omega)]; exact Ch_rf)
theorem RB_e {pa ko so cs cl pa2 ko2 cs2 cl2 : Nat → Int32} {w n1 o w2 n2 o2 kn ob : Int32} (h6 : K6 pa2) (e1 : pa = pa2) (e2 : ko = ko2) (e3 : cs = cs2) (e4 : cl = cl2) (hS : SoR pa so kn) (hk : ∀ j : Nat, (j : Int) < ob.toInt → (ko2 j).toInt < kn.toInt) (hk0 : ∀ j, 0 ≤ (ko2 j).toInt) (hc : 0 ≤ (cs w.toNatClampNeg).toInt ∧ (cs w.toNatClampNeg).toInt ≤ 5) (ho : o.toInt = -9 ∨ (0 ≤ o.toInt ∧ o.toInt < ob.toInt)) (ew : w2.toInt = w.toInt) (en : n2.toInt = n1.toInt) (eo : o2.toInt = o.toInt) : RBx ko so cs cl w n1 o ↔ RBm pa2 ko2 cs2 cl2 w2 n2 o2 := by
  subst e1 e2 e3 e4
  unfold RBx RBm
  rw [cl_e ew, en, eo]
  rcases ho with ho | ho
  · constructor <;> exact fun h => ⟨h.1, h.2.1, Or.inl ho⟩
  · have q1 := hk o.toInt.toNat (by omega)
    have q2 := hk0 o.toInt.toNat
    have ek : (ko o.toInt.toNat).toNatClampNeg = (ko o.toInt.toNat).toInt.toNat := rfl
    have a0 := hS (ko o.toInt.toNat).toNatClampNeg (by omega)
    rw [show (((ko o.toInt.toNat).toNatClampNeg : Nat) : Int) = (ko o.toInt.toNat).toInt by omega] at a0
    have b0 : Kd pa ko o.toInt 0 ↔ _ := a0 0 (by omega) (by omega)
    have b1 : Kd pa ko o.toInt (cs w.toNatClampNeg).toInt ↔ _ := a0 _ hc.1 hc.2
    rw [b0, b1]
    constructor
    · intro ⟨h1, h2, h3⟩
      refine ⟨h1, h2, ?_⟩
      rcases h3 with h3 | ⟨h3, h4⟩
      · exact Or.inl h3
      · exact Or.inr ⟨by omega, h4⟩
    · intro ⟨h1, h2, h3⟩
      refine ⟨h1, h2, ?_⟩
      rcases h3 with h3 | ⟨h3, h4⟩
      · exact Or.inl h3
      · exact Or.inr ⟨by omega, h4⟩
theorem RoW_e {a b a2 b2 : Nat → Int32} {w n1 o md ob r w2 n2 o2 md2 ob2 r2 : Int32} {B B2 : Prop} (h1 : RoW a b w n1 o md ob r B) (h2 : RoW a2 b2 w2 n2 o2 md2 ob2 r2 B2) (hB : RA w o md ob → (B ↔ B2)) (ew : w2.toInt = w.toInt) (eo : o2.toInt = o.toInt) (em : md.toInt = md2.toInt) (eb : ob.toInt = ob2.toInt) : r = r2 := by
  have hA : RA w o md ob ↔ RA w2 o2 md2 ob2 := by unfold RA; rw [ew, eo, em, eb]
  apply Int32.toInt_inj.mp
  unfold RoW at h1 h2
  rcases h1 with ⟨c1, c2, _⟩ | ⟨c1, c3, c2, _⟩ | ⟨c1, c3, c2, _⟩ <;> rcases h2 with ⟨d1, d2, _⟩ | ⟨d1, d3, d2, _⟩ | ⟨d1, d3, d2, _⟩
  · omega
  · exact absurd (hA.mpr d1) c1
  · exact absurd (hA.mpr d1) c1
  · exact absurd (hA.mp c1) d1
  · omega
  · exact absurd ((hB c1).mpr d3) c3
  · exact absurd (hA.mp c1) d1
  · exact absurd ((hB c1).mp c3) d3
  · omega
theorem RoR_r {a b a2 b2 : Nat → Int32} {w n1 o md ob r w2 n2 o2 md2 ob2 r2 : Int32} {B B2 : Prop} (h : RoR a a2 md) (h1 : RoW a b w n1 o md ob r B) (h2 : RoW a2 b2 w2 n2 o2 md2 ob2 r2 B2) (hB : RA w o md ob → (B ↔ B2)) (hB2 : B → 0 ≤ n1.toInt ∧ n1.toInt ≤ 11) (ew : w2.toInt = w.toInt) (en : n2.toInt = n1.toInt) (eo : o2.toInt = o.toInt) (em : md.toInt = md2.toInt) (eb : ob.toInt = ob2.toInt) (hm : md.toInt ≤ 10) : RoR b b2 md := by
  have hA : RA w o md ob ↔ RA w2 o2 md2 ob2 := by unfold RA; rw [ew, eo, em, eb]
  unfold RoW at h1 h2
  rcases h1 with ⟨c1, c2, e1⟩ | ⟨c1, c3, c2, e1⟩ | ⟨c1, c3, c2, e1⟩ <;> rcases h2 with ⟨d1, d2, e2⟩ | ⟨d1, d3, d2, e2⟩ | ⟨d1, d3, d2, e2⟩
  · rw [e1, e2]; exact h
  · exact absurd (hA.mpr d1) c1
  · exact absurd (hA.mpr d1) c1
  · exact absurd (hA.mp c1) d1
  · rw [e1, e2]; exact h
  · exact absurd ((hB c1).mpr d3) c3
  · exact absurd (hA.mp c1) d1
  · exact absurd ((hB c1).mp c3) d3
  · obtain ⟨r0, r1, _⟩ := c1
    have hn := hB2 c3
    rw [e1, e2, ew, en, show o2 = o from Int32.toInt_inj.mp eo]
    intro j hj
    obtain ⟨g1, g2⟩ := h j hj
    by_cases q : j = (w.toInt * 12 + n1.toInt).toNat
    · subst q
      rw [pk_us, pk_us]
      exact ⟨fun _ => rfl, fun z => by exfalso; omega⟩
    · rw [pk_un q, pk_un q]; exact ⟨g1, g2⟩
theorem CU_e {a b a2 b2 c e r c2 e2 r2 : Nat → Int32} {s1 n1 md s2 n2 md2 : Int32} (ha : a = c) (hb : b = e) (h1 : CUx a b a2 b2 s1 n1 md) (h2 : CUm c e r c2 e2 r2 s2 n2 md2) (es : s2.toInt = s1.toInt) (en : n2.toInt = n1.toInt) (em : md.toInt = md2.toInt) : a2 = c2 ∧ b2 = e2 := by
  subst ha hb
  unfold CUx CNew at h1
  unfold CUm CNew at h2
  rcases h1 with ⟨c1, x1, x2⟩ | ⟨c1, x1, x2⟩ <;> rcases h2 with ⟨d1, y1, y2, _⟩ | ⟨d1, y1, y2, _⟩
  · rw [x1, x2, y1, y2]; exact ⟨rfl, rfl⟩
  · exfalso; omega
  · exfalso; omega
  · rw [x1, x2, y1, y2, show s2 = s1 from Int32.toInt_inj.mp es, show n2 = n1 from Int32.toInt_inj.mp en, show md2 = md from Int32.toInt_inj.mp em.symm]; exact ⟨rfl, rfl⟩
theorem RoR_c {x c e r c2 e2 r2 : Nat → Int32} {s2 n2 md md2 mdn : Int32} (h : RoR x r md) (h2 : CUm c e r c2 e2 r2 s2 n2 md2) (em : md.toInt = md2.toInt) (hm : 0 ≤ md.toInt) (h3 : (¬ CNew s2 n2 md2 ∧ mdn.toInt = md.toInt) ∨ (CNew s2 n2 md2 ∧ mdn.toInt = md.toInt + 1)) : RoR x r2 mdn := by
  unfold CUm at h2
  rcases h2 with ⟨d1, _, _, y3⟩ | ⟨d1, _, _, y3⟩
  · rcases h3 with ⟨_, g⟩ | ⟨g, _⟩
    · rw [y3]; intro j hj; rw [g]; exact h j hj
    · exact absurd g d1
  · rcases h3 with ⟨g, _⟩ | ⟨_, g⟩
    · exact absurd d1 g
    · intro j hj
      obtain ⟨g1, g2⟩ := h j hj
      refine ⟨fun hl => ?_, fun hl => g2 (by omega)⟩
      rw [y3 j]
      by_cases p : 12 * md2.toInt ≤ (j : Int) ∧ (j : Int) < 12 * md2.toInt + 12
      · rw [if_pos p]; exact Int32.toInt_inj.mp (by rw [g2 (by omega)]; decide)
      · rw [if_neg p]; exact g1 (by omega)
theorem WhR_e {ro cl ro2 cl2 : Nat → Int32} {w n1 md r w2 n2 md2 r2 : Int32} (e4 : cl = cl2) (h : RoR ro ro2 md) (h1 : WhR ro cl w n1 md r) (h2 : WhR ro2 cl2 w2 n2 md2 r2) (ew : w2.toInt = w.toInt) (en : n2.toInt = n1.toInt) (em : md.toInt = md2.toInt) (hm : md.toInt ≤ 10) : r = r2 := by
  subst e4
  apply Int32.toInt_inj.mp
  unfold WhR at h1 h2
  rw [cl_e ew, ew, en, ← em] at h2
  by_cases q : 0 ≤ w.toInt ∧ w.toInt < md.toInt ∧ 0 ≤ n1.toInt ∧ n1.toInt ≤ 11
  · have g := (h (w.toInt * 12 + n1.toInt).toNat (by omega)).1 (by omega)
    rw [← g] at h2
    rcases h1 with h1 | h1 | ⟨_, _, _, _, _, h1 | ⟨_, h1⟩⟩ <;> rcases h2 with h2 | h2 | ⟨_, _, _, _, _, h2 | ⟨_, h2⟩⟩
    all_goals first | omega | (rw [h1, h2]) | (exfalso; omega)
  · rcases h1 with h1 | h1 | h1 <;> rcases h2 with h2 | h2 | h2
    all_goals first | omega | (exfalso; omega)
/-! by which sentences something is as it is: the rows of the class -/
def Px (F A S : Nat → Int32) (n : Int) (k s : Nat) : Prop := (s : Int) < n ∧ (S s).toInt = 1 ∧ (F s).toInt < 5 ∧ (A s).toInt = (k : Int)
def Ex (F A C S : Nat → Int32) (n : Int) (k s : Nat) : Prop := (s : Int) < n ∧ (S s).toInt = 1 ∧ (F s).toInt = 5 ∧ (A s).toInt * 10 + (C s).toInt = (k : Int)
def Fx (F A B S : Nat → Int32) (n : Int) (k s : Nat) : Prop := (s : Int) < n ∧ (S s).toInt = 1 ∧ (F s).toInt = 6 ∧ (A s).toInt * 6 + (B s).toInt = (k : Int)
def Kx (F B S : Nat → Int32) (n : Int) (k s : Nat) : Prop := (s : Int) < n ∧ (S s).toInt = 1 ∧ (F s).toInt = 7 ∧ (B s).toInt = (k : Int)
def Ix (P : Nat → Nat → Prop) (m : Nat) (b : Nat → Int32) : Prop := ∀ k s : Nat, k < m → (P k s ↔ (b k).toInt = (s : Int))
def Cx (F B pb ce : Nat → Int32) : Prop := ∀ o : Nat, o < 30 → ((pb o).toInt = -9 ∧ (ce o).toInt = 255) ∨ (0 ≤ (pb o).toInt ∧ (ce o).toInt = (B (pb o).toNatClampNeg).toInt * 8 + (F (pb o).toNatClampNeg).toInt)
def V6 (F C : Nat → Int32) (n : Int) : Prop := ∀ s : Nat, (s : Int) < n → (F s).toInt = 6 → (C s).toInt ≤ 1
def IX (F A B C S : Nat → Int32) (n : Int) (pb eb fb kb ce : Nat → Int32) : Prop := Ix (Px F A S n) 30 pb ∧ Ix (Ex F A C S n) 300 eb ∧ Ix (Fx F A B S n) 180 fb ∧ Ix (Kx F B S n) 30 kb ∧ Cx F B pb ce ∧ V6 F C n
theorem Ix_same {P P2 : Nat → Nat → Prop} {m : Nat} {b : Nat → Int32} (h : Ix P m b) (e : ∀ k s, k < m → (P2 k s ↔ P k s)) : Ix P2 m b := fun k s hk => (e k s hk).trans (h k s hk)
theorem Ix_add {P P2 : Nat → Nat → Prop} {m k0 s0 : Nat} {b : Nat → Int32} {v : Int32} (h : Ix P m b) (h0 : (b k0).toInt = -9) (hv : v.toInt = (s0 : Int)) (hm : k0 < m) (e : ∀ k s, k < m → (P2 k s ↔ P k s ∨ (k = k0 ∧ s = s0))) : Ix P2 m (upd b k0 v) := fun k s hk => by
  rw [e k s hk]
  by_cases q : k = k0
  · subst q
    rw [pk_us]
    have w := h k s hk
    constructor
    · rintro (z | z)
      · have := w.mp z; omega
      · omega
    · intro z; exact Or.inr ⟨rfl, by omega⟩
  · rw [pk_un q]
    exact ⟨fun z => (h k s hk).mp (z.resolve_right (fun y => q y.1)), fun z => Or.inl ((h k s hk).mpr z)⟩
theorem Ix_rm {P P2 : Nat → Nat → Prop} {m k0 s0 : Nat} {b : Nat → Int32} {v : Int32} (h : Ix P m b) (h0 : P k0 s0) (hv : v.toInt = -9) (hm : k0 < m) (hu : ∀ k, P k s0 → k = k0) (e : ∀ k s, k < m → (P2 k s ↔ P k s ∧ ¬ s = s0)) : Ix P2 m (upd b k0 v) := fun k s hk => by
  rw [e k s hk]
  by_cases q : k = k0
  · subst q
    rw [pk_us]
    have w := (h k s0 hk).mp h0
    constructor
    · rintro ⟨z, y⟩
      have := (h k s hk).mp z
      omega
    · intro z; omega
  · rw [pk_un q]
    constructor
    · intro z; exact (h k s hk).mp z.1
    · intro z
      have z2 := (h k s hk).mpr z
      exact ⟨z2, fun y => q (hu k (by rw [← y]; exact z2))⟩
theorem Ix_at {P : Nat → Nat → Prop} {m k : Nat} {b : Nat → Int32} (h : Ix P m b) (hm : k < m) (hr : (b k).toInt = -9 ∨ 0 ≤ (b k).toInt) : ((b k).toInt = -9 ∧ ∀ s, ¬ P k s) ∨ (0 ≤ (b k).toInt ∧ P k (b k).toNatClampNeg ∧ ∀ s, P k s → s = (b k).toNatClampNeg) := by
  have e : (b k).toNatClampNeg = (b k).toInt.toNat := rfl
  rcases hr with q | q
  · exact Or.inl ⟨q, fun s z => by have := (h k s hm).mp z; omega⟩
  · exact Or.inr ⟨q, (h k _ hm).mpr (by omega), fun s z => by have := (h k s hm).mp z; omega⟩
theorem un_i {n : Int} {s : Nat} (hn : 0 ≤ n) (h : (s : Int) < n) : ¬ s = n.toNat := by omega
/-- a sentence more -/
theorem IX_add {F A B C S pb eb fb kb ce pb2 eb2 fb2 kb2 ce2 : Nat → Int32} {n : Int} {f a b c v : Int32} (h : IX F A B C S n pb eb fb kb ce) (hn : 0 ≤ n) (hv : v.toInt = n) (hf : 0 ≤ f.toInt ∧ f.toInt ≤ 7) (ha : 0 ≤ a.toInt ∧ a.toInt ≤ 29) (hb : 0 ≤ b.toInt ∧ b.toInt ≤ 29) (h6 : f.toInt = 6 → b.toInt ≤ 5 ∧ c.toInt ≤ 1) (h5 : f.toInt = 5 → 0 ≤ c.toInt ∧ c.toInt ≤ 9) (hfr : (sFv pb eb fb kb f.toInt a.toInt b.toInt c.toInt).toInt = -9) (hp : PT pb eb fb kb ce pb2 eb2 fb2 kb2 ce2 f.toInt a.toInt b.toInt c.toInt v) : IX (upd F n.toNat f) (upd A n.toNat a) (upd B n.toNat b) (upd C n.toNat c) (upd S n.toNat 1) (n + 1) pb2 eb2 fb2 kb2 ce2 := by
  obtain ⟨i1, i2, i3, i4, i5, i6⟩ := h
  have one : (1 : Int32).toInt = 1 := by decide
  have e1 : ∀ k s, Px (upd F n.toNat f) (upd A n.toNat a) (upd S n.toNat 1) (n + 1) k s ↔ Px F A S n k s ∨ (f.toInt < 5 ∧ a.toInt = (k : Int) ∧ s = n.toNat) := fun k s => by
    unfold Px
    by_cases q : s = n.toNat
    · subst q; rw [pk_us, pk_us, pk_us]; omega
    · rw [pk_un q, pk_un q, pk_un q]; omega
  have e2 : ∀ k s, Ex (upd F n.toNat f) (upd A n.toNat a) (upd C n.toNat c) (upd S n.toNat 1) (n + 1) k s ↔ Ex F A C S n k s ∨ (f.toInt = 5 ∧ a.toInt * 10 + c.toInt = (k : Int) ∧ s = n.toNat) := fun k s => by
    unfold Ex
    by_cases q : s = n.toNat
    · subst q; rw [pk_us, pk_us, pk_us, pk_us]; omega
    · rw [pk_un q, pk_un q, pk_un q, pk_un q]; omega
  have e3 : ∀ k s, Fx (upd F n.toNat f) (upd A n.toNat a) (upd B n.toNat b) (upd S n.toNat 1) (n + 1) k s ↔ Fx F A B S n k s ∨ (f.toInt = 6 ∧ a.toInt * 6 + b.toInt = (k : Int) ∧ s = n.toNat) := fun k s => by
    unfold Fx
    by_cases q : s = n.toNat
    · subst q; rw [pk_us, pk_us, pk_us, pk_us]; omega
    · rw [pk_un q, pk_un q, pk_un q, pk_un q]; omega
  have e4 : ∀ k s, Kx (upd F n.toNat f) (upd B n.toNat b) (upd S n.toNat 1) (n + 1) k s ↔ Kx F B S n k s ∨ (f.toInt = 7 ∧ b.toInt = (k : Int) ∧ s = n.toNat) := fun k s => by
    unfold Kx
    by_cases q : s = n.toNat
    · subst q; rw [pk_us, pk_us, pk_us]; omega
    · rw [pk_un q, pk_un q, pk_un q]; omega
  have i6' : V6 (upd F n.toNat f) (upd C n.toNat c) (n + 1) := fun s hs q => by
    by_cases z : s = n.toNat
    · subst z; rw [pk_us] at q ⊢; exact (h6 q).2
    · rw [pk_un z] at q ⊢; exact i6 s (by omega) q
  have i5' : Cx (upd F n.toNat f) (upd B n.toNat b) pb ce := fun o ho => by
    rcases i5 o ho with q | q
    · exact Or.inl q
    · have e : (pb o).toNatClampNeg = (pb o).toInt.toNat := rfl
      have w := (i1 o (pb o).toNatClampNeg ho).mpr (by omega)
      have z : ¬ (pb o).toNatClampNeg = n.toNat := un_i hn w.1
      rw [pk_un z, pk_un z]
      exact Or.inr q
  have nsm : ∀ {P P2 : Nat → Nat → Prop} {Q : Nat → Nat → Prop} {m : Nat} {x : Nat → Int32}, Ix P m x → (∀ k s, P2 k s ↔ P k s ∨ Q k s) → (∀ k s, ¬ Q k s) → Ix P2 m x := fun hI e nq => Ix_same hI (fun k s _ => (e k s).trans ⟨fun z => z.resolve_right (nq k s), Or.inl⟩)
  unfold sFv at hfr
  rcases hp with ⟨q, r1, r2, r3, r4, r5⟩ | ⟨q, r1, r2, r3, r4, r5⟩ | ⟨q, r1, r2, r3, r4, r5⟩ | ⟨q, r1, r2, r3, r4, w, r5, r6⟩
  · rw [if_pos q] at hfr
    rw [r1, r2, r3, r4, r5]
    have hc := h5 q
    refine ⟨nsm i1 e1 (fun k s z => by omega), Ix_add i2 hfr (s0 := n.toNat) (by omega) (by omega) (fun k s _ => (e2 k s).trans ⟨fun z => z.imp_right (fun y => by omega), fun z => z.imp_right (fun y => by omega)⟩), nsm i3 e3 (fun k s z => by omega), nsm i4 e4 (fun k s z => by omega), i5', i6'⟩
  · rw [if_neg (by omega), if_pos q] at hfr
    rw [r1, r2, r3, r4, r5]
    have hc := h6 q
    refine ⟨nsm i1 e1 (fun k s z => by omega), nsm i2 e2 (fun k s z => by omega), Ix_add i3 hfr (s0 := n.toNat) (by omega) (by omega) (fun k s _ => (e3 k s).trans ⟨fun z => z.imp_right (fun y => by omega), fun z => z.imp_right (fun y => by omega)⟩), nsm i4 e4 (fun k s z => by omega), i5', i6'⟩
  · rw [if_neg (by omega), if_neg (by omega), if_pos q] at hfr
    rw [r1, r2, r3, r4, r5]
    refine ⟨nsm i1 e1 (fun k s z => by omega), nsm i2 e2 (fun k s z => by omega), nsm i3 e3 (fun k s z => by omega), Ix_add i4 hfr (s0 := n.toNat) (by omega) (by omega) (fun k s _ => (e4 k s).trans ⟨fun z => z.imp_right (fun y => by omega), fun z => z.imp_right (fun y => by omega)⟩), i5', i6'⟩
  · rw [if_neg (by omega), if_neg (by omega), if_neg (by omega)] at hfr
    rw [r1, r2, r3, r4, r5]
    refine ⟨Ix_add i1 hfr (s0 := n.toNat) (by omega) (by omega) (fun k s _ => (e1 k s).trans ⟨fun z => z.imp_right (fun y => by omega), fun z => z.imp_right (fun y => by omega)⟩), nsm i2 e2 (fun k s z => by omega), nsm i3 e3 (fun k s z => by omega), nsm i4 e4 (fun k s z => by omega), fun o ho => ?_, i6'⟩
    by_cases z : o = a.toInt.toNat
    · subst z
      rw [pk_us, pk_us, show v.toNatClampNeg = n.toNat by show v.toInt.toNat = n.toNat; rw [hv], pk_us, pk_us]
      exact Or.inr ⟨by omega, by omega⟩
    · rw [pk_un z, pk_un z]; exact i5' o ho
/-- a sentence is taken back -/
theorem IX_rm {F A B C S pb eb fb kb ce pb2 eb2 fb2 kb2 ce2 : Nat → Int32} {n : Int} {s0 : Nat} {v : Int32} (h : IX F A B C S n pb eb fb kb ce) (hs : (s0 : Int) < n) (hS : (S s0).toInt = 1) (hv : v.toInt = -9) (ha : 0 ≤ (A s0).toInt ∧ (A s0).toInt ≤ 29) (hb : 0 ≤ (B s0).toInt ∧ (B s0).toInt ≤ 29) (h6 : (F s0).toInt = 6 → (B s0).toInt ≤ 5) (hc : 0 ≤ (C s0).toInt ∧ (C s0).toInt ≤ 9) (hp : PT pb eb fb kb ce pb2 eb2 fb2 kb2 ce2 (F s0).toInt (A s0).toInt (B s0).toInt (C s0).toInt v) : IX F A B C (upd S s0 0) n pb2 eb2 fb2 kb2 ce2 := by
  obtain ⟨i1, i2, i3, i4, i5, i6⟩ := h
  have zero : (0 : Int32).toInt = 0 := by decide
  have e1 : ∀ k s, Px F A (upd S s0 0) n k s ↔ Px F A S n k s ∧ ¬ s = s0 := fun k s => by
    unfold Px
    by_cases q : s = s0
    · subst q; rw [pk_us]; omega
    · rw [pk_un q]; omega
  have e2 : ∀ k s, Ex F A C (upd S s0 0) n k s ↔ Ex F A C S n k s ∧ ¬ s = s0 := fun k s => by
    unfold Ex
    by_cases q : s = s0
    · subst q; rw [pk_us]; omega
    · rw [pk_un q]; omega
  have e3 : ∀ k s, Fx F A B (upd S s0 0) n k s ↔ Fx F A B S n k s ∧ ¬ s = s0 := fun k s => by
    unfold Fx
    by_cases q : s = s0
    · subst q; rw [pk_us]; omega
    · rw [pk_un q]; omega
  have e4 : ∀ k s, Kx F B (upd S s0 0) n k s ↔ Kx F B S n k s ∧ ¬ s = s0 := fun k s => by
    unfold Kx
    by_cases q : s = s0
    · subst q; rw [pk_us]; omega
    · rw [pk_un q]; omega
  have nsm : ∀ {P P2 : Nat → Nat → Prop} {m : Nat} {x : Nat → Int32}, Ix P m x → (∀ k s, P2 k s ↔ P k s ∧ ¬ s = s0) → (∀ k, ¬ P k s0) → Ix P2 m x := fun hI e nq => Ix_same hI (fun k s _ => (e k s).trans ⟨fun z => z.1, fun z => ⟨z, fun y => nq k (by rw [← y]; exact z)⟩⟩)
  have n1 : ¬ (F s0).toInt < 5 → ∀ k, ¬ Px F A S n k s0 := fun q k z => q z.2.2.1
  have n2 : ¬ (F s0).toInt = 5 → ∀ k, ¬ Ex F A C S n k s0 := fun q k z => q z.2.2.1
  have n3 : ¬ (F s0).toInt = 6 → ∀ k, ¬ Fx F A B S n k s0 := fun q k z => q z.2.2.1
  have n4 : ¬ (F s0).toInt = 7 → ∀ k, ¬ Kx F B S n k s0 := fun q k z => q z.2.2.1
  rcases hp with ⟨q, r1, r2, r3, r4, r5⟩ | ⟨q, r1, r2, r3, r4, r5⟩ | ⟨q, r1, r2, r3, r4, r5⟩ | ⟨q, r1, r2, r3, r4, w, r5, r6⟩
  · rw [r1, r2, r3, r4, r5]
    exact ⟨nsm i1 e1 (n1 (by omega)), Ix_rm i2 (s0 := s0) ⟨hs, hS, q, by omega⟩ hv (by omega) (fun k z => by have y := z.2.2.2; omega) (fun k s _ => e2 k s), nsm i3 e3 (n3 (by omega)), nsm i4 e4 (n4 (by omega)), i5, i6⟩
  · rw [r1, r2, r3, r4, r5]
    have hb2 := h6 q
    exact ⟨nsm i1 e1 (n1 (by omega)), nsm i2 e2 (n2 (by omega)), Ix_rm i3 (s0 := s0) ⟨hs, hS, q, by omega⟩ hv (by omega) (fun k z => by have y := z.2.2.2; omega) (fun k s _ => e3 k s), nsm i4 e4 (n4 (by omega)), i5, i6⟩
  · rw [r1, r2, r3, r4, r5]
    exact ⟨nsm i1 e1 (n1 (by omega)), nsm i2 e2 (n2 (by omega)), nsm i3 e3 (n3 (by omega)), Ix_rm i4 (s0 := s0) ⟨hs, hS, q, by omega⟩ hv (by omega) (fun k z => by have y := z.2.2.2; omega) (fun k s _ => e4 k s), i5, i6⟩
  · rw [r1, r2, r3, r4, r5]
    refine ⟨Ix_rm i1 (s0 := s0) ⟨hs, hS, q, by omega⟩ hv (by omega) (fun k z => by have y := z.2.2.2; omega) (fun k s _ => e1 k s), nsm i2 e2 (n2 (by omega)), nsm i3 e3 (n3 (by omega)), nsm i4 e4 (n4 (by omega)), fun o ho => ?_, i6⟩
    by_cases z : o = (A s0).toInt.toNat
    · subst z
      rw [pk_us, pk_us]
      exact Or.inl ⟨hv, by omega⟩
    · rw [pk_un z, pk_un z]; exact i5 o ho
/-- the ranges of the rows -/
def RR (F A B C pb eb fb kb : Nat → Int32) : Prop := (∀ s, 0 ≤ (F s).toInt ∧ (F s).toInt ≤ 7 ∧ 0 ≤ (A s).toInt ∧ (A s).toInt ≤ 29 ∧ 0 ≤ (B s).toInt ∧ (B s).toInt ≤ 29 ∧ 0 ≤ (C s).toInt ∧ (C s).toInt ≤ 9) ∧ (∀ k, ((pb k).toInt = -9 ∨ 0 ≤ (pb k).toInt) ∧ ((eb k).toInt = -9 ∨ 0 ≤ (eb k).toInt) ∧ ((fb k).toInt = -9 ∨ 0 ≤ (fb k).toInt) ∧ ((kb k).toInt = -9 ∨ 0 ≤ (kb k).toInt)) ∧ ∀ s, (F s).toInt = 6 → (B s).toInt ≤ 5
theorem IX_pL {F A B C S pb eb fb kb ce : Nat → Int32} {n : Int} (h : IX F A B C S n pb eb fb kb ce) (hr : RR F A B C pb eb fb kb) {x : Int} (h0 : 0 ≤ x) (h1 : x ≤ 29) : pL F A S n x = (pb x.toNat).toInt := by
  have e : (pb x.toNat).toNatClampNeg = (pb x.toNat).toInt.toNat := rfl
  refine (fsF_e ?_).symm
  rcases Ix_at h.1 (k := x.toNat) (by omega) (hr.2.1 _).1 with ⟨a, b⟩ | ⟨a, b, d⟩
  · exact Or.inl ⟨a, fun s hs q => b s ⟨by omega, q.1, q.2.1, by rw [q.2.2]; omega⟩⟩
  · refine Or.inr ⟨(pb x.toNat).toNatClampNeg, by omega, by have := b.1; omega, ⟨b.2.1, b.2.2.1, by have := b.2.2.2; omega⟩, fun s hs q => ?_⟩
    have := d s ⟨by have := b.1; omega, q.1, q.2.1, by rw [q.2.2]; omega⟩
    omega
theorem IX_hF {F A B C S pb eb fb kb ce : Nat → Int32} {n : Int} (h : IX F A B C S n pb eb fb kb ce) (hr : RR F A B C pb eb fb kb) : hF ce = fP F A B S n := by
  funext x
  unfold hF fP
  by_cases q : 0 ≤ x ∧ x ≤ 29
  · have w := IX_pL h hr q.1 q.2
    have rF := hr.1 (pb x.toNat).toNatClampNeg
    have e : (pb x.toNat).toNatClampNeg = (pb x.toNat).toInt.toNat := rfl
    rw [w]
    rcases Ix_at h.1 (k := x.toNat) (by omega) (hr.2.1 _).1 with ⟨a, b⟩ | ⟨a, b, d⟩
    · rcases h.2.2.2.2.1 x.toNat (by omega) with c | c
      · rw [if_neg (fun y => by omega), if_neg (fun y => y.2.2 a)]
      · exfalso; omega
    · rcases h.2.2.2.2.1 x.toNat (by omega) with c | c
      · exfalso; omega
      · have f5 := b.2.2.1
        rw [if_pos ⟨q.1, q.2, by omega⟩, if_pos ⟨q.1, q.2, by omega⟩, ← e]
        omega
  · rw [if_neg (fun y => q ⟨y.1, y.2.1⟩), if_neg (fun y => q ⟨y.1, y.2.1⟩)]
theorem Sy_e {F A B C S pb eb fb kb ce : Nat → Int32} {n a g v : Int} (h : IX F A B C S n pb eb fb kb ce) (hr : RR F A B C pb eb fb kb) (ha : 0 ≤ a ∧ a ≤ 29) (hg : 0 ≤ g ∧ g ≤ 5) : SyX fb C a g v ↔ ∃ s : Nat, (s : Int) < n ∧ sE F A B C S 6 a g v s := by
  have e : (fb (a * 6 + g).toNat).toNatClampNeg = (fb (a * 6 + g).toNat).toInt.toNat := rfl
  unfold SyX
  constructor
  · rintro ⟨q1, q2⟩
    rcases Ix_at h.2.2.1 (k := (a * 6 + g).toNat) (by omega) (hr.2.1 _).2.2.1 with ⟨x, b⟩ | ⟨x, b, d⟩
    · exact absurd x q1
    · have r := hr.1 (fb (a * 6 + g).toNat).toNatClampNeg
      have k := b.2.2.2
      have r6 := hr.2.2 _ b.2.2.1
      exact ⟨_, b.1, b.2.1, b.2.2.1, by omega, by omega, q2⟩
  · rintro ⟨s, q, w1, w2, w3, w4, w5⟩
    have z := (h.2.2.1 (a * 6 + g).toNat s (by omega)).mp ⟨q, w1, w2, by omega⟩
    refine ⟨by omega, ?_⟩
    rw [show (fb (a * 6 + g).toNat).toNatClampNeg = s by omega]; exact w5
theorem Do_e {F A B C S pb eb fb kb ce : Nat → Int32} {n a b : Int} (h : IX F A B C S n pb eb fb kb ce) (hr : RR F A B C pb eb fb kb) (ha : 0 ≤ a ∧ a ≤ 29) : (∃ d : Nat, (d : Int) < 10 ∧ DP eb B a b d) ↔ ∃ s : Nat, (s : Int) < n ∧ aP F A B S a b s := by
  constructor
  · rintro ⟨d, q, q1, q2⟩
    have e : (eb (a * 10 + (d : Int)).toNat).toNatClampNeg = (eb (a * 10 + (d : Int)).toNat).toInt.toNat := rfl
    rcases Ix_at h.2.1 (k := (a * 10 + (d : Int)).toNat) (by omega) (hr.2.1 _).2.1 with ⟨x, b⟩ | ⟨x, b, y⟩
    · exact absurd x q1
    · have r := hr.1 (eb (a * 10 + (d : Int)).toNat).toNatClampNeg
      have k := b.2.2.2
      exact ⟨_, b.1, b.2.1, b.2.2.1, by omega, q2⟩
  · rintro ⟨s, q, w1, w2, w3, w4⟩
    have r := hr.1 s
    have ec : (((C s).toInt.toNat : Nat) : Int) = (C s).toInt := by omega
    have z := (h.2.1 (a * 10 + (((C s).toInt.toNat : Nat) : Int)).toNat s (by omega)).mp ⟨q, w1, w2, by omega⟩
    refine ⟨(C s).toInt.toNat, by omega, by omega, ?_⟩
    rw [show (eb (a * 10 + (((C s).toInt.toNat : Nat) : Int)).toNat).toNatClampNeg = s by show (eb (a * 10 + (((C s).toInt.toNat : Nat) : Int)).toNat).toInt.toNat = s; omega]; exact w4
/-- where a slot is free or not -/
theorem Sl_e {F A B C S pb eb fb kb ce : Nat → Int32} {n f a b c : Int} (h : IX F A B C S n pb eb fb kb ce) (hr : RR F A B C pb eb fb kb) (hf : 0 ≤ f ∧ f ≤ 7) (ha : 0 ≤ a ∧ a ≤ 29) (hb : 0 ≤ b ∧ b ≤ 29) (h6 : f = 6 → b ≤ 5) (h5 : f = 5 → 0 ≤ c ∧ c ≤ 9) : ((sFv pb eb fb kb f a b c).toInt = -9 ∨ 0 ≤ (sFv pb eb fb kb f a b c).toInt) ∧ ∀ s : Nat, (sFv pb eb fb kb f a b c).toInt = (s : Int) ↔ (s : Int) < n ∧ (S s).toInt = 1 ∧ ((f = 5 ∧ (F s).toInt = 5 ∧ (A s).toInt = a ∧ (C s).toInt = c) ∨ (f = 6 ∧ (F s).toInt = 6 ∧ (A s).toInt = a ∧ (B s).toInt = b) ∨ (f = 7 ∧ (F s).toInt = 7 ∧ (B s).toInt = b) ∨ (f < 5 ∧ (F s).toInt < 5 ∧ (A s).toInt = a)) := by
  unfold sFv
  by_cases q5 : f = 5
  · rw [if_pos q5]
    have hc := h5 q5
    refine ⟨(hr.2.1 _).2.1, fun s => ?_⟩
    rw [← h.2.1 (a * 10 + c).toNat s (by omega)]
    have r := hr.1 s
    unfold Ex
    omega
  · rw [if_neg q5]
    by_cases q6 : f = 6
    · rw [if_pos q6]
      have hc := h6 q6
      refine ⟨(hr.2.1 _).2.2.1, fun s => ?_⟩
      rw [← h.2.2.1 (a * 6 + b).toNat s (by omega)]
      have r := hr.1 s
      have r6 := hr.2.2 s
      unfold Fx
      constructor
      · rintro ⟨z1, z2, z3, z4⟩
        have z5 := r6 z3
        omega
      · omega
    · rw [if_neg q6]
      by_cases q7 : f = 7
      · rw [if_pos q7]
        refine ⟨(hr.2.1 _).2.2.2, fun s => ?_⟩
        rw [← h.2.2.2.1 b.toNat s (by omega)]
        unfold Kx
        omega
      · rw [if_neg q7]
        refine ⟨(hr.2.1 _).1, fun s => ?_⟩
        rw [← h.1 a.toNat s (by omega)]
        unfold Px
        omega
theorem SX_e {F A B C S pb eb fb kb ce : Nat → Int32} {n f a b c : Int} (h : IX F A B C S n pb eb fb kb ce) (hr : RR F A B C pb eb fb kb) (hf : 0 ≤ f ∧ f ≤ 7) (ha : 0 ≤ a ∧ a ≤ 29) (hb : 0 ≤ b ∧ b ≤ 29) (h6 : f = 6 → b ≤ 5) (h5 : f = 5 → 0 ≤ c ∧ c ≤ 9) : SX F A B C (sFv pb eb fb kb f a b c) f a b c ↔ ∃ s : Nat, (s : Int) < n ∧ sE F A B C S f a b c s := by
  obtain ⟨r0, w⟩ := Sl_e h hr hf ha hb h6 h5
  have e : (sFv pb eb fb kb f a b c).toNatClampNeg = (sFv pb eb fb kb f a b c).toInt.toNat := rfl
  constructor
  · rintro ⟨q1, q2, q3, q4, q5⟩
    have z := (w (sFv pb eb fb kb f a b c).toNatClampNeg).mp (by omega)
    exact ⟨_, z.1, z.2.1, q2, q3, q4, q5⟩
  · rintro ⟨s, q, w1, w2, w3, w4, w5⟩
    have z := (w s).mpr ⟨q, w1, by omega⟩
    have z2 : (sFv pb eb fb kb f a b c).toNatClampNeg = s := by omega
    exact ⟨by omega, by rw [z2]; exact w2, by rw [z2]; exact w3, by rw [z2]; exact w4, by rw [z2]; exact w5⟩
theorem Cl_e {F A B C S pb eb fb kb ce : Nat → Int32} {n z f a b c : Int} (h : IX F A B C S n pb eb fb kb ce) (hr : RR F A B C pb eb fb kb) (hf : 0 ≤ f ∧ f ≤ 7) (ha : 0 ≤ a ∧ a ≤ 29) (hb : 0 ≤ b ∧ b ≤ 29) (h6 : f = 6 → b ≤ 5 ∧ 0 ≤ c ∧ c ≤ 1) (h5 : f = 5 → 0 ≤ c ∧ c ≤ 9) (hn : ¬ SX F A B C (sFv pb eb fb kb f a b c) f a b c) : ClX F B C S pb eb fb kb ce n z f a b c ↔ BaM F A B C S n z f a b c := by
  obtain ⟨r0, w⟩ := Sl_e h hr hf ha hb (fun q => (h6 q).1) h5
  rw [SX_e h hr hf ha hb (fun q => (h6 q).1) h5] at hn
  have ex : ¬ (sFv pb eb fb kb f a b c).toInt = -9 ↔ ∃ s : Nat, (sFv pb eb fb kb f a b c).toInt = (s : Int) :=
    ⟨fun q => ⟨(sFv pb eb fb kb f a b c).toInt.toNat, by omega⟩, fun ⟨s, q⟩ => by omega⟩
  unfold ClX BaM PbM XbM FbM
  rw [ex, fsF_x, fsF_x, fsF_x, fsF_x, fsF_x]
  have pl := IX_pL h hr ha.1 ha.2
  rcases (show f = 5 ∨ f = 6 ∨ f = 7 ∨ f < 5 by omega) with q | q | q | q
  · have e1 : (∃ s : Nat, (sFv pb eb fb kb f a b c).toInt = (s : Int)) ↔ ∃ s : Nat, (s : Int) < n ∧ bP F A C S a c s :=
      ⟨fun ⟨s, y⟩ => by have y2 := (w s).mp y; exact ⟨s, y2.1, y2.2.1, by omega, by omega, by omega⟩, fun ⟨s, y, y1, y2, y3, y4⟩ => ⟨s, (w s).mpr ⟨y, y1, by omega⟩⟩⟩
    rw [e1]
    unfold DoX
    rw [Do_e h hr ha]
    constructor
    · rintro (y | y | y | y)
      · exact Or.inr (Or.inl ⟨q, Or.inl y⟩)
      · exact Or.inr (Or.inl ⟨q, Or.inr ⟨y.2.1, y.2.2⟩⟩)
      · exfalso; omega
      · exfalso; omega
    · rintro (y | y | y | y)
      · exfalso; omega
      · rcases y.2 with x | x
        · exact Or.inl x
        · exact Or.inr (Or.inl ⟨q, x.1, x.2⟩)
      · exfalso; omega
      · exfalso; omega
  · have hc := h6 q
    have e1 : (∃ s : Nat, (sFv pb eb fb kb f a b c).toInt = (s : Int)) ↔ ∃ s : Nat, (s : Int) < n ∧ sE F A B C S 6 a b (1 - c) s := by
      constructor
      · rintro ⟨s, y⟩
        have y2 := (w s).mp y
        have v := h.2.2.2.2.2 s y2.1 (by omega)
        have r := hr.1 s
        refine ⟨s, y2.1, y2.2.1, by omega, by omega, by omega, ?_⟩
        by_cases x : (C s).toInt = c
        · exact absurd ⟨s, y2.1, y2.2.1, by omega, by omega, by omega, x⟩ hn
        · omega
      · rintro ⟨s, y, y1, y2, y3, y4, y5⟩
        exact ⟨s, (w s).mpr ⟨y, y1, by omega⟩⟩
    rw [e1]
    unfold FlX
    rw [Sy_e h hr ha (by omega), Sy_e h hr ha (by omega), pl]
    have c5 := h.2.2.2.2.1 a.toNat (by omega)
    have er : (pb a.toNat).toNatClampNeg = (pb a.toNat).toInt.toNat := rfl
    have rF := hr.1 (pb a.toNat).toNatClampNeg
    have p5 : 0 ≤ (pb a.toNat).toInt → (F (pb a.toNat).toInt.toNat).toInt < 5 := fun y => ((h.1 a.toNat (pb a.toNat).toInt.toNat (by omega)).mpr (by omega)).2.2.1
    rw [er] at c5 rF
    constructor
    · rintro (y | y | y | y)
      · exact Or.inr (Or.inr (Or.inl ⟨q, Or.inl y⟩))
      · exfalso; omega
      · rcases y.2 with ⟨x1, x2, x3⟩ | ⟨x1, x2, x3⟩ | ⟨x1, x2, x3, x4, x5⟩
        · exact Or.inr (Or.inr (Or.inl ⟨q, Or.inr (Or.inl ⟨x2, Or.inl x1, by rw [x1]; exact x3⟩)⟩))
        · exact Or.inr (Or.inr (Or.inl ⟨q, Or.inr (Or.inl ⟨x2, Or.inr x1, by rw [x1]; exact x3⟩)⟩))
        · exact Or.inr (Or.inr (Or.inl ⟨q, Or.inr (Or.inr ⟨x1, x2, x5, by rcases c5 with u | u; exact absurd u.1 x5; (have p := p5 u.1; omega)⟩)⟩))
      · exfalso; omega
    · rintro (y | y | y | y)
      · exfalso; omega
      · exfalso; omega
      · rcases y.2 with x | ⟨x1, x2, x3⟩ | ⟨x1, x2, x3, x4⟩
        · exact Or.inl x
        · rcases x2 with x2 | x2
          · exact Or.inr (Or.inr (Or.inl ⟨q, Or.inl ⟨x2, x1, by rw [x2] at x3; exact x3⟩⟩))
          · exact Or.inr (Or.inr (Or.inl ⟨q, Or.inr (Or.inl ⟨x2, x1, by rw [x2] at x3; exact x3⟩)⟩))
        · rcases c5 with u | u
          · exact absurd u.1 x3
          · have p := p5 u.1
            exact Or.inr (Or.inr (Or.inl ⟨q, Or.inr (Or.inr ⟨x1, x2, by omega, by omega, x3⟩)⟩))
      · exfalso; omega
  · have e1 : (∃ s : Nat, (sFv pb eb fb kb f a b c).toInt = (s : Int)) ↔ ∃ s : Nat, (s : Int) < n ∧ KB F B S b s :=
      ⟨fun ⟨s, y⟩ => by have y2 := (w s).mp y; exact ⟨s, y2.1, y2.2.1, by omega, by omega⟩, fun ⟨s, y, y1, y2, y3⟩ => ⟨s, (w s).mpr ⟨y, y1, by omega⟩⟩⟩
    rw [e1]
    constructor
    · rintro (y | y | y | y)
      · exact Or.inr (Or.inr (Or.inr ⟨q, y⟩))
      · exfalso; omega
      · exfalso; omega
      · exfalso; omega
    · rintro (y | y | y | y)
      · exfalso; omega
      · exfalso; omega
      · exfalso; omega
      · exact Or.inl y.2
  · rw [← ex, pl, show sFv pb eb fb kb f a b c = pb a.toNat by unfold sFv; rw [if_neg (by omega), if_neg (by omega), if_neg (by omega)], ← IX_hF h hr]
    unfold PlX
    rw [Sy_e h hr ha (by omega), Ch_st (f := hF ce) (x := b) (t := a)]
    constructor
    · rintro (y | y | y | y)
      · exact Or.inl ⟨q, Or.inl y⟩
      · exfalso; omega
      · exfalso; omega
      · rcases y.2 with x | x | x
        · exact Or.inl ⟨q, Or.inr (Or.inl (Or.inl x.symm))⟩
        · exact Or.inl ⟨q, Or.inr (Or.inl (Or.inr x))⟩
        · exact Or.inl ⟨q, Or.inr (Or.inr x)⟩
    · rintro (y | y | y | y)
      · rcases y.2 with x | (x | x) | x
        · exact Or.inl x
        · exact Or.inr (Or.inr (Or.inr ⟨q, Or.inl x.symm⟩))
        · exact Or.inr (Or.inr (Or.inr ⟨q, Or.inr (Or.inl x)⟩))
        · exact Or.inr (Or.inr (Or.inr ⟨q, Or.inr (Or.inr x)⟩))
      · exfalso; omega
      · exfalso; omega
      · exfalso; omega
/-! both sides' sentences alike -/
def SN (F A B C S : Nat → Int32) (n : Int32) (pb eb fb kb ce F2 A2 B2 C2 S2 : Nat → Int32) (n2 : Int32) : Prop := F = F2 ∧ A = A2 ∧ B = B2 ∧ C = C2 ∧ S = S2 ∧ n.toInt = n2.toInt ∧ IX F A B C S n.toInt pb eb fb kb ce
theorem IX_0 {F A B C S pb eb fb kb ce : Nat → Int32} {n : Int} (hn : n = 0) (h : ∀ k, (pb k).toInt = -9 ∧ (eb k).toInt = -9 ∧ (fb k).toInt = -9 ∧ (kb k).toInt = -9 ∧ (ce k).toInt = 255) : IX F A B C S n pb eb fb kb ce :=
  ⟨fun k s _ => ⟨fun q => by have := q.1; omega, fun q => by have := (h k).1; omega⟩, fun k s _ => ⟨fun q => by have := q.1; omega, fun q => by have := (h k).2.1; omega⟩, fun k s _ => ⟨fun q => by have := q.1; omega, fun q => by have := (h k).2.2.1; omega⟩, fun k s _ => ⟨fun q => by have := q.1; omega, fun q => by have := (h k).2.2.2.1; omega⟩, fun o _ => Or.inl ⟨(h o).1, (h o).2.2.2.2⟩, fun s hs => by omega⟩
/-- the class's sorts are those of the kinds -/
theorem xS_e {pa ko so pa2 ko2 : Nat → Int32} {kn : Int32} {o N : Int} (h : SoR pa so kn) (e1 : pa = pa2) (e2 : ko = ko2) (hk : KI ko2 N kn.toInt) (h0 : ∀ j, 0 ≤ (ko2 j).toInt) (ho : 0 ≤ o ∧ o < N) (hr : 0 ≤ (so (ko o.toNat).toNatClampNeg).toInt ∧ (so (ko o.toNat).toNatClampNeg).toInt ≤ 5) : (so (ko o.toNat).toNatClampNeg).toInt = kS pa2 ko2 o := by
  subst e1 e2
  have k0 := h0 o.toNat
  have k1 := hk o.toNat (by omega)
  have e : (ko o.toNat).toNatClampNeg = (ko o.toNat).toInt.toNat := rfl
  have q := h (ko o.toNat).toNatClampNeg (by omega)
  rw [show (((ko o.toNat).toNatClampNeg : Nat) : Int) = (ko o.toNat).toInt by omega] at q
  have K : ∀ c : Int, 0 ≤ c → c ≤ 5 → (Kd pa ko o c ↔ ((so (ko o.toNat).toNatClampNeg).toInt = c ∨ (c = 1 ∧ 1 < (so (ko o.toNat).toNatClampNeg).toInt))) := q
  rcases kS_c (pa := pa) (ko := ko) (o := o) with ⟨a, b⟩ | ⟨a, b⟩ | ⟨a, b⟩ | ⟨a, b⟩ | ⟨a, b⟩ | ⟨a, b0, b2, b3, b4, b5⟩
  · have := (K 0 (by omega) (by omega)).mp b; omega
  · have := (K 2 (by omega) (by omega)).mp b; omega
  · have := (K 3 (by omega) (by omega)).mp b; omega
  · have := (K 4 (by omega) (by omega)).mp b; omega
  · have := (K 5 (by omega) (by omega)).mp b; omega
  · rw [K 0 (by omega) (by omega)] at b0
    rw [K 2 (by omega) (by omega)] at b2
    rw [K 3 (by omega) (by omega)] at b3
    rw [K 4 (by omega) (by omega)] at b4
    rw [K 5 (by omega) (by omega)] at b5
    omega
theorem Ac_e {F A B C S pb eb fb kb ce : Nat → Int32} {n N z y z2 y2 f a b c l : Int} (h : IX F A B C S n pb eb fb kb ce) (hr : RR F A B C pb eb fb kb) (hN : N ≤ 30) (hl1 : f = 5 ∨ f = 6 → l = c) (hl0 : ¬ (f = 5 ∨ f = 6) → l = 0) (hz : WF f a b c N → z = z2) (hy : WF f a b c N → ¬ f = 6 → y = y2) : AcX F A B C S pb eb fb kb ce n N z y f a b c l ↔ AcM F A B C S n N z2 y2 f a b c l := by
  by_cases w : WF f a b c N
  · have w2 := w
    unfold WF at w2
    have e1 := hz w
    have e2 := hy w
    subst e1
    have hc : f = 6 → b ≤ 5 ∧ 0 ≤ l ∧ l ≤ 1 := fun q => by have := hl1 (Or.inr q); omega
    have h5 : f = 5 → 0 ≤ l ∧ l ≤ 9 := fun q => by have := hl1 (Or.inl q); omega
    have es := SX_e (c := l) h hr (by omega) (a := a) (by omega) (b := b) (by omega) (fun q => (hc q).1) h5
    rw [← fsF_x] at es
    have ef : Fit f z b y ↔ Fit f z b y2 := by
      by_cases q : f = 6
      · unfold Fit; exact ⟨fun u => ⟨u.1, Or.inl q⟩, fun u => ⟨u.1, Or.inl q⟩⟩
      · rw [e2 q]
    have ec : ¬ SX F A B C (sFv pb eb fb kb f a b l) f a b l → (ClX F B C S pb eb fb kb ce n y f a b l ↔ BaM F A B C S n y2 f a b l) := fun u => by
      have v := Cl_e (z := y) h hr (by omega) (a := a) (by omega) (b := b) (by omega) hc h5 u
      rw [v]
      by_cases q : f = 6
      · rw [← Ba_6 q, ← Ba_6 q]
      · rw [e2 q]
    constructor
    · rintro ⟨_, q2, q3, q4, q5⟩
      exact ⟨w, ef.mp q2, Decidable.byContradiction (fun u => q3 (es.mpr u)), q4, fun u => q5 ((ec q3).mpr u)⟩
    · rintro ⟨_, q2, q3, q4, q5⟩
      have u3 : ¬ SX F A B C (sFv pb eb fb kb f a b l) f a b l := fun u => (es.mp u) q3
      exact ⟨w, ef.mpr q2, u3, q4, fun u => q5 ((ec u3).mp u)⟩
  · exact ⟨fun q => absurd q.1 w, fun q => absurd q.1 w⟩
theorem SN_say {F A B C S pb eb fb kb ce F2 A2 B2 C2 S2 F' A' B' C' S' pb' eb' fb' kb' ce' F2' A2' B2' C2' S2' : Nat → Int32} {n n2 n' n2' N N2 f a b c f2 a2 b2 c2 : Int32} {z y z2 y2 : Int} (h : SN F A B C S n pb eb fb kb ce F2 A2 B2 C2 S2 n2) (hr : RR F A B C pb eb fb kb) (hN : N.toInt ≤ 30) (hn : 0 ≤ n.toInt) (eN : N.toInt = N2.toInt)
    (hz : WF f.toInt a.toInt b.toInt c.toInt N.toInt → z = z2) (hy : WF f.toInt a.toInt b.toInt c.toInt N.toInt → ¬ f.toInt = 6 → y = y2) (ef : f2.toInt = f.toInt) (ea : a2.toInt = a.toInt) (eb0 : b2.toInt = b.toInt) (ec : c2.toInt = c.toInt)
    (h1 : SyW (AcX F A B C S pb eb fb kb ce n.toInt N.toInt z y f.toInt a.toInt b.toInt c.toInt (lI f c).toInt) F A B C S F' A' B' C' S' n n' f a b (lI f c))
    (h2 : PtW (AcX F A B C S pb eb fb kb ce n.toInt N.toInt z y f.toInt a.toInt b.toInt c.toInt (lI f c).toInt) pb eb fb kb ce pb' eb' fb' kb' ce' f.toInt a.toInt b.toInt (lI f c).toInt n)
    (h3 : SyW (AcM F2 A2 B2 C2 S2 n2.toInt N2.toInt z2 y2 f2.toInt a2.toInt b2.toInt c2.toInt (lI f2 c2).toInt) F2 A2 B2 C2 S2 F2' A2' B2' C2' S2' n2 n2' f2 a2 b2 (lI f2 c2)) : SN F' A' B' C' S' n' pb' eb' fb' kb' ce' F2' A2' B2' C2' S2' n2' := by
  obtain ⟨e1, e2, e3, e4, e5, e6, hI⟩ := h
  have f1 := Int32.toInt_inj.mp ef
  have a1 := Int32.toInt_inj.mp ea
  have b1 := Int32.toInt_inj.mp eb0
  have c1 := Int32.toInt_inj.mp ec
  have n1 := Int32.toInt_inj.mp e6
  subst e1 e2 e3 e4 e5 f1 a1 b1 c1 n1
  rw [← eN] at h3
  have l1 : f2.toInt = 5 ∨ f2.toInt = 6 → (lI f2 c2).toInt = c2.toInt := fun q => by rw [lI_y q]
  have l0 : ¬ (f2.toInt = 5 ∨ f2.toInt = 6) → (lI f2 c2).toInt = 0 := fun q => by rw [lI_n q]; decide
  have E := Ac_e hI hr hN l1 l0 hz hy
  rcases h1 with ⟨q, r1, r2, r3, r4, r5, r6⟩ | ⟨q, r1, r2, r3, r4, r5, r6⟩
  · rcases h3 with ⟨p, t1, t2, t3, t4, t5, t6⟩ | ⟨p, _⟩
    · rcases h2 with ⟨_, u1, u2, u3, u4, u5⟩ | ⟨u, _⟩
      · rw [r1, r2, r3, r4, r5, t1, t2, t3, t4, t5, u1, u2, u3, u4, u5]
        exact ⟨rfl, rfl, rfl, rfl, rfl, by omega, by rw [r6]; exact hI⟩
      · exact absurd u q
    · exact absurd (E.mpr p) q
  · rcases h3 with ⟨p, _⟩ | ⟨p, t1, t2, t3, t4, t5, t6⟩
    · exact absurd (E.mp q) p
    · rcases h2 with ⟨u, _⟩ | ⟨_, u⟩
      · exact absurd q u
      · obtain ⟨w, _, _, w4, w5⟩ := q
        unfold WF at w
        have hf : (sFv pb eb fb kb f2.toInt a2.toInt b2.toInt (lI f2 c2).toInt).toInt = -9 := Decidable.byContradiction (fun v => w5 (Or.inl v))
        rw [r1, r2, r3, r4, r5, t1, t2, t3, t4, t5]
        refine ⟨rfl, rfl, rfl, rfl, rfl, by omega, ?_⟩
        rw [r6]
        exact IX_add hI hn rfl (by omega) (by omega) (by omega) (fun v => by have := l1 (Or.inr v); omega) (fun v => by have := l1 (Or.inl v); omega) hf u
theorem SN_un {F A B C S pb eb fb kb ce F2 A2 B2 C2 S2 S' pb' eb' fb' kb' ce' S2' : Nat → Int32} {n n2 s s2 : Int32} (h : SN F A B C S n pb eb fb kb ce F2 A2 B2 C2 S2 n2) (hr : RR F A B C pb eb fb kb) (es : s2.toInt = s.toInt)
    (h1 : UnW S S' n s) (h2 : PtW (UnQ S n s) pb eb fb kb ce pb' eb' fb' kb' ce' (F s.toNatClampNeg).toInt (A s.toNatClampNeg).toInt (B s.toNatClampNeg).toInt (C s.toNatClampNeg).toInt (-9)) (h3 : UnW S2 S2' n2 s2) : SN F A B C S' n pb' eb' fb' kb' ce' F2 A2 B2 C2 S2' n2 := by
  obtain ⟨e1, e2, e3, e4, e5, e6, hI⟩ := h
  have s1 := Int32.toInt_inj.mp es
  have n1 := Int32.toInt_inj.mp e6
  subst e1 e2 e3 e4 e5 s1 n1
  rcases h1 with ⟨q, r⟩ | ⟨q, r⟩
  · rcases h3 with ⟨_, t⟩ | ⟨p, _⟩
    · rcases h2 with ⟨_, u1, u2, u3, u4, u5⟩ | ⟨u, _⟩
      · rw [r, t, u1, u2, u3, u4, u5]; exact ⟨rfl, rfl, rfl, rfl, rfl, rfl, hI⟩
      · exact absurd u q
    · exact absurd p q
  · rcases h3 with ⟨p, _⟩ | ⟨_, t⟩
    · exact absurd q p
    · rcases h2 with ⟨u, _⟩ | ⟨_, u⟩
      · exact absurd q u
      · rw [r, t]
        refine ⟨rfl, rfl, rfl, rfl, rfl, rfl, ?_⟩
        obtain ⟨q1, q2, q3⟩ := q
        have e : s2.toNatClampNeg = s2.toInt.toNat := rfl
        have R := hr.1 s2.toNatClampNeg
        exact IX_rm hI (by omega) q3 (by decide +kernel) (by omega) (by omega) (fun v => hr.2.2 _ v) (by omega) u
theorem RR_of {i : Nat → Int32} {c : Nat → Nat → Int32} (hI : xInv i c) (hF : xFl (c 113) (c 115)) : RR (c 113) (c 114) (c 115) (c 116) (c 118) (c 119) (c 120) (c 121) := by
  refine ⟨fun s => ?_, fun k => ?_, hF⟩
  · have q1 : 0 ≤ (c 113 s).toInt ∧ (c 113 s).toInt ≤ 7 := hI.2 113 s
    have q2 : 0 ≤ (c 114 s).toInt ∧ (c 114 s).toInt ≤ 29 := hI.2 114 s
    have q3 : 0 ≤ (c 115 s).toInt ∧ (c 115 s).toInt ≤ 29 := hI.2 115 s
    have q4 : 0 ≤ (c 116 s).toInt ∧ (c 116 s).toInt ≤ 9 := hI.2 116 s
    omega
  · have q1 : (c 118 k).toInt = -9 ∨ (0 ≤ (c 118 k).toInt ∧ (c 118 k).toInt ≤ 199) := hI.2 118 k
    have q2 : (c 119 k).toInt = -9 ∨ (0 ≤ (c 119 k).toInt ∧ (c 119 k).toInt ≤ 199) := hI.2 119 k
    have q3 : (c 120 k).toInt = -9 ∨ (0 ≤ (c 120 k).toInt ∧ (c 120 k).toInt ≤ 199) := hI.2 120 k
    have q4 : (c 121 k).toInt = -9 ∨ (0 ≤ (c 121 k).toInt ∧ (c 121 k).toInt ≤ 199) := hI.2 121 k
    omega
/-- the class's ways up end -/
theorem Ac_hF {F A B C S pb eb fb kb ce F2 A2 B2 C2 S2 pa ko : Nat → Int32} {n n2 : Int32} {kn N : Int} (h : SN F A B C S n pb eb fb kb ce F2 A2 B2 C2 S2 n2) (hr : RR F A B C pb eb fb kb) (hs : SJ pa ko F2 A2 B2 S2 kn N n2.toInt) : Acy (hF ce) := by
  obtain ⟨e1, e2, e3, e4, e5, e6, hI⟩ := h
  rw [IX_hF hI hr, e1, e2, e3, e5, e6]
  exact hs.2.2.2
/-! what is drawn is what the sentences say -/
def DR (Z : Int → Int) (F A B S : Nat → Int32) (n N : Int) : Prop := ∀ b : Int, 0 ≤ b → b < N → Z b = 2 → (∀ s1 s2 : Nat, (s1 : Int) < n → (s2 : Int) < n → EB F B S b s1 → EB F B S b s2 → (A s1).toInt = (A s2).toInt → s1 = s2) ∧ ∀ s1 s2 s3 : Nat, s1 < s2 → s2 < s3 → (s3 : Int) < n → EB F B S b s1 → EB F B S b s2 → EB F B S b s3 → False
theorem lst_ag {P Q : Nat → Prop} {n : Nat} {r : Int} (e : ∀ s, s < n → (P s ↔ Q s)) (h : lst P n r) : lst Q n r := by
  rcases h with ⟨a, b⟩ | ⟨s, a, b, c, d⟩
  · exact Or.inl ⟨a, fun s hs q => b s hs ((e s hs).mpr q)⟩
  · exact Or.inr ⟨s, a, b, (e s b).mp c, fun s2 h2 h3 q => d s2 h2 h3 ((e s2 h3).mpr q)⟩
theorem fst_ag {P Q : Nat → Prop} {n : Nat} {r : Int} (e : ∀ s, s < n → (P s ↔ Q s)) (h : fst P n r) : fst Q n r := by
  rcases h with ⟨a, b⟩ | ⟨s, a, b, c, d⟩
  · exact Or.inl ⟨a, fun s hs q => b s hs ((e s hs).mpr q)⟩
  · exact Or.inr ⟨s, a, b, (e s b).mp c, fun s2 h2 q => d s2 h2 ((e s2 (by omega)).mpr q)⟩
theorem vI_l {P : Nat → Prop} {B B' : Nat → Int32} {n : Nat} {r : Int} (h : lst P n r) (e : ∀ s, s < n → P s → B' s = B s) : vI B' r = vI B r := by
  rcases h with ⟨a, b⟩ | ⟨s, a, b, c, d⟩
  · rw [a, vI_n, vI_n]
  · rw [a, vI_y, vI_y, e s b c]
theorem vI_f {P : Nat → Prop} {B B' : Nat → Int32} {n : Nat} {r : Int} (h : fst P n r) (e : ∀ s, s < n → P s → B' s = B s) : vI B' r = vI B r := by
  rcases h with ⟨a, b⟩ | ⟨s, a, b, c, d⟩
  · rw [a, vI_n, vI_n]
  · rw [a, vI_y, vI_y, e s b c]
/-- the same exits stand -/
def Ag (Z Z' : Int → Int) (F A B C S F' A' B' C' S' : Nat → Int32) (n : Nat) : Prop := ∀ s, s < n → (((S' s).toInt = 1 ∧ (F' s).toInt = 5) ↔ ((S s).toInt = 1 ∧ (F s).toInt = 5)) ∧ ((S s).toInt = 1 → (F s).toInt = 5 → A' s = A s ∧ B' s = B s ∧ C' s = C s ∧ Z' (B s).toInt = Z (B s).toInt)
theorem RDS_e {Z Z' : Int → Int} {F A B C S F' A' B' C' S' ld dr bw im f1 f2 : Nat → Int32} {n : Nat} (g : Ag Z Z' F A B C S F' A' B' C' S' n) (h : RDS Z F A B C S n ld dr bw im f1 f2) : RDS Z' F' A' B' C' S' n ld dr bw im f1 f2 := by
  have x5 : ∀ s, s < n → (S' s).toInt = 1 → (F' s).toInt = 5 → (S s).toInt = 1 ∧ (F s).toInt = 5 ∧ A' s = A s ∧ B' s = B s ∧ C' s = C s ∧ Z' (B s).toInt = Z (B s).toInt := fun s hs a b => by
    have q := (g s hs).1.mp ⟨a, b⟩
    exact ⟨q.1, q.2, (g s hs).2 q.1 q.2⟩
  have y5 : ∀ s, s < n → (S s).toInt = 1 → (F s).toInt = 5 → (S' s).toInt = 1 ∧ (F' s).toInt = 5 := fun s hs a b => (g s hs).1.mpr ⟨a, b⟩
  have eK : ∀ k s, s < n → (Ek F A C S k s ↔ Ek F' A' C' S' k s) := fun k s hs => by
    constructor
    · rintro ⟨a, b, d⟩
      have q := (g s hs).2 a b
      have w := y5 s hs a b
      exact ⟨w.1, w.2, by rw [q.1, q.2.2.1]; exact d⟩
    · rintro ⟨a, b, d⟩
      have q := x5 s hs a b
      exact ⟨q.1, q.2.1, by rw [← q.2.2.1, ← q.2.2.2.2.1]; exact d⟩
  have eZ : ∀ s, s < n → (S s).toInt = 1 → (F s).toInt = 5 → Z' (B' s).toInt = Z (B s).toInt := fun s hs a b => by
    have q := (g s hs).2 a b
    rw [q.2.1]; exact q.2.2.2
  have eR : ∀ k s, s < n → (Er Z F A B C S k s ↔ Er Z' F' A' B' C' S' k s) := fun k s hs => by
    constructor
    · rintro ⟨a, b⟩
      exact ⟨(eK k s hs).mp a, by rw [eZ s hs a.1 a.2.1]; exact b⟩
    · rintro ⟨a, b⟩
      have a2 := (eK k s hs).mpr a
      exact ⟨a2, by rw [← eZ s hs a2.1 a2.2.1]; exact b⟩
  have eD : ∀ k s, s < n → (Ed Z F A B C S k s ↔ Ed Z' F' A' B' C' S' k s) := fun k s hs => by
    constructor
    · rintro ⟨a, b⟩
      exact ⟨(eK k s hs).mp a, by rw [eZ s hs a.1 a.2.1]; exact b⟩
    · rintro ⟨a, b⟩
      have a2 := (eK k s hs).mpr a
      exact ⟨a2, by rw [← eZ s hs a2.1 a2.2.1]; exact b⟩
  have eT : ∀ t s, s < n → (Dt Z F B S t s ↔ Dt Z' F' B' S' t s) := fun t s hs => by
    constructor
    · rintro ⟨a, b, d, f⟩
      have q := (g s hs).2 a b
      have w := y5 s hs a b
      exact ⟨w.1, w.2, by rw [eZ s hs a b]; exact d, by rw [q.2.1]; exact f⟩
    · rintro ⟨a, b, d, f⟩
      have q := x5 s hs a b
      exact ⟨q.1, q.2.1, by rw [← eZ s hs q.1 q.2.1]; exact d, by rw [← q.2.2.2.1]; exact f⟩
  have eI : ∀ k s, s < n → (Iq Z F B C S k s ↔ Iq Z' F' B' C' S' k s) := fun k s hs => by
    constructor
    · rintro ⟨a, b, d, f⟩
      have q := (g s hs).2 a b
      have w := y5 s hs a b
      exact ⟨w.1, w.2, by rw [eZ s hs a b]; exact d, by rw [q.2.1, q.2.2.1]; exact f⟩
    · rintro ⟨a, b, d, f⟩
      have q := x5 s hs a b
      exact ⟨q.1, q.2.1, by rw [← eZ s hs q.1 q.2.1]; exact d, by rw [← q.2.2.2.1, ← q.2.2.2.2.1]; exact f⟩
  obtain ⟨b1, l1, l2, ⟨h1, h2⟩, h3, h4⟩ := h
  refine ⟨b1, l1, l2, ⟨fun k hk => ?_, fun t ht => ?_⟩, fun k hk => ?_, h4⟩
  · obtain ⟨a, ⟨r, b, d⟩, ⟨q, f, w⟩⟩ := h1 k hk
    exact ⟨lst_ag (eK k) a, ⟨r, lst_ag (eR k) b, by rw [d, vI_l b (fun s hs p => ((g s hs).2 p.1.1 p.1.2.1).2.1)]⟩, ⟨q, lst_ag (eD k) f, by rw [w, vI_l f (fun s hs p => ((g s hs).2 p.1.1 p.1.2.1).2.1)]⟩⟩
  · obtain ⟨r1, r2, a, b, d, f⟩ := h2 t ht
    refine ⟨r1, r2, fst_ag (eT t) a, lst_ag (eT t) b, by rw [d, vI_f a (fun s hs p => ((g s hs).2 p.1 p.2.1).1)], ?_⟩
    rw [f, vI_l b (fun s hs p => ((g s hs).2 p.1 p.2.1).1)]
  · obtain ⟨q, a, b⟩ := h3 k hk
    refine ⟨q, fst_ag (eI k) a, ?_⟩
    rw [vI_f a (fun s hs p => ((g s hs).2 p.1 p.2.1).1)]
    exact b
theorem RDS_n {Z : Int → Int} {F A B C S ld dr bw im f1 f2 : Nat → Int32} {n : Nat} (h : RDS Z F A B C S n ld dr bw im f1 f2) (hp : ¬ ((S n).toInt = 1 ∧ (F n).toInt = 5)) : RDS Z F A B C S (n + 1) ld dr bw im f1 f2 := by
  obtain ⟨b1, l1, l2, ⟨h1, h2⟩, h3, h4⟩ := h
  exact ⟨b1, l1, l2, ⟨fun k hk => DA_n (h1 k hk) (fun q => hp ⟨q.1, q.2.1⟩), fun t ht => DB_n (h2 t ht) (fun q => hp ⟨q.1, q.2.1⟩)⟩, fun k hk => DI_n (h3 k hk) (fun q => hp ⟨q.1, q.2.1⟩), h4⟩
theorem FeM_u {pa ko F A B C S : Nat → Int32} {n r d ld dr bw im ld2 dr2 bw2 im2 : Int} (h1 : FeM pa ko F A B C S n r d ld dr bw im) (h2 : FeM pa ko F A B C S n r d ld2 dr2 bw2 im2) : ld = ld2 ∧ dr = dr2 ∧ bw = bw2 ∧ im = im2 := by
  unfold FeM at h1 h2
  generalize lsF (bP F A C S r d) n.toNat = b at *
  generalize fsF (qP F B C S r (opp d)) n.toNat = q at *
  generalize oS F A B S n (B b.toNat).toInt r = o at *
  omega
theorem opp_i {d : Int} (h : 0 ≤ d ∧ d ≤ 9) : opp (opp d) = d ∧ 0 ≤ opp d ∧ opp d ≤ 9 := by
  by_cases e : d % 2 = 0
  · have q : opp d = d + 1 := opp_e e
    rw [q, opp_o (by omega)]; omega
  · have q : opp d = d - 1 := opp_o e
    rw [q, opp_e (by omega)]; omega
theorem lsF_c {P Q : Nat → Prop} {n : Nat} {r : Int} (e : ∀ s, s < n → (P s ↔ Q s)) (h : lst P n r) : lsF Q n = r := (lsF_e (lst_ag e h)).symm
theorem fsF_c {P Q : Nat → Prop} {n : Nat} {r : Int} (e : ∀ s, s < n → (P s ↔ Q s)) (h : fst P n r) : fsF Q n = r := (fsF_e (fst_ag e h)).symm
theorem RD_fe {pa ko so ko2 F A B C S pb eb fb kb ce ld dr bw im f1 f2 : Nat → Int32} {n N r d : Int} (h : RDS (zX so ko N) F A B C S n.toNat ld dr bw im f1 f2) (hI : IX F A B C S n pb eb fb kb ce) (hr : RR F A B C pb eb fb kb) (hD : DR (zX so ko N) F A B S n N) (hz : ∀ t, 0 ≤ t → t < N → zX so ko N t = kS pa ko2 t) (hB : ∀ s : Nat, (s : Int) < n → (F s).toInt = 5 → (B s).toInt < N ∧ (kS pa ko2 (B s).toInt = 0 ∨ kS pa ko2 (B s).toInt = 2)) (hN : N ≤ 30) (r0 : 0 ≤ r ∧ r < N) (rR : kS pa ko2 r = 0) (hd : 0 ≤ d ∧ d ≤ 9) : FeM pa ko2 F A B C S n r d (ld (r * 10 + d).toNat).toInt (dr (r * 10 + d).toNat).toInt (bw (r * 10 + d).toNat).toInt (im (r * 10 + d).toNat).toInt := by
  obtain ⟨b1, l1, l2, ⟨h1, h2⟩, h3, h4⟩ := h
  have kk : (((r * 10 + d).toNat : Nat) : Int) = r * 10 + d := by omega
  have hk : (r * 10 + d).toNat < 300 := by omega
  generalize (r * 10 + d).toNat = k at *
  have eK : ∀ s, s < n.toNat → (Ek F A C S k s ↔ bP F A C S r d s) := fun s hs => by
    have R := hr.1 s
    constructor
    · rintro ⟨a, b, e⟩; exact ⟨a, b, by omega, by omega⟩
    · rintro ⟨a, b, e, f⟩; exact ⟨a, b, by omega⟩
  have eI : ∀ s, s < n.toNat → (Iq (zX so ko N) F B C S k s ↔ qP F B C S r (opp d) s) := fun s hs => by
    have R := hr.1 s
    have O := opp_i (d := (C s).toInt) (by omega)
    have Od := opp_i hd
    constructor
    · rintro ⟨a, b, e, f⟩
      refine ⟨a, b, by omega, ?_⟩
      have : opp (C s).toInt = d := by omega
      rw [← this]; exact O.1.symm
    · rintro ⟨a, b, e, f⟩
      refine ⟨a, b, by rw [e, hz r r0.1 r0.2]; exact rR, ?_⟩
      rw [f, Od.1]; omega
  obtain ⟨a1, ⟨p1, a2, a3⟩, ⟨p2, a4, a5⟩⟩ := h1 k hk
  obtain ⟨q, c1, c2⟩ := h3 k hk
  have c4 := (h4 k hk).1 hk
  have B1 := lsF_c eK a1
  have Q1 := fsF_c eI c1
  unfold FeM
  rw [B1, Q1]
  -- one sentence a slot
  have uq : ∀ s s' : Nat, s < n.toNat → s' < n.toNat → Ek F A C S k s → Ek F A C S k s' → s = s' := fun s s' y1 y2 z1 z2 => by
    have w1 := (hI.2.1 k s hk).mp ⟨by omega, z1.1, z1.2.1, z1.2.2⟩
    have w2 := (hI.2.1 k s' hk).mp ⟨by omega, z2.1, z2.2.1, z2.2.2⟩
    omega
  rcases a1 with ⟨v, v2⟩ | ⟨s, v, v2, v3, v4⟩
  · -- none is said
    have p1' : p1 = -9 := by
      rcases a2 with y | ⟨s, _, y2, y3, _⟩
      · exact y.1
      · exact absurd y3.1 (v2 s y2)
    have p2' : p2 = -9 := by
      rcases a4 with y | ⟨s, _, y2, y3, _⟩
      · exact y.1
      · exact absurd y3.1 (v2 s y2)
    rw [p1', vI_n] at a3
    rw [p2', vI_n] at a5
    unfold thr at c4
    rw [if_pos a5] at c4
    refine Or.inr ⟨v, a5, ?_⟩
    rcases c2 with ⟨y, _⟩ | ⟨_, y1, y2, y3, y4⟩ | ⟨_, y1, y2, y3, y4⟩
    · exact absurd v y
    · exact Or.inr ⟨y1, y2, y4, by rw [c4, y3, a3]⟩
    · refine Or.inl ⟨y1, y2, y4, ?_⟩
      rw [c4, y3]
      unfold vI
      rw [if_neg y1]
  · have v9 : ¬ (b1 k).toInt = -9 := by omega
    have vs : (b1 k).toInt.toNat = s := by omega
    have hb := hB s (by omega) v3.2.1
    have R := hr.1 s
    have zz := hz (B s).toInt (by omega) hb.1
    have As : (A s).toInt = r ∧ (C s).toInt = d := by have := v3.2.2; have R2 := hr.1 s; omega
    obtain ⟨y1, y2, y3⟩ : bw k = b1 k ∧ l2 k = l1 k ∧ (im k).toInt = 0 := by
      rcases c2 with y | y | y
      · exact ⟨y.2.1, y.2.2.1, y.2.2.2⟩
      · exact absurd y.1 v9
      · exact absurd y.1 v9
    refine Or.inl ⟨v9, by rw [y1], y3, ?_⟩
    rw [vs]
    by_cases e : kS pa ko2 (B s).toInt = 2
    · -- a door
      have zd : zX so ko N (B s).toInt = 2 := by rw [zz]; exact e
      have p2' : p2 = (s : Int) := by
        rcases a4 with ⟨_, y⟩ | ⟨s', w1, w2, w3, _⟩
        · exact absurd ⟨v3, by rw [zd]; omega⟩ (y s v2)
        · rw [w1, uq s' s w2 v2 w3.1 v3]
      rw [p2', vI_y] at a5
      refine Or.inl ⟨e, a5, ?_⟩
      obtain ⟨u1, u2⟩ := hD (B s).toInt (by omega) hb.1 zd
      have tB : (B s).toInt.toNat < 30 := by omega
      obtain ⟨r1, r2, t1, t2, t3, t4⟩ := h2 (B s).toInt.toNat tB
      have tc : (((B s).toInt.toNat : Nat) : Int) = (B s).toInt := by omega
      have eT : ∀ s', Dt (zX so ko N) F B S (((B s).toInt.toNat : Nat) : Int) s' ↔ EB F B S (B s).toInt s' := fun s' => by
        constructor
        · rintro ⟨z1, z2, z3, z4⟩; exact ⟨z1, z2, by omega⟩
        · rintro ⟨z1, z2, z3⟩; exact ⟨z1, z2, by rw [z3, zd]; omega, by omega⟩
      have Es : EB F B S (B s).toInt s := ⟨v3.1, v3.2.1, rfl⟩
      unfold thr at c4
      have dk : (dr k).toNatClampNeg = (B s).toInt.toNat := by show (dr k).toInt.toNat = _; rw [a5]
      rw [if_neg (by omega), dk, show (k : Int) / 10 = r by omega] at c4
      rw [c4]
      -- the first and the last of that door
      rcases t1 with ⟨_, z⟩ | ⟨s1, m1, m2, m3, m4⟩
      · exact absurd ((eT s).mpr Es) (z s v2)
      · rcases t2 with ⟨_, z⟩ | ⟨s2, w1, w2, w3, w4⟩
        · exact absurd ((eT s).mpr Es) (z s v2)
        · have E1 := (eT s1).mp m3
          have E2 := (eT s2).mp w3
          rw [m1, vI_y] at t3
          have l1s : s1 ≤ s := Decidable.byContradiction (fun z => m4 s (by omega) ((eT s).mpr Es))
          have ls2 : s ≤ s2 := Decidable.byContradiction (fun z => w4 s (by omega) v2 ((eT s).mpr Es))
          have mid : s = s1 ∨ s = s2 := by
            by_cases z1 : s = s1
            · exact Or.inl z1
            · by_cases z2 : s = s2
              · exact Or.inr z2
              · exact absurd (u2 s1 s s2 (by omega) (by omega) (by omega) E1 Es E2) (fun z => z)
          have only : ∀ s', s' < n.toNat → EB F B S (B s).toInt s' → s' = s1 ∨ s' = s2 := fun s' y4 y5 => by
            have g1 : s1 ≤ s' := Decidable.byContradiction (fun z => m4 s' (by omega) ((eT s').mpr y5))
            have g2 : s' ≤ s2 := Decidable.byContradiction (fun z => w4 s' (by omega) y4 ((eT s').mpr y5))
            by_cases z1 : s' = s1
            · exact Or.inl z1
            · by_cases z2 : s' = s2
              · exact Or.inr z2
              · exact absurd (u2 s1 s' s2 (by omega) (by omega) (by omega) E1 y5 E2) (fun z => z)
          unfold oS
          by_cases ee : s1 = s2
          · -- one alone
            have no : fsF (oP F A B S (B s).toInt r) n.toNat = -9 := by
              refine (fsF_e (Or.inl ⟨rfl, fun s' y4 y5 => ?_⟩)).symm
              have := only s' y4 ⟨y5.1, y5.2.1, y5.2.2.1⟩
              have : s' = s := by omega
              rw [this] at y5
              exact y5.2.2.2 As.1
            rw [if_pos no, t3, show s1 = s by omega, if_pos As.1, t4, if_pos (by omega)]
          · have nA : ¬ (A s1).toInt = (A s2).toInt := fun z => ee (u1 s1 s2 (by omega) (by omega) E1 E2 z)
            rw [m1, w1, if_neg (by omega), vI_y] at t4
            rcases mid with g | g
            · have yes : fsF (oP F A B S (B s).toInt r) n.toNat = (s2 : Int) := by
                refine (fsF_e (Or.inr ⟨s2, rfl, w2, ⟨E2.1, E2.2.1, E2.2.2, by rw [← As.1, g]; exact fun z => nA z.symm⟩, fun s' y4 y5 => ?_⟩)).symm
                have := only s' (by omega) ⟨y5.1, y5.2.1, y5.2.2.1⟩
                have : s' = s := by omega
                rw [this] at y5
                exact y5.2.2.2 As.1
              rw [if_pos (by rw [t3, ← g]; exact As.1), yes, if_neg (show ¬ (s2 : Int) = -9 by omega), t4, show ((s2 : Int)).toNat = s2 by omega]
            · have n1 : ¬ (A s1).toInt = r := fun z => nA (by rw [z, ← g]; exact As.1.symm)
              have yes : fsF (oP F A B S (B s).toInt r) n.toNat = (s1 : Int) := by
                refine (fsF_e (Or.inr ⟨s1, rfl, m2, ⟨E1.1, E1.2.1, E1.2.2, n1⟩, fun s' y4 y5 => ?_⟩)).symm
                have := only s' (by omega) ⟨y5.1, y5.2.1, y5.2.2.1⟩
                omega
              rw [if_neg (by rw [t3]; exact n1), yes, if_neg (show ¬ (s1 : Int) = -9 by omega), t3, show ((s1 : Int)).toNat = s1 by omega]
    · -- a room
      have e0 : kS pa ko2 (B s).toInt = 0 := hb.2.resolve_right e
      have zr : zX so ko N (B s).toInt = 0 := by rw [zz]; exact e0
      have p1' : p1 = (s : Int) := by
        rcases a2 with ⟨_, y⟩ | ⟨s', w1, w2, w3, _⟩
        · exact absurd ⟨v3, zr⟩ (y s v2)
        · rw [w1, uq s' s w2 v2 w3.1 v3]
      have p2' : p2 = -9 := by
        rcases a4 with y | ⟨s', w1, w2, w3, _⟩
        · exact y.1
        · have := uq s' s w2 v2 w3.1 v3
          rw [this] at w3
          exact absurd zr w3.2
      rw [p1', vI_y] at a3
      rw [p2', vI_n] at a5
      unfold thr at c4
      rw [if_pos a5] at c4
      exact Or.inr ⟨e, a5, by rw [c4, y2, a3]⟩
/-! roads between two calls -/
def SB (F B : Nat → Int32) (n N : Int) : Prop := ∀ s : Nat, (s : Int) < n → (F s).toInt = 5 → 0 ≤ (B s).toInt ∧ (B s).toInt < N
theorem RDS_z {Z Z' : Int → Int} {F A B C S ld dr bw im f1 f2 : Nat → Int32} {n N : Int} (h : RDS Z F A B C S n.toNat ld dr bw im f1 f2) (hB : SB F B n N) (e : ∀ b, 0 ≤ b → b < N → Z' b = Z b) : RDS Z' F A B C S n.toNat ld dr bw im f1 f2 :=
  RDS_e (fun s hs => ⟨Iff.rfl, fun _ b => ⟨rfl, rfl, rfl, e _ (hB s (by omega) b).1 (hB s (by omega) b).2⟩⟩) h
theorem DR_z {Z Z' : Int → Int} {F A B S : Nat → Int32} {n N N' : Int} (h : DR Z F A B S n N) (hB : SB F B n N) (e : ∀ b, 0 ≤ b → b < N → Z' b = Z b) : DR Z' F A B S n N' := fun b b0 b1 bz => by
  by_cases q : b < N
  · exact h b b0 q (by rw [← e b b0 q]; exact bz)
  · refine ⟨fun s1 s2 a1 a2 p1 p2 _ => ?_, fun s1 s2 s3 a1 a2 a3 p1 p2 p3 => ?_⟩
    · have := (hB s1 a1 p1.2.1).2; have := p1.2.2; omega
    · have := (hB s3 a3 p3.2.1).2; have := p3.2.2; omega
theorem zX_k {so so2 ko : Nat → Int32} {k kn : Int32} {N : Int} (h : KS so so2 k kn) (hk : KI ko N kn.toInt) (h0 : ∀ j, 0 ≤ (ko j).toInt) : ∀ b, 0 ≤ b → b < N → zX so2 ko N b = zX so ko N b := fun b b0 b1 => by
  unfold zX
  rw [if_pos ⟨b0, b1⟩, if_pos ⟨b0, b1⟩]
  rcases h with ⟨_, e⟩ | ⟨a, a2, a3, e⟩
  · rw [e]
  · have k1 := hk b.toNat (by omega)
    have k2 := h0 b.toNat
    rw [e, pk_un (show ¬ (ko b.toNat).toNatClampNeg = kn.toNatClampNeg by show ¬ (ko b.toNat).toInt.toNat = kn.toInt.toNat; omega)]
theorem zX_m {so ko ko2 : Nat → Int32} {k s1 kn ob : Int32} {N2 : Int} (h : OU ko ko2 k s1 kn ob) (hb : 0 ≤ ob.toInt) (hN : ob.toInt ≤ N2) : ∀ b, 0 ≤ b → b < ob.toInt → zX so ko2 N2 b = zX so ko ob.toInt b := fun b b0 b1 => by
  unfold zX
  rw [if_pos ⟨b0, by omega⟩, if_pos ⟨b0, b1⟩]
  rcases h with ⟨_, e⟩ | ⟨a, a2, a3, a4, a5, e⟩
  · rw [e]
  · rw [e, pk_un (show ¬ b.toNat = ob.toNatClampNeg by show ¬ b.toNat = ob.toInt.toNat; omega)]
theorem RD_say {Q : Prop} {Z : Int → Int} {F A B C S F' A' B' C' S' ld dr bw im f1 f2 ld' dr' bw' im' f1' f2' : Nat → Int32} {n n' f a b l : Int32} (h : RDS Z F A B C S n.toInt.toNat ld dr bw im f1 f2) (hn : 0 ≤ n.toInt) (h1 : SyW Q F A B C S F' A' B' C' S' n n' f a b l) (h2 : RdQ Q Z F' A' B' C' S' ld dr bw im f1 f2 ld' dr' bw' im' f1' f2' n'.toInt f.toInt) : RDS Z F' A' B' C' S' n'.toInt.toNat ld' dr' bw' im' f1' f2' := by
  rcases h2 with ⟨q, e1, e2, e3, e4, e5, e6⟩ | ⟨_, _, q⟩
  · rw [e1, e2, e3, e4, e5, e6]
    rcases h1 with ⟨p, r1, r2, r3, r4, r5, r6⟩ | ⟨p, r1, r2, r3, r4, r5, r6⟩
    · rw [r1, r2, r3, r4, r5, r6]; exact h
    · have f5 : ¬ f.toInt = 5 := fun z => q ⟨p, z⟩
      have en : n'.toInt.toNat = n.toInt.toNat + 1 := by omega
      have en2 : n.toNatClampNeg = n.toInt.toNat := rfl
      rw [en]
      refine RDS_n (RDS_e (Z := Z) (F := F) (A := A) (B := B) (C := C) (S := S) (fun s hs => ?_) h) (fun z => f5 ?_)
      · have ne : ¬ s = n.toNatClampNeg := by omega
        rw [r1, r2, r3, r4, r5, pk_un ne, pk_un ne, pk_un ne, pk_un ne, pk_un ne]
        exact ⟨Iff.rfl, fun _ _ => ⟨rfl, rfl, rfl, rfl⟩⟩
      · have z2 := z.2
        rw [r1, en2, pk_us] at z2
        exact z2
  · exact q
theorem DR_say {Z : Int → Int} {F A B C S F' A' B' C' S' pb eb fb kb ce : Nat → Int32} {n n' f a b c N : Int32} {z y : Int} (h : DR Z F A B S n.toInt N.toInt) (hI : IX F A B C S n.toInt pb eb fb kb ce) (hr : RR F A B C pb eb fb kb) (hN : N.toInt ≤ 30) (hn : 0 ≤ n.toInt) (hy : WF f.toInt a.toInt b.toInt c.toInt N.toInt → ¬ f.toInt = 6 → y = Z b.toInt)
    (h1 : SyW (AcX F A B C S pb eb fb kb ce n.toInt N.toInt z y f.toInt a.toInt b.toInt c.toInt (lI f c).toInt) F A B C S F' A' B' C' S' n n' f a b (lI f c)) : DR Z F' A' B' S' n'.toInt N.toInt := by
  rcases h1 with ⟨p, r1, r2, r3, r4, r5, r6⟩ | ⟨p, r1, r2, r3, r4, r5, r6⟩
  · rw [r1, r2, r3, r5, r6]; exact h
  · obtain ⟨w, _, _, w4, w5⟩ := p
    have w2 := w
    unfold WF at w2
    have en2 : n.toNatClampNeg = n.toInt.toNat := rfl
    have one : (1 : Int32).toInt = 1 := by decide
    have old : ∀ (b' : Int) (s : Nat), ¬ s = n.toNatClampNeg → (EB F' B' S' b' s ↔ EB F B S b' s) := fun b' s ne => by
      unfold EB; rw [r1, r3, r5, pk_un ne, pk_un ne, pk_un ne]
    have new : ∀ b' : Int, EB F' B' S' b' n.toNatClampNeg → f.toInt = 5 ∧ b.toInt = b' := fun b' q => by
      unfold EB at q; rw [r1, r3, r5, pk_us, pk_us, pk_us] at q; exact ⟨q.2.1, q.2.2⟩
    have oA : ∀ s, ¬ s = n.toNatClampNeg → A' s = A s := fun s ne => by rw [r2, pk_un ne]
    have nA : A' n.toNatClampNeg = a := by rw [r2, pk_us]
    intro b' b0 b1 bz
    obtain ⟨u1, u2⟩ := h b' b0 b1 bz
    -- where the new one is of that door: none of this room, no two
    have nd : f.toInt = 5 → b.toInt = b' → (∀ s : Nat, (s : Int) < n.toInt → EB F B S b' s → ¬ (A s).toInt = a.toInt) ∧ ¬ Two (EB F B S b') n.toInt := fun f5 eb' => by
      have ny : y = 2 := by rw [hy w (by omega), eb']; exact bz
      have nx : ¬ DoX eb F B S n.toInt a.toInt b.toInt := fun q => w5 (Or.inr (Or.inl ⟨f5, ny, q⟩))
      unfold DoX at nx
      rw [Do_e hI hr (by omega), eb'] at nx
      exact ⟨fun s hs p z => nx (Or.inl ⟨s, hs, p.1, p.2.1, z, p.2.2⟩), fun q => nx (Or.inr q)⟩
    refine ⟨fun s1 s2 a1 a2 p1 p2 e => ?_, fun s1 s2 s3 a1 a2 a3 p1 p2 p3 => ?_⟩
    · by_cases q1 : s1 = n.toNatClampNeg
      · by_cases q2 : s2 = n.toNatClampNeg
        · omega
        · rw [q1] at p1 e
          have g := new b' p1
          have p2' := (old b' s2 q2).mp p2
          rw [nA, oA s2 q2] at e
          exact absurd e.symm ((nd g.1 g.2).1 s2 (by omega) p2')
      · by_cases q2 : s2 = n.toNatClampNeg
        · rw [q2] at p2 e
          have g := new b' p2
          have p1' := (old b' s1 q1).mp p1
          rw [nA, oA s1 q1] at e
          exact absurd e ((nd g.1 g.2).1 s1 (by omega) p1')
        · rw [oA s1 q1, oA s2 q2] at e
          exact u1 s1 s2 (by omega) (by omega) ((old b' s1 q1).mp p1) ((old b' s2 q2).mp p2) e
    · by_cases q3 : s3 = n.toNatClampNeg
      · rw [q3] at p3
        have g := new b' p3
        exact (nd g.1 g.2).2 ⟨s1, s2, a1, by omega, (old b' s1 (by omega)).mp p1, (old b' s2 (by omega)).mp p2⟩
      · have d3 : (s3 : Int) < n.toInt := by omega
        exact u2 s1 s2 s3 a1 a2 d3 ((old b' s1 (by omega)).mp p1) ((old b' s2 (by omega)).mp p2) ((old b' s3 q3).mp p3)
theorem RD_un {Z : Int → Int} {F A B C S S' ld dr bw im f1 f2 ld' dr' bw' im' f1' f2' : Nat → Int32} {n s : Int32} (h : RDS Z F A B C S n.toInt.toNat ld dr bw im f1 f2) (h1 : UnW S S' n s) (h2 : RdQ (UnQ S n s) Z F A B C S' ld dr bw im f1 f2 ld' dr' bw' im' f1' f2' n.toInt (F s.toNatClampNeg).toInt) : RDS Z F A B C S' n.toInt.toNat ld' dr' bw' im' f1' f2' := by
  rcases h2 with ⟨q, e1, e2, e3, e4, e5, e6⟩ | ⟨_, _, q⟩
  · rw [e1, e2, e3, e4, e5, e6]
    rcases h1 with ⟨_, t⟩ | ⟨p, t⟩
    · rw [t]; exact h
    · have f5 : ¬ (F s.toNatClampNeg).toInt = 5 := fun z => q ⟨p, z⟩
      refine RDS_e (Z := Z) (F := F) (A := A) (B := B) (C := C) (S := S) (fun j hj => ?_) h
      rw [t]
      by_cases e : j = s.toNatClampNeg
      · subst e
        exact ⟨⟨fun z => absurd z.2 f5, fun z => absurd z.2 f5⟩, fun _ _ => ⟨rfl, rfl, rfl, rfl⟩⟩
      · rw [pk_un e]
        exact ⟨Iff.rfl, fun _ _ => ⟨rfl, rfl, rfl, rfl⟩⟩
  · exact q
theorem DR_un {Z : Int → Int} {F A B S S' : Nat → Int32} {n s : Int32} {N : Int} (h : DR Z F A B S n.toInt N) (h1 : UnW S S' n s) : DR Z F A B S' n.toInt N := by
  rcases h1 with ⟨_, t⟩ | ⟨p, t⟩
  · rw [t]; exact h
  · have sub : ∀ (b : Int) (j : Nat), EB F B S' b j → EB F B S b j := fun b j q => by
      unfold EB at q ⊢
      rw [t] at q
      by_cases e : j = s.toNatClampNeg
      · subst e; rw [pk_us] at q; exact absurd q.1 (by decide +kernel)
      · rw [pk_un e] at q; exact q
    intro b b0 b1 bz
    obtain ⟨u1, u2⟩ := h b b0 b1 bz
    exact ⟨fun s1 s2 a1 a2 p1 p2 e => u1 s1 s2 a1 a2 (sub b s1 p1) (sub b s2 p2) e, fun s1 s2 s3 a1 a2 a3 p1 p2 p3 => u2 s1 s2 s3 a1 a2 a3 (sub b s1 p1) (sub b s2 p2) (sub b s3 p3)⟩
theorem RDS_0 {Z : Int → Int} {F A B C S ld dr bw im f1 f2 : Nat → Int32} {n : Int} (hn : n = 0) (h : ∀ k, (ld k).toInt = -9 ∧ (dr k).toInt = -9 ∧ (bw k).toInt = -9 ∧ (im k).toInt = 0 ∧ (f1 k).toInt = -9 ∧ (f2 k).toInt = -9) : RDS Z F A B C S n.toNat ld dr bw im f1 f2 := by
  rw [hn]
  refine ⟨bw, ld, ld, D1_0 (x := 0) (by decide +kernel) (fun k => ⟨(h k).2.2.1, (h k).1, (h k).2.1, (h k).2.2.2.2.1, (h k).2.2.2.2.2⟩), D2_0 (x := 0) (by decide +kernel) (fun k => (h k).2.2.2.1), fun k hk => ⟨fun _ => ?_, fun q => absurd hk q⟩⟩
  unfold thr
  rw [if_pos (h k).2.1]
theorem DR_0 {Z : Int → Int} {F A B S : Nat → Int32} {n N : Int} (hn : n = 0) : DR Z F A B S n N := fun b _ _ _ => ⟨fun s1 s2 a1 => by omega, fun s1 s2 s3 a1 a2 a3 => by omega⟩
theorem Ex_e {N N2 r r2 d d2 w w2 s s2 : Int} {v v2 : Int32} {P P2 : Int → Int → Int → Int → Prop} (eN : N = N2) (er : r2 = r) (ed : d2 = d) (ew : w2 = w) (es : 0 ≤ r ∧ r < N → s = s2) (hu : 0 ≤ r ∧ r < N → 0 ≤ d ∧ d ≤ 9 → s = 0 → ∀ a b c e a2 b2 c2 e2, P a b c e → P2 a2 b2 c2 e2 → a = a2 ∧ b = b2 ∧ c = c2 ∧ e = e2) (h1 : ExR N r d w s v.toInt P) (h2 : ExR N2 r2 d2 w2 s2 v2.toInt P2) : v = v2 := by
  subst eN er ed ew
  apply Int32.toInt_inj.mp
  rcases h1 with ⟨a, b⟩ | ⟨a, b, e⟩ | ⟨a, b, x1, x2, x3, x4, p, e⟩
  · rcases h2 with ⟨a2, b2⟩ | ⟨a2, b2, e2⟩ | ⟨a2, b2, _⟩
    · omega
    · exact absurd a2 a
    · exact absurd a2 a
  · have z := es ⟨a.1, a.2.1⟩
    rcases h2 with ⟨a2, b2⟩ | ⟨a2, b2, e2⟩ | ⟨a2, b2, _⟩
    · exact absurd a a2
    · omega
    · omega
  · have z := es ⟨a.1, a.2.1⟩
    rcases h2 with ⟨a2, b2⟩ | ⟨a2, b2, e2⟩ | ⟨a2, b2, y1, y2, y3, y4, p2, e2⟩
    · exact absurd a a2
    · omega
    · obtain ⟨g1, g2, g3, g4⟩ := hu ⟨a.1, a.2.1⟩ ⟨a.2.2.1, a.2.2.2.1⟩ b x1 x2 x3 x4 y1 y2 y3 y4 p p2
      omega
theorem hB_of {jm : Nat → Int32} {em : Nat → Nat → Int32} {kn N n : Int} (hM : mInv jm em) (hs : SJ (em 3) (em 6) (em 9) (em 10) (em 11) (em 13) kn N n) : ∀ s : Nat, (s : Int) < n → (em 9 s).toInt = 5 → (em 11 s).toInt < N ∧ (kS (em 3) (em 6) (em 11 s).toInt = 0 ∨ kS (em 3) (em 6) (em 11 s).toInt = 2) := fun s h1 h5 => by
  have q := hs.2.1 s h1
  refine ⟨q.2.1 (by omega), ?_⟩
  have e0 := kS_e (k := 0) (K6_of hM) (Kd_tot hM (em 11 s).toInt) (by omega)
  have e2 := kS_e (k := 2) (K6_of hM) (Kd_tot hM (em 11 s).toInt) (by omega)
  rcases (q.2.2.2 h5).2 with w | w
  · have := e0.mp w; omega
  · have := e2.mp w; omega
theorem SB_of {jm : Nat → Int32} {em : Nat → Nat → Int32} {F A B C S pb eb fb kb ce : Nat → Int32} {n : Int32} {kn N N2 : Int} (hM : mInv jm em) (h : SN F A B C S n pb eb fb kb ce (em 9) (em 10) (em 11) (em 12) (em 13) (jm 8)) (hr : RR F A B C pb eb fb kb) (hs : SJ (em 3) (em 6) (em 9) (em 10) (em 11) (em 13) kn N2 (jm 8).toInt) (eN : N = N2) : SB F B n.toInt N := fun s h1 h5 => by
  have R := hr.1 s
  rw [h.2.2.2.2.2.1] at h1
  rw [h.1] at h5
  have q := hB_of hM hs s h1 h5
  rw [← h.2.2.1] at q
  omega
theorem zX_e {so ko : Nat → Int32} {N b : Int} (h : 0 ≤ b ∧ b < N) : zX so ko N b = (so (ko b.toNat).toNatClampNeg).toInt := if_pos h
theorem Sg_e {F A B C S pb eb fb kb ce : Nat → Int32} {n o f v r r2 : Int} (h : IX F A B C S n pb eb fb kb ce) (hr : RR F A B C pb eb fb kb) (ho : 0 ≤ o ∧ o ≤ 29) (hf : 0 ≤ f ∧ f ≤ 5) (h1 : SgX fb C o f v r) (h2 : SgM F A B C S n o f v r2) : r = r2 := by
  have y1 := Sy_e (v := 1) h hr ho hf
  have y0 := Sy_e (v := 0) h hr ho hf
  rw [← fsF_x] at y1 y0
  unfold SyX at y1 y0
  unfold SgX at h1
  unfold SgM at h2
  have e : (fb (o * 6 + f).toNat).toNatClampNeg = (fb (o * 6 + f).toNat).toInt.toNat := rfl
  rcases Ix_at h.2.2.1 (k := (o * 6 + f).toNat) (by omega) (hr.2.1 _).2.2.1 with ⟨a, b⟩ | ⟨a, b, d⟩
  · omega
  · have v6 := h.2.2.2.2.2 _ b.1 b.2.2.1
    have rC := hr.1 (fb (o * 6 + f).toNat).toNatClampNeg
    omega
theorem Fg_e {F A B C S pb eb fb kb ce F2 A2 B2 C2 S2 pa ko st pa2 ko2 st2 : Nat → Int32} {n n2 r r2 : Int32} {N N2 o o2 f f2 s s2 : Int} (h : SN F A B C S n pb eb fb kb ce F2 A2 B2 C2 S2 n2) (hr : RR F A B C pb eb fb kb) (hN : N ≤ 30) (eN : N = N2) (eo : o2 = o) (ef : f2 = f) (es : 0 ≤ o ∧ o < N → s = s2) (ep : pa = pa2) (ek : ko = ko2) (est : ∀ j : Nat, j < 144 → st j = st2 j)
    (h1 : FgR N o f s r.toInt (SgX fb C o f (sfV pa ko st s f o) r.toInt)) (h2 : FgR N2 o2 f2 s2 r2.toInt (SgM F2 A2 B2 C2 S2 n2.toInt o2 f2 (sfV pa2 ko2 st2 s2 f2 o2) r2.toInt)) : r = r2 := by
  obtain ⟨e1, e2, e3, e4, e5, e6, hI⟩ := h
  have n1 := Int32.toInt_inj.mp e6
  subst e1 e2 e3 e4 e5 n1 eN eo ef ep ek
  apply Int32.toInt_inj.mp
  by_cases q : 0 ≤ o2 ∧ o2 < N ∧ 0 ≤ f2 ∧ f2 ≤ 5
  · have z := es ⟨q.1, q.2.1⟩
    subst z
    have ev : sfV pa ko st s f2 o2 = sfV pa ko st2 s f2 o2 := by unfold sfV; rw [stL_c q.2.2 est]
    rw [← ev] at h2
    rcases h1 with h1 | ⟨_, c1, h1⟩ | ⟨_, c1, h1⟩
    · exact absurd q h1.1
    · rcases h2 with h2 | ⟨_, c2, h2⟩ | ⟨_, c2, h2⟩
      · exact absurd q h2.1
      · omega
      · exact absurd c2 c1
    · rcases h2 with h2 | ⟨_, c2, h2⟩ | ⟨_, c2, h2⟩
      · exact absurd q h2.1
      · exact absurd c1 c2
      · exact Sg_e hI hr (by omega) q.2.2 h1 h2
  · rcases h1 with h1 | h1 | h1
    · rcases h2 with h2 | h2 | h2
      · omega
      · exact absurd h2.1 q
      · exact absurd h2.1 q
    · exact absurd h1.1 q
    · exact absurd h1.1 q
def KyX (kb A : Nat → Int32) (N o s r : Int) : Prop := (¬ (0 ≤ o ∧ o < N) ∧ r = -1) ∨ ((0 ≤ o ∧ o < N) ∧ ¬ (s = 2 ∨ s = 3) ∧ r = -3) ∨ ((0 ≤ o ∧ o < N) ∧ (s = 2 ∨ s = 3) ∧ (((kb o.toNat).toInt = -9 ∧ r = -9) ∨ (¬ (kb o.toNat).toInt = -9 ∧ r = (A (kb o.toNat).toNatClampNeg).toInt)))
def KyM (F A B S : Nat → Int32) (n N o s r : Int) : Prop := (¬ (0 ≤ o ∧ o < N) ∧ r = -1) ∨ ((0 ≤ o ∧ o < N) ∧ ¬ (s = 2 ∨ s = 3) ∧ r = -3) ∨ ((0 ≤ o ∧ o < N) ∧ (s = 2 ∨ s = 3) ∧ ((fsF (KB F B S o) n.toNat = -9 ∧ r = -9) ∨ (¬ fsF (KB F B S o) n.toNat = -9 ∧ r = (A (fsF (KB F B S o) n.toNat).toNat).toInt)))
theorem IX_kb {F A B C S pb eb fb kb ce : Nat → Int32} {n : Int} (h : IX F A B C S n pb eb fb kb ce) (hr : RR F A B C pb eb fb kb) {x : Int} (h0 : 0 ≤ x) (h1 : x ≤ 29) : fsF (KB F B S x) n.toNat = (kb x.toNat).toInt := by
  have e : (kb x.toNat).toNatClampNeg = (kb x.toNat).toInt.toNat := rfl
  refine (fsF_e ?_).symm
  rcases Ix_at h.2.2.2.1 (k := x.toNat) (by omega) (hr.2.1 _).2.2.2 with ⟨a, b⟩ | ⟨a, b, d⟩
  · exact Or.inl ⟨a, fun s hs q => b s ⟨by omega, q.1, q.2.1, by rw [q.2.2]; omega⟩⟩
  · refine Or.inr ⟨(kb x.toNat).toNatClampNeg, by omega, by have := b.1; omega, ⟨b.2.1, b.2.2.1, by have := b.2.2.2; omega⟩, fun s hs q => ?_⟩
    have := d s ⟨by have := b.1; omega, q.1, q.2.1, by rw [q.2.2]; omega⟩
    omega
theorem Ky_e {F A B C S pb eb fb kb ce F2 A2 B2 C2 S2 : Nat → Int32} {n n2 r r2 : Int32} {N N2 o o2 s s2 : Int} (h : SN F A B C S n pb eb fb kb ce F2 A2 B2 C2 S2 n2) (hr : RR F A B C pb eb fb kb) (hN : N ≤ 30) (eN : N = N2) (eo : o2 = o) (es : 0 ≤ o ∧ o < N → s = s2) (h1 : KyX kb A N o s r.toInt) (h2 : KyM F2 A2 B2 S2 n2.toInt N2 o2 s2 r2.toInt) : r = r2 := by
  obtain ⟨e1, e2, e3, e4, e5, e6, hI⟩ := h
  have n1 := Int32.toInt_inj.mp e6
  subst e1 e2 e3 e4 e5 n1 eN eo
  apply Int32.toInt_inj.mp
  unfold KyX at h1
  unfold KyM at h2
  by_cases q : 0 ≤ o2 ∧ o2 < N
  · rw [IX_kb hI hr q.1 (by omega)] at h2
    have er : (kb o2.toNat).toNatClampNeg = (kb o2.toNat).toInt.toNat := rfl
    rw [er] at h1
    have z := es q
    omega
  · omega
theorem RmS_u {f : Int → Int} {Rm : Int → Prop} {w r r2 : Int} (hf : f (-9) = -9) (hr : ∀ t, Rm t → f t = -9) (h1 : RmS f Rm w r) (h2 : RmS f Rm w r2) : r = r2 := by
  rcases h1 with ⟨a, b, d⟩ | ⟨a, b⟩
  · rcases h2 with ⟨a2, b2, d2⟩ | ⟨a2, b2⟩
    · rcases Ch_ln b b2 with q | q
      · rcases Ch_st.mp q with z | z
        · exact z
        · rw [hr r d] at z; exact absurd (Ch_nd hf z) a2
      · rcases Ch_st.mp q with z | z
        · exact z.symm
        · rw [hr r2 d2] at z; exact absurd (Ch_nd hf z) a
    · exact absurd b (b2 r d)
  · rcases h2 with ⟨a2, b2, d2⟩ | ⟨a2, b2⟩
    · exact absurd b2 (b r2 d2)
    · rw [a, a2]
theorem Bg_e {F A B C S pb eb fb kb ce F2 A2 B2 C2 S2 ko so pa2 ko2 : Nat → Int32} {n n2 r r2 : Int32} {kn2 N N2 w w2 s s2 : Int} (h : SN F A B C S n pb eb fb kb ce F2 A2 B2 C2 S2 n2) (hr : RR F A B C pb eb fb kb) (hs : SJ pa2 ko2 F2 A2 B2 S2 kn2 N2 n2.toInt) (h6 : K6 pa2) (hN : N ≤ 30) (eN : N = N2) (ew : w2 = w) (es : 0 ≤ w ∧ w < N → s = s2) (hz : ∀ t, 0 ≤ t → t < N → (so (ko t.toNat).toNatClampNeg).toInt = kS pa2 ko2 t)
    (h1 : BgR N w s r.toInt (fun z => RmS (hF ce) (RmX so ko N) w z)) (h2 : BgR N2 w2 s2 r2.toInt (fun z => RmS (fP F2 A2 B2 S2 n2.toInt) (RmM pa2 ko2 N2) w2 z)) : r = r2 := by
  obtain ⟨e1, e2, e3, e4, e5, e6, hI⟩ := h
  have n1 := Int32.toInt_inj.mp e6
  subst e1 e2 e3 e4 e5 n1 eN ew
  apply Int32.toInt_inj.mp
  have eR : RmX so ko N = RmM pa2 ko2 N := by
    funext t
    apply propext
    unfold RmX RmM
    constructor
    · rintro ⟨a, b, d⟩; exact ⟨a, b, by rw [← hz t a b]; exact d⟩
    · rintro ⟨a, b, d⟩; exact ⟨a, b, by rw [hz t a b]; exact d⟩
  have hu : ∀ z z2, RmS (hF ce) (RmX so ko N) w2 z → RmS (fP F A B S n.toInt) (RmM pa2 ko2 N) w2 z2 → z = z2 := fun z z2 q1 q2 => by
    rw [eR, IX_hF hI hr] at q1
    refine RmS_u fP_9 (fun t ht => ?_) q1 q2
    by_cases y : pL F A S n.toInt t = -9
    · exact fP_no y
    · exfalso
      have w9 := fsF_q y
      have v := (hs.2.1 _ w9.1).2.2.1 w9.2.2.1
      rw [w9.2.2.2] at v
      rcases kS_c (pa := pa2) (ko := ko2) (o := t) with u | u | u | u | u | u
      · exact v u.2
      all_goals (have := ht.2.2; omega)
  unfold BgR at h1 h2
  rcases h1 with ⟨a, b⟩ | ⟨a, b, d⟩ | ⟨a, b, d⟩
  · rcases h2 with ⟨a2, b2⟩ | ⟨a2, b2, d2⟩ | ⟨a2, b2, d2⟩
    · omega
    · exact absurd a2 a
    · exact absurd a2 a
  · have z := es a
    rcases h2 with ⟨a2, b2⟩ | ⟨a2, b2, d2⟩ | ⟨a2, b2, d2⟩
    · exact absurd a a2
    · omega
    · omega
  · have z := es a
    rcases h2 with ⟨a2, b2⟩ | ⟨a2, b2, d2⟩ | ⟨a2, b2, d2⟩
    · exact absurd a a2
    · omega
    · rcases d with d | d
      · rcases d2 with d2 | d2
        · omega
        · have := hu _ _ d.1 d2.2; omega
      · rcases d2 with d2 | d2
        · have := hu _ _ d.2 d2.1; omega
        · exact hu _ _ d.2 d2.2
/-! the law of tales: what both sides keep -/
def PlOk (N : Int) (Z : Int → Int) (o f h : Int) : Prop := 0 ≤ f ∧ f ≤ 4 ∧ 0 ≤ h ∧ h < N ∧ ¬ Z o = 2 ∧ ¬ Z o = 0 ∧ (f = 1 → Z h = 4) ∧ (Z o = 5 → f ≤ 1)
/-- a row of cells and the reference's rows tell the same -/
def ScR (N : Int) (Z : Int → Int) (Qf : Int → Int → Prop) (ce F A O L : Nat → Int32) : Prop := ∀ o : Nat, (o : Int) < N → (((F o).toInt = -9 ∧ (A o).toInt = -9 ∧ (ce o).toInt % 256 = 255) ∨ (PlOk N Z (o : Int) (F o).toInt (A o).toInt ∧ (ce o).toInt % 256 = (A o).toInt * 8 + (F o).toInt)) ∧ (hbt (ce o) 0 ↔ (O o).toInt = 1) ∧ (hbt (ce o) 1 ↔ (L o).toInt = 1) ∧ ∀ k : Int, 2 ≤ k → k ≤ 5 → (hbt (ce o) k ↔ Qf (o : Int) k)
def Abs (ce : Nat → Int32) (N : Int) : Prop := ∀ o : Nat, N ≤ (o : Int) → (ce o).toInt % 256 = 255
theorem Sc_h {N : Int} {Z : Int → Int} {Qf : Int → Int → Prop} {ce F A O L : Nat → Int32} (h : ScR N Z Qf ce F A O L) (ha : Abs ce N) (hN : N ≤ 30) : hF ce = nF N F A := by
  funext x
  unfold hF nF
  by_cases q : 0 ≤ x ∧ x < N
  · have w := (h x.toNat (by omega)).1
    unfold PlOk at w
    by_cases e : (F x.toNat).toInt = -9
    · rw [if_neg (by omega), if_neg (by omega)]
    · rw [if_pos (by omega), if_pos (by omega)]
      omega
  · rw [if_neg (c := 0 ≤ x ∧ x < N ∧ ¬ (F x.toNat).toInt = -9) (by omega)]
    by_cases e : 0 ≤ x
    · have w := ha x.toNat (by omega)
      rw [if_neg (by omega)]
    · rw [if_neg (by omega)]
theorem Sc_f {N : Int} {Z : Int → Int} {Qf : Int → Int → Prop} {ce F A O L : Nat → Int32} (h : ScR N Z Qf ce F A O L) (ha : Abs ce N) (hN : N ≤ 30) : fX ce = fMn N F := by
  funext x
  unfold fX fMn
  by_cases q : 0 ≤ x ∧ x < N
  · have w := (h x.toNat (by omega)).1
    unfold PlOk at w
    rw [if_pos q]
    by_cases e : (F x.toNat).toInt = -9
    · rw [if_neg (by omega)]; omega
    · rw [if_pos (by omega)]
      omega
  · rw [if_neg q]
    by_cases e : 0 ≤ x
    · have w := ha x.toNat (by omega)
      rw [if_neg (by omega)]
    · rw [if_neg (by omega)]
theorem Sc_p {N : Int} {Z : Int → Int} {Qf : Int → Int → Prop} {ce F A O L : Nat → Int32} (h : ScR N Z Qf ce F A O L) : ∀ o : Int, 0 ≤ o → o < N → fMn N F o = -9 ∨ PlOk N Z o (fMn N F o) (nF N F A o) := by
  intro o h0 h1
  have w := (h o.toNat (by omega)).1
  rw [show ((o.toNat : Nat) : Int) = o by omega] at w
  unfold fMn nF
  rw [if_pos ⟨h0, h1⟩]
  by_cases e : (F o.toNat).toInt = -9
  · exact Or.inl e
  · rcases w with w | w
    · exact absurd w.1 e
    · rw [if_pos ⟨h0, h1, e⟩]; exact Or.inr w.1
theorem Sc_b {N : Int} {Z : Int → Int} {Qf : Int → Int → Prop} {ce F A O L : Nat → Int32} (h : ScR N Z Qf ce F A O L) {x : Int} (h0 : 0 ≤ x) (h1 : x < N) : (bT ce 0 x ↔ bM O x) ∧ (bT ce 1 x ↔ bM L x) ∧ ∀ k : Int, 2 ≤ k → k ≤ 5 → (bT ce k x ↔ Qf x k) := by
  have w := (h x.toNat (by omega)).2
  rw [show ((x.toNat : Nat) : Int) = x by omega] at w
  exact w
theorem Sc_l {N : Int} {Z : Int → Int} {Qf : Int → Int → Prop} {ce F A O L : Nat → Int32} (h : ScR N Z Qf ce F A O L) {f g : Int} {x : Nat} (hx : (x : Int) < N) (hf : 0 ≤ f ∧ f ≤ 4) (hg : 0 ≤ g) : lsP ce f g x = true ↔ lsM F A f g x = true := by
  have w := (h x hx).1
  unfold PlOk at w
  constructor
  · intro e
    have e := lsP_e e
    exact lsM_y (by omega)
  · intro e
    have e := lsM_e e
    exact lsP_y (by omega)
/-! looks are alike -/
theorem Cv_c {Z : Int → Int} {op gl op2 gl2 : Int → Prop} {l : Prop} (h : ∀ x, Z x = 3 → (op x ↔ op2 x) ∧ (gl x ↔ gl2 x)) : Cv Z op gl l = Cv Z op2 gl2 l := by
  funext x
  apply propext
  unfold Cv
  constructor
  · rintro ⟨a, b, c⟩
    exact ⟨a, fun w => b ((h x a).1.mpr w), c.elim Or.inl (fun w => Or.inr (fun z => w ((h x a).2.mpr z)))⟩
  · rintro ⟨a, b, c⟩
    exact ⟨a, fun w => b ((h x a).1.mp w), c.elim Or.inl (fun w => Or.inr (fun z => w ((h x a).2.mp z)))⟩
theorem shl_c {Z f : Int → Int} {op gl op2 gl2 : Int → Prop} {l : Prop} {p : Int} (h : ∀ x, Z x = 3 → (op x ↔ op2 x) ∧ (gl x ↔ gl2 x)) : shl Z f op gl l p = shl Z f op2 gl2 l p := by
  have e : StpC Z op gl l = StpC Z op2 gl2 l := by
    funext x
    unfold StpC
    rw [Cv_c h]
  unfold shl
  rw [e]
theorem V1_c {Z f : Int → Int} {op gl op2 gl2 : Int → Prop} {sd sd2 : Int → Int → Prop} {l : Prop} {p o : Int} (h : ∀ x, Z x = 3 → (op x ↔ op2 x) ∧ (gl x ↔ gl2 x)) (hs : ∀ s x, ¬ s = -9 → Z x = 2 → (sd s x ↔ sd2 s x)) : V1 Z f op gl sd l p o ↔ V1 Z f op2 gl2 sd2 l p o := by
  unfold V1 Vw
  rw [shl_c (f := f) (p := p) (l := l) h, Cv_c (l := l) h]
  constructor
  · rintro (a | ⟨a, b | b | b⟩)
    · exact Or.inl a
    · exact Or.inr ⟨a, Or.inl b⟩
    · exact Or.inr ⟨a, Or.inr (Or.inl ⟨b.1, b.2.1, (hs _ _ a b.2.1).mp b.2.2⟩)⟩
    · exact Or.inr ⟨a, Or.inr (Or.inr b)⟩
  · rintro (a | ⟨a, b | b | b⟩)
    · exact Or.inl a
    · exact Or.inr ⟨a, Or.inl b⟩
    · exact Or.inr ⟨a, Or.inr (Or.inl ⟨b.1, b.2.1, (hs _ _ a b.2.1).mpr b.2.2⟩)⟩
    · exact Or.inr ⟨a, Or.inr (Or.inr b)⟩
theorem BrM_c {Z f : Int → Int} {op gl lt op2 gl2 lt2 : Int → Prop} {sd sd2 : Int → Int → Prop} {p N : Int} (h : ∀ x, Z x = 3 → (op x ↔ op2 x) ∧ (gl x ↔ gl2 x)) (hs : ∀ s x, ¬ s = -9 → Z x = 2 → (sd s x ↔ sd2 s x)) (hl : ∀ x, 0 ≤ x → x < N → (lt x ↔ lt2 x)) (hZ : ∀ x, Z x = 0 → 0 ≤ x ∧ x < N) : BrM Z f op gl lt sd p N ↔ BrM Z f op2 gl2 lt2 sd2 p N := by
  unfold BrM
  rw [shl_c (f := f) (p := p) (l := (1 : Int) ≤ 0) h]
  constructor
  · rintro (⟨a, b⟩ | ⟨o, a, b, c, d⟩)
    · exact Or.inl ⟨a, (hl _ (hZ _ a).1 (hZ _ a).2).mp b⟩
    · exact Or.inr ⟨o, a, b, (V1_c h hs).mp c, (hl _ a b).mp d⟩
  · rintro (⟨a, b⟩ | ⟨o, a, b, c, d⟩)
    · exact Or.inl ⟨a, (hl _ (hZ _ a).1 (hZ _ a).2).mpr b⟩
    · exact Or.inr ⟨o, a, b, (V1_c h hs).mpr c, (hl _ a b).mpr d⟩
theorem Sm_i {a b : Int32} {P Q : Prop} (h : Sm a P) (h2 : Sm b Q) (e : P ↔ Q) : a.toInt = 1 ↔ b.toInt = 1 := by
  rcases h with h | h <;> rcases h2 with h2 | h2
  · exact ⟨fun _ => h2.1, fun _ => h.1⟩
  · exact absurd (e.mp h.2) h2.2
  · exact absurd (e.mpr h2.2) h.2
  · exact ⟨fun _ => by omega, fun _ => by omega⟩
theorem Lk_e {Z f fm : Int → Int} {op gl lt op2 gl2 lt2 : Int → Prop} {sd sd2 : Int → Int → Prop} {p N : Int} {sn rc sn2 rc2 : Nat → Int32} {br br2 : Int32} (h1 : LkR Z f fm op gl lt sd p N sn rc br) (h2 : LkR Z f fm op2 gl2 lt2 sd2 p N sn2 rc2 br2) (h : ∀ x, Z x = 3 → (op x ↔ op2 x) ∧ (gl x ↔ gl2 x)) (hs : ∀ s x, ¬ s = -9 → Z x = 2 → (sd s x ↔ sd2 s x)) (hl : ∀ x, 0 ≤ x → x < N → (lt x ↔ lt2 x)) (hZ : ∀ x, Z x = 0 → 0 ≤ x ∧ x < N) {x : Int} (x0 : 0 ≤ x) (x1 : x < N) : ((sn x.toNat).toInt = 1 ↔ (sn2 x.toNat).toInt = 1) ∧ ((rc x.toNat).toInt = 1 ↔ (rc2 x.toNat).toInt = 1) := by
  have a := h1.2 x.toNat (by omega)
  have b := h2.2 x.toNat (by omega)
  rw [show ((x.toNat : Nat) : Int) = x by omega] at a b
  have eB := BrM_c (f := f) (p := p) (N := N) h hs hl hZ
  have eS : SnP Z f fm op gl lt sd p N x ↔ SnP Z f fm op2 gl2 lt2 sd2 p N x := by
    unfold SnP
    rw [propext eB, propext (V1_c (f := f) (p := p) (o := x) (l := (1 : Int) ≤ 0) h hs)]
  have eR : RcP Z f fm op gl lt sd p N x ↔ RcP Z f fm op2 gl2 lt2 sd2 p N x := by
    unfold RcP
    rw [propext eS, propext (V1_c (f := f) (p := p) (o := x) (l := (1 : Int) ≤ 1) h hs)]
  exact ⟨Sm_i a.1 b.1 eS, Sm_i a.2 b.2 eR⟩
/-! reasons are alike -/
theorem plV_0 {a : Int} : plV a 0 = a := by
  unfold plV
  by_cases h : a = 0
  · rw [if_pos h, h]
  · rw [if_neg h]
theorem plV_n {a k : Int} (h : ¬ a = 0) : plV a k = a := if_neg h
theorem plV_z {k : Int} : plV 0 k = k := if_pos rfl
theorem shutV_k {v : Int} {sn sh op lk rc : Prop} {k : Int} : plV (shutV v sn sh op lk rc 0) k = shutV v sn sh op lk rc k := by
  unfold shutV
  by_cases a : ¬ sn
  · rw [iV_y a, iV_y a, plV_n (by decide +kernel)]
  · rw [iV_n a, iV_n a]
    by_cases b : ¬ sh
    · rw [iV_y b, iV_y b, plV_n (by decide +kernel)]
    · rw [iV_n b, iV_n b]
      by_cases c : ¬ rc
      · rw [iV_y c, iV_y c]
        refine plV_n ?_
        rcases leafV_k (v := v) (op := op) (lk := lk) (k := 8) with w | w
        · rw [w.2]; decide
        · rw [w.2]; exact w.1
      · rw [iV_n c, iV_n c]
        rcases leafV_k (v := v) (op := op) (lk := lk) (k := k) with w | w
        · rw [w.1, w.2, plV_z]
        · rw [w.2, plV_n w.1]
theorem iVp {H : Prop} {k : Int} : plV (iV H 11 0) k = iV H 11 k := by
  by_cases h : H
  · rw [iV_y h, iV_y h, plV_n (by decide +kernel)]
  · rw [iV_n h, iV_n h, plV_z]
theorem Wyx_e {v go tk pi po ky wr en lv : Int} {H sn sh op lk rc : Prop} (h0 : ¬ v = 0) : plV (rxV v go tk (iV H 11 0) (shutV v sn sh op lk rc 0) wr en lv) (ryV v pi po ky) = wyV v tk (iV H 11 0) (iV H 11 pi) (iV H 11 po) (shutV v sn sh op lk rc (if 7 ≤ v then (if v ≤ 8 then ky else 0) else 0)) wr en lv := by
  unfold rxV ryV wyV
  rw [if_neg h0]
  by_cases q1 : v = 1
  · rw [if_pos q1, if_pos q1, if_neg (by omega), if_neg (by omega), if_neg (by omega)]; exact plV_0
  rw [if_neg q1, if_neg q1]
  by_cases q2 : v = 2
  · rw [if_pos (by omega), if_pos q2, if_neg (by omega), if_neg (by omega), if_neg (by omega)]; exact plV_0
  rw [if_neg q2]
  by_cases q3 : v = 3
  · rw [if_pos (by omega), if_pos q3, if_pos q3]; exact iVp
  rw [if_neg q3, if_neg q3]
  by_cases q4 : v = 4
  · rw [if_pos (by omega), if_pos q4, if_pos q4]; exact iVp
  rw [if_neg (c := v = 2 ∨ v = 3 ∨ v = 4) (by omega), if_neg q4, if_neg q4]
  by_cases q5 : 5 ≤ v ∧ v ≤ 8
  · rw [if_pos q5, if_pos q5, shutV_k]
    by_cases q7 : 7 ≤ v
    · rw [if_pos (by omega), if_pos q7, if_pos (by omega)]
    · rw [if_neg (by omega), if_neg q7]
  rw [if_neg q5, if_neg q5, if_neg (c := v = 7 ∨ v = 8) (by omega), plV_0]
theorem wtB_c {Z : Int → Int} {sz : Nat → Int32} {ls ls2 : Int → Int → Nat → Bool} {N : Nat} (h : ∀ (g o : Int) (x : Nat), (g = 0 ∨ g = 1) → 0 ≤ o → x < N → (ls g o x = true ↔ ls2 g o x = true)) : ∀ (k x : Nat), wtB Z sz ls N k x = wtB Z sz ls2 N k x := by
  intro k
  induction k with
  | zero => intro x; rfl
  | succ k ih =>
    intro x
    have e : ∀ g : Int, (g = 0 ∨ g = 1) → sumI (fun y => if ls g (x : Int) y = true then wtB Z sz ls N k y else 0) N = sumI (fun y => if ls2 g (x : Int) y = true then wtB Z sz ls2 N k y else 0) N := fun g hg => sumI_c N (fun y hy => by
      have w := h g (x : Int) y hg (by omega) hy
      by_cases q : ls g (x : Int) y = true
      · rw [if_pos q, if_pos (w.mp q)]; exact ih y
      · rw [if_neg q, if_neg (fun z => q (w.mpr z))])
    show (if _ then _ else _) = (if _ then _ else _)
    rw [e 0 (by omega), e 1 (by omega)]
theorem iV_0 {P : Prop} {a b : Int} (h : iV P a b = 0) (ha : ¬ a = 0) : ¬ P ∧ b = 0 := by
  by_cases q : P
  · rw [iV_y q] at h; exact absurd h ha
  · rw [iV_n q] at h; exact ⟨q, h⟩
theorem iV_e {P Q : Prop} {a b c : Int} (h : P ↔ Q) (e : ¬ P → b = c) : iV P a b = iV Q a c := by
  by_cases q : P
  · rw [iV_y q, iV_y (h.mp q)]
  · rw [iV_n q, iV_n (fun z => q (h.mpr z)), e q]
theorem takeV_c {sn up hd bad rc an ov sn2 bad2 rc2 ov2 : Prop} (h1 : sn ↔ sn2) (h4 : bad ↔ bad2) (h5 : rc ↔ rc2) (h7 : ov ↔ ov2) : takeV sn up hd bad rc an ov = takeV sn2 up hd bad2 rc2 an ov2 := by rw [propext h1, propext h4, propext h5, propext h7]
theorem putV_c {sn fit slf cl rc ful sn2 fit2 cl2 rc2 ful2 : Prop} (h1 : sn ↔ sn2) (h2 : fit ↔ fit2) (h4 : cl ↔ cl2) (h5 : rc ↔ rc2) (h6 : ful ↔ ful2) : putV sn fit slf cl rc ful = putV sn2 fit2 slf cl2 rc2 ful2 := by rw [propext h1, propext h2, propext h4, propext h5, propext h6]
theorem shutV_c {v : Int} {sn sh op lk rc sn2 op2 lk2 rc2 : Prop} {k k2 : Int} (h1 : sn ↔ sn2) (h3 : op ↔ op2) (h4 : lk ↔ lk2) (h5 : rc ↔ rc2) (e : k = k2) : shutV v sn sh op lk rc k = shutV v sn2 sh op2 lk2 rc2 k2 := by rw [propext h1, propext h3, propext h4, propext h5, e]
theorem keyV_c {hd ky ky2 : Prop} (h : ky ↔ ky2) : keyV hd ky = keyV hd ky2 := by rw [propext h]
theorem wearV_c {hd g g2 : Prop} (h : hd → (g ↔ g2)) : wearV hd g = wearV hd g2 := by
  unfold wearV
  refine iV_e Iff.rfl (fun q => ?_)
  have w := h (Classical.not_not.mp q)
  rw [propext w]
theorem enterV_c {sn fit up cl rc at_ sn2 cl2 rc2 : Prop} (h1 : sn ↔ sn2) (h4 : cl ↔ cl2) (h5 : rc ↔ rc2) : enterV sn fit up cl rc at_ = enterV sn2 fit up cl2 rc2 at_ := by rw [propext h1, propext h4, propext h5]
theorem leaveV_c {bw cl fo bw2 cl2 : Prop} (h1 : bw ↔ bw2) (h2 : ¬ bw → (cl ↔ cl2)) : leaveV bw cl fo = leaveV bw2 cl2 fo := by
  unfold leaveV
  refine iV_e h1 (fun q => ?_)
  rw [propext (h2 q)]
theorem goV_c {bw : Prop} {ld dr ld2 dr2 : Int} {op op2 : Int → Prop} (h : bw → ld = ld2 ∧ dr = dr2) (ho : bw → ¬ dr = -9 → (op dr ↔ op2 dr)) : goV bw ld dr op = goV bw ld2 dr2 op2 := by
  unfold goV
  refine iV_e Iff.rfl (fun q => ?_)
  have b := Classical.not_not.mp q
  rw [← (h b).1, ← (h b).2]
  refine iV_d (fun _ => ?_)
  refine iV_e ?_ (fun _ => rfl)
  constructor
  · rintro ⟨x, y⟩; exact ⟨x, fun z => y ((ho b x).mpr z)⟩
  · rintro ⟨x, y⟩; exact ⟨x, fun z => y ((ho b x).mp z)⟩
/-! what an act does is alike -/
theorem Gd {N v p x y ld : Int} {Z f fm : Int → Int} (h : ∀ o : Int, 0 ≤ o → o < N → fm o = -9 ∨ PlOk N Z o (fm o) (f o)) (hp : 0 ≤ p ∧ p < N) (hp5 : Z p = 5) (hpp : ¬ fm p = -9) (ha : IsA v x y N) (hv : v ≤ 4 ∨ (9 ≤ v ∧ v ≤ 11)) (g0 : v = 0 → 0 ≤ ld ∧ ld < N) (g1 : v = 1 → (Z x = 1 ∨ 3 ≤ Z x) ∧ ¬ Z x = 5) (g2 : v = 2 ∨ v = 3 ∨ v = 4 ∨ v = 9 → fm x = 2) (g4 : v = 4 → Z y = 4) (g10 : v = 10 → Z x = 3 ∨ Z x = 4) (g11 : v = 11 → fm (f p) = 0 ∨ fm (f p) = 1) : PlOk N Z (if v = 0 ∨ 10 ≤ v then p else x) (plF v Z fm f p x) (plH v f p ld x y) := by
  have hP := (h p hp.1 hp.2).resolve_left hpp
  unfold IsA at ha
  obtain ⟨a1, a2, a3, a4, a5⟩ := ha
  unfold plF plH
  have hX : v = 2 ∨ v = 3 ∨ v = 4 ∨ v = 9 → PlOk N Z x (fm x) (f x) := fun q => (h x (by omega) (by omega)).resolve_left (by have := g2 q; omega)
  have hF : v = 11 → PlOk N Z (f p) (fm (f p)) (f (f p)) := fun q => (h (f p) (by unfold PlOk at hP; omega) (by unfold PlOk at hP; omega)).resolve_left (by have := g11 q; omega)
  rcases (show v = 0 ∨ v = 1 ∨ v = 2 ∨ v = 3 ∨ v = 4 ∨ v = 9 ∨ v = 10 ∨ v = 11 by omega) with q | q | q | q | q | q | q | q
  · have := g0 q
    rw [if_pos (by omega), if_pos q, if_pos q]
    unfold PlOk at hP ⊢; omega
  · have := g1 q
    rw [if_neg (by omega), if_neg (by omega), if_pos q, if_neg (by omega), if_pos (by omega)]
    unfold PlOk at hP ⊢; omega
  · have w := hX (by omega)
    have := g2 (by omega)
    rw [if_neg (by omega), if_neg (by omega), if_neg (by omega), if_pos q, if_neg (by omega), if_neg (by omega), if_pos q]
    unfold PlOk at hP w ⊢; omega
  · have w := hX (by omega)
    have := g2 (by omega)
    rw [if_neg (by omega), if_neg (by omega), if_neg (by omega), if_neg (by omega), if_pos q, if_neg (by omega), if_neg (by omega), if_neg (by omega), if_pos (by omega)]
    unfold PlOk at hP w ⊢; omega
  · have w := hX (by omega)
    have := g2 (by omega)
    have := g4 q
    rw [if_neg (by omega), if_neg (by omega), if_neg (by omega), if_neg (by omega), if_neg (by omega), if_pos q, if_neg (by omega), if_neg (by omega), if_neg (by omega), if_pos (by omega)]
    unfold PlOk at hP w ⊢; omega
  · have w := hX (by omega)
    have := g2 (by omega)
    rw [if_neg (by omega), if_neg (by omega), if_neg (by omega), if_neg (by omega), if_neg (by omega), if_neg (by omega), if_pos q, if_neg (by omega), if_pos (by omega)]
    unfold PlOk at hP w ⊢; omega
  · have := g10 q
    rw [if_pos (by omega), if_neg (by omega), if_neg (by omega), if_neg (by omega), if_neg (by omega), if_neg (by omega), if_neg (by omega), if_pos q]
    by_cases e : Z x = 3
    · rw [if_pos e, if_neg (by omega), if_neg (by omega), if_neg (by omega), if_neg (by omega), if_pos q]; unfold PlOk at hP ⊢; omega
    · rw [if_neg e, if_neg (by omega), if_neg (by omega), if_neg (by omega), if_neg (by omega), if_pos q]; unfold PlOk at hP ⊢; omega
  · have w := hF q
    have := g11 q
    rw [if_pos (by omega), if_neg (by omega), if_neg (by omega), if_neg (by omega), if_neg (by omega), if_neg (by omega), if_neg (by omega), if_neg (by omega), if_neg (by omega), if_neg (by omega), if_neg (by omega), if_neg (by omega), if_neg (by omega)]
    unfold PlOk at hP w ⊢; omega
theorem AcR_h {v f g : Int} {F A O L F2 A2 O2 L2 : Nat → Int32} {sj x : Int32} {H : Int → Prop} (h : AcR v F A O L F2 A2 O2 L2 sj x f H) (e : ∀ z, H z → z = g) : AcR v F A O L F2 A2 O2 L2 sj x f (fun z => z = g) := by
  unfold AcR at h ⊢
  rcases h with ⟨a, ⟨f9, h9, b, c, d⟩, k⟩ | h | h | h
  · exact Or.inl ⟨a, ⟨f9, h9, b, e _ c, d⟩, k⟩
  · exact Or.inr (Or.inl h)
  · exact Or.inr (Or.inr (Or.inl h))
  · exact Or.inr (Or.inr (Or.inr h))
theorem Sc_x {N : Int} {Z : Int → Int} {Qf : Int → Int → Prop} {ce F A O L F2 A2 O2 L2 : Nat → Int32} (h : ScR N Z Qf ce F A O L) (e : ∀ o : Nat, (o : Int) < N → F2 o = F o ∧ A2 o = A o ∧ O2 o = O o ∧ L2 o = L o) : ScR N Z Qf ce F2 A2 O2 L2 := fun o ho => by
  have q := e o ho
  rw [q.1, q.2.1, q.2.2.1, q.2.2.2]
  exact h o ho
theorem Sc_a {N v f g : Int} {Z : Int → Int} {Qf : Int → Int → Prop} {ce F A O L F2 A2 O2 L2 : Nat → Int32} {sj x2 ou : Int32} (h : ScR N Z Qf ce F A O L) (hce : ∀ o, 0 ≤ (ce o).toInt) (hN : N ≤ 30) (hs : 0 ≤ sj.toInt ∧ sj.toInt < N) (ho : OuR v (ce sj.toNatClampNeg) ou f g) (ha : AcR v F A O L F2 A2 O2 L2 sj x2 f (fun z => z = g)) (hx : 5 ≤ v ∧ v ≤ 8 → x2 = sj) (hg : v ≤ 4 ∨ (9 ≤ v ∧ v ≤ 11) → PlOk N Z sj.toInt f g) : ScR N Z Qf (upd ce sj.toNatClampNeg ou) F2 A2 O2 L2 := by
  intro o hlt
  have hs0 := cl_nn (x := sj) hs.1
  by_cases e : o = sj.toNatClampNeg
  · subst e
    have w := h sj.toNatClampNeg hlt
    rw [pk_us]
    rcases ho with ⟨v1, ho⟩ | ⟨v1, hm, hB⟩ | ⟨v1, hm, hB⟩ | ⟨v1, ho⟩
    · rcases ha with ⟨_, ⟨f9, h9, b, c, d1, d2⟩, k1, k2⟩ | ⟨v2, _⟩ | ⟨v2, _⟩ | ⟨v2, _⟩
      · have p := hg v1
        have p2 := p
        unfold PlOk at p2
        have c9 : h9.toInt = g := c
        rw [d1, d2, k1, k2, pk_us, pk_us, b, c9, hs0]
        refine ⟨Or.inr ⟨p, by omega⟩, ?_, ?_, fun k q1 q2 => ?_⟩
        · rw [pl_hb (hce _) (by omega) (by omega) ho (by omega)]; exact w.2.1
        · rw [pl_hb (hce _) (by omega) (by omega) ho (by omega)]; exact w.2.2.1
        · rw [pl_hb (hce _) (by omega) (by omega) ho (by omega)]
          have u := w.2.2.2 k q1 q2
          rw [hs0] at u
          exact u
      · exfalso; omega
      · exfalso; omega
      · exfalso; omega
    · rcases ha with ⟨v2, _⟩ | ⟨_, d1, d2, ⟨z, hz, k1⟩, k2⟩ | ⟨v2, _⟩ | ⟨v2, _⟩
      · exfalso; omega
      · rw [d1, d2, k1, k2, hx (by omega), pk_us, hm]
        refine ⟨w.1, ?_, ?_, fun k q1 q2 => ?_⟩
        · rw [hB 0 (by omega) (by omega)]
          constructor
          · rintro (u | u)
            · rcases hz with y | y
              · exact y.1
              · exact absurd u.2 y.2
            · exact absurd rfl u.1
          · intro u
            rcases hz with y | y
            · exact Or.inl ⟨rfl, y.2⟩
            · omega
        · rw [hB 1 (by omega) (by omega), ← w.2.2.1]
          exact ⟨fun u => u.elim (fun y => absurd y.1 (by decide +kernel)) (fun y => y.2), fun u => Or.inr ⟨by decide, u⟩⟩
        · rw [hB k (by omega) q2, ← w.2.2.2 k q1 q2]
          exact ⟨fun u => u.elim (fun y => absurd y.1 (by omega)) (fun y => y.2), fun u => Or.inr ⟨by omega, u⟩⟩
      · exfalso; omega
      · exfalso; omega
    · rcases ha with ⟨v2, _⟩ | ⟨v2, _⟩ | ⟨_, d1, d2, k1, z, hz, k2⟩ | ⟨v2, _⟩
      · exfalso; omega
      · exfalso; omega
      · rw [d1, d2, k1, k2, hx (by omega), pk_us, hm]
        refine ⟨w.1, ?_, ?_, fun k q1 q2 => ?_⟩
        · rw [hB 0 (by omega) (by omega), ← w.2.1]
          exact ⟨fun u => u.elim (fun y => absurd y.1 (by decide +kernel)) (fun y => y.2), fun u => Or.inr ⟨by decide, u⟩⟩
        · rw [hB 1 (by omega) (by omega)]
          constructor
          · rintro (u | u)
            · rcases hz with y | y
              · exact y.1
              · exact absurd u.2 y.2
            · exact absurd rfl u.1
          · intro u
            rcases hz with y | y
            · exact Or.inl ⟨rfl, y.2⟩
            · omega
        · rw [hB k (by omega) q2, ← w.2.2.2 k q1 q2]
          exact ⟨fun u => u.elim (fun y => absurd y.1 (by omega)) (fun y => y.2), fun u => Or.inr ⟨by omega, u⟩⟩
      · exfalso; omega
    · rcases ha with ⟨v2, _⟩ | ⟨v2, _⟩ | ⟨v2, _⟩ | ⟨_, d1, d2, k1, k2⟩
      · exfalso; omega
      · exfalso; omega
      · exfalso; omega
      · rw [d1, d2, k1, k2, ho]; exact w
  · rw [pk_un e]
    have w := h o hlt
    rcases ha with ⟨_, ⟨f9, h9, b, c, d1, d2⟩, k1, k2⟩ | ⟨v2, d1, d2, ⟨z, hz, k1⟩, k2⟩ | ⟨v2, d1, d2, k1, z, hz, k2⟩ | ⟨_, d1, d2, k1, k2⟩
    · rw [d1, d2, k1, k2, pk_un e, pk_un e]; exact w
    · rw [d1, d2, k1, k2, hx (by omega), pk_un e]; exact w
    · rw [d1, d2, k1, k2, hx (by omega), pk_un e]; exact w
    · rw [d1, d2, k1, k2]; exact w
theorem Abs_u {ce : Nat → Int32} {N : Int} {j v : Int32} (h : Abs ce N) (h0 : 0 ≤ j.toInt) (h1 : j.toInt < N) : Abs (upd ce j.toNatClampNeg v) N := by
  intro o ho
  have e := cl_nn (x := j) h0
  rw [pk_un (by omega)]
  exact h o ho
/-! what is undone -/
def UdR (N : Int) (Z : Int → Int) (Qf : Int → Int → Prop) (tu : Nat) (ce sb fc W1 W2 W3 W4 : Nat → Int32) : Prop := ∃ cs : Nat → Nat → Int32, cs tu = ce ∧ ∀ j : Nat, j < tu → cs j = upd (cs (j + 1)) (sb j).toNatClampNeg (fc j) ∧ (0 ≤ (sb j).toInt ∧ (sb j).toInt < N) ∧ ScR N Z Qf (cs j) (fun o => W1 (30 * j + o)) (fun o => W2 (30 * j + o)) (fun o => W3 (30 * j + o)) (fun o => W4 (30 * j + o))
theorem Un_0 {N : Int} {Z : Int → Int} {Qf : Int → Int → Prop} {tu : Nat} {ce sb fc W1 W2 W3 W4 : Nat → Int32} (h : tu = 0) : UdR N Z Qf tu ce sb fc W1 W2 W3 W4 := ⟨fun _ => ce, rfl, fun j hj => by omega⟩
def csN (T : Nat) (cs : Nat → Nat → Int32) (x : Nat → Int32) (j : Nat) : Nat → Int32 := if j ≤ T then cs j else x
theorem csN_l {T : Nat} {cs : Nat → Nat → Int32} {x : Nat → Int32} {j : Nat} (h : j ≤ T) : csN T cs x j = cs j := if_pos h
theorem csN_g {T : Nat} {cs : Nat → Nat → Int32} {x : Nat → Int32} {j : Nat} (h : ¬ j ≤ T) : csN T cs x j = x := if_neg h
theorem Un_s {N : Int} {Z : Int → Int} {Qf : Int → Int → Prop} {T : Nat} {ce sb fc W1 W2 W3 W4 F A O L V1 V2 V3 V4 : Nat → Int32} {sj ou tu : Int32} (h : UdR N Z Qf T ce sb fc W1 W2 W3 W4) (hS : ScR N Z Qf ce F A O L) (hj : 0 ≤ sj.toInt ∧ sj.toInt < N) (hN : N ≤ 30) (hT : tu.toNatClampNeg = T) (r1 : RW V1 V2 W1 W2 F A T 30) (r2 : RW V3 V4 W3 W4 O L T 30) : UdR N Z Qf (T + 1) (upd ce sj.toNatClampNeg ou) (upd sb tu.toNatClampNeg sj) (upd fc tu.toNatClampNeg (ce sj.toNatClampNeg)) V1 V2 V3 V4 := by
  obtain ⟨cs, e, h⟩ := h
  refine ⟨csN T cs (upd ce sj.toNatClampNeg ou), csN_g (by omega), fun j hj2 => ?_⟩
  rw [hT]
  by_cases q : j = T
  · subst q
    rw [csN_l (Nat.le_refl j), csN_g (by omega), pk_us, pk_us, e]
    refine ⟨?_, hj, Sc_x hS (fun o ho => ?_)⟩
    · funext o
      by_cases w : o = sj.toNatClampNeg
      · rw [w, pk_us]
      · rw [pk_un w, pk_un w]
    · have a := r1.2 o (by omega)
      have b := r2.2 o (by omega)
      exact ⟨a.1, a.2, b.1, b.2⟩
  · have w := h j (by omega)
    rw [csN_l (by omega), csN_l (by omega), pk_un q, pk_un q]
    refine ⟨w.1, w.2.1, Sc_x w.2.2 (fun o ho => ?_)⟩
    have a := r1.1 (30 * j + o) (by omega)
    have b := r2.1 (30 * j + o) (by omega)
    exact ⟨a.1, a.2, b.1, b.2⟩
theorem Un_b {N : Int} {Z : Int → Int} {Qf : Int → Int → Prop} {T : Nat} {ce sb fc W1 W2 W3 W4 F A O L : Nat → Int32} (h : UdR N Z Qf (T + 1) ce sb fc W1 W2 W3 W4) (g1 : GB F A W1 W2 T 30) (g2 : GB O L W3 W4 T 30) (hN : N ≤ 30) : UdR N Z Qf T (upd ce (sb T).toNatClampNeg (fc T)) sb fc W1 W2 W3 W4 ∧ ScR N Z Qf (upd ce (sb T).toNatClampNeg (fc T)) F A O L ∧ 0 ≤ (sb T).toInt ∧ (sb T).toInt < N := by
  obtain ⟨cs, e, h⟩ := h
  have w := h T (by omega)
  rw [e] at w
  refine ⟨⟨cs, w.1, fun j hj => h j (by omega)⟩, ?_, w.2.1⟩
  rw [← w.1]
  refine Sc_x w.2.2 (fun o ho => ?_)
  have a := g1 o (by omega)
  have b := g2 o (by omega)
  exact ⟨a.1, a.2, b.1, b.2⟩
/-- the tale: as both sides keep it -/
def TL (N : Int) (Z : Int → Int) (Qf : Int → Int → Prop) (LK : Prop) (th pl tu : Int32) (ce sb fc : Nat → Int32) (p tu2 : Int32) (F A O L W1 W2 W3 W4 : Nat → Int32) : Prop := Abs ce N ∧ tu.toInt = tu2.toInt ∧ ((¬ th.toInt = 1 ∧ p.toInt = -9 ∧ tu.toInt = 0) ∨ (th.toInt = 1 ∧ pl = p ∧ (0 ≤ p.toInt ∧ p.toInt < N) ∧ Z p.toInt = 5 ∧ ScR N Z Qf ce F A O L ∧ UdR N Z Qf tu.toInt.toNat ce sb fc W1 W2 W3 W4 ∧ LK))
theorem TL_e {N N2 : Int} {Z Z2 : Int → Int} {Qf Qf2 : Int → Int → Prop} {LK LK2 : Prop} {th pl tu th2 tu3 : Int32} {ce sb fc : Nat → Int32} {p tu2 p2 tu4 : Int32} {F A O L W1 W2 W3 W4 : Nat → Int32} (h : TL N Z Qf LK th pl tu ce sb fc p tu2 F A O L W1 W2 W3 W4) (hN : N ≤ N2) (h1 : ¬ th2.toInt = 1) (h2 : tu3.toInt = 0) (h3 : p2.toInt = -9) (h4 : tu4.toInt = 0) : TL N2 Z2 Qf2 LK2 th2 pl tu3 ce sb fc p2 tu4 F A O L W1 W2 W3 W4 := ⟨fun o ho => h.1 o (by omega), by omega, Or.inl ⟨h1, h3, h2⟩⟩
theorem TL_a {N v f g : Int} {Z : Int → Int} {Qf : Int → Int → Prop} {LK LK2 : Prop} {th pl tu tu3 sj x2 ou : Int32} {ce sb fc ce2 sb2 fc2 : Nat → Int32} {p tu2 tu4 : Int32} {F A O L W1 W2 W3 W4 F2 A2 O2 L2 V1 V2 V3 V4 : Nat → Int32} (h : TL N Z Qf LK th pl tu ce sb fc p tu2 F A O L W1 W2 W3 W4) (h1 : th.toInt = 1) (hce : ∀ o, 0 ≤ (ce o).toInt) (hN : N ≤ 30) (ht : 0 ≤ tu.toInt) (hs : 0 ≤ sj.toInt ∧ sj.toInt < N) (ho : OuR v (ce sj.toNatClampNeg) ou f g) (e1 : ce2 = upd ce sj.toNatClampNeg ou) (e2 : sb2 = upd sb tu.toNatClampNeg sj) (e3 : fc2 = upd fc tu.toNatClampNeg (ce sj.toNatClampNeg)) (e4 : tu3.toInt = tu.toInt + 1) (hk : LK2) (ha : AcR v F A O L F2 A2 O2 L2 sj x2 f (fun z => z = g)) (hx : 5 ≤ v ∧ v ≤ 8 → x2 = sj) (hg : v ≤ 4 ∨ (9 ≤ v ∧ v ≤ 11) → PlOk N Z sj.toInt f g) (r1 : RW V1 V2 W1 W2 F A tu2.toInt.toNat 30) (r2 : RW V3 V4 W3 W4 O L tu2.toInt.toNat 30) (e5 : tu4.toInt = tu2.toInt + 1) : TL N Z Qf LK2 th pl tu3 ce2 sb2 fc2 p tu4 F2 A2 O2 L2 V1 V2 V3 V4 := by
  obtain ⟨a, b, c⟩ := h
  have c := c.resolve_left (fun q => q.1 h1)
  subst e1 e2 e3
  rw [← b] at r1 r2
  refine ⟨Abs_u a hs.1 hs.2, by omega, Or.inr ⟨h1, c.2.1, c.2.2.1, c.2.2.2.1, Sc_a c.2.2.2.2.1 hce hN hs ho ha hx hg, ?_, hk⟩⟩
  rw [show tu3.toInt.toNat = tu.toInt.toNat + 1 by omega]
  exact Un_s c.2.2.2.2.2.1 c.2.2.2.2.1 hs hN rfl r1 r2
theorem TL_b {N : Int} {Z : Int → Int} {Qf : Int → Int → Prop} {LK LK2 : Prop} {th pl tu tu3 : Int32} {ce sb fc ce2 : Nat → Int32} {p tu2 tu4 : Int32} {F A O L W1 W2 W3 W4 F2 A2 O2 L2 : Nat → Int32} (h : TL N Z Qf LK th pl tu ce sb fc p tu2 F A O L W1 W2 W3 W4) (h1 : th.toInt = 1) (hN : N ≤ 30) (ht : 1 ≤ tu.toInt) (e1 : ce2 = upd ce (sb (tu.toInt - 1).toNat).toNatClampNeg (fc (tu.toInt - 1).toNat)) (e4 : tu3.toInt = tu.toInt - 1) (hk : LK2) (g1 : GB F2 A2 W1 W2 (tu2.toInt - 1).toNat 30) (g2 : GB O2 L2 W3 W4 (tu2.toInt - 1).toNat 30) (e5 : tu4.toInt = tu2.toInt - 1) : TL N Z Qf LK2 th pl tu3 ce2 sb fc p tu4 F2 A2 O2 L2 W1 W2 W3 W4 := by
  obtain ⟨a, b, c⟩ := h
  have c := c.resolve_left (fun q => q.1 h1)
  subst e1
  rw [← b] at g1 g2
  have u := c.2.2.2.2.2.1
  rw [show tu.toInt.toNat = (tu.toInt - 1).toNat + 1 by omega] at u
  have w := Un_b u g1 g2 hN
  refine ⟨Abs_u a w.2.2.1 w.2.2.2, by omega, Or.inr ⟨h1, c.2.1, c.2.2.1, c.2.2.2.1, w.2.1, ?_, hk⟩⟩
  rw [show tu3.toInt.toNat = (tu.toInt - 1).toNat by omega]
  exact w.1
/-! reasons, all of them -/
theorem wyV_c {v tk hd pi po tu wr en lv tk2 pi2 po2 tu2 wr2 en2 lv2 : Int} (h1 : v = 1 → tk = tk2) (h3 : v = 3 → pi = pi2) (h4 : v = 4 → po = po2) (h5 : 5 ≤ v ∧ v ≤ 8 → tu = tu2) (h9 : v = 9 → wr = wr2) (h10 : v = 10 → en = en2) (h11 : v = 11 → lv = lv2) : wyV v tk hd pi po tu wr en lv = wyV v tk2 hd pi2 po2 tu2 wr2 en2 lv2 := by
  unfold wyV
  by_cases q1 : v = 1
  · rw [if_pos q1, if_pos q1]; exact h1 q1
  rw [if_neg q1, if_neg q1]
  by_cases q2 : v = 2
  · rw [if_pos q2, if_pos q2]
  rw [if_neg q2, if_neg q2]
  by_cases q3 : v = 3
  · rw [if_pos q3, if_pos q3]; exact h3 q3
  rw [if_neg q3, if_neg q3]
  by_cases q4 : v = 4
  · rw [if_pos q4, if_pos q4]; exact h4 q4
  rw [if_neg q4, if_neg q4]
  by_cases q5 : 5 ≤ v ∧ v ≤ 8
  · rw [if_pos q5, if_pos q5]; exact h5 q5
  rw [if_neg q5, if_neg q5]
  by_cases q9 : v = 9
  · rw [if_pos q9, if_pos q9]; exact h9 q9
  rw [if_neg q9, if_neg q9]
  by_cases q10 : v = 10
  · rw [if_pos q10, if_pos q10]; exact h10 q10
  rw [if_neg q10, if_neg q10]
  by_cases q11 : v = 11
  · rw [if_pos q11, if_pos q11]; exact h11 q11
  rw [if_neg q11, if_neg q11]
theorem cnt_ce {P Q : Nat → Bool} : ∀ n : Nat, (∀ x, x < n → (P x = true ↔ Q x = true)) → cnt P n = cnt Q n := by
  intro n
  induction n with
  | zero => intro _; rfl
  | succ n ih =>
    intro e
    show cnt P n + (if P n = true then 1 else 0) = cnt Q n + (if Q n = true then 1 else 0)
    rw [ih (fun x hx => e x (by omega))]
    have w := e n (by omega)
    by_cases q : P n = true
    · rw [if_pos q, if_pos (w.mp q)]
    · rw [if_neg q, if_neg (fun z => q (w.mpr z))]
theorem Wy_t {N v p x y go kx km : Int} {Z : Int → Int} {Qf SM : Int → Int → Prop} {ce F A O L sz sn rc sn2 rc2 : Nat → Int32} {lsg : Int → Int → Nat → Bool} {rk : Int → Nat} (hS : ScR N Z Qf ce F A O L) (ha : Abs ce N) (hN : N ≤ 30) (hp : 0 ≤ p ∧ p < N) (hp5 : Z p = 5) (hpp : ¬ fMn N F p = -9) (hA : IsA v x y N) (h0 : ¬ v = 0) (hsn : ∀ z, 0 ≤ z → z < N → ((sn z.toNat).toInt = 1 ↔ (sn2 z.toNat).toInt = 1) ∧ ((rc z.toNat).toInt = 1 ↔ (rc2 z.toNat).toInt = 1)) (hq : ∀ z k, 0 ≤ z → z < N → 2 ≤ k → k ≤ 5 → (Qf z k ↔ (Can (Z z) k ∧ SM z k))) (hk : 0 ≤ x → x < N → kx = km) (hls : ∀ (g o : Int) (z : Nat), lsg g o z = lsM F A g o z) (hrk : Rk (nF N F A) rk) (hz : ∀ z, 0 ≤ z → z < N → 0 ≤ Z z ∧ Z z ≤ 5) :
    plV (rxV v go (takeV ((sn x.toNat).toInt = 1) (x = p ∨ ChB 30 (hF ce) (hF ce p) x) (Hd (hF ce) (fX ce) p x) (¬ ((Z x = 1 ∨ 3 ≤ Z x) ∧ ¬ Z x = 5) ∨ bT ce 3 x ∨ fX ce x = 4) ((rc x.toNat).toInt = 1) (AnB Z (hF ce) p 30 (hF ce x)) (100 < (wtB Z sz (lsP ce) N.toNat ((31 : Int) - 0).toNat x.toNat + sumI (fun z => if lsP ce 2 p z = true then wtB Z sz (lsP ce) N.toNat ((30 : Int) - 0).toNat z else 0) N.toNat).toInt)) (iV (¬ (Hd (hF ce) (fX ce) p x)) 11 0) (shutV v ((sn x.toNat).toInt = 1) (Z x = 2 ∨ Z x = 3) (bT ce 0 x) (bT ce 1 x) ((rc x.toNat).toInt = 1) 0) (wearV (Hd (hF ce) (fX ce) p x) (bT ce 4 x)) (enterV ((sn x.toNat).toInt = 1) (Z x = 3 ∨ Z x = 4) (ChB 30 (hF ce) (hF ce x) p) (Z x = 3 ∧ ¬ bT ce 0 x) ((rc x.toNat).toInt = 1) (hF ce p = x)) (leaveV (hF ce p = -9 ∨ ByR Z (hF ce) (fX ce) p) (Z (hF ce p) = 3 ∧ ¬ bT ce 0 (hF ce p)) (fX ce (hF ce p) = 0 ∨ fX ce (hF ce p) = 1)))
      (ryV v (putV ((sn y.toNat).toInt = 1) (((0 : Int) = 0 ∧ Z y = 3) ∨ (¬ (0 : Int) = 0 ∧ Z y = 4)) (y = x ∨ ChB 30 (hF ce) (hF ce y) x) ((0 : Int) = 0 ∧ ¬ bT ce 0 y) ((rc y.toNat).toInt = 1) (8 ≤ ((cnt (lsP ce 0 y) N.toNat : Nat) : Int))) (putV ((sn y.toNat).toInt = 1) (((1 : Int) = 0 ∧ Z y = 3) ∨ (¬ (1 : Int) = 0 ∧ Z y = 4)) (y = x ∨ ChB 30 (hF ce) (hF ce y) x) ((1 : Int) = 0 ∧ ¬ bT ce 0 y) ((rc y.toNat).toInt = 1) (8 ≤ ((cnt (lsP ce 1 y) N.toNat : Nat) : Int))) (keyV (Hd (hF ce) (fX ce) p y) (kx = y))) =
    wyV v (takeV ((sn2 x.toNat).toInt = 1) (x = p ∨ ChB 30 (nF N F A) (nF N F A p) x) (Hd (nF N F A) (fMn N F) p x) (¬ ((Z x = 1 ∨ 3 ≤ Z x) ∧ ¬ Z x = 5) ∨ SM x 3 ∨ fMn N F x = 4) ((rc2 x.toNat).toInt = 1) (AnB Z (nF N F A) p 30 (nF N F A x)) (100 < (wtB Z sz lsg N.toNat 31 x.toNat + sumI (fun z => if lsM F A 2 p z = true then wtB Z sz lsg N.toNat 31 z else 0) N.toNat).toInt)) (iV (¬ (Hd (nF N F A) (fMn N F) p x)) 11 0) (iV (¬ (Hd (nF N F A) (fMn N F) p x)) 11 (putV ((sn2 y.toNat).toInt = 1) (((1 : Int) ≤ 1 ∧ Z y = 3) ∨ (¬ (1 : Int) ≤ 1 ∧ Z y = 4)) (y = x ∨ ChB 30 (nF N F A) (nF N F A y) x) ((1 : Int) ≤ 1 ∧ ¬ bM O y) ((rc2 y.toNat).toInt = 1) (8 ≤ ((cnt (lsM F A (if (1 : Int) ≤ 1 then 0 else 1) y) N.toNat : Nat) : Int)))) (iV (¬ (Hd (nF N F A) (fMn N F) p x)) 11 (putV ((sn2 y.toNat).toInt = 1) (((1 : Int) ≤ 0 ∧ Z y = 3) ∨ (¬ (1 : Int) ≤ 0 ∧ Z y = 4)) (y = x ∨ ChB 30 (nF N F A) (nF N F A y) x) ((1 : Int) ≤ 0 ∧ ¬ bM O y) ((rc2 y.toNat).toInt = 1) (8 ≤ ((cnt (lsM F A (if (1 : Int) ≤ 0 then 0 else 1) y) N.toNat : Nat) : Int)))) (shutV v ((sn2 x.toNat).toInt = 1) (Z x = 2 ∨ Z x = 3) (bM O x) (bM L x) ((rc2 x.toNat).toInt = 1) (if 7 ≤ v then keyV (Hd (nF N F A) (fMn N F) p y) (km = y) else 0)) (wearV (Hd (nF N F A) (fMn N F) p x) (SM x 4)) (enterV ((sn2 x.toNat).toInt = 1) (Z x = 3 ∨ Z x = 4) (ChB 30 (nF N F A) (nF N F A x) p) (Z x = 3 ∧ ¬ bM O x) ((rc2 x.toNat).toInt = 1) (nF N F A p = x)) (leaveV (ByR Z (nF N F A) (fMn N F) p) (fMn N F p = 0 ∧ Z (nF N F A p) = 3 ∧ ¬ bM O (nF N F A p)) (fMn N F (nF N F A p) = 0 ∨ fMn N F (nF N F A p) = 1)) := by
  have eH := Sc_h hS ha hN
  have eF := Sc_f hS ha hN
  have hP := (Sc_p hS p hp.1 hp.2).resolve_left hpp
  rw [eH, eF, Wyx_e h0]
  unfold IsA at hA
  obtain ⟨a1, a2, a3, a4, a5⟩ := hA
  have hL : ∀ (g o : Int) (z : Nat), (g = 0 ∨ g = 1) → 0 ≤ o → z < N.toNat → (lsP ce g o z = true ↔ lsg g o z = true) := fun g o z g1 o1 z1 => by
    rw [hls]; exact Sc_l hS (by omega) (by omega) o1
  have hr : ∀ (g o : Int) (z : Nat), (g = 0 ∨ g = 1) → 0 ≤ o → z < N.toNat → lsg g o z = true → rk o < rk (z : Int) := fun g o z g1 o1 z1 e => by
    rw [hls] at e
    have e := lsM_e e
    have w : nF N F A (z : Int) = o := by
      unfold nF
      rw [if_pos ⟨by omega, by omega, by rw [show ((z : Nat) : Int).toNat = z by omega]; omega⟩, show ((z : Nat) : Int).toNat = z by omega]
      exact e.2
    have u := hrk.2 (z : Int) (by omega) (by omega) (by rw [w]; omega)
    rw [w] at u
    exact u
  refine wyV_c (fun q => ?_) (fun q => ?_) (fun q => ?_) (fun q => ?_) (fun q => ?_) (fun q => ?_) (fun q => ?_)
  · have x0 := a4 (by omega)
    have s := hsn x x0.1 x0.2
    have b := Sc_b hS x0.1 x0.2
    refine takeV_c s.1 ?_ s.2 ?_
    · rw [b.2.2 3 (by omega) (by omega), hq x 3 x0.1 x0.2 (by omega) (by omega)]
      constructor
      · rintro (u | u | u)
        · exact Or.inl u
        · exact Or.inr (Or.inl u.2)
        · exact Or.inr (Or.inr u)
      · rintro (u | u | u)
        · exact Or.inl u
        · by_cases g : (Z x = 1 ∨ 3 ≤ Z x) ∧ ¬ Z x = 5
          · exact Or.inr (Or.inl ⟨Or.inr (Or.inr (Or.inl ⟨rfl, g.1⟩)), u⟩)
          · exact Or.inl g
        · exact Or.inr (Or.inr u)
    · rw [show ((31 : Int) - 0).toNat = 31 from rfl, show ((30 : Int) - 0).toNat = 30 from rfl, wtB_c hL 31 x.toNat]
      rw [sumI_c (g := fun z => if lsP ce 2 p z = true then wtB Z sz (lsP ce) N.toNat 30 z else 0) (h := fun z => if lsM F A 2 p z = true then wtB Z sz lsg N.toNat 31 z else 0) N.toNat (fun z hz9 => by
        have w := Sc_l hS (f := 2) (g := p) (x := z) (by omega) (by omega) hp.1
        by_cases g : lsP ce 2 p z = true
        · rw [if_pos g, if_pos (w.mp g), wtB_c hL 30 z]
          exact wtB_st hrk.1 hr 30 31 z (by omega) (by omega)
        · rw [if_neg g, if_neg (fun u => g (w.mpr u))])]
  · have y0 := a5 (by omega)
    have s := hsn y y0.1 y0.2
    have b := Sc_b hS y0.1 y0.2
    refine iV_d (fun _ => putV_c s.1 (by omega) ⟨fun u => ⟨by decide, fun w => u.2 (b.1.mpr w)⟩, fun u => ⟨by decide, fun w => u.2 (b.1.mp w)⟩⟩ s.2 ?_)
    rw [if_pos (by decide +kernel), cnt_ce N.toNat (fun z hz9 => Sc_l hS (f := 0) (g := y) (x := z) (by omega) (by omega) y0.1)]
  · have y0 := a5 (by omega)
    have s := hsn y y0.1 y0.2
    refine iV_d (fun _ => putV_c s.1 (by omega) ⟨fun u => absurd u.1 (by decide +kernel), fun u => absurd u.1 (by decide +kernel)⟩ s.2 ?_)
    rw [if_neg (by decide +kernel), cnt_ce N.toNat (fun z hz9 => Sc_l hS (f := 1) (g := y) (x := z) (by omega) (by omega) y0.1)]
  · have x0 := a4 (by omega)
    have s := hsn x x0.1 x0.2
    have b := Sc_b hS x0.1 x0.2
    refine shutV_c s.1 b.1 b.2.1 s.2 ?_
    by_cases q7 : 7 ≤ v
    · rw [if_pos q7, if_pos q7, if_pos (by omega), hk x0.1 x0.2]
    · rw [if_neg q7, if_neg q7]
  · have x0 := a4 (by omega)
    have b := Sc_b hS x0.1 x0.2
    refine wearV_c (fun hd => ?_)
    rw [b.2.2 4 (by omega) (by omega), hq x 4 x0.1 x0.2 (by omega) (by omega)]
    have w := (Sc_p hS x x0.1 x0.2).resolve_left (by have := hd.2; omega)
    have z5 := hz x x0.1 x0.2
    have h2 := hd.2
    unfold PlOk at w
    exact ⟨fun u => u.2, fun u => ⟨Or.inr (Or.inr (Or.inr (Or.inl ⟨rfl, by omega, by omega⟩))), u⟩⟩
  · have x0 := a4 (by omega)
    have s := hsn x x0.1 x0.2
    have b := Sc_b hS x0.1 x0.2
    exact enterV_c s.1 ⟨fun u => ⟨u.1, fun w => u.2 (b.1.mpr w)⟩, fun u => ⟨u.1, fun w => u.2 (b.1.mp w)⟩⟩ s.2
  · unfold PlOk at hP
    have b := Sc_b hS (x := nF N F A p) (by omega) (by omega)
    refine leaveV_c ⟨fun u => u.elim (fun w => by omega) id, Or.inr⟩ (fun _ => ⟨fun u => ⟨by omega, u.1, fun w => u.2 (b.1.mpr w)⟩, fun u => ⟨u.2.1, fun w => u.2.2 (b.1.mp w)⟩⟩)
theorem Wy_0 {v go tk hd sh wr en lv pi po ky : Int} (h : v = 0) : plV (rxV v go tk hd sh wr en lv) (ryV v pi po ky) = go := by
  unfold rxV ryV
  rw [if_pos h, if_neg (by omega), if_neg (by omega), if_neg (by omega)]
  exact plV_0
theorem FeM_d {pa ko F A B C S : Nat → Int32} {n r d ld dr bw im : Int} (h : FeM pa ko F A B C S n r d ld dr bw im) (hd : ¬ dr = -9) : ∃ s : Nat, (s : Int) < n ∧ (F s).toInt = 5 ∧ dr = (B s).toInt := by
  unfold FeM at h
  rcases h with ⟨a, _, _, ⟨k, b, c⟩ | ⟨k, b, c⟩⟩ | ⟨a, b, _⟩
  · have w := lsF_r a
    exact ⟨_, w.1, w.2.2.1, b⟩
  · exact absurd b hd
  · exact absurd b hd
/-- a reason to go, or none -/
theorem Go_e {N p x : Int} {so ko pa ko2 F A B C S pb eb fb kb cb ld dr bw im f1 f2 ce nf na nO nL : Nat → Int32} {Qf : Int → Int → Prop} {n ld2 dr2 bw2 im2 : Int} (hS : ScR N (zX so ko N) Qf ce nf na nO nL) (ha : Abs ce N) (hN : N ≤ 30) (hp : 0 ≤ p ∧ p < N) (hx : 0 ≤ x ∧ x ≤ 9) (h : RDS (zX so ko N) F A B C S n.toNat ld dr bw im f1 f2) (hI : IX F A B C S n pb eb fb kb cb) (hr : RR F A B C pb eb fb kb) (hD : DR (zX so ko N) F A B S n N) (hz : ∀ t, 0 ≤ t → t < N → zX so ko N t = kS pa ko2 t) (hB : ∀ s : Nat, (s : Int) < n → (F s).toInt = 5 → (B s).toInt < N ∧ (kS pa ko2 (B s).toInt = 0 ∨ kS pa ko2 (B s).toInt = 2)) (hf : FeM pa ko2 F A B C S n (na p.toNat).toInt x ld2 dr2 bw2 im2) : goV (ByR (zX so ko N) (hF ce) (fX ce) p) (ld ((hF ce) p * 10 + x).toNat).toInt (dr ((hF ce) p * 10 + x).toNat).toInt (bT ce 0) = goV (ByR (zX so ko N) (nF N nf na) (fMn N nf) p) ld2 dr2 (bM nO) := by
  rw [Sc_h hS ha hN, Sc_f hS ha hN]
  have hbt : ByR (zX so ko N) (nF N nf na) (fMn N nf) p → FeM pa ko2 F A B C S n (na p.toNat).toInt x (ld (nF N nf na p * 10 + x).toNat).toInt (dr (nF N nf na p * 10 + x).toNat).toInt (bw (nF N nf na p * 10 + x).toNat).toInt (im (nF N nf na p * 10 + x).toNat).toInt := fun b => by
    have e0 : (nf p.toNat).toInt = 0 := by have w := b.1; unfold fMn at w; rw [if_pos hp] at w; exact w
    have e1 : nF N nf na p = (na p.toNat).toInt := by unfold nF; rw [if_pos ⟨hp.1, hp.2, by omega⟩]
    have e2 := b.2
    rw [e1] at e2 ⊢
    have e3 : 0 ≤ (na p.toNat).toInt ∧ (na p.toNat).toInt < N := by
      by_cases q : 0 ≤ (na p.toNat).toInt ∧ (na p.toNat).toInt < N
      · exact q
      · unfold zX at e2; rw [if_neg q] at e2; omega
    exact RD_fe h hI hr hD hz hB hN e3 (by rw [← hz _ e3.1 e3.2]; exact e2) hx
  refine goV_c (fun b => ⟨(FeM_u (hbt b) hf).1, (FeM_u (hbt b) hf).2.1⟩) (fun b q => ?_)
  obtain ⟨s, s1, s2, s3⟩ := FeM_d (hbt b) q
  have w := hB s s1 s2
  have u := hr.1 s
  rw [s3]
  exact (Sc_b hS (by omega) (by omega)).1
/-- the sides of doors are alike -/
theorem Sd_e {Z : Int → Int} {F A B C S ld dr bw im f1 f2 : Nat → Int32} {n N s x : Int} (h : RDS Z F A B C S n.toNat ld dr bw im f1 f2) (hD : DR Z F A B S n N) (hA : ∀ t : Nat, (t : Int) < n → (F t).toInt = 5 → Z (A t).toInt = 0) (hN : N ≤ 30) (hx : 0 ≤ x ∧ x < N) (hz : Z x = 2) (hs : ¬ s = -9) : sD f1 f2 s x ↔ sdM Z F A B S n s x := by
  obtain ⟨b1, l1, l2, ⟨_, h2⟩, _, _⟩ := h
  obtain ⟨r1, r2, a1, a2, a3, a4⟩ := h2 x.toNat (by omega)
  rw [show ((x.toNat : Nat) : Int) = x by omega] at a1 a2
  have hd := hD x hx.1 hx.2 hz
  have mk : ∀ t : Nat, t < n.toNat → Dt Z F B S x t → (A t).toInt = s → sdM Z F A B S n s x := fun t t1 t2 t3 => ⟨by rw [← t3]; exact hA t (by omega) t2.2.1, t, by omega, t2.1, t2.2.1, t2.2.2.2, t3⟩
  have eb : ∀ t : Nat, sdP F A B S x s t → Dt Z F B S x t := fun t q => ⟨q.1, q.2.1, by rw [q.2.2.1]; omega, q.2.2.1⟩
  unfold sD
  rcases a1 with ⟨e1, n1⟩ | ⟨t1, e1, c1, p1, n1⟩
  · constructor
    · intro q
      exfalso
      rcases a2 with ⟨e2, _⟩ | ⟨t2, e2, c2, p2, _⟩
      · rw [e1, e2, if_pos rfl] at a4
        rw [e1, vI_n] at a3
        omega
      · exact n1 t2 c2 p2
    · rintro ⟨_, t, u1, u2⟩
      exact absurd (eb t u2) (n1 t (by omega))
  · rcases a2 with ⟨e2, n2⟩ | ⟨t2, e2, c2, p2, n2⟩
    · exact absurd p1 (n2 t1 c1)
    · rw [e1, vI_y] at a3
      constructor
      · rintro (q | q)
        · exact mk t1 c1 p1 (by omega)
        · by_cases e : r1 = r2
          · rw [if_pos e] at a4; omega
          · rw [if_neg e, e2, vI_y] at a4
            exact mk t2 c2 p2 (by omega)
      · rintro ⟨_, t, u1, u2⟩
        have ut := eb t u2
        have u5 := u2.2.2.2
        by_cases q1 : t = t1
        · rw [q1] at u5; exact Or.inl (by omega)
        · by_cases q2 : t = t2
          · have e : ¬ r1 = r2 := by omega
            rw [if_neg e, e2, vI_y] at a4
            rw [q2] at u5
            exact Or.inr (by omega)
          · exfalso
            have g1 : t1 < t := by
              rcases Nat.lt_or_ge t t1 with z | z
              · exact absurd ut (n1 t z)
              · omega
            have g2 : t < t2 := by
              rcases Nat.lt_or_ge t2 t with z | z
              · exact absurd ut (n2 t z (by omega))
              · omega
            exact hd.2 t1 t t2 g1 g2 (by omega) ⟨p1.1, p1.2.1, p1.2.2.2⟩ ⟨ut.1, ut.2.1, ut.2.2.2⟩ ⟨p2.1, p2.2.1, p2.2.2.2⟩
theorem Aa_e {Q : Prop} {tu th w p tu2 : Int} {X : Prop} {r r2 : Int32} (h1 : AaR Q tu th w r.toInt) (h2 : AaM Q p tu2 X r2.toInt) (ht : tu = tu2) (h100 : tu ≤ 100) (hT : (¬ th = 1 ∧ p = -9 ∧ tu = 0) ∨ (th = 1 ∧ ¬ p = -9)) (hW : Q → th = 1 → X → r2.toInt = w) : r = r2 := by
  apply Int32.toInt_inj.mp
  unfold AaR at h1
  unfold AaM at h2
  rcases h1 with ⟨a, b⟩ | ⟨a, b, c⟩ | ⟨a, b, c, d⟩ | ⟨a, b, c, d⟩
  · rcases h2 with ⟨a2, b2⟩ | ⟨a2, _⟩ | ⟨a2, _⟩ | ⟨a2, _⟩
    · omega
    · exact absurd a2 a
    · exact absurd a2 a
    · exact absurd a2 a
  all_goals (rcases h2 with ⟨a2, b2⟩ | ⟨a2, b2, c2, d2⟩ | ⟨a2, b2, c2⟩ | ⟨a2, b2, c2, d2⟩)
  all_goals first | exact absurd a a2 | omega | (have z := hW a c d2; omega)
theorem Sx_e {F A B C S pb eb fb kb ce : Nat → Int32} {n o f v v2 : Int} (h : IX F A B C S n pb eb fb kb ce) (hr : RR F A B C pb eb fb kb) (ho : 0 ≤ o ∧ o ≤ 29) (hf : 0 ≤ f ∧ f ≤ 5) (ev : v = v2) : sgX fb C o f v = 1 ↔ SgM F A B C S n o f v2 1 := by
  subst ev
  have w := sgM_i (F := F) (A := A) (B := B) (C := C) (S := S) (n := n) (o := o) (f := f) (v := v)
  have e := Sg_e h hr ho hf (sgX_i (fb := fb) (C := C) (o := o) (f := f) (v := v)) w
  rw [e]
  constructor
  · intro q; rw [q] at w; exact w
  · intro q; exact (sgM_e q).symm
theorem zXM {so ko pa ko2 : Nat → Int32} {N : Int} (hz : ∀ t, 0 ≤ t → t < N → zX so ko N t = kS pa ko2 t) : zX so ko N = zM pa ko2 N := by
  funext x
  by_cases q : 0 ≤ x ∧ x < N
  · rw [hz x q.1 q.2, zM_i q]
  · unfold zX zM; rw [if_neg q, if_neg q]
theorem sfV_c {pa ko st st2 : Nat → Int32} {s s2 f o : Int} (hf : 0 ≤ f ∧ f ≤ 5) (h : ∀ j : Nat, j < 144 → st j = st2 j) (e : s = s2) : sfV pa ko st s f o = sfV pa ko st2 s2 f o := by
  unfold sfV
  rw [stL_c hf h, e]
/-- what stands where two calls meet: all that a look and a reason need -/
theorem At_e {jm : Nat → Int32} {em : Nat → Nat → Int32} {so ko pa st sz F A B C S pb eb fb kb cb ld dr bw im f1 f2 ce sb fc sn rc : Nat → Int32} {gl lt bx rm dd sn2 rc2 : Nat → Int32} {n th pl ap tu br br2 r r2 : Int32} {N kn v x y v2 x2 y2 : Int} (hM : mInv jm em) (hN : N ≤ 30) (eN : N = (jm 5).toInt) (ev : v2 = v) (ex : x2 = x) (ey : y2 = y)
    (hSN : SN F A B C S n pb eb fb kb cb (em 9) (em 10) (em 11) (em 12) (em 13) (jm 8)) (hr : RR F A B C pb eb fb kb) (hD : DR (zX so ko N) F A B S n.toInt N) (hRD : RDS (zX so ko N) F A B C S n.toInt.toNat ld dr bw im f1 f2) (hs : SJ (em 3) (em 6) (em 9) (em 10) (em 11) (em 13) kn (jm 5).toInt (jm 8).toInt)
    (hz : ∀ t, 0 ≤ t → t < N → zX so ko N t = kS (em 3) (em 6) t) (hZ5 : ∀ t, 0 ≤ t → t < N → 0 ≤ zX so ko N t ∧ zX so ko N t ≤ 5) (ePA : pa = em 3) (eKO : ko = em 6) (est : ∀ j : Nat, j < 144 → st j = em 4 j) (eSZ : sz = em 7)
    (hT : TL N (zX so ko N) (fun o f : Int => Can ((zX so ko N) o) f ∧ sgX fb C o f (sfV pa ko st (so (ko o.toNat).toNatClampNeg).toInt f o) = 1) (LkR (zX so ko N) (hF ce) (fX ce) (bT ce 0) (bT ce 5) (bT ce 2) (sD f1 f2) pl.toInt N sn rc br) th pl tu ce sb fc (jm 22) (jm 27) (em 23) (em 24) (em 25) (em 26) (em 29) (em 30) (em 31) (em 32)) (hPJ : PJ th pl ap tu ce sb fc) (hTI : ¬ (jm 22).toInt = -9 → Acy (nF (jm 5).toInt (em 23) (em 24))) (h100 : tu.toInt ≤ 100)
    (h1 : AaR (IsA v x y N) tu.toInt th.toInt (plV (rxV v (goV (ByR (zX so ko N) (hF ce) (fX ce) ap.toInt) (ld ((hF ce) ap.toInt * 10 + x).toNat).toInt (dr ((hF ce) ap.toInt * 10 + x).toNat).toInt (bT ce 0)) (takeV ((sn x.toNat).toInt = 1) (x = ap.toInt ∨ ChB 30 (hF ce) (hF ce ap.toInt) x) (Hd (hF ce) (fX ce) ap.toInt x) (¬ (((zX so ko N) x = 1 ∨ 3 ≤ (zX so ko N) x) ∧ ¬ (zX so ko N) x = 5) ∨ bT ce 3 x ∨ fX ce x = 4) ((rc x.toNat).toInt = 1) (AnB (zX so ko N) (hF ce) ap.toInt 30 (hF ce x)) (100 < (wtB (zX so ko N) sz (lsP ce) N.toNat ((31 : Int) - 0).toNat x.toNat + sumI (fun z => if lsP ce 2 ap.toInt z = true then wtB (zX so ko N) sz (lsP ce) N.toNat ((30 : Int) - 0).toNat z else 0) N.toNat).toInt)) (iV (¬ (Hd (hF ce) (fX ce) ap.toInt x)) 11 0) (shutV v ((sn x.toNat).toInt = 1) ((zX so ko N) x = 2 ∨ (zX so ko N) x = 3) (bT ce 0 x) (bT ce 1 x) ((rc x.toNat).toInt = 1) 0) (wearV (Hd (hF ce) (fX ce) ap.toInt x) (bT ce 4 x)) (enterV ((sn x.toNat).toInt = 1) ((zX so ko N) x = 3 ∨ (zX so ko N) x = 4) (ChB 30 (hF ce) (hF ce x) ap.toInt) ((zX so ko N) x = 3 ∧ ¬ bT ce 0 x) ((rc x.toNat).toInt = 1) (hF ce ap.toInt = x)) (leaveV (hF ce ap.toInt = -9 ∨ ByR (zX so ko N) (hF ce) (fX ce) ap.toInt) ((zX so ko N) (hF ce ap.toInt) = 3 ∧ ¬ bT ce 0 (hF ce ap.toInt)) (fX ce (hF ce ap.toInt) = 0 ∨ fX ce (hF ce ap.toInt) = 1)))
      (ryV v (putV ((sn y.toNat).toInt = 1) (((0 : Int) = 0 ∧ (zX so ko N) y = 3) ∨ (¬ (0 : Int) = 0 ∧ (zX so ko N) y = 4)) (y = x ∨ ChB 30 (hF ce) (hF ce y) x) ((0 : Int) = 0 ∧ ¬ bT ce 0 y) ((rc y.toNat).toInt = 1) (8 ≤ ((cnt (lsP ce 0 y) N.toNat : Nat) : Int))) (putV ((sn y.toNat).toInt = 1) (((1 : Int) = 0 ∧ (zX so ko N) y = 3) ∨ (¬ (1 : Int) = 0 ∧ (zX so ko N) y = 4)) (y = x ∨ ChB 30 (hF ce) (hF ce y) x) ((1 : Int) = 0 ∧ ¬ bT ce 0 y) ((rc y.toNat).toInt = 1) (8 ≤ ((cnt (lsP ce 1 y) N.toNat : Nat) : Int))) (keyV (Hd (hF ce) (fX ce) ap.toInt y) (kyV kb A x = y)))) r.toInt)
    (h2 : AaM (IsA v2 x2 y2 (jm 5).toInt) (jm 22).toInt (jm 27).toInt ((LkK (em 3) (em 6) (jm 5).toInt lt gl bx rm dd (fun z : Int => SgM (em 9) (em 10) (em 11) (em 12) (em 13) (jm 8).toInt z 2 (sfV (em 3) (em 6) (em 4) (kS (em 3) (em 6) z) 2 z) 1) (fun z : Int => SgM (em 9) (em 10) (em 11) (em 12) (em 13) (jm 8).toInt z 5 (sfV (em 3) (em 6) (em 4) (kS (em 3) (em 6) z) 5 z) 1) (jm 5).toInt) ∧ (LkR (zM (em 3) (em 6) (jm 5).toInt) (nF (jm 5).toInt (em 23) (em 24)) (fMn (jm 5).toInt (em 23)) (bM (em 25)) (bM gl) (bM lt) (sdM (zM (em 3) (em 6) (jm 5).toInt) (em 9) (em 10) (em 11) (em 13) (jm 8).toInt) (jm 22).toInt (jm 5).toInt sn2 rc2 br2) ∧
      ((v2 = 0 ∧ ∃ l9 d9 b9 i9 : Int, FeM (em 3) (em 6) (em 9) (em 10) (em 11) (em 12) (em 13) (jm 8).toInt (em 24 (jm 22).toInt.toNat).toInt x2 l9 d9 b9 i9 ∧ r2.toInt = goV (ByR (zM (em 3) (em 6) (jm 5).toInt) (nF (jm 5).toInt (em 23) (em 24)) (fMn (jm 5).toInt (em 23)) (jm 22).toInt) l9 d9 (bM (em 25))) ∨
       (¬ v2 = 0 ∧ r2.toInt = wyV v2 (takeV ((sn2 x2.toNat).toInt = 1) (x2 = (jm 22).toInt ∨ ChB 30 (nF (jm 5).toInt (em 23) (em 24)) (nF (jm 5).toInt (em 23) (em 24) (jm 22).toInt) x2) (Hd (nF (jm 5).toInt (em 23) (em 24)) (fMn (jm 5).toInt (em 23)) (jm 22).toInt x2) (¬ (((zM (em 3) (em 6) (jm 5).toInt) x2 = 1 ∨ 3 ≤ (zM (em 3) (em 6) (jm 5).toInt) x2) ∧ ¬ (zM (em 3) (em 6) (jm 5).toInt) x2 = 5) ∨ SgM (em 9) (em 10) (em 11) (em 12) (em 13) (jm 8).toInt x2 3 (sfV (em 3) (em 6) (em 4) (kS (em 3) (em 6) x2) 3 x2) 1 ∨ fMn (jm 5).toInt (em 23) x2 = 4) ((rc2 x2.toNat).toInt = 1) (AnB (zM (em 3) (em 6) (jm 5).toInt) (nF (jm 5).toInt (em 23) (em 24)) (jm 22).toInt 30 (nF (jm 5).toInt (em 23) (em 24) x2)) (100 < (wtB (zM (em 3) (em 6) (jm 5).toInt) (em 7) (lsG (em 9) (em 10) (em 11) (em 13) (em 23) (em 24) (jm 8).toInt (jm 22).toInt) (jm 5).toInt.toNat 31 x2.toNat + sumI (fun z => if lsM (em 23) (em 24) 2 (jm 22).toInt z = true then wtB (zM (em 3) (em 6) (jm 5).toInt) (em 7) (lsG (em 9) (em 10) (em 11) (em 13) (em 23) (em 24) (jm 8).toInt (jm 22).toInt) (jm 5).toInt.toNat 31 z else 0) (jm 5).toInt.toNat).toInt)) (iV (¬ (Hd (nF (jm 5).toInt (em 23) (em 24)) (fMn (jm 5).toInt (em 23)) (jm 22).toInt x2)) 11 0) (iV (¬ (Hd (nF (jm 5).toInt (em 23) (em 24)) (fMn (jm 5).toInt (em 23)) (jm 22).toInt x2)) 11 (putV ((sn2 y2.toNat).toInt = 1) (((1 : Int) ≤ 1 ∧ (zM (em 3) (em 6) (jm 5).toInt) y2 = 3) ∨ (¬ (1 : Int) ≤ 1 ∧ (zM (em 3) (em 6) (jm 5).toInt) y2 = 4)) (y2 = x2 ∨ ChB 30 (nF (jm 5).toInt (em 23) (em 24)) (nF (jm 5).toInt (em 23) (em 24) y2) x2) ((1 : Int) ≤ 1 ∧ ¬ bM (em 25) y2) ((rc2 y2.toNat).toInt = 1) (8 ≤ ((cnt (lsM (em 23) (em 24) (if (1 : Int) ≤ 1 then 0 else 1) y2) (jm 5).toInt.toNat : Nat) : Int)))) (iV (¬ (Hd (nF (jm 5).toInt (em 23) (em 24)) (fMn (jm 5).toInt (em 23)) (jm 22).toInt x2)) 11 (putV ((sn2 y2.toNat).toInt = 1) (((1 : Int) ≤ 0 ∧ (zM (em 3) (em 6) (jm 5).toInt) y2 = 3) ∨ (¬ (1 : Int) ≤ 0 ∧ (zM (em 3) (em 6) (jm 5).toInt) y2 = 4)) (y2 = x2 ∨ ChB 30 (nF (jm 5).toInt (em 23) (em 24)) (nF (jm 5).toInt (em 23) (em 24) y2) x2) ((1 : Int) ≤ 0 ∧ ¬ bM (em 25) y2) ((rc2 y2.toNat).toInt = 1) (8 ≤ ((cnt (lsM (em 23) (em 24) (if (1 : Int) ≤ 0 then 0 else 1) y2) (jm 5).toInt.toNat : Nat) : Int)))) (shutV v2 ((sn2 x2.toNat).toInt = 1) ((zM (em 3) (em 6) (jm 5).toInt) x2 = 2 ∨ (zM (em 3) (em 6) (jm 5).toInt) x2 = 3) (bM (em 25) x2) (bM (em 26) x2) ((rc2 x2.toNat).toInt = 1) (if 7 ≤ v2 then keyV (Hd (nF (jm 5).toInt (em 23) (em 24)) (fMn (jm 5).toInt (em 23)) (jm 22).toInt y2) (kyM (em 9) (em 10) (em 11) (em 13) (jm 8).toInt x2 = y2) else 0)) (wearV (Hd (nF (jm 5).toInt (em 23) (em 24)) (fMn (jm 5).toInt (em 23)) (jm 22).toInt x2) (SgM (em 9) (em 10) (em 11) (em 12) (em 13) (jm 8).toInt x2 4 (sfV (em 3) (em 6) (em 4) (kS (em 3) (em 6) x2) 4 x2) 1)) (enterV ((sn2 x2.toNat).toInt = 1) ((zM (em 3) (em 6) (jm 5).toInt) x2 = 3 ∨ (zM (em 3) (em 6) (jm 5).toInt) x2 = 4) (ChB 30 (nF (jm 5).toInt (em 23) (em 24)) (nF (jm 5).toInt (em 23) (em 24) x2) (jm 22).toInt) ((zM (em 3) (em 6) (jm 5).toInt) x2 = 3 ∧ ¬ bM (em 25) x2) ((rc2 x2.toNat).toInt = 1) (nF (jm 5).toInt (em 23) (em 24) (jm 22).toInt = x2)) (leaveV (ByR (zM (em 3) (em 6) (jm 5).toInt) (nF (jm 5).toInt (em 23) (em 24)) (fMn (jm 5).toInt (em 23)) (jm 22).toInt) (fMn (jm 5).toInt (em 23) (jm 22).toInt = 0 ∧ (zM (em 3) (em 6) (jm 5).toInt) (nF (jm 5).toInt (em 23) (em 24) (jm 22).toInt) = 3 ∧ ¬ bM (em 25) (nF (jm 5).toInt (em 23) (em 24) (jm 22).toInt)) (fMn (jm 5).toInt (em 23) (nF (jm 5).toInt (em 23) (em 24) (jm 22).toInt) = 0 ∨ fMn (jm 5).toInt (em 23) (nF (jm 5).toInt (em 23) (em 24) (jm 22).toInt) = 1))))) r2.toInt) : r = r2 := by
  subst ev ex ey ePA eKO eSZ
  obtain ⟨e1, e2, e3, e4, e5, e6, hI⟩ := hSN
  subst e1 e2 e3 e4 e5
  rw [e6] at hI hD hRD
  rw [← eN] at h2 hs
  have eZ := zXM hz
  obtain ⟨hAb, htu, hT⟩ := hT
  refine Aa_e h1 h2 htu h100 ?_ (fun hQ hth hX => ?_)
  · rcases hT with q | q
    · exact Or.inl q
    · exact Or.inr ⟨q.1, by have := q.2.2.1; omega⟩
  · obtain ⟨_, epl, hp, hp5, hSc, _, hLk⟩ := hT.resolve_left (fun q => q.1 hth)
    have hpj := hPJ hth
    have eap : ap = jm 22 := hpj.2.2.1.trans epl
    subst eap
    rw [epl] at hLk hpj
    obtain ⟨hK, hL, hW⟩ := hX
    rw [← eZ] at hL hW
    have hq : ∀ z k, 0 ≤ z → z < N → 2 ≤ k → k ≤ 5 → ((Can ((zX so (em 6) N) z) k ∧ sgX fb (em 12) z k (sfV (em 3) (em 6) st (so ((em 6) z.toNat).toNatClampNeg).toInt k z) = 1) ↔ (Can ((zX so (em 6) N) z) k ∧ SgM (em 9) (em 10) (em 11) (em 12) (em 13) (jm 8).toInt z k (sfV (em 3) (em 6) (em 4) (kS (em 3) (em 6) z) k z) 1)) := fun z k z0 z1 k2 k5 => by
      rw [Sx_e hI hr ⟨z0, by omega⟩ ⟨by omega, k5⟩ (sfV_c (pa := em 3) (ko := em 6) (o := z) ⟨by omega, k5⟩ est ((zX_e ⟨z0, z1⟩).symm.trans (hz z z0 z1)))]
    have hA : ∀ t : Nat, (t : Int) < (jm 8).toInt → (em 9 t).toInt = 5 → (zX so (em 6) N) (em 10 t).toInt = 0 := fun t t1 t2 => by
      have w := hs.2.1 t t1
      have u := hr.1 t
      rw [hz _ (by omega) w.1]
      exact (kS_k hM (by omega) (by omega)).mp (w.2.2.2 t2).1
    have hB : ∀ t : Nat, (t : Int) < (jm 8).toInt → (em 9 t).toInt = 5 → (em 11 t).toInt < N ∧ (kS (em 3) (em 6) (em 11 t).toInt = 0 ∨ kS (em 3) (em 6) (em 11 t).toInt = 2) := fun t t1 t2 => by
      have w := hs.2.1 t t1
      refine ⟨w.2.1 (by omega), ?_⟩
      rcases (w.2.2.2 t2).2 with u | u
      · exact Or.inl ((kS_k hM (by omega) (by omega)).mp u)
      · exact Or.inr ((kS_k hM (by omega) (by omega)).mp u)
    have hin : ∀ z k, (zX so (em 6) N) z = k → 0 ≤ k → 0 ≤ z ∧ z < N := fun z k q1 q2 => by
      by_cases q : 0 ≤ z ∧ z < N
      · exact q
      · unfold zX at q1; rw [if_neg q] at q1; omega
    have eH := Sc_h hSc hAb hN
    have eF := Sc_f hSc hAb hN
    rw [eH, eF] at hLk
    have hsn : ∀ z, 0 ≤ z → z < N → ((sn z.toNat).toInt = 1 ↔ (sn2 z.toNat).toInt = 1) ∧ ((rc z.toNat).toInt = 1 ↔ (rc2 z.toNat).toInt = 1) := fun z z0 z1 => by
      refine Lk_e hLk hL (fun x q => ?_) (fun s x s9 q => ?_) (fun x x0 x1 => ?_) (fun x q => hin x 0 q (by omega)) z0 z1
      · have xr := hin x 3 q (by omega)
        have b := Sc_b hSc xr.1 xr.2
        have k := hK x xr.1 xr.2
        refine ⟨b.1, ?_⟩
        rw [b.2.2 5 (by omega) (by omega)]
        refine (hq x 5 xr.1 xr.2 (by omega) (by omega)).trans ?_
        show _ ↔ (gl x.toNat).toInt = 1
        rw [k.2.1, ← eZ]
        exact ⟨fun u => ⟨q, u.2⟩, fun u => ⟨Or.inr (Or.inr (Or.inr (Or.inr ⟨by omega, q⟩))), u.2⟩⟩
      · exact Sd_e hRD hD hA hN (hin x 2 q (by omega)) q s9
      · have b := Sc_b hSc x0 x1
        have k := hK x x0 x1
        rw [b.2.2 2 (by omega) (by omega)]
        refine (hq x 2 x0 x1 (by omega) (by omega)).trans ?_
        show _ ↔ (lt x.toNat).toInt = 1
        rw [k.1]
        exact ⟨fun u => u.2, fun u => ⟨Or.inr (Or.inl rfl), u⟩⟩
    by_cases q0 : v2 = 0
    · rw [Wy_0 q0]
      obtain ⟨l9, d9, b9, i9, hf, e⟩ := (hW.resolve_right (fun u => u.1 q0)).2
      rw [e]
      unfold IsA at hQ
      exact (Go_e hSc hAb hN hp (hQ.2.2.1 q0) hRD hI hr hD hz hB hf).symm
    · have e := (hW.resolve_left (fun u => q0 u.1)).2
      rw [e]
      obtain ⟨rk, hrk⟩ := hTI (by omega)
      rw [← eN] at hrk
      have hpp : ¬ fMn N (em 23) (jm 22).toInt = -9 := by
        rw [← eF]
        have w := hpj.2.2.2.1
        have u : (jm 22).toNatClampNeg = (jm 22).toInt.toNat := rfl
        rw [u] at w
        unfold fX
        rw [if_pos ⟨hp.1, by omega, w⟩]
        omega
      refine (Wy_t hSc hAb hN hp hp5 hpp hQ q0 hsn hq (fun x0 x1 => ?_) (fun g o z => ?_) hrk hZ5).symm
      · unfold kyV kyM
        rw [IX_kb hI hr x0 (by omega)]
        rfl
      · unfold lsG lsM
        rw [gM_t (by omega), show gA (em 9) (em 10) (em 11) (em 13) (em 24) (jm 8).toInt (jm 22).toInt (z : Int) = (em 24 (z : Int).toNat).toInt from if_neg (by omega), show ((z : Nat) : Int).toNat = z by omega]
/-! what an act that is done tells of itself -/
theorem plV_i {a b : Int} (h : plV a b = 0) : a = 0 ∧ b = 0 := by
  unfold plV at h
  by_cases q : a = 0
  · rw [if_pos q] at h; exact ⟨q, h⟩
  · rw [if_neg q] at h; exact absurd h q
theorem rx_g {v go tk hd sh wr en lv : Int} (h : rxV v go tk hd sh wr en lv = 0) : (v = 1 → tk = 0) ∧ (v = 2 ∨ v = 3 ∨ v = 4 → hd = 0) ∧ (v = 9 → wr = 0) ∧ (v = 10 → en = 0) ∧ (v = 11 → lv = 0) ∧ (v = 0 → go = 0) := by
  unfold rxV at h
  refine ⟨fun q => ?_, fun q => ?_, fun q => ?_, fun q => ?_, fun q => ?_, fun q => ?_⟩
  · rw [if_neg (by omega), if_pos q] at h; exact h
  · rw [if_neg (by omega), if_neg (by omega), if_pos q] at h; exact h
  · rw [if_neg (by omega), if_neg (by omega), if_neg (by omega), if_neg (by omega), if_pos q] at h; exact h
  · rw [if_neg (by omega), if_neg (by omega), if_neg (by omega), if_neg (by omega), if_neg (by omega), if_pos q] at h; exact h
  · rw [if_neg (by omega), if_neg (by omega), if_neg (by omega), if_neg (by omega), if_neg (by omega), if_neg (by omega), if_pos q] at h; exact h
  · rw [if_pos q] at h; exact h
theorem ry_g {v pi po ky : Int} (h : ryV v pi po ky = 0) : v = 4 → po = 0 := fun q => by
  unfold ryV at h
  rw [if_neg (by omega), if_pos q] at h
  exact h
theorem At_g {Q : Prop} {tu th r v l0 d0 sh pi ky : Int} {b0 : Prop} {o0 : Int → Prop} {sn up hd bad rc an ov H gm s2 fit up2 cl rc2 at_ bw cl2 fo s3 fit3 sl3 cl3 rc3 fu3 : Prop} (h : AaR Q tu th (plV (rxV v (goV b0 l0 d0 o0) (takeV sn up hd bad rc an ov) (iV (¬ H) 11 0) sh (wearV H gm) (enterV s2 fit up2 cl rc2 at_) (leaveV bw cl2 fo)) (ryV v pi (putV s3 fit3 sl3 cl3 rc3 fu3) ky)) r) (hr : r = 0) : Q ∧ th = 1 ∧ (v = 1 → ¬ bad) ∧ (v = 2 ∨ v = 3 ∨ v = 4 ∨ v = 9 → H) ∧ (v = 4 → fit3) ∧ (v = 10 → fit) ∧ (v = 11 → fo) ∧ (v = 0 → b0) := by
  unfold AaR at h
  have w : Q ∧ th = 1 ∧ r = plV (rxV v (goV b0 l0 d0 o0) (takeV sn up hd bad rc an ov) (iV (¬ H) 11 0) sh (wearV H gm) (enterV s2 fit up2 cl rc2 at_) (leaveV bw cl2 fo)) (ryV v pi (putV s3 fit3 sl3 cl3 rc3 fu3) ky) := by
    rcases h with h | h | h | h
    · exfalso; have := h.2; omega
    · exfalso; have := h.2.2; omega
    · exfalso; have := h.2.2.2; omega
    · exact ⟨h.1, h.2.2.1, h.2.2.2⟩
  obtain ⟨a, b, c⟩ := w
  have z := plV_i (c.symm.trans hr)
  have x := rx_g z.1
  refine ⟨a, b, fun q => ?_, fun q => ?_, fun q => ?_, fun q => ?_, fun q => ?_, fun q => ?_⟩
  · have t := x.1 q
    unfold takeV at t
    exact (iV_0 (iV_0 (iV_0 (iV_0 t (by decide +kernel)).2 (by decide +kernel)).2 (by decide +kernel)).2 (by decide +kernel)).1
  · by_cases q9 : v = 9
    · have t := x.2.2.1 q9
      unfold wearV at t
      exact Classical.not_not.mp (iV_0 t (by decide +kernel)).1
    · exact Classical.not_not.mp (iV_0 (x.2.1 (by omega)) (by decide +kernel)).1
  · have t := ry_g z.2 q
    unfold putV at t
    exact Classical.not_not.mp (iV_0 (iV_0 t (by decide +kernel)).2 (by decide +kernel)).1
  · have t := x.2.2.2.1 q
    unfold enterV at t
    exact Classical.not_not.mp (iV_0 (iV_0 t (by decide +kernel)).2 (by decide +kernel)).1
  · have t := x.2.2.2.2.1 q
    unfold leaveV at t
    exact Classical.not_not.mp (iV_0 (iV_0 (iV_0 t (by decide +kernel)).2 (by decide +kernel)).2 (by decide +kernel)).1
  · have t := x.2.2.2.2.2 q
    unfold goV at t
    exact Classical.not_not.mp (iV_0 t (by decide +kernel)).1
theorem plH_n {v p ld x y : Int} {f : Int → Int} (h : ¬ v = 0) : plH v f p ld x y = plH v f p 0 x y := by
  unfold plH
  rw [if_neg h, if_neg h]
theorem plH_0 {v p ld x y : Int} {f : Int → Int} (h : v = 0) : plH v f p ld x y = ld := if_pos h
theorem sbI_i {v : Int} {p x : Int32} : (sbI v p x).toInt = if v = 0 ∨ 10 ≤ v then p.toInt else x.toInt := by
  unfold sbI
  by_cases q : v = 0 ∨ 10 ≤ v
  · rw [if_pos q, if_pos q]
  · rw [if_neg q, if_neg q]
theorem TLa_e {N : Int} {Z : Int → Int} {Qf : Int → Int → Prop} {LK LK2 : Prop} {th pl ap tu tu3 ou w w2 x1 y1 : Int32} {v v2 : Int} {ce sb fc ce2 sb2 fc2 ld : Nat → Int32} {p tu2 tu4 : Int32} {F A O L W1 W2 W3 W4 F2 A2 O2 L2 V1 V2 V3 V4 : Nat → Int32} {Rm : Int → Prop} {P9 : Int → Prop}
    (h : TL N Z Qf LK th pl tu ce sb fc p tu2 F A O L W1 W2 W3 W4) (hPJ : PJ th pl ap tu ce sb fc) (h1 : th.toInt = 1) (hce : ∀ o, 0 ≤ (ce o).toInt) (hN : N ≤ 30) (ht : 0 ≤ tu.toInt) (hQ : IsA v w.toInt w2.toInt N) (ev : v2 = v) (ex : x1.toInt = w.toInt) (ey : y1.toInt = w2.toInt)
    (g1 : v = 1 → ¬ (¬ ((Z w.toInt = 1 ∨ 3 ≤ Z w.toInt) ∧ ¬ Z w.toInt = 5) ∨ bT ce 3 w.toInt ∨ fX ce w.toInt = 4)) (g2 : v = 2 ∨ v = 3 ∨ v = 4 ∨ v = 9 → Hd (hF ce) (fX ce) ap.toInt w.toInt) (g4 : v = 4 → ((1 : Int) = 0 ∧ Z w2.toInt = 3) ∨ (¬ (1 : Int) = 0 ∧ Z w2.toInt = 4)) (g10 : v = 10 → Z w.toInt = 3 ∨ Z w.toInt = 4) (g11 : v = 11 → fX ce (hF ce ap.toInt) = 0 ∨ fX ce (hF ce ap.toInt) = 1)
    (ho : OuR v (ce (sbI v ap w).toNatClampNeg) ou (plF v Z (fX ce) (hF ce) ap.toInt w.toInt) (plH v (hF ce) ap.toInt (ld ((hF ce) ap.toInt * 10 + w.toInt).toNat).toInt w.toInt w2.toInt)) (e1 : ce2 = upd ce (sbI v ap w).toNatClampNeg ou) (e2 : sb2 = upd sb tu.toNatClampNeg (sbI v ap w)) (e3 : fc2 = upd fc tu.toNatClampNeg (ce (sbI v ap w).toNatClampNeg)) (e4 : tu3.toInt = tu.toInt + 1) (hk : LK2)
    (ha : AcR v2 F A O L F2 A2 O2 L2 (sbI v2 p x1) x1 (plF v2 Z (fMn N F) (nF N F A) p.toInt x1.toInt) (fun z : Int => (v2 = 0 ∧ P9 z) ∨ (¬ v2 = 0 ∧ z = plH v2 (nF N F A) p.toInt 0 x1.toInt y1.toInt))) (hP9 : v = 0 → ∀ z, P9 z → z = (ld ((nF N F A) p.toInt * 10 + w.toInt).toNat).toInt) (hTI : TI N Rm p.toInt F2 A2) (r1 : RW V1 V2 W1 W2 F A tu2.toInt.toNat 30) (r2 : RW V3 V4 W3 W4 O L tu2.toInt.toNat 30) (e5 : tu4.toInt = tu2.toInt + 1) : TL N Z Qf LK2 th pl tu3 ce2 sb2 fc2 p tu4 F2 A2 O2 L2 V1 V2 V3 V4 := by
  have hT := h.2.2.resolve_left (fun q => q.1 h1)
  have hpj := hPJ h1
  have eap : ap = p := hpj.2.2.1.trans hT.2.1
  have exx : x1 = w := Int32.toInt_inj.mp ex
  subst eap ev exx
  have hSc := hT.2.2.2.2.1
  have eH := Sc_h hSc h.1 hN
  have eF := Sc_f hSc h.1 hN
  rw [eH, eF] at ho g2 g11
  rw [ey] at ha
  have hp := hT.2.2.1
  have hs : 0 ≤ (sbI v2 ap x1).toInt ∧ (sbI v2 ap x1).toInt < N := by
    rw [sbI_i]
    unfold IsA at hQ
    by_cases q : v2 = 0 ∨ 10 ≤ v2
    · rw [if_pos q]; exact hp
    · rw [if_neg q]; exact hQ.2.2.2.1 (by omega)
  have hpp : ¬ fMn N F ap.toInt = -9 := by
    rw [← eF]
    have u : ap.toNatClampNeg = ap.toInt.toNat := rfl
    have w9 := hpj.2.2.2.1
    rw [hT.2.1, u] at w9
    unfold fX
    rw [if_pos ⟨hp.1, by omega, w9⟩]
    omega
  have ha2 := AcR_h (g := plH v2 (nF N F A) ap.toInt (ld ((nF N F A) ap.toInt * 10 + x1.toInt).toNat).toInt x1.toInt w2.toInt) ha (fun z q => by
    rcases q with q | q
    · rw [plH_0 q.1]; exact hP9 q.1 z q.2
    · rw [plH_n q.1]; exact q.2)
  refine TL_a h h1 hce hN ht hs ho e1 e2 e3 e4 hk ha2 (fun q => ?_) (fun q => ?_) r1 r2 e5
  · unfold sbI; rw [if_neg (by omega)]
  · rw [sbI_i]
    refine Gd (Sc_p hSc) hp hT.2.2.2.1 hpp hQ q (fun q0 => ?_) (fun q1 => ?_) (fun q2 => (g2 q2).2) (fun q4 => ?_) g10 g11
    · unfold AcR at ha2
      rcases ha2 with ⟨_, ⟨f9, h9, b, c, d1, d2⟩, _⟩ | ⟨z, _⟩ | ⟨z, _⟩ | ⟨z, _⟩
      · have t := hTI.2.1 ap.toInt hp.1 hp.2
        have es : (sbI v2 ap x1).toNatClampNeg = ap.toInt.toNat := by rw [sbI_p (Or.inl q0)]; rfl
        rw [d1, d2, es, pk_us, pk_us, b] at t
        have c9 : h9.toInt = plH v2 (nF N F A) ap.toInt (ld ((nF N F A) ap.toInt * 10 + x1.toInt).toNat).toInt x1.toInt w2.toInt := c
        rw [plH_0 q0] at c9
        have t2 := t (by unfold plF; rw [if_pos q0]; decide)
        omega
      · exfalso; omega
      · exfalso; omega
      · exfalso; omega
    · exact Classical.not_not.mp (fun u => g1 q1 (Or.inl u))
    · rcases g4 q4 with u | u
      · exact absurd u.1 (by decide +kernel)
      · exact u.2
/-! the sentences fit: what is placed can be -/
def FtS (Z : Int → Int) (F A B : Nat → Int32) (n : Int) : Prop := ∀ s : Nat, (s : Int) < n → (F s).toInt < 5 → ¬ Z (A s).toInt = 2 ∧ ((F s).toInt = 1 → Z (B s).toInt = 4) ∧ (Z (A s).toInt = 5 → (F s).toInt ≤ 1)
theorem FtS_0 {Z : Int → Int} {F A B : Nat → Int32} {n : Int} (hn : n = 0) : FtS Z F A B n := fun s hs => by omega
theorem FtS_z {Z Z2 : Int → Int} {F A B : Nat → Int32} {n : Int} (h : FtS Z F A B n) (e : ∀ s : Nat, (s : Int) < n → (F s).toInt < 5 → Z2 (A s).toInt = Z (A s).toInt ∧ Z2 (B s).toInt = Z (B s).toInt) : FtS Z2 F A B n := fun s h1 h2 => by
  have w := h s h1 h2
  have q := e s h1 h2
  rw [q.1, q.2]
  exact w
theorem Ft_h {f z b y : Int} (h : Fit f z b y) (hf : f < 5) (h0 : 0 ≤ f) : ¬ z = 2 ∧ (f = 1 → y = 4) ∧ (z = 5 → f ≤ 1) := by
  unfold Fit FtL FtR at h
  omega
theorem FtS_say {Z : Int → Int} {F A B C S F' A' B' C' S' pb eb fb kb ce : Nat → Int32} {n n' f a b c l : Int32} {N z y l2 : Int} (h : FtS Z F A B n.toInt) (hn : 0 ≤ n.toInt) (h1 : SyW (AcX F A B C S pb eb fb kb ce n.toInt N z y f.toInt a.toInt b.toInt c.toInt l2) F A B C S F' A' B' C' S' n n' f a b l) (hz : WF f.toInt a.toInt b.toInt c.toInt N → z = Z a.toInt) (hy : WF f.toInt a.toInt b.toInt c.toInt N → ¬ f.toInt = 6 → y = Z b.toInt) : FtS Z F' A' B' n'.toInt := by
  rcases h1 with ⟨_, e1, e2, e3, _, _, e6⟩ | ⟨q, e1, e2, e3, _, _, e6⟩
  · rw [e1, e2, e3, e6]; exact h
  · intro s hs
    have e := cl_nn (x := n) hn
    rw [e1, e2, e3]
    by_cases w : s = n.toNatClampNeg
    · rw [w, pk_us, pk_us, pk_us]
      intro f5
      have q1 := q.1
      rw [← hz q1, ← hy q1 (by omega)]
      unfold WF at q1
      exact Ft_h q.2.1 f5 (by omega)
    · rw [pk_un w, pk_un w, pk_un w]
      exact h s (by omega)
/-! the beginning -/
theorem Sc_g {N n : Int} {Z : Int → Int} {Qf : Int → Int → Prop} {ce0 ce2 F A B C S pb eb fb kb cb nf na O L : Nat → Int32} {Q0 Q1 : Int → Prop} (hI : IX F A B C S n pb eb fb kb cb) (hr : RR F A B C pb eb fb kb) (hN : N ≤ 30) (hFt : FtS Z F A B n) (hSI : ∀ s : Nat, (s : Int) < n → (F s).toInt < 5 → (B s).toInt < N ∧ ¬ Z (A s).toInt = 0) (hC : StC ce0 ce2 cb Qf N) (hG : BG F A B S nf na n N) (hO : BO O Q0 N) (hL : BO L Q1 N) (h0 : ∀ x : Int, 0 ≤ x → x < N → (Qf x 0 ↔ Q0 x) ∧ (Qf x 1 ↔ Q1 x)) : ScR N Z Qf ce2 nf na O L := by
  intro o ho
  have c := (hC o).1 ho
  have g := hG (o : Int) (by omega) ho
  have u : ((o : Nat) : Int).toNat = o := by omega
  rw [IX_pL hI hr (by omega) (by omega), u] at g
  have p := hI.2.2.2.2.1 o (by omega)
  have e : (pb o).toNatClampNeg = (pb o).toInt.toNat := rfl
  rw [e] at p
  have hO' := hO (o : Int) (by omega) ho
  have hL' := hL (o : Int) (by omega) ho
  rw [u] at hO' hL'
  have q := h0 (o : Int) (by omega) ho
  have b0 := c.2 0 (by omega) (by omega)
  have b1 := c.2 1 (by omega) (by omega)
  refine ⟨?_, ?_, ?_, fun k k2 k5 => ?_⟩
  · rcases g with ⟨g1, g2, g3⟩ | ⟨g1, g2, g3⟩
    · exact Or.inl ⟨g2, g3, by have := c.1; omega⟩
    · have x : 0 ≤ (pb o).toInt := by omega
      have px := (hI.1 o (pb o).toInt.toNat (by omega)).mpr (by omega)
      have ft := hFt _ px.1 px.2.2.1
      have si := hSI _ px.1 px.2.2.1
      have R := hr.1 (pb o).toInt.toNat
      have p5 := px.2.2.1
      rw [px.2.2.2] at ft si
      refine Or.inr ⟨?_, ?_⟩
      · unfold PlOk
        rw [g2, g3]
        exact ⟨by omega, by omega, by omega, si.1, ft.1, si.2, ft.2.1, ft.2.2⟩
      · rw [g2, g3]
        have := c.1
        omega
  · exact b0.trans ((⟨fun w => w.2, fun w => ⟨by omega, w⟩⟩ : ((0 : Int) < 6 ∧ Qf (o : Int) 0) ↔ Qf (o : Int) 0).trans (q.1.trans hO'.symm))
  · exact b1.trans ((⟨fun w => w.2, fun w => ⟨by omega, w⟩⟩ : ((1 : Int) < 6 ∧ Qf (o : Int) 1) ↔ Qf (o : Int) 1).trans (q.2.trans hL'.symm))
  · exact (c.2 k (by omega) k5).trans ⟨fun w => w.2, fun w => ⟨by omega, w⟩⟩
theorem TL_g {N : Int} {Z : Int → Int} {Qf : Int → Int → Prop} {LK : Prop} {th pl tu w : Int32} {ce0 ce2 cb sb fc : Nat → Int32} {p tu2 w2 : Int32} {nf na O L W1 W2 W3 W4 : Nat → Int32} (h : Abs ce0 N) (hC : StC ce0 ce2 cb Qf N) (hS : ScR N Z Qf ce2 nf na O L) (hw : 0 ≤ w.toInt ∧ w.toInt < N) (h5 : Z w.toInt = 5) (e1 : th.toInt = 1) (e2 : pl = w) (e3 : tu.toInt = 0) (e4 : p = w2) (e5 : tu2.toInt = 0) (ew : w2.toInt = w.toInt) (hk : LK) : TL N Z Qf LK th pl tu ce2 sb fc p tu2 nf na O L W1 W2 W3 W4 := by
  have e : p = w := by rw [e4]; exact Int32.toInt_inj.mp ew
  refine ⟨fun o ho => ?_, by omega, Or.inr ⟨e1, by rw [e2, e], by rw [e]; exact hw, by rw [e]; exact h5, hS, Un_0 (by omega), hk⟩⟩
  rw [(hC o).2 (by omega)]
  exact h o ho
/-! where the flags are told otherwise, and alike -/
theorem Sc_q {N : Int} {Z : Int → Int} {Qf Qf2 : Int → Int → Prop} {ce F A O L : Nat → Int32} (h : ScR N Z Qf ce F A O L) (e : ∀ x k : Int, 0 ≤ x → x < N → 2 ≤ k → k ≤ 5 → (Qf x k ↔ Qf2 x k)) : ScR N Z Qf2 ce F A O L := fun o ho => by
  have w := h o ho
  exact ⟨w.1, w.2.1, w.2.2.1, fun k k2 k5 => (w.2.2.2 k k2 k5).trans (e (o : Int) k (by omega) ho k2 k5)⟩
theorem TL_q {N : Int} {Z : Int → Int} {Qf Qf2 : Int → Int → Prop} {LK LK2 : Prop} {th pl tu : Int32} {ce sb fc : Nat → Int32} {p tu2 : Int32} {F A O L W1 W2 W3 W4 : Nat → Int32} (h : TL N Z Qf LK th pl tu ce sb fc p tu2 F A O L W1 W2 W3 W4) (e : ∀ x k : Int, 0 ≤ x → x < N → 2 ≤ k → k ≤ 5 → (Qf x k ↔ Qf2 x k)) (hk : LK → LK2) : TL N Z Qf2 LK2 th pl tu ce sb fc p tu2 F A O L W1 W2 W3 W4 := by
  obtain ⟨a, b, c⟩ := h
  refine ⟨a, b, ?_⟩
  rcases c with c | ⟨c1, c2, c3, c4, c5, ⟨cs, c6, c7⟩, c8⟩
  · exact Or.inl c
  · refine Or.inr ⟨c1, c2, c3, c4, Sc_q c5 e, ⟨cs, c6, fun j hj => ?_⟩, hk c8⟩
    have w := c7 j hj
    exact ⟨w.1, w.2.1, Sc_q w.2.2 e⟩
theorem zX_kf {so so2 ko : Nat → Int32} {k kn : Int32} {N : Int} (h : KS so so2 k kn) (hk : KI ko N kn.toInt) (h0 : ∀ j, 0 ≤ (ko j).toInt) : zX so2 ko N = zX so ko N := by
  funext x
  by_cases q : 0 ≤ x ∧ x < N
  · exact zX_k h hk h0 x q.1 q.2
  · unfold zX; rw [if_neg q, if_neg q]
theorem stL_k {pa pa2 st : Nat → Int32} {f : Int} {k1 kn : Int32} (h : KU pa pa2 k1 kn) (hd : PD pa) (h0 : 0 ≤ kn.toInt) : ∀ (m : Nat) (k : Int), k < kn.toInt → stL pa2 st f m k = stL pa st f m k := by
  intro m
  induction m with
  | zero => intro k _; rfl
  | succ m ih =>
    intro k hk
    show (if _ then _ else _) = (if _ then _ else _)
    by_cases q : 0 ≤ k ∧ k ≤ 23
    · rw [if_pos q, if_pos q]
      have e : pa2 k.toNat = pa k.toNat := by
        rcases h with h | h
        · rw [h.2]
        · have w := cl_nn (x := kn) h0
          rw [h.2.2.2, pk_un (by omega)]
      have e2 : kF pa2 k = kF pa k := by unfold kF; rw [if_pos q, if_pos q, e]
      have e3 : kF pa k < kn.toInt := by
        unfold kF; rw [if_pos q]
        have w := hd k.toNat
        omega
      rw [e2, ih _ e3]
    · rw [if_neg q, if_neg q]
/-- kind() leaves what is said of objects -/
theorem Qf_k {so so2 ko pa pa2 st fb C : Nat → Int32} {k1 kn : Int32} {N : Int} (h1 : KU pa pa2 k1 kn) (h2 : KS so so2 k1 kn) (hd : PD pa) (hk : KI ko N kn.toInt) (h0 : ∀ j, 0 ≤ (ko j).toInt) (hn : 0 ≤ kn.toInt) : ∀ x k : Int, 0 ≤ x → x < N → 2 ≤ k → k ≤ 5 → ((Can ((zX so ko N) x) k ∧ sgX fb C x k (sfV pa ko st (so (ko x.toNat).toNatClampNeg).toInt k x) = 1) ↔ (Can ((zX so2 ko N) x) k ∧ sgX fb C x k (sfV pa2 ko st (so2 (ko x.toNat).toNatClampNeg).toInt k x) = 1)) := by
  intro x k x0 x1 _ _
  have e : (so2 (ko x.toNat).toNatClampNeg).toInt = (so (ko x.toNat).toNatClampNeg).toInt := by
    have w := zX_k h2 hk h0 x x0 x1
    rw [zX_e ⟨x0, x1⟩, zX_e ⟨x0, x1⟩] at w
    exact w
  have e2 : sfV pa2 ko st (so2 (ko x.toNat).toNatClampNeg).toInt k x = sfV pa ko st (so (ko x.toNat).toNatClampNeg).toInt k x := by
    unfold sfV
    rw [stL_k h1 hd hn 24 _ (hk x.toNat (by omega)), e]
  rw [zX_kf h2 hk h0, e2]
/-! the ends of tales -/
theorem TL_n {Q Q2 : Prop} {N N2 : Int} {Z Z2 : Int → Int} {Qf Qf2 : Int → Int → Prop} {LK LK2 : Prop} {th pl tu th2 tu3 : Int32} {ce sb fc : Nat → Int32} {p tu2 p2 tu4 : Int32} {F A O L W1 W2 W3 W4 : Nat → Int32} (h : TL N Z Qf LK th pl tu ce sb fc p tu2 F A O L W1 W2 W3 W4) (e1 : EnW Q th tu th2 tu3) (e2 : EnM Q2 p tu2 p2 tu4) (eQ : Q ↔ Q2) (hN : N ≤ N2) (hs : ¬ Q → TL N Z Qf LK th pl tu ce sb fc p tu2 F A O L W1 W2 W3 W4 → TL N2 Z2 Qf2 LK2 th pl tu ce sb fc p tu2 F A O L W1 W2 W3 W4) : TL N2 Z2 Qf2 LK2 th2 pl tu3 ce sb fc p2 tu4 F A O L W1 W2 W3 W4 := by
  rcases e1 with ⟨a, b, c⟩ | ⟨a, b, c⟩
  · rcases e2 with ⟨a2, b2, c2⟩ | ⟨a2, _⟩
    · rw [b, c, b2, c2]; exact hs a h
    · exact absurd (eQ.mpr a2) a
  · rcases e2 with ⟨a2, _⟩ | ⟨a2, b2, c2⟩
    · exact absurd (eQ.mp a) a2
    · exact TL_e h hN (by omega) c b2 c2
theorem TL_0 {N : Int} {Z : Int → Int} {Qf : Int → Int → Prop} {LK : Prop} {th pl tu : Int32} {ce sb fc : Nat → Int32} {p tu2 : Int32} {F A O L W1 W2 W3 W4 : Nat → Int32} (h : ∀ o, (ce o).toInt % 256 = 255) (h1 : ¬ th.toInt = 1) (h2 : tu.toInt = 0) (h3 : p.toInt = -9) (h4 : tu2.toInt = 0) : TL N Z Qf LK th pl tu ce sb fc p tu2 F A O L W1 W2 W3 W4 := ⟨fun o _ => h o, by omega, Or.inl ⟨h1, h3, h2⟩⟩
/-- seek() gives back what it took -/
theorem TL_s {N : Int} {Z : Int → Int} {Qf : Int → Int → Prop} {LK : Prop} {th pl tu : Int32} {ce sb fc : Nat → Int32} {p tu2 : Int32} {F A O L F2 A2 O2 L2 W1 W2 W3 W4 : Nat → Int32} (h : TL N Z Qf LK th pl tu ce sb fc p tu2 F A O L W1 W2 W3 W4) (e : ∀ o : Nat, (o : Int) < N → F2 o = F o ∧ A2 o = A o ∧ O2 o = O o ∧ L2 o = L o) : TL N Z Qf LK th pl tu ce sb fc p tu2 F2 A2 O2 L2 W1 W2 W3 W4 := by
  obtain ⟨a, b, c⟩ := h
  refine ⟨a, b, ?_⟩
  rcases c with c | ⟨c1, c2, c3, c4, c5, c6, c8⟩
  · exact Or.inl c
  · exact Or.inr ⟨c1, c2, c3, c4, Sc_x c5 e, c6, c8⟩
/-! what the law's cases ask -/
theorem SAB_of {jm : Nat → Int32} {em : Nat → Nat → Int32} {F A B C S pb eb fb kb ce : Nat → Int32} {n : Int32} {kn N N2 : Int} (h : SN F A B C S n pb eb fb kb ce (em 9) (em 10) (em 11) (em 12) (em 13) (jm 8)) (hs : SJ (em 3) (em 6) (em 9) (em 10) (em 11) (em 13) kn N2 (jm 8).toInt) (eN : N = N2) : ∀ s : Nat, (s : Int) < n.toInt → (F s).toInt < 5 → (A s).toInt < N ∧ (B s).toInt < N := fun s h1 h5 => by
  obtain ⟨e1, e2, e3, _, _, e6, _⟩ := h
  have w := hs.2.1 s (by omega)
  rw [← e1, ← e2, ← e3] at w
  exact ⟨by have := w.1; omega, by have := w.2.1 (by omega); omega⟩
theorem FtS_k {Z Z2 : Int → Int} {F A B C pb eb fb kb : Nat → Int32} {n N : Int} (h : FtS Z F A B n) (hr : RR F A B C pb eb fb kb) (hs : ∀ s : Nat, (s : Int) < n → (F s).toInt < 5 → (A s).toInt < N ∧ (B s).toInt < N) (e : ∀ b, 0 ≤ b → b < N → Z2 b = Z b) : FtS Z2 F A B n := FtS_z h (fun s h1 h2 => by
  have w := hs s h1 h2
  have u := hr.1 s
  exact ⟨e _ (by omega) w.1, e _ (by omega) w.2⟩)
theorem SI_of {jm : Nat → Int32} {em : Nat → Nat → Int32} {Z : Int → Int} {F A B C S pb eb fb kb ce : Nat → Int32} {n : Int32} {kn N N2 : Int} (hM : mInv jm em) (h : SN F A B C S n pb eb fb kb ce (em 9) (em 10) (em 11) (em 12) (em 13) (jm 8)) (hr : RR F A B C pb eb fb kb) (hs : SJ (em 3) (em 6) (em 9) (em 10) (em 11) (em 13) kn N2 (jm 8).toInt) (eN : N = N2) (hz : ∀ t, 0 ≤ t → t < N → Z t = kS (em 3) (em 6) t) : ∀ s : Nat, (s : Int) < n.toInt → (F s).toInt < 5 → (B s).toInt < N ∧ ¬ Z (A s).toInt = 0 := fun s h1 h5 => by
  obtain ⟨e1, e2, e3, _, _, e6, _⟩ := h
  have w := hs.2.1 s (by omega)
  rw [← e1, ← e2, ← e3] at w
  have u := hr.1 s
  refine ⟨by have := w.2.1 (by omega); omega, ?_⟩
  rw [hz _ (by omega) (by have := w.1; omega)]
  exact fun q => w.2.2.1 h5 ((kS_k hM (by omega) (by omega)).mpr q)
theorem CeL_of {F A B C S pb eb fb kb ce : Nat → Int32} {n : Int} (h : IX F A B C S n pb eb fb kb ce) (hr : RR F A B C pb eb fb kb) : CeL ce := fun o ho => by
  have p := h.2.2.2.2.1 o ho
  have R := hr.1 (pb o).toNatClampNeg
  omega
theorem Ac_q {F A B C S pb eb fb kb ce F2 A2 B2 C2 S2 : Nat → Int32} {n n2 N N2 f a b c f2 a2 b2 c2 : Int32} {z y z2 y2 : Int} (h : SN F A B C S n pb eb fb kb ce F2 A2 B2 C2 S2 n2) (hr : RR F A B C pb eb fb kb) (hN : N.toInt ≤ 30) (eN : N.toInt = N2.toInt)
    (hz : WF f.toInt a.toInt b.toInt c.toInt N.toInt → z = z2) (hy : WF f.toInt a.toInt b.toInt c.toInt N.toInt → ¬ f.toInt = 6 → y = y2) (ef : f2.toInt = f.toInt) (ea : a2.toInt = a.toInt) (eb0 : b2.toInt = b.toInt) (ec : c2.toInt = c.toInt) : AcX F A B C S pb eb fb kb ce n.toInt N.toInt z y f.toInt a.toInt b.toInt c.toInt (lI f c).toInt ↔ AcM F2 A2 B2 C2 S2 n2.toInt N2.toInt z2 y2 f2.toInt a2.toInt b2.toInt c2.toInt (lI f2 c2).toInt := by
  obtain ⟨e1, e2, e3, e4, e5, e6, hI⟩ := h
  have f1 := Int32.toInt_inj.mp ef
  have a1 := Int32.toInt_inj.mp ea
  have b1 := Int32.toInt_inj.mp eb0
  have c1 := Int32.toInt_inj.mp ec
  have n1 := Int32.toInt_inj.mp e6
  subst e1 e2 e3 e4 e5 f1 a1 b1 c1 n1
  rw [← eN]
  have l1 : f2.toInt = 5 ∨ f2.toInt = 6 → (lI f2 c2).toInt = c2.toInt := fun q => by rw [lI_y q]
  have l0 : ¬ (f2.toInt = 5 ∨ f2.toInt = 6) → (lI f2 c2).toInt = 0 := fun q => by rw [lI_n q]; decide
  exact Ac_e hI hr hN l1 l0 hz hy
theorem NoD_of {N n : Int} {Z : Int → Int} {Qf : Int → Int → Prop} {LK : Prop} {th pl tu : Int32} {ce sb fc fo le sa : Nat → Int32} {p tu2 : Int32} {F A O L W1 W2 W3 W4 : Nat → Int32} (h : TL N Z Qf LK th pl tu ce sb fc p tu2 F A O L W1 W2 W3 W4) : ¬ p.toInt = -9 → NoD Z (gM fo le sa F n p.toInt) N := fun hp x x0 x1 hx => by
  have c := h.2.2.resolve_left (fun q => hp q.2.1)
  rw [gM_t hp] at hx
  have w := (c.2.2.2.2.1 x.toNat (by omega)).1
  rw [show ((x.toNat : Nat) : Int) = x by omega] at w
  rcases w with w | w
  · exact absurd w.1 hx
  · exact w.1.2.2.2.2.1
/-! acts, back, begin: all they leave -/
theorem TLb_e {N : Int} {Z : Int → Int} {Qf : Int → Int → Prop} {LK LK2 : Prop} {th pl tu tu3 : Int32} {ce sb fc ce2 : Nat → Int32} {p p2 tu2 tu4 : Int32} {F A O L W1 W2 W3 W4 F2 A2 O2 L2 : Nat → Int32} {SX SM : Prop} (h : TL N Z Qf LK th pl tu ce sb fc p tu2 F A O L W1 W2 W3 W4) (hN : N ≤ 30) (ht : 0 ≤ tu.toInt)
    (h1 : AsR (th.toInt = 1 ∧ ¬ tu.toInt = 0) ((ce2 = upd ce (sb (tu.toInt - 1).toNat).toNatClampNeg (fc (tu.toInt - 1).toNat) ∧ tu3.toInt = tu.toInt - 1) ∧ LK2) SX) (h2 : AsR (¬ p.toInt = -9 ∧ ¬ tu2.toInt = 0) (GB F2 A2 W1 W2 (tu2.toInt - 1).toNat 30 ∧ GB O2 L2 W3 W4 (tu2.toInt - 1).toNat 30 ∧ tu4.toInt = tu2.toInt - 1 ∧ p2 = p) SM) (hs : SX → SM → TL N Z Qf LK2 th pl tu3 ce2 sb fc p2 tu4 F2 A2 O2 L2 W1 W2 W3 W4) : TL N Z Qf LK2 th pl tu3 ce2 sb fc p2 tu4 F2 A2 O2 L2 W1 W2 W3 W4 := by
  have b := h.2.1
  have c := h.2.2
  have hp : th.toInt = 1 ↔ ¬ p.toInt = -9 := by
    rcases c with c | c
    · exact ⟨fun q => absurd q c.1, fun q => absurd c.2.1 q⟩
    · exact ⟨fun _ => by have := c.2.2.1; omega, fun _ => c.1⟩
  unfold AsR at h1 h2
  rcases h1 with ⟨a1, s1⟩ | ⟨a1, ⟨e1, e4⟩, hk⟩
  · rcases h2 with ⟨a2, s2⟩ | ⟨a2, _⟩
    · exact hs s1 s2
    · exact absurd ⟨hp.mpr a2.1, by have := a2.2; omega⟩ a1
  · rcases h2 with ⟨a2, s2⟩ | ⟨a2, g1, g2, e5, e6⟩
    · exact absurd ⟨hp.mp a1.1, by have := a1.2; omega⟩ a2
    · rw [e6]
      exact TL_b h a1.1 hN (by have := a1.2; omega) e1 e4 hk g1 g2 e5
theorem Un_q {F A B C S pb eb fb kb ce F2 A2 B2 C2 S2 : Nat → Int32} {n n2 s s2 : Int32} (h : SN F A B C S n pb eb fb kb ce F2 A2 B2 C2 S2 n2) (es : s2.toInt = s.toInt) : UnQ S n s ↔ UnQ S2 n2 s2 := by
  obtain ⟨_, _, _, _, e5, e6, _⟩ := h
  have s1 := Int32.toInt_inj.mp es
  have n1 := Int32.toInt_inj.mp e6
  subst e5 s1 n1
  exact Iff.rfl
theorem TLg_e {N : Int} {Z : Int → Int} {Qf : Int → Int → Prop} {LK LK2 : Prop} {th pl tu th2 pl2 tu3 w w2 r r2 : Int32} {ce ce2 cb sb fc : Nat → Int32} {p tu2 p2 tu4 : Int32} {F A O L F2 A2 O2 L2 W1 W2 W3 W4 : Nat → Int32} {SX SM P1 P2 P3 : Prop} (h : TL N Z Qf LK th pl tu ce sb fc p tu2 F A O L W1 W2 W3 W4) (er : r = r2)
    (h1 : AsR (0 ≤ r.toInt) (StC ce ce2 cb Qf N ∧ LK2 ∧ th2.toInt = 1 ∧ pl2 = w ∧ tu3.toInt = 0) SX) (h2 : AsR (0 ≤ r2.toInt) (P1 ∧ P2 ∧ P3 ∧ p2 = w2 ∧ tu4.toInt = 0) SM) (hw : 0 ≤ r.toInt → (0 ≤ w.toInt ∧ w.toInt < N) ∧ Z w.toInt = 5) (ew : w2.toInt = w.toInt) (hS : StC ce ce2 cb Qf N → P1 → P2 → P3 → ScR N Z Qf ce2 F2 A2 O2 L2) (hs : SX → SM → TL N Z Qf LK2 th2 pl2 tu3 ce2 sb fc p2 tu4 F2 A2 O2 L2 W1 W2 W3 W4) : TL N Z Qf LK2 th2 pl2 tu3 ce2 sb fc p2 tu4 F2 A2 O2 L2 W1 W2 W3 W4 := by
  subst er
  rcases h1 with ⟨a1, s1⟩ | ⟨a1, b1, b2, b3, b4, b5⟩
  · rcases h2 with ⟨_, s2⟩ | ⟨a2, _⟩
    · exact hs s1 s2
    · exact absurd a2 a1
  · rcases h2 with ⟨a2, _⟩ | ⟨_, c1, c2, c3, c4, c5⟩
    · exact absurd a1 a2
    · exact TL_g h.1 b1 (hS b1 c1 c2 c3) (hw a1).1 (hw a1).2 b3 b4 b5 c4 c5 ew b2
theorem Bg_w {N w s r : Int} {P : Int → Prop} (h : BgR N w s r P) (hr : 0 ≤ r) : (0 ≤ w ∧ w < N) ∧ s = 5 := by
  unfold BgR at h
  rcases h with h | h | h
  · exfalso; omega
  · exfalso; omega
  · exact ⟨h.1, h.2.1⟩
/-- where a player who may go gets to is the same -/
theorem Ld_e {N p x z : Int} {so ko pa ko2 F A B C S pb eb fb kb cb ld dr bw im f1 f2 ce nf na nO nL : Nat → Int32} {Qf : Int → Int → Prop} {n : Int} (hS : ScR N (zX so ko N) Qf ce nf na nO nL) (ha : Abs ce N) (hN : N ≤ 30) (hp : 0 ≤ p ∧ p < N) (hx : 0 ≤ x ∧ x ≤ 9) (h : RDS (zX so ko N) F A B C S n.toNat ld dr bw im f1 f2) (hI : IX F A B C S n pb eb fb kb cb) (hr : RR F A B C pb eb fb kb) (hD : DR (zX so ko N) F A B S n N) (hz : ∀ t, 0 ≤ t → t < N → zX so ko N t = kS pa ko2 t) (hB : ∀ s : Nat, (s : Int) < n → (F s).toInt = 5 → (B s).toInt < N ∧ (kS pa ko2 (B s).toInt = 0 ∨ kS pa ko2 (B s).toInt = 2)) (b : ByR (zX so ko N) (hF ce) (fX ce) p) (hf : ∃ dr2 bw2 im2 : Int, FeM pa ko2 F A B C S n (na p.toNat).toInt x z dr2 bw2 im2) : z = (ld ((nF N nf na) p * 10 + x).toNat).toInt := by
  rw [Sc_h hS ha hN, Sc_f hS ha hN] at b
  obtain ⟨d2, b2, i2, hf⟩ := hf
  have e0 : (nf p.toNat).toInt = 0 := by have w := b.1; unfold fMn at w; rw [if_pos hp] at w; exact w
  have e1 : nF N nf na p = (na p.toNat).toInt := by unfold nF; rw [if_pos ⟨hp.1, hp.2, by omega⟩]
  have e2 := b.2
  rw [e1] at e2 ⊢
  have e3 : 0 ≤ (na p.toNat).toInt ∧ (na p.toNat).toInt < N := by
    by_cases q : 0 ≤ (na p.toNat).toInt ∧ (na p.toNat).toInt < N
    · exact q
    · unfold zX at e2; rw [if_neg q] at e2; omega
  exact (FeM_u hf (RD_fe h hI hr hD hz hB hN e3 (by rw [← hz _ e3.1 e3.2]; exact e2) hx)).1
theorem TLact {N N2 : Int} {Z : Int → Int} {Qf : Int → Int → Prop} {LK LK2 : Prop} {th pl ap tu tu3 w w2 x1 y1 r r2 : Int32} {v v2 : Int} {ce sb fc ce2 sb2 fc2 ld : Nat → Int32} {p p2 tu2 tu4 : Int32} {F A O L W1 W2 W3 W4 F2 A2 O2 L2 V1 V2 V3 V4 : Nat → Int32} {Rm : Int → Prop} {P9 : Int → Prop} {SX SM : Prop}
    (h : TL N Z Qf LK th pl tu ce sb fc p tu2 F A O L W1 W2 W3 W4) (hPJ : PJ th pl ap tu ce sb fc) (hce : ∀ o, 0 ≤ (ce o).toInt) (hN : N ≤ 30) (eN : N = N2) (ht : 0 ≤ tu.toInt ∧ tu.toInt ≤ 100) (ev : v2 = v) (ex : x1.toInt = w.toInt) (ey : y1.toInt = w2.toInt) (er : r = r2)
    (hg : r.toInt = 0 → IsA v w.toInt w2.toInt N ∧ th.toInt = 1 ∧ (v = 1 → ¬ (¬ ((Z w.toInt = 1 ∨ 3 ≤ Z w.toInt) ∧ ¬ Z w.toInt = 5) ∨ bT ce 3 w.toInt ∨ fX ce w.toInt = 4)) ∧ (v = 2 ∨ v = 3 ∨ v = 4 ∨ v = 9 → Hd (hF ce) (fX ce) ap.toInt w.toInt) ∧ (v = 4 → ((1 : Int) = 0 ∧ Z w2.toInt = 3) ∨ (¬ (1 : Int) = 0 ∧ Z w2.toInt = 4)) ∧ (v = 10 → Z w.toInt = 3 ∨ Z w.toInt = 4) ∧ (v = 11 → fX ce (hF ce ap.toInt) = 0 ∨ fX ce (hF ce ap.toInt) = 1) ∧ (v = 0 → ByR Z (hF ce) (fX ce) ap.toInt))
    (h1 : AsR (IsA v w.toInt w2.toInt N ∧ tu.toInt ≤ 99 ∧ th.toInt = 1 ∧ r.toInt = 0) ((∃ ou : Int32, OuR v (ce (sbI v ap w).toNatClampNeg) ou (plF v Z (fX ce) (hF ce) ap.toInt w.toInt) (plH v (hF ce) ap.toInt (ld ((hF ce) ap.toInt * 10 + w.toInt).toNat).toInt w.toInt w2.toInt) ∧ ce2 = upd ce (sbI v ap w).toNatClampNeg ou ∧ sb2 = upd sb tu.toNatClampNeg (sbI v ap w) ∧ fc2 = upd fc tu.toNatClampNeg (ce (sbI v ap w).toNatClampNeg) ∧ tu3.toInt = tu.toInt + 1) ∧ LK2) SX)
    (h2 : AsR (IsA v2 x1.toInt y1.toInt N2 ∧ ¬ p.toInt = -9 ∧ ¬ tu2.toInt = 100 ∧ r2.toInt = 0) (AcR v2 F A O L F2 A2 O2 L2 (sbI v2 p x1) x1 (plF v2 Z (fMn N2 F) (nF N2 F A) p.toInt x1.toInt) (fun z : Int => (v2 = 0 ∧ P9 z) ∨ (¬ v2 = 0 ∧ z = plH v2 (nF N2 F A) p.toInt 0 x1.toInt y1.toInt)) ∧ RW V1 V2 W1 W2 F A tu2.toInt.toNat 30 ∧ RW V3 V4 W3 W4 O L tu2.toInt.toNat 30 ∧ tu4.toInt = tu2.toInt + 1 ∧ p2 = p) SM)
    (hP9 : v = 0 → th.toInt = 1 → IsA v w.toInt w2.toInt N → ByR Z (hF ce) (fX ce) p.toInt → ∀ z, P9 z → z = (ld ((nF N F A) p.toInt * 10 + w.toInt).toNat).toInt) (hTI : ¬ p2.toInt = -9 → TI N Rm p2.toInt F2 A2) (hs : SX → SM → TL N Z Qf LK2 th pl tu3 ce2 sb2 fc2 p2 tu4 F2 A2 O2 L2 V1 V2 V3 V4) : TL N Z Qf LK2 th pl tu3 ce2 sb2 fc2 p2 tu4 F2 A2 O2 L2 V1 V2 V3 V4 := by
  subst eN er
  have b := h.2.1
  have c := h.2.2
  have hp : th.toInt = 1 ↔ ¬ p.toInt = -9 := by
    rcases c with c | c
    · exact ⟨fun q => absurd q c.1, fun q => absurd c.2.1 q⟩
    · exact ⟨fun _ => by have := c.2.2.1; omega, fun _ => c.1⟩
  have eA : IsA v2 x1.toInt y1.toInt N ↔ IsA v w.toInt w2.toInt N := by rw [ev, ex, ey]
  rcases h1 with ⟨a1, s1⟩ | ⟨⟨a1, a2, a3, a4⟩, ⟨ou, o1, o2, o3, o4, o5⟩, hk⟩
  · rcases h2 with ⟨_, s2⟩ | ⟨⟨d1, d2, d3, d4⟩, _⟩
    · exact hs s1 s2
    · exact absurd ⟨eA.mp d1, by omega, hp.mpr d2, d4⟩ a1
  · rcases h2 with ⟨d, _⟩ | ⟨_, c1, c2, c3, c4, c5⟩
    · exact absurd ⟨eA.mpr a1, hp.mp a3, by omega, a4⟩ d
    · obtain ⟨_, _, g1, g2, g4, g10, g11, g0⟩ := hg a4
      have hpl := c.resolve_left (fun q => q.1 a3)
      have eap : ap = p := (hPJ a3).2.2.1.trans hpl.2.1
      rw [c5] at hTI ⊢
      exact TLa_e h hPJ a3 hce hN ht.1 a1 ev ex ey g1 g2 g4 g10 g11 o1 o2 o3 o4 o5 hk c1 (fun q z y => hP9 q a3 a1 (by rw [← eap]; exact g0 q) z y) (hTI (hp.mp a3)) c2 c3 c4
/-- begin(), told with the reference's rows -/
theorem Sc_gm {jm : Nat → Int32} {em : Nat → Nat → Int32} {so ko pa st F A B C S pb eb fb kb cb ce0 ce2 nf na O L : Nat → Int32} {n : Int32} {N kn : Int} (hM : mInv jm em) (hSN : SN F A B C S n pb eb fb kb cb (em 9) (em 10) (em 11) (em 12) (em 13) (jm 8)) (hr : RR F A B C pb eb fb kb) (hN : N ≤ 30) (eN : N = (jm 5).toInt) (hFt : FtS (zX so ko N) F A B n.toInt) (hs : SJ (em 3) (em 6) (em 9) (em 10) (em 11) (em 13) kn (jm 5).toInt (jm 8).toInt) (hz : ∀ t : Int, 0 ≤ t → t < N → zX so ko N t = kS (em 3) (em 6) t) (ePA : pa = em 3) (eKO : ko = em 6) (est : ∀ j : Nat, j < 144 → st j = em 4 j)
    (hC : StC ce0 ce2 cb (fun o f : Int => Can ((zX so ko N) o) f ∧ sgX fb C o f (sfV pa ko st (so (ko o.toNat).toNatClampNeg).toInt f o) = 1) N) (hG : BG (em 9) (em 10) (em 11) (em 13) nf na (jm 8).toInt (jm 5).toInt) (hO : BO O (fun x : Int => ((zM (em 3) (em 6) (jm 5).toInt) x = 2 ∨ (zM (em 3) (em 6) (jm 5).toInt) x = 3) ∧ SgM (em 9) (em 10) (em 11) (em 12) (em 13) (jm 8).toInt x 0 (sfV (em 3) (em 6) (em 4) (kS (em 3) (em 6) x) 0 x) 1) (jm 5).toInt) (hL : BO L (fun x : Int => ((zM (em 3) (em 6) (jm 5).toInt) x = 2 ∨ (zM (em 3) (em 6) (jm 5).toInt) x = 3) ∧ SgM (em 9) (em 10) (em 11) (em 12) (em 13) (jm 8).toInt x 1 (sfV (em 3) (em 6) (em 4) (kS (em 3) (em 6) x) 1 x) 1) (jm 5).toInt) : ScR N (zX so ko N) (fun o f : Int => Can ((zX so ko N) o) f ∧ sgX fb C o f (sfV pa ko st (so (ko o.toNat).toNatClampNeg).toInt f o) = 1) ce2 nf na O L := by
  have hSI := SI_of (Z := zX so ko N) hM hSN hr hs eN hz
  have eZ := zXM hz
  obtain ⟨e1, e2, e3, e4, e5, e6, hI⟩ := hSN
  subst e1 e2 e3 e4 e5 ePA eKO
  rw [e6] at hI hFt hSI
  rw [← eN] at hG hO hL
  have q : ∀ x f : Int, 0 ≤ x → x < N → 0 ≤ f → f ≤ 1 → ((Can ((zX so (em 6) N) x) f ∧ sgX fb (em 12) x f (sfV (em 3) (em 6) st (so ((em 6) x.toNat).toNatClampNeg).toInt f x) = 1) ↔ (((zM (em 3) (em 6) N) x = 2 ∨ (zM (em 3) (em 6) N) x = 3) ∧ SgM (em 9) (em 10) (em 11) (em 12) (em 13) (jm 8).toInt x f (sfV (em 3) (em 6) (em 4) (kS (em 3) (em 6) x) f x) 1)) := fun x f x0 x1 f0 f1 => by
    have f5 : f ≤ 5 := by omega
    rw [Sx_e hI hr ⟨x0, by omega⟩ ⟨f0, f5⟩ (sfV_c (pa := em 3) (ko := em 6) (o := x) ⟨f0, f5⟩ est ((zX_e ⟨x0, x1⟩).symm.trans (hz x x0 x1))), ← eZ]
    exact and_congr (by unfold Can; omega) Iff.rfl
  exact Sc_g hI hr hN hFt hSI hC hG hO hL (fun x x0 x1 => ⟨q x 0 x0 x1 (by omega) (by omega), q x 1 x0 x1 (by omega) (by omega)⟩)
/-- where going leads, told with the reference's rows -/
theorem Ld_m {jm : Nat → Int32} {em : Nat → Nat → Int32} {so ko F A B C S pb eb fb kb cb ld dr bw im f1 f2 ce nf na nO nL : Nat → Int32} {Qf : Int → Int → Prop} {n : Int32} {N N2 kn p x x2 z : Int} (hM : mInv jm em) (hN : N ≤ 30) (eN : N = N2) (hSN : SN F A B C S n pb eb fb kb cb (em 9) (em 10) (em 11) (em 12) (em 13) (jm 8)) (hr : RR F A B C pb eb fb kb) (hD : DR (zX so ko N) F A B S n.toInt N) (hRD : RDS (zX so ko N) F A B C S n.toInt.toNat ld dr bw im f1 f2) (hs : SJ (em 3) (em 6) (em 9) (em 10) (em 11) (em 13) kn N2 (jm 8).toInt) (hz : ∀ t : Int, 0 ≤ t → t < N → zX so ko N t = kS (em 3) (em 6) t) (hS : ScR N (zX so ko N) Qf ce nf na nO nL) (ha : Abs ce N) (hp : 0 ≤ p ∧ p < N) (hx : 0 ≤ x ∧ x ≤ 9) (ex : x2 = x) (b : ByR (zX so ko N) (hF ce) (fX ce) p) (hf : ∃ dr2 bw2 im2 : Int, FeM (em 3) (em 6) (em 9) (em 10) (em 11) (em 12) (em 13) (jm 8).toInt (na p.toNat).toInt x2 z dr2 bw2 im2) : z = (ld ((nF N nf na) p * 10 + x).toNat).toInt := by
  obtain ⟨e1, e2, e3, e4, e5, e6, hI⟩ := hSN
  subst e1 e2 e3 e4 e5 ex eN
  rw [e6] at hI hD hRD
  have hB : ∀ t : Nat, (t : Int) < (jm 8).toInt → (em 9 t).toInt = 5 → (em 11 t).toInt < N ∧ (kS (em 3) (em 6) (em 11 t).toInt = 0 ∨ kS (em 3) (em 6) (em 11 t).toInt = 2) := fun t t1 t2 => by
    have w := hs.2.1 t t1
    refine ⟨w.2.1 (by omega), ?_⟩
    rcases (w.2.2.2 t2).2 with u | u
    · exact Or.inl ((kS_k hM (by omega) (by omega)).mp u)
    · exact Or.inr ((kS_k hM (by omega) (by omega)).mp u)
  exact Ld_e hS ha hN hp hx hRD hI hr hD hz hB b hf
def LI (i : Nat → Int32) (c : Nat → Nat → Int32) (jm : Nat → Int32) (em : Nat → Nat → Int32) : Prop := xInv i c ∧ xFl (c 113) (c 115) ∧ PJ (i 146) (i 147) (i 156) (i 148) (c 150) (c 144) (c 145) ∧ (i 141).toInt = 0 ∧ mInv jm em ∧ SJ (em 3) (em 6) (em 9) (em 10) (em 11) (em 13) (jm 2).toInt (jm 5).toInt (jm 8).toInt ∧ TJ (em 3) (em 6) (em 23) (em 24) (em 29) (em 30) (jm 5).toInt (jm 22).toInt (jm 27).toInt ∧ LRel (i 110) (i 111) (i 165) (c 107) (jm 2) (jm 5) (jm 64) (em 4) ∧ (c 105) = (em 3) ∧ (c 108) = (em 6) ∧ SoR (c 105) (c 106) (i 110) ∧ SN (c 113) (c 114) (c 115) (c 116) (c 117) (i 124) (c 118) (c 119) (c 120) (c 121) (c 127) (em 9) (em 10) (em 11) (em 12) (em 13) (jm 8) ∧ DR (zX (c 106) (c 108) (i 111).toInt) (c 113) (c 114) (c 115) (c 117) (i 124).toInt (i 111).toInt ∧ RDS (zX (c 106) (c 108) (i 111).toInt) (c 113) (c 114) (c 115) (c 116) (c 117) (i 124).toInt.toNat (c 129) (c 130) (c 131) (c 132) (c 133) (c 134) ∧ TL (i 111).toInt (zX (c 106) (c 108) (i 111).toInt) (fun o f : Int => Can ((zX (c 106) (c 108) (i 111).toInt) o) f ∧ sgX (c 120) (c 116) o f (sfV (c 105) (c 108) (c 107) (c 106 (c 108 o.toNat).toNatClampNeg).toInt f o) = 1) (LkR (zX (c 106) (c 108) (i 111).toInt) (hF (c 150)) (fX (c 150)) (bT (c 150) 0) (bT (c 150) 5) (bT (c 150) 2) (sD (c 133) (c 134)) (i 147).toInt (i 111).toInt (c 152) (c 153) (i 154)) (i 146) (i 147) (i 148) (c 150) (c 144) (c 145) (jm 22) (jm 27) (em 23) (em 24) (em 25) (em 26) (em 29) (em 30) (em 31) (em 32) ∧ FtS (zX (c 106) (c 108) (i 111).toInt) (c 113) (c 114) (c 115) (i 124).toInt ∧ (c 109) = (em 7)
def LK (p : Program) (l : Launch) (e : Env) (s : State) (m : MethodId) (below : List Frame) (meth : Method) (cd : Code) (b : Nat) (D : va_G) (sk : Value) (a : Nat → Nat) (t : Nat → ClassId) (Z : va_W) (o : Nat) (am : Nat → Nat) (tm : Nat → ClassId) (x3 : Int32) (cells slots : Nat) : Prop := ∀ (i : Nat → Int32) (q : Int64) (c : Nat → Nat → Int32) (d : Nat → Nat → Int64) (jm : Nat → Int32) (qm : Int64) (em : Nat → Nat → Int32) (dm : Nat → Nat → Int64) (H : Heap) (locs : List Loc) (ls : Array Slot), LI i c jm em → va_P D vwCl (xwT sk a t i q c d ++ (Z ++ mW o am tm jm qm em dm)) H → va_D (fun q : Nat => s.heap.size ≤ q) (xwT sk a t i q c d ++ (Z ++ mW o am tm jm qm em dm)) → va_S (fun q : Nat => s.heap.size ≤ q) s.heap H locs → lv_has ls 4 [(3, .int x3), (2, .ref o), (1, .ref (a 100)), (0, .ref b)] → W p l e room_1 s m #[Value.ref b] below meth cd H locs cells slots (lw_Z below #[Value.ref b] s) (F0 m 1461 ls [])
/-- where a seeker is: its cells may have changed -/
def LKS (p : Program) (l : Launch) (e : Env) (s : State) (m : MethodId) (below : List Frame) (meth : Method) (cd : Code) (b : Nat) (D : va_G) (az : Nat → Nat) (tz : Nat → ClassId) (a : Nat → Nat) (t : Nat → ClassId) (o : Nat) (am : Nat → Nat) (tm : Nat → ClassId) (x3 : Int32) (cells slots : Nat) : Prop := ∀ (i : Nat → Int32) (q : Int64) (c : Nat → Nat → Int32) (d : Nat → Nat → Int64) (iz : Nat → Int32) (cz : Nat → Nat → Int32) (dz : Nat → Nat → Int64) (jm : Nat → Int32) (qm : Int64) (em : Nat → Nat → Int32) (dm : Nat → Nat → Int64) (H : Heap) (locs : List Loc) (ls : Array Slot), LI i c jm em → xInv iz cz → va_P D vwCl (xwT (.ref (az 166)) a t i q c d ++ (xwZ .null (fun k => if k < 166 then a k else az k) tz iz 0 cz dz ++ mW o am tm jm qm em dm)) H → va_D (fun q : Nat => s.heap.size ≤ q) (xwT (.ref (az 166)) a t i q c d ++ (xwZ .null (fun k => if k < 166 then a k else az k) tz iz 0 cz dz ++ mW o am tm jm qm em dm)) → va_S (fun q : Nat => s.heap.size ≤ q) s.heap H locs → lv_has ls 4 [(3, .int x3), (2, .ref o), (1, .ref (a 100)), (0, .ref b)] → W p l e room_1 s m #[Value.ref b] below meth cd H locs cells slots (lw_Z below #[Value.ref b] s) (F0 m 1461 ls [])
theorem xInv_m {i iz : Nat → Int32} {c cz : Nat → Nat → Int32} (hI : xInv i c) (hz : xInv iz cz) : xInv (fun k => if k < 166 then i k else iz k) (fun k => if k < 166 then c k else cz k) := by
  refine ⟨fun k => ?_, fun k j => ?_⟩
  · by_cases h : k < 166
    · show xR k (if k < 166 then i k else iz k).toInt
      rw [if_pos h]; exact hI.1 k
    · show xR k (if k < 166 then i k else iz k).toInt
      rw [if_neg h]; exact hz.1 k
  · by_cases h : k < 166
    · show xE k j ((if k < 166 then c k else cz k) j).toInt
      rw [if_pos h]; exact hI.2 k j
    · show xE k j ((if k < 166 then c k else cz k) j).toInt
      rw [if_neg h]; exact hz.2 k j
section NM
variable {p : Program} {l : Launch} {e : Env} {R : Room} {s : State} {m : MethodId} {args : Array Value} {below : List Frame} {meth : Method} {c : Code} {H : Heap} {locs : List Loc} {cells slots mc ms : Nat} {Q : State → Prop}
variable {pc : Nat} {ls : Array Slot} {rest st0 : List Value} {av : Array Value} {A0 : Nat → Prop} {H0 : Heap} {D : va_G} {wc wr : va_W}
theorem law_newM {S : Type} {post : S → Prop} {w2 : S → va_W} {t2 : S → List (ClassId × FieldType)} (hr : va_Run p l e R s m args below meth c H locs cells slots mc ms (F0 m pc ls st0) rest (va_Qv post (oC D (va_A wc H.size) w2 t2) (va_A wc H.size) av) (va_A wc H.size)) (hS : va_S A0 H0 H locs) (hA : ∀ q, H0.size ≤ q → A0 q) (hP : va_P D vwCl (wr ++ wc) H) (hD : va_D A0 (wr ++ wc))
    (kk : ∀ (u : S) (H1 : Heap) (locs1 : List Loc), va_K D vwCl (t2 u) s → va_P D vwCl (wr ++ w2 u) H1 → va_D A0 (wr ++ w2 u) → va_S A0 H0 H1 locs1 → W p l e R s m args below meth c H1 locs1 (cells + mc) (slots + ms) Q (F0 m (pc + 3) ls rest)) : W p l e R s m args below meth c H locs cells slots Q (F0 m pc ls st0) := by
  have hFc := al_free (ws := wc) (vD_r hD) hS hA
  refine va_callv hr hS (fun q _ h => hFc q h) hFc (fun u t H1 locs1 ht hvm hw hB _ hk hS1 => ?_)
  obtain ⟨hP1, hK1, hD1⟩ := hB
  rw [ht] at hP1
  obtain ⟨hPj, hDj⟩ := ap_r hP hD hk hFc hP1 hD1
  exact kk u H1 locs1 (va_K.moved hvm.symm hK1) hPj hDj hS1
end NM

