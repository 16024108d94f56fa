/-! THE CLAIM OUT OF ONE WALK OF THE LAW'S BODY. Your part is whole_start (and what it stands on); all else here is the same for every law, but numbers. -/
def R_law : String := "TalePlayLaw"
def lw_P (b : Addr) (xs : List Int32) (args : Array Value) (s : State) : Prop := args = #[.ref b] ∧ s.IntsAt b xs ∧ xs.length ≤ 3584 ∧ (Jvm.Cond.and given_1 narrow_1).before args s = true
def lw_Q (_ : Array Value) (s : State) (o : Outcome) (t : State) : Prop := o = .returned (some (.int 1)) ∧ Framed s o t [] 600000 7302249
def lw_Z (below : List Frame) (a : Array Value) (s : State) : State → Prop := fun t => ∃ o, t.status = .running ∧ Ended t below o ∧ lw_Q a s o t
/-- the law's own end, with 1 on the stack, nothing written that was there before, its room as the claim has it -/
theorem lw_ret {p : Program} {l : Launch} {e : Env} {s : State} {m : MethodId} {below : List Frame} {meth : Method} {c : Code} {b : Nat} (hx : p.tables.exec = Jvm.exec) (hb : c.code = code) (hr : meth.sig.returnType = ret) (hlocks : meth.locks = false) {pc : Nat} {H : Heap} {ls : Array Slot} (hdg : decode code pc = .ok (.ireturn, 1)) : W p l e room_1 s m #[Value.ref b] below meth c H [] 600000 7302249 (lw_Z below #[Value.ref b] s) (F0 m pc ls [.int 1]) := by
  intro T hT X
  obtain ⟨fs, hret, hrun, hended, hW, hframe⟩ := X.leave (v := some (.int 1)) (hlocks := hlocks) (fun h => by rw [hr] at h; cases h)
  have hmeth' : T.vm.method? m = some meth := X.method'
  refine ⟨T.setFrames fs, ?_, .returned (some (.int 1)), hrun, hended, rfl, ⟨_, rfl⟩, hW, hframe⟩
  jvm_step X.here [X.here.top, hx, hb, hdg, hmeth', hr, ret, narrow_b1]
  (try refine ⟨rfl, ?_⟩); (try refine ⟨rfl, ?_⟩)
  first | (intro acts; rw [hret _ acts rfl rfl rfl]) | rw [hret _ _ rfl rfl rfl]
  exact Steps.refl _
/-- what holds at the law's entry: the machine, the code, the tables' words (any of lw_tbl by 'hts w (by decide +kernel)'), the script of L ints xs at the cell b, what the Statement gives of the start (any of its parts by flat_of_before) -/
def lw_At (p : Program) (s : State) (m : MethodId) (meth : Method) (c : Code) (b L : Nat) (xs : Nat → Int32) : Prop :=
  p.tables.exec = Jvm.exec ∧ c.code = code ∧ meth.sig.returnType = ret ∧ c.maxLocals = 4 ∧ s.vm.findClass R_law = some m.cls ∧ (∀ w ∈ lw_tbl, w.before #[Value.ref b] s = true) ∧ va_X b L xs s s.heap ∧ b < s.heap.size ∧ meth.locks = false ∧ (Jvm.Cond.and given_1 narrow_1).before #[Value.ref b] s = true
/-! what holds between two calls of the law -/
def LRel (kn ob md : Int32) (st : Nat → Int32) (kn2 ob2 md2 : Int32) (st2 : Nat → Int32) : Prop := kn.toInt = kn2.toInt ∧ ob.toInt = ob2.toInt ∧ md.toInt = md2.toInt ∧ ∀ j : Nat, j < 144 → st j = st2 j
theorem LRel_su {kn ob md kn2 ob2 md2 k f v k2 f2 v2 : Int32} {a b a2 b2 : Nat → Int32} (h : LRel kn ob md a kn2 ob2 md2 a2) (h1 : StU a b k f v kn.toInt) (h2 : StU a2 b2 k2 f2 v2 kn2.toInt) (ek : k2.toInt = k.toInt) (ef : f2.toInt = f.toInt) (ev : v2.toInt = v.toInt) : LRel kn ob md b kn2 ob2 md2 b2 := by
  obtain ⟨r1, r2, r3, r4⟩ := h
  refine ⟨r1, r2, r3, fun j hj => ?_⟩
  unfold StU StB at h1 h2
  rcases h1 with ⟨c1, e1⟩ | ⟨c1, e1⟩ <;> rcases h2 with ⟨c2, e2⟩ | ⟨c2, e2⟩
  · rw [e1, e2]; exact r4 j hj
  · exfalso; omega
  · exfalso; omega
  · rw [e1, e2, show k2.toInt * 6 + f2.toInt = k.toInt * 6 + f.toInt by omega, show v2 = v from Int32.toInt_inj.mp ev]
    by_cases q : j = (k.toInt * 6 + f.toInt).toNat
    · subst q; rw [pk_us, pk_us]
    · rw [pk_un q, pk_un q]; exact r4 j hj
theorem KU_e {a b a2 b2 : Nat → Int32} {k kn k2 kn2 : Int32} (h : a = a2) (h1 : KU a b k kn) (h2 : KU a2 b2 k2 kn2) (ek : k2.toInt = k.toInt) (en : kn.toInt = kn2.toInt) : b = b2 := by
  subst h
  unfold KU at h1 h2
  rcases h1 with ⟨c1, e1⟩ | ⟨c1, c3, c4, e1⟩ <;> rcases h2 with ⟨c2, e2⟩ | ⟨c2, c5, c6, e2⟩
  · rw [e1, e2]
  · exfalso; omega
  · exfalso; omega
  · rw [e1, e2, show k2 = k from Int32.toInt_inj.mp ek, show kn2 = kn from Int32.toInt_inj.mp en.symm]
theorem OU_e {a b a2 b2 : Nat → Int32} {k s1 kn ob k2 s2 kn2 ob2 : Int32} (h : a = a2) (h1 : OU a b k s1 kn ob) (h2 : OU a2 b2 k2 s2 kn2 ob2) (ek : k2.toInt = k.toInt) (es : s2.toInt = s1.toInt) (en : kn.toInt = kn2.toInt) (eo : ob.toInt = ob2.toInt) : b = b2 := by
  subst h
  unfold OU at h1 h2
  rcases h1 with ⟨c1, e1⟩ | ⟨c1, c3, c4, c5, c6, e1⟩ <;> rcases h2 with ⟨c2, e2⟩ | ⟨c2, d3, d4, d5, d6, e2⟩
  · rw [e1, e2]
  · exfalso; omega
  · exfalso; omega
  · rw [e1, e2, show k2 = k from Int32.toInt_inj.mp ek, show ob2 = ob from Int32.toInt_inj.mp eo.symm]
theorem PD_m {jm : Nat → Int32} {em : Nat → Nat → Int32} (h : mInv jm em) : PD (em 3) := fun j => by
  have q : ((j : Int) ≤ 1 ∧ (em 3 j).toInt = -9) ∨ (2 ≤ (j : Int) ∧ (j : Int) ≤ 5 ∧ (em 3 j).toInt = 1) ∨ (6 ≤ (j : Int) ∧ 0 ≤ (em 3 j).toInt ∧ (em 3 j).toInt ≤ 23 ∧ (em 3 j).toInt < (j : Int)) := h.2 3 j
  omega
theorem SoR_k {pa pb so sb : Nat → Int32} {k kn kn2 : Int32} (h : SoR pa so kn) (hd : PD pa) (h1 : KU pa pb k kn) (h2 : KS so sb k kn) (hk : 6 ≤ kn.toInt ∧ kn.toInt ≤ 24) (h3 : (¬ (0 ≤ k.toInt ∧ k.toInt < kn.toInt ∧ kn.toInt ≤ 23) ∧ kn2.toInt = kn.toInt) ∨ ((0 ≤ k.toInt ∧ k.toInt < kn.toInt ∧ kn.toInt ≤ 23) ∧ kn2.toInt = kn.toInt + 1)) : SoR pb sb kn2 := by
  unfold KU at h1
  unfold KS at h2
  rcases h1 with ⟨c1, e1⟩ | ⟨c1, c2, c3, e1⟩
  · rcases h2 with ⟨d1, e2⟩ | ⟨d1, d2, d3, e2⟩
    · rw [e1, e2]; intro j hj; exact h j (by omega)
    · exfalso; omega
  · rcases h2 with ⟨d1, e2⟩ | ⟨d1, d2, d3, e2⟩
    · exfalso; omega
    · have en : kn.toNatClampNeg = kn.toInt.toNat := rfl
      have he : ∀ j : Nat, (j : Int) < kn.toInt → pb j = pa j := fun j hj => by rw [e1, pk_un (by omega)]
      intro j hj
      by_cases q : j = kn.toNatClampNeg
      · have ek : k.toNatClampNeg = k.toInt.toNat := rfl
        intro c g0 g1
        have a1 := h k.toNatClampNeg (by omega) c g0 g1
        have ej : (j : Int) = kn.toInt := by omega
        rw [show ((k.toNatClampNeg : Nat) : Int) = k.toInt by omega] at a1
        have e5 : kF pb (j : Int) = k.toInt := by
          rw [ej, kF_in (by omega) (by omega), e1, show kn.toInt.toNat = kn.toNatClampNeg from rfl, pk_us]
        rw [e2, q, pk_us, ← q, Ch_nx (by omega), e5, ← a1]
        exact kF_new he (fun j _ => hd j) (by omega) (by omega) (Or.inl (by omega))
      · intro c g0 g1
        rw [e2, pk_un q, ← h j (by omega) c g0 g1]
        exact kF_new he (fun j _ => hd j) (by omega) (by omega) (Or.inl (by omega))
theorem SoR_0 {pa so : Nat → Int32} {kn : Int32} (h6 : K6 pa) (hn : kn.toInt = 6) (hs : ∀ k : Nat, k < 6 → (so k).toInt = (k : Int)) : SoR pa so kn := by
  intro k hk c g0 g1
  rw [hs k (by omega)]
  constructor
  · intro h
    rcases (show k = 0 ∨ k = 1 ∨ (2 ≤ k ∧ k ≤ 5) by omega) with z | z | z
    · rw [z] at h; have := K6_0 h6 h; omega
    · rw [z] at h; have := K6_1 h6 h; omega
    · have := K6_a h6 (a := (k : Int)) (by omega) h; omega
  · intro h
    rcases h with h | ⟨h1, h2⟩
    · rw [h]; exact Ch_rf
    · rw [h1]; exact Ch_up (by rw [K6_f h6 (by omega)]; exact Ch_rf)
theorem RB_e {pa ko so cs cl pa2 ko2 cs2 cl2 : Nat → Int32} {w n1 o w2 n2 o2 kn ob : Int32} (h6 : K6 pa2) (e1 : pa = pa2) (e2 : ko = ko2) (e3 : cs = cs2) (e4 : cl = cl2) (hS : SoR pa so kn) (hk : ∀ j : Nat, (j : Int) < ob.toInt → (ko2 j).toInt < kn.toInt) (hk0 : ∀ j, 0 ≤ (ko2 j).toInt) (hc : 0 ≤ (cs w.toNatClampNeg).toInt ∧ (cs w.toNatClampNeg).toInt ≤ 5) (ho : o.toInt = -9 ∨ (0 ≤ o.toInt ∧ o.toInt < ob.toInt)) (ew : w2.toInt = w.toInt) (en : n2.toInt = n1.toInt) (eo : o2.toInt = o.toInt) : RBx ko so cs cl w n1 o ↔ RBm pa2 ko2 cs2 cl2 w2 n2 o2 := by
  subst e1 e2 e3 e4
  unfold RBx RBm
  rw [cl_e ew, en, eo]
  rcases ho with ho | ho
  · constructor <;> exact fun h => ⟨h.1, h.2.1, Or.inl ho⟩
  · have q1 := hk o.toInt.toNat (by omega)
    have q2 := hk0 o.toInt.toNat
    have ek : (ko o.toInt.toNat).toNatClampNeg = (ko o.toInt.toNat).toInt.toNat := rfl
    have a0 := hS (ko o.toInt.toNat).toNatClampNeg (by omega)
    rw [show (((ko o.toInt.toNat).toNatClampNeg : Nat) : Int) = (ko o.toInt.toNat).toInt by omega] at a0
    have b0 : Kd pa ko o.toInt 0 ↔ _ := a0 0 (by omega) (by omega)
    have b1 : Kd pa ko o.toInt (cs w.toNatClampNeg).toInt ↔ _ := a0 _ hc.1 hc.2
    rw [b0, b1]
    constructor
    · intro ⟨h1, h2, h3⟩
      refine ⟨h1, h2, ?_⟩
      rcases h3 with h3 | ⟨h3, h4⟩
      · exact Or.inl h3
      · exact Or.inr ⟨by omega, h4⟩
    · intro ⟨h1, h2, h3⟩
      refine ⟨h1, h2, ?_⟩
      rcases h3 with h3 | ⟨h3, h4⟩
      · exact Or.inl h3
      · exact Or.inr ⟨by omega, h4⟩
theorem RoR_r {a b a2 b2 : Nat → Int32} {w n1 o md ob r w2 n2 o2 md2 ob2 r2 : Int32} {B B2 : Prop} (h : RoR a a2 md) (h1 : RoW a b w n1 o md ob r B) (h2 : RoW a2 b2 w2 n2 o2 md2 ob2 r2 B2) (hB : RA w o md ob → (B ↔ B2)) (hB2 : B → 0 ≤ n1.toInt ∧ n1.toInt ≤ 11) (ew : w2.toInt = w.toInt) (en : n2.toInt = n1.toInt) (eo : o2.toInt = o.toInt) (em : md.toInt = md2.toInt) (eb : ob.toInt = ob2.toInt) (hm : md.toInt ≤ 10) : RoR b b2 md := by
  have hA : RA w o md ob ↔ RA w2 o2 md2 ob2 := by unfold RA; rw [ew, eo, em, eb]
  unfold RoW at h1 h2
  rcases h1 with ⟨c1, c2, e1⟩ | ⟨c1, c3, c2, e1⟩ | ⟨c1, c3, c2, e1⟩ <;> rcases h2 with ⟨d1, d2, e2⟩ | ⟨d1, d3, d2, e2⟩ | ⟨d1, d3, d2, e2⟩
  · rw [e1, e2]; exact h
  · exact absurd (hA.mpr d1) c1
  · exact absurd (hA.mpr d1) c1
  · exact absurd (hA.mp c1) d1
  · rw [e1, e2]; exact h
  · exact absurd ((hB c1).mpr d3) c3
  · exact absurd (hA.mp c1) d1
  · exact absurd ((hB c1).mp c3) d3
  · obtain ⟨r0, r1, _⟩ := c1
    have hn := hB2 c3
    rw [e1, e2, ew, en, show o2 = o from Int32.toInt_inj.mp eo]
    intro j hj
    obtain ⟨g1, g2⟩ := h j hj
    by_cases q : j = (w.toInt * 12 + n1.toInt).toNat
    · subst q
      rw [pk_us, pk_us]
      exact ⟨fun _ => rfl, fun z => by exfalso; omega⟩
    · rw [pk_un q, pk_un q]; exact ⟨g1, g2⟩
theorem CU_e {a b a2 b2 c e r c2 e2 r2 : Nat → Int32} {s1 n1 md s2 n2 md2 : Int32} (ha : a = c) (hb : b = e) (h1 : CUx a b a2 b2 s1 n1 md) (h2 : CUm c e r c2 e2 r2 s2 n2 md2) (es : s2.toInt = s1.toInt) (en : n2.toInt = n1.toInt) (em : md.toInt = md2.toInt) : a2 = c2 ∧ b2 = e2 := by
  subst ha hb
  unfold CUx CNew at h1
  unfold CUm CNew at h2
  rcases h1 with ⟨c1, x1, x2⟩ | ⟨c1, x1, x2⟩ <;> rcases h2 with ⟨d1, y1, y2, _⟩ | ⟨d1, y1, y2, _⟩
  · rw [x1, x2, y1, y2]; exact ⟨rfl, rfl⟩
  · exfalso; omega
  · exfalso; omega
  · rw [x1, x2, y1, y2, show s2 = s1 from Int32.toInt_inj.mp es, show n2 = n1 from Int32.toInt_inj.mp en, show md2 = md from Int32.toInt_inj.mp em.symm]; exact ⟨rfl, rfl⟩
theorem RoR_c {x c e r c2 e2 r2 : Nat → Int32} {s2 n2 md md2 mdn : Int32} (h : RoR x r md) (h2 : CUm c e r c2 e2 r2 s2 n2 md2) (em : md.toInt = md2.toInt) (hm : 0 ≤ md.toInt) (h3 : (¬ CNew s2 n2 md2 ∧ mdn.toInt = md.toInt) ∨ (CNew s2 n2 md2 ∧ mdn.toInt = md.toInt + 1)) : RoR x r2 mdn := by
  unfold CUm at h2
  rcases h2 with ⟨d1, _, _, y3⟩ | ⟨d1, _, _, y3⟩
  · rcases h3 with ⟨_, g⟩ | ⟨g, _⟩
    · rw [y3]; intro j hj; rw [g]; exact h j hj
    · exact absurd g d1
  · rcases h3 with ⟨g, _⟩ | ⟨_, g⟩
    · exact absurd d1 g
    · intro j hj
      obtain ⟨g1, g2⟩ := h j hj
      refine ⟨fun hl => ?_, fun hl => g2 (by omega)⟩
      rw [y3 j]
      by_cases p : 12 * md2.toInt ≤ (j : Int) ∧ (j : Int) < 12 * md2.toInt + 12
      · rw [if_pos p]; exact Int32.toInt_inj.mp (by rw [g2 (by omega)]; decide)
      · rw [if_neg p]; exact g1 (by omega)
theorem WhR_e {ro cl ro2 cl2 : Nat → Int32} {w n1 md r w2 n2 md2 r2 : Int32} (e4 : cl = cl2) (h : RoR ro ro2 md) (h1 : WhR ro cl w n1 md r) (h2 : WhR ro2 cl2 w2 n2 md2 r2) (ew : w2.toInt = w.toInt) (en : n2.toInt = n1.toInt) (em : md.toInt = md2.toInt) (hm : md.toInt ≤ 10) : r = r2 := by
  subst e4
  apply Int32.toInt_inj.mp
  unfold WhR at h1 h2
  rw [cl_e ew, ew, en, ← em] at h2
  by_cases q : 0 ≤ w.toInt ∧ w.toInt < md.toInt ∧ 0 ≤ n1.toInt ∧ n1.toInt ≤ 11
  · have g := (h (w.toInt * 12 + n1.toInt).toNat (by omega)).1 (by omega)
    rw [← g] at h2
    rcases h1 with h1 | h1 | ⟨_, _, _, _, _, h1 | ⟨_, h1⟩⟩ <;> rcases h2 with h2 | h2 | ⟨_, _, _, _, _, h2 | ⟨_, h2⟩⟩
    all_goals first | omega | (rw [h1, h2]) | (exfalso; omega)
  · rcases h1 with h1 | h1 | h1 <;> rcases h2 with h2 | h2 | h2
    all_goals first | omega | (exfalso; omega)
def LI (i : Nat → Int32) (c : Nat → Nat → Int32) (jm : Nat → Int32) (em : Nat → Nat → Int32) : Prop := xInv i c ∧ xFl (c 113) (c 115) ∧ PJ (i 146) (i 147) (i 156) (i 148) (c 150) (c 144) (c 145) ∧ (i 141).toInt = 0 ∧ mInv jm em ∧ SJ (em 3) (em 6) (em 9) (em 10) (em 11) (em 13) (jm 2).toInt (jm 5).toInt (jm 8).toInt ∧ TJ (em 3) (em 6) (em 23) (em 24) (em 29) (em 30) (jm 5).toInt (jm 22).toInt (jm 27).toInt ∧ LRel (i 110) (i 111) (i 165) (c 107) (jm 2) (jm 5) (jm 64) (em 4) ∧ (c 105) = (em 3) ∧ (c 108) = (em 6) ∧ SoR (c 105) (c 106) (i 110) ∧ (c 162) = (em 65) ∧ (c 163) = (em 66) ∧ RoR (c 164) (em 67) (i 165)
def LK (p : Program) (l : Launch) (e : Env) (s : State) (m : MethodId) (below : List Frame) (meth : Method) (cd : Code) (b : Nat) (D : va_G) (sk : Value) (a : Nat → Nat) (t : Nat → ClassId) (Z : va_W) (o : Nat) (am : Nat → Nat) (tm : Nat → ClassId) (x3 : Int32) (cells slots : Nat) : Prop := ∀ (i : Nat → Int32) (q : Int64) (c : Nat → Nat → Int32) (d : Nat → Nat → Int64) (jm : Nat → Int32) (qm : Int64) (em : Nat → Nat → Int32) (dm : Nat → Nat → Int64) (H : Heap) (locs : List Loc) (ls : Array Slot), LI i c jm em → va_P D vwCl (xwT sk a t i q c d ++ (Z ++ mW o am tm jm qm em dm)) H → va_D (fun q : Nat => s.heap.size ≤ q) (xwT sk a t i q c d ++ (Z ++ mW o am tm jm qm em dm)) → va_S (fun q : Nat => s.heap.size ≤ q) s.heap H locs → lv_has ls 4 [(3, .int x3), (2, .ref o), (1, .ref (a 100)), (0, .ref b)] → W p l e room_1 s m #[Value.ref b] below meth cd H locs cells slots (lw_Z below #[Value.ref b] s) (F0 m 1461 ls [])
/-- where a seeker is: its cells may have changed -/
def LKS (p : Program) (l : Launch) (e : Env) (s : State) (m : MethodId) (below : List Frame) (meth : Method) (cd : Code) (b : Nat) (D : va_G) (az : Nat → Nat) (tz : Nat → ClassId) (a : Nat → Nat) (t : Nat → ClassId) (o : Nat) (am : Nat → Nat) (tm : Nat → ClassId) (x3 : Int32) (cells slots : Nat) : Prop := ∀ (i : Nat → Int32) (q : Int64) (c : Nat → Nat → Int32) (d : Nat → Nat → Int64) (iz : Nat → Int32) (cz : Nat → Nat → Int32) (dz : Nat → Nat → Int64) (jm : Nat → Int32) (qm : Int64) (em : Nat → Nat → Int32) (dm : Nat → Nat → Int64) (H : Heap) (locs : List Loc) (ls : Array Slot), LI i c jm em → xInv iz cz → va_P D vwCl (xwT (.ref (az 166)) a t i q c d ++ (xwZ .null (fun k => if k < 166 then a k else az k) tz iz 0 cz dz ++ mW o am tm jm qm em dm)) H → va_D (fun q : Nat => s.heap.size ≤ q) (xwT (.ref (az 166)) a t i q c d ++ (xwZ .null (fun k => if k < 166 then a k else az k) tz iz 0 cz dz ++ mW o am tm jm qm em dm)) → va_S (fun q : Nat => s.heap.size ≤ q) s.heap H locs → lv_has ls 4 [(3, .int x3), (2, .ref o), (1, .ref (a 100)), (0, .ref b)] → W p l e room_1 s m #[Value.ref b] below meth cd H locs cells slots (lw_Z below #[Value.ref b] s) (F0 m 1461 ls [])
theorem xInv_m {i iz : Nat → Int32} {c cz : Nat → Nat → Int32} (hI : xInv i c) (hz : xInv iz cz) : xInv (fun k => if k < 166 then i k else iz k) (fun k => if k < 166 then c k else cz k) := by
  refine ⟨fun k => ?_, fun k j => ?_⟩
  · by_cases h : k < 166
    · show xR k (if k < 166 then i k else iz k).toInt
      rw [if_pos h]; exact hI.1 k
    · show xR k (if k < 166 then i k else iz k).toInt
      rw [if_neg h]; exact hz.1 k
  · by_cases h : k < 166
    · show xE k j ((if k < 166 then c k else cz k) j).toInt
      rw [if_pos h]; exact hI.2 k j
    · show xE k j ((if k < 166 then c k else cz k) j).toInt
      rw [if_neg h]; exact hz.2 k j


