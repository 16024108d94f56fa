/-! THE CLAIM OUT OF ONE WALK OF THE LAW'S BODY. Your part is whole_start (and what it stands on); all else here is the same for every law, but numbers. -/
def R_law : String := "TalePlayLaw"
def lw_P (b : Addr) (xs : List Int32) (args : Array Value) (s : State) : Prop := args = #[.ref b] ∧ s.IntsAt b xs ∧ xs.length ≤ 3584 ∧ (Jvm.Cond.and given_1 narrow_1).before args s = true
def lw_Q (_ : Array Value) (s : State) (o : Outcome) (t : State) : Prop := o = .returned (some (.int 1)) ∧ Framed s o t [] 600000 7302249
def lw_Z (below : List Frame) (a : Array Value) (s : State) : State → Prop := fun t => ∃ o, t.status = .running ∧ Ended t below o ∧ lw_Q a s o t
/-- the law's own end, with 1 on the stack, nothing written that was there before, its room as the claim has it -/
theorem lw_ret {p : Program} {l : Launch} {e : Env} {s : State} {m : MethodId} {below : List Frame} {meth : Method} {c : Code} {b : Nat} (hx : p.tables.exec = Jvm.exec) (hb : c.code = code) (hr : meth.sig.returnType = ret) (hlocks : meth.locks = false) {pc : Nat} {H : Heap} {ls : Array Slot} (hdg : decode code pc = .ok (.ireturn, 1)) : W p l e room_1 s m #[Value.ref b] below meth c H [] 600000 7302249 (lw_Z below #[Value.ref b] s) (F0 m pc ls [.int 1]) := by
  intro T hT X
  obtain ⟨fs, hret, hrun, hended, hW, hframe⟩ := X.leave (v := some (.int 1)) (hlocks := hlocks) (fun h => by rw [hr] at h; cases h)
  have hmeth' : T.vm.method? m = some meth := X.method'
  refine ⟨T.setFrames fs, ?_, .returned (some (.int 1)), hrun, hended, rfl, ⟨_, rfl⟩, hW, hframe⟩
  jvm_step X.here [X.here.top, hx, hb, hdg, hmeth', hr, ret, narrow_b1]
  (try refine ⟨rfl, ?_⟩); (try refine ⟨rfl, ?_⟩)
  first | (intro acts; rw [hret _ acts rfl rfl rfl]) | rw [hret _ _ rfl rfl rfl]
  exact Steps.refl _
/-- what holds at the law's entry: the machine, the code, the tables' words (any of lw_tbl by 'hts w (by decide +kernel)'), the script of L ints xs at the cell b, what the Statement gives of the start (any of its parts by flat_of_before) -/
def lw_At (p : Program) (s : State) (m : MethodId) (meth : Method) (c : Code) (b L : Nat) (xs : Nat → Int32) : Prop :=
  p.tables.exec = Jvm.exec ∧ c.code = code ∧ meth.sig.returnType = ret ∧ c.maxLocals = 4 ∧ s.vm.findClass R_law = some m.cls ∧ (∀ w ∈ lw_tbl, w.before #[Value.ref b] s = true) ∧ va_X b L xs s s.heap ∧ b < s.heap.size ∧ meth.locks = false ∧ (Jvm.Cond.and given_1 narrow_1).before #[Value.ref b] s = true
/-! what holds between two calls of the law -/
def LRel (kn ob md : Int32) (st : Nat → Int32) (kn2 ob2 md2 : Int32) (st2 : Nat → Int32) : Prop := kn.toInt = kn2.toInt ∧ ob.toInt = ob2.toInt ∧ md.toInt = md2.toInt ∧ ∀ j : Nat, j < 144 → st j = st2 j
theorem LRel_su {kn ob md kn2 ob2 md2 k f v k2 f2 v2 : Int32} {a b a2 b2 : Nat → Int32} (h : LRel kn ob md a kn2 ob2 md2 a2) (h1 : StU a b k f v kn.toInt) (h2 : StU a2 b2 k2 f2 v2 kn2.toInt) (ek : k2.toInt = k.toInt) (ef : f2.toInt = f.toInt) (ev : v2.toInt = v.toInt) : LRel kn ob md b kn2 ob2 md2 b2 := by
  obtain ⟨r1, r2, r3, r4⟩ := h
  refine ⟨r1, r2, r3, fun j hj => ?_⟩
  unfold StU StB at h1 h2
  rcases h1 with ⟨c1, e1⟩ | ⟨c1, e1⟩ <;> rcases h2 with ⟨c2, e2⟩ | ⟨c2, e2⟩
  · rw [e1, e2]; exact r4 j hj
  · exfalso; omega
  · exfalso; omega
  · rw [e1, e2, show k2.toInt * 6 + f2.toInt = k.toInt * 6 + f.toInt by omega, show v2 = v from Int32.toInt_inj.mp ev]
    by_cases q : j = (k.toInt * 6 + f.toInt).toNat
    · subst q; rw [pk_us, pk_us]
    · rw [pk_un q, pk_un q]; exact r4 j hj
theorem KU_e {a b a2 b2 : Nat → Int32} {k kn k2 kn2 : Int32} (h : a = a2) (h1 : KU a b k kn) (h2 : KU a2 b2 k2 kn2) (ek : k2.toInt = k.toInt) (en : kn.toInt = kn2.toInt) : b = b2 := by
  subst h
  unfold KU at h1 h2
  rcases h1 with ⟨c1, e1⟩ | ⟨c1, c3, c4, e1⟩ <;> rcases h2 with ⟨c2, e2⟩ | ⟨c2, c5, c6, e2⟩
  · rw [e1, e2]
  · exfalso; omega
  · exfalso; omega
  · rw [e1, e2, show k2 = k from Int32.toInt_inj.mp ek, show kn2 = kn from Int32.toInt_inj.mp en.symm]
theorem OU_e {a b a2 b2 : Nat → Int32} {k s1 kn ob k2 s2 kn2 ob2 : Int32} (h : a = a2) (h1 : OU a b k s1 kn ob) (h2 : OU a2 b2 k2 s2 kn2 ob2) (ek : k2.toInt = k.toInt) (es : s2.toInt = s1.toInt) (en : kn.toInt = kn2.toInt) (eo : ob.toInt = ob2.toInt) : b = b2 := by
  subst h
  unfold OU at h1 h2
  rcases h1 with ⟨c1, e1⟩ | ⟨c1, c3, c4, c5, c6, e1⟩ <;> rcases h2 with ⟨c2, e2⟩ | ⟨c2, d3, d4, d5, d6, e2⟩
  · rw [e1, e2]
  · exfalso; omega
  · exfalso; omega
  · rw [e1, e2, show k2 = k from Int32.toInt_inj.mp ek, show ob2 = ob from Int32.toInt_inj.mp eo.symm]
theorem PD_m {jm : Nat → Int32} {em : Nat → Nat → Int32} (h : mInv jm em) : PD (em 3) := fun j => by
  have q : ((j : Int) ≤ 1 ∧ (em 3 j).toInt = -9) ∨ (2 ≤ (j : Int) ∧ (j : Int) ≤ 5 ∧ (em 3 j).toInt = 1) ∨ (6 ≤ (j : Int) ∧ 0 ≤ (em 3 j).toInt ∧ (em 3 j).toInt ≤ 23 ∧ (em 3 j).toInt < (j : Int)) := h.2 3 j
  omega
theorem SoR_k {pa pb so sb : Nat → Int32} {k kn kn2 : Int32} (h : SoR pa so kn) (hd : PD pa) (h1 : KU pa pb k kn) (h2 : KS so sb k kn) (hk : 6 ≤ kn.toInt ∧ kn.toInt ≤ 24) (h3 : (¬ (0 ≤ k.toInt ∧ k.toInt < kn.toInt ∧ kn.toInt ≤ 23) ∧ kn2.toInt = kn.toInt) ∨ ((0 ≤ k.toInt ∧ k.toInt < kn.toInt ∧ kn.toInt ≤ 23) ∧ kn2.toInt = kn.toInt + 1)) : SoR pb sb kn2 := by
  unfold KU at h1
  unfold KS at h2
  rcases h1 with ⟨c1, e1⟩ | ⟨c1, c2, c3, e1⟩
  · rcases h2 with ⟨d1, e2⟩ | ⟨d1, d2, d3, e2⟩
    · rw [e1, e2]; intro j hj; exact h j (by omega)
    · exfalso; omega
  · rcases h2 with ⟨d1, e2⟩ | ⟨d1, d2, d3, e2⟩
    · exfalso; omega
    · have en : kn.toNatClampNeg = kn.toInt.toNat := rfl
      have he : ∀ j : Nat, (j : Int) < kn.toInt → pb j = pa j := fun j hj => by rw [e1, pk_un (by omega)]
      intro j hj
      by_cases q : j = kn.toNatClampNeg
      · have ek : k.toNatClampNeg = k.toInt.toNat := rfl
        intro c g0 g1
        have a1 := h k.toNatClampNeg (by omega) c g0 g1
        have ej : (j : Int) = kn.toInt := by omega
        rw [show ((k.toNatClampNeg : Nat) : Int) = k.toInt by omega] at a1
        have e5 : kF pb (j : Int) = k.toInt := by
          rw [ej, kF_in (by omega) (by omega), e1, show kn.toInt.toNat = kn.toNatClampNeg from rfl, pk_us]
        rw [e2, q, pk_us, ← q, Ch_nx (by omega), e5, ← a1]
        exact kF_new he (fun j _ => hd j) (by omega) (by omega) (Or.inl (by omega))
      · intro c g0 g1
        rw [e2, pk_un q, ← h j (by omega) c g0 g1]
        exact kF_new he (fun j _ => hd j) (by omega) (by omega) (Or.inl (by omega))
theorem SoR_0 {pa so : Nat → Int32} {kn : Int32} (h6 : K6 pa) (hn : kn.toInt = 6) (hs : ∀ k : Nat, k < 6 → (so k).toInt = (k : Int)) : SoR pa so kn := by
  intro k hk c g0 g1
  rw [hs k (by omega)]
  constructor
  · intro h
    rcases (show k = 0 ∨ k = 1 ∨ (2 ≤ k ∧ k ≤ 5) by omega) with z | z | z
    · rw [z] at h; have := K6_0 h6 h; omega
    · rw [z] at h; have := K6_1 h6 h; omega
    · have := K6_a h6 (a := (k : Int)) (by omega) h; omega
  · intro h
    rcases h with h | ⟨h1, h2⟩
    · rw [h]; exact Ch_rf
    · rw [h1]; exact Ch_up (by rw [K6_f h6 (by omega)]; exact Ch_rf)
/-! by which sentences something is as it is: the rows of the class -/
def Px (F A S : Nat → Int32) (n : Int) (k s : Nat) : Prop := (s : Int) < n ∧ (S s).toInt = 1 ∧ (F s).toInt < 5 ∧ (A s).toInt = (k : Int)
def Ex (F A C S : Nat → Int32) (n : Int) (k s : Nat) : Prop := (s : Int) < n ∧ (S s).toInt = 1 ∧ (F s).toInt = 5 ∧ (A s).toInt * 10 + (C s).toInt = (k : Int)
def Fx (F A B S : Nat → Int32) (n : Int) (k s : Nat) : Prop := (s : Int) < n ∧ (S s).toInt = 1 ∧ (F s).toInt = 6 ∧ (A s).toInt * 6 + (B s).toInt = (k : Int)
def Kx (F B S : Nat → Int32) (n : Int) (k s : Nat) : Prop := (s : Int) < n ∧ (S s).toInt = 1 ∧ (F s).toInt = 7 ∧ (B s).toInt = (k : Int)
def Ix (P : Nat → Nat → Prop) (m : Nat) (b : Nat → Int32) : Prop := ∀ k s : Nat, k < m → (P k s ↔ (b k).toInt = (s : Int))
def Cx (F B pb ce : Nat → Int32) : Prop := ∀ o : Nat, o < 30 → ((pb o).toInt = -9 ∧ (ce o).toInt = 255) ∨ (0 ≤ (pb o).toInt ∧ (ce o).toInt = (B (pb o).toNatClampNeg).toInt * 8 + (F (pb o).toNatClampNeg).toInt)
def V6 (F C : Nat → Int32) (n : Int) : Prop := ∀ s : Nat, (s : Int) < n → (F s).toInt = 6 → (C s).toInt ≤ 1
def IX (F A B C S : Nat → Int32) (n : Int) (pb eb fb kb ce : Nat → Int32) : Prop := Ix (Px F A S n) 30 pb ∧ Ix (Ex F A C S n) 300 eb ∧ Ix (Fx F A B S n) 180 fb ∧ Ix (Kx F B S n) 30 kb ∧ Cx F B pb ce ∧ V6 F C n
theorem Ix_same {P P2 : Nat → Nat → Prop} {m : Nat} {b : Nat → Int32} (h : Ix P m b) (e : ∀ k s, k < m → (P2 k s ↔ P k s)) : Ix P2 m b := fun k s hk => (e k s hk).trans (h k s hk)
theorem Ix_add {P P2 : Nat → Nat → Prop} {m k0 s0 : Nat} {b : Nat → Int32} {v : Int32} (h : Ix P m b) (h0 : (b k0).toInt = -9) (hv : v.toInt = (s0 : Int)) (hm : k0 < m) (e : ∀ k s, k < m → (P2 k s ↔ P k s ∨ (k = k0 ∧ s = s0))) : Ix P2 m (upd b k0 v) := fun k s hk => by
  rw [e k s hk]
  by_cases q : k = k0
  · subst q
    rw [pk_us]
    have w := h k s hk
    constructor
    · rintro (z | z)
      · have := w.mp z; omega
      · omega
    · intro z; exact Or.inr ⟨rfl, by omega⟩
  · rw [pk_un q]
    exact ⟨fun z => (h k s hk).mp (z.resolve_right (fun y => q y.1)), fun z => Or.inl ((h k s hk).mpr z)⟩
theorem Ix_rm {P P2 : Nat → Nat → Prop} {m k0 s0 : Nat} {b : Nat → Int32} {v : Int32} (h : Ix P m b) (h0 : P k0 s0) (hv : v.toInt = -9) (hm : k0 < m) (hu : ∀ k, P k s0 → k = k0) (e : ∀ k s, k < m → (P2 k s ↔ P k s ∧ ¬ s = s0)) : Ix P2 m (upd b k0 v) := fun k s hk => by
  rw [e k s hk]
  by_cases q : k = k0
  · subst q
    rw [pk_us]
    have w := (h k s0 hk).mp h0
    constructor
    · rintro ⟨z, y⟩
      have := (h k s hk).mp z
      omega
    · intro z; omega
  · rw [pk_un q]
    constructor
    · intro z; exact (h k s hk).mp z.1
    · intro z
      have z2 := (h k s hk).mpr z
      exact ⟨z2, fun y => q (hu k (by rw [← y]; exact z2))⟩
theorem Ix_at {P : Nat → Nat → Prop} {m k : Nat} {b : Nat → Int32} (h : Ix P m b) (hm : k < m) (hr : (b k).toInt = -9 ∨ 0 ≤ (b k).toInt) : ((b k).toInt = -9 ∧ ∀ s, ¬ P k s) ∨ (0 ≤ (b k).toInt ∧ P k (b k).toNatClampNeg ∧ ∀ s, P k s → s = (b k).toNatClampNeg) := by
  have e : (b k).toNatClampNeg = (b k).toInt.toNat := rfl
  rcases hr with q | q
  · exact Or.inl ⟨q, fun s z => by have := (h k s hm).mp z; omega⟩
  · exact Or.inr ⟨q, (h k _ hm).mpr (by omega), fun s z => by have := (h k s hm).mp z; omega⟩
theorem un_i {n : Int} {s : Nat} (hn : 0 ≤ n) (h : (s : Int) < n) : ¬ s = n.toNat := by omega

