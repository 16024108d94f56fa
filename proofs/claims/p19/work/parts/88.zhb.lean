/-- a sentence more -/
theorem IX_add {F A B C S pb eb fb kb ce pb2 eb2 fb2 kb2 ce2 : Nat → Int32} {n : Int} {f a b c v : Int32} (h : IX F A B C S n pb eb fb kb ce) (hn : 0 ≤ n) (hv : v.toInt = n) (hf : 0 ≤ f.toInt ∧ f.toInt ≤ 7) (ha : 0 ≤ a.toInt ∧ a.toInt ≤ 29) (hb : 0 ≤ b.toInt ∧ b.toInt ≤ 29) (h6 : f.toInt = 6 → b.toInt ≤ 5 ∧ c.toInt ≤ 1) (h5 : f.toInt = 5 → 0 ≤ c.toInt ∧ c.toInt ≤ 9) (hfr : (sFv pb eb fb kb f.toInt a.toInt b.toInt c.toInt).toInt = -9) (hp : PT pb eb fb kb ce pb2 eb2 fb2 kb2 ce2 f.toInt a.toInt b.toInt c.toInt v) : IX (upd F n.toNat f) (upd A n.toNat a) (upd B n.toNat b) (upd C n.toNat c) (upd S n.toNat 1) (n + 1) pb2 eb2 fb2 kb2 ce2 := by
  obtain ⟨i1, i2, i3, i4, i5, i6⟩ := h
  have one : (1 : Int32).toInt = 1 := by decide
  have e1 : ∀ k s, Px (upd F n.toNat f) (upd A n.toNat a) (upd S n.toNat 1) (n + 1) k s ↔ Px F A S n k s ∨ (f.toInt < 5 ∧ a.toInt = (k : Int) ∧ s = n.toNat) := fun k s => by
    unfold Px
    by_cases q : s = n.toNat
    · subst q; rw [pk_us, pk_us, pk_us]; omega
    · rw [pk_un q, pk_un q, pk_un q]; omega
  have e2 : ∀ k s, Ex (upd F n.toNat f) (upd A n.toNat a) (upd C n.toNat c) (upd S n.toNat 1) (n + 1) k s ↔ Ex F A C S n k s ∨ (f.toInt = 5 ∧ a.toInt * 10 + c.toInt = (k : Int) ∧ s = n.toNat) := fun k s => by
    unfold Ex
    by_cases q : s = n.toNat
    · subst q; rw [pk_us, pk_us, pk_us, pk_us]; omega
    · rw [pk_un q, pk_un q, pk_un q, pk_un q]; omega
  have e3 : ∀ k s, Fx (upd F n.toNat f) (upd A n.toNat a) (upd B n.toNat b) (upd S n.toNat 1) (n + 1) k s ↔ Fx F A B S n k s ∨ (f.toInt = 6 ∧ a.toInt * 6 + b.toInt = (k : Int) ∧ s = n.toNat) := fun k s => by
    unfold Fx
    by_cases q : s = n.toNat
    · subst q; rw [pk_us, pk_us, pk_us, pk_us]; omega
    · rw [pk_un q, pk_un q, pk_un q, pk_un q]; omega
  have e4 : ∀ k s, Kx (upd F n.toNat f) (upd B n.toNat b) (upd S n.toNat 1) (n + 1) k s ↔ Kx F B S n k s ∨ (f.toInt = 7 ∧ b.toInt = (k : Int) ∧ s = n.toNat) := fun k s => by
    unfold Kx
    by_cases q : s = n.toNat
    · subst q; rw [pk_us, pk_us, pk_us]; omega
    · rw [pk_un q, pk_un q, pk_un q]; omega
  have i6' : V6 (upd F n.toNat f) (upd C n.toNat c) (n + 1) := fun s hs q => by
    by_cases z : s = n.toNat
    · subst z; rw [pk_us] at q ⊢; exact (h6 q).2
    · rw [pk_un z] at q ⊢; exact i6 s (by omega) q
  have i5' : Cx (upd F n.toNat f) (upd B n.toNat b) pb ce := fun o ho => by
    rcases i5 o ho with q | q
    · exact Or.inl q
    · have e : (pb o).toNatClampNeg = (pb o).toInt.toNat := rfl
      have w := (i1 o (pb o).toNatClampNeg ho).mpr (by omega)
      have z : ¬ (pb o).toNatClampNeg = n.toNat := un_i hn w.1
      rw [pk_un z, pk_un z]
      exact Or.inr q
  have nsm : ∀ {P P2 : Nat → Nat → Prop} {Q : Nat → Nat → Prop} {m : Nat} {x : Nat → Int32}, Ix P m x → (∀ k s, P2 k s ↔ P k s ∨ Q k s) → (∀ k s, ¬ Q k s) → Ix P2 m x := fun hI e nq => Ix_same hI (fun k s _ => (e k s).trans ⟨fun z => z.resolve_right (nq k s), Or.inl⟩)
  unfold sFv at hfr
  rcases hp with ⟨q, r1, r2, r3, r4, r5⟩ | ⟨q, r1, r2, r3, r4, r5⟩ | ⟨q, r1, r2, r3, r4, r5⟩ | ⟨q, r1, r2, r3, r4, w, r5, r6⟩
  · rw [if_pos q] at hfr
    rw [r1, r2, r3, r4, r5]
    have hc := h5 q
    refine ⟨nsm i1 e1 (fun k s z => by omega), Ix_add i2 hfr (s0 := n.toNat) (by omega) (by omega) (fun k s _ => (e2 k s).trans ⟨fun z => z.imp_right (fun y => by omega), fun z => z.imp_right (fun y => by omega)⟩), nsm i3 e3 (fun k s z => by omega), nsm i4 e4 (fun k s z => by omega), i5', i6'⟩
  · rw [if_neg (by omega), if_pos q] at hfr
    rw [r1, r2, r3, r4, r5]
    have hc := h6 q
    refine ⟨nsm i1 e1 (fun k s z => by omega), nsm i2 e2 (fun k s z => by omega), Ix_add i3 hfr (s0 := n.toNat) (by omega) (by omega) (fun k s _ => (e3 k s).trans ⟨fun z => z.imp_right (fun y => by omega), fun z => z.imp_right (fun y => by omega)⟩), nsm i4 e4 (fun k s z => by omega), i5', i6'⟩
  · rw [if_neg (by omega), if_neg (by omega), if_pos q] at hfr
    rw [r1, r2, r3, r4, r5]
    refine ⟨nsm i1 e1 (fun k s z => by omega), nsm i2 e2 (fun k s z => by omega), nsm i3 e3 (fun k s z => by omega), Ix_add i4 hfr (s0 := n.toNat) (by omega) (by omega) (fun k s _ => (e4 k s).trans ⟨fun z => z.imp_right (fun y => by omega), fun z => z.imp_right (fun y => by omega)⟩), i5', i6'⟩
  · rw [if_neg (by omega), if_neg (by omega), if_neg (by omega)] at hfr
    rw [r1, r2, r3, r4, r5]
    refine ⟨Ix_add i1 hfr (s0 := n.toNat) (by omega) (by omega) (fun k s _ => (e1 k s).trans ⟨fun z => z.imp_right (fun y => by omega), fun z => z.imp_right (fun y => by omega)⟩), nsm i2 e2 (fun k s z => by omega), nsm i3 e3 (fun k s z => by omega), nsm i4 e4 (fun k s z => by omega), fun o ho => ?_, i6'⟩
    by_cases z : o = a.toInt.toNat
    · subst z
      rw [pk_us, pk_us, show v.toNatClampNeg = n.toNat by show v.toInt.toNat = n.toNat; rw [hv], pk_us, pk_us]
      exact Or.inr ⟨by omega, by omega⟩
    · rw [pk_un z, pk_un z]; exact i5' o ho
/-- a sentence is taken back -/
theorem IX_rm {F A B C S pb eb fb kb ce pb2 eb2 fb2 kb2 ce2 : Nat → Int32} {n : Int} {s0 : Nat} {v : Int32} (h : IX F A B C S n pb eb fb kb ce) (hs : (s0 : Int) < n) (hS : (S s0).toInt = 1) (hv : v.toInt = -9) (ha : 0 ≤ (A s0).toInt ∧ (A s0).toInt ≤ 29) (hb : 0 ≤ (B s0).toInt ∧ (B s0).toInt ≤ 29) (h6 : (F s0).toInt = 6 → (B s0).toInt ≤ 5) (hc : 0 ≤ (C s0).toInt ∧ (C s0).toInt ≤ 9) (hp : PT pb eb fb kb ce pb2 eb2 fb2 kb2 ce2 (F s0).toInt (A s0).toInt (B s0).toInt (C s0).toInt v) : IX F A B C (upd S s0 0) n pb2 eb2 fb2 kb2 ce2 := by
  obtain ⟨i1, i2, i3, i4, i5, i6⟩ := h
  have zero : (0 : Int32).toInt = 0 := by decide
  have e1 : ∀ k s, Px F A (upd S s0 0) n k s ↔ Px F A S n k s ∧ ¬ s = s0 := fun k s => by
    unfold Px
    by_cases q : s = s0
    · subst q; rw [pk_us]; omega
    · rw [pk_un q]; omega
  have e2 : ∀ k s, Ex F A C (upd S s0 0) n k s ↔ Ex F A C S n k s ∧ ¬ s = s0 := fun k s => by
    unfold Ex
    by_cases q : s = s0
    · subst q; rw [pk_us]; omega
    · rw [pk_un q]; omega
  have e3 : ∀ k s, Fx F A B (upd S s0 0) n k s ↔ Fx F A B S n k s ∧ ¬ s = s0 := fun k s => by
    unfold Fx
    by_cases q : s = s0
    · subst q; rw [pk_us]; omega
    · rw [pk_un q]; omega
  have e4 : ∀ k s, Kx F B (upd S s0 0) n k s ↔ Kx F B S n k s ∧ ¬ s = s0 := fun k s => by
    unfold Kx
    by_cases q : s = s0
    · subst q; rw [pk_us]; omega
    · rw [pk_un q]; omega
  have nsm : ∀ {P P2 : Nat → Nat → Prop} {m : Nat} {x : Nat → Int32}, Ix P m x → (∀ k s, P2 k s ↔ P k s ∧ ¬ s = s0) → (∀ k, ¬ P k s0) → Ix P2 m x := fun hI e nq => Ix_same hI (fun k s _ => (e k s).trans ⟨fun z => z.1, fun z => ⟨z, fun y => nq k (by rw [← y]; exact z)⟩⟩)
  have n1 : ¬ (F s0).toInt < 5 → ∀ k, ¬ Px F A S n k s0 := fun q k z => q z.2.2.1
  have n2 : ¬ (F s0).toInt = 5 → ∀ k, ¬ Ex F A C S n k s0 := fun q k z => q z.2.2.1
  have n3 : ¬ (F s0).toInt = 6 → ∀ k, ¬ Fx F A B S n k s0 := fun q k z => q z.2.2.1
  have n4 : ¬ (F s0).toInt = 7 → ∀ k, ¬ Kx F B S n k s0 := fun q k z => q z.2.2.1
  rcases hp with ⟨q, r1, r2, r3, r4, r5⟩ | ⟨q, r1, r2, r3, r4, r5⟩ | ⟨q, r1, r2, r3, r4, r5⟩ | ⟨q, r1, r2, r3, r4, w, r5, r6⟩
  · rw [r1, r2, r3, r4, r5]
    exact ⟨nsm i1 e1 (n1 (by omega)), Ix_rm i2 (s0 := s0) ⟨hs, hS, q, by omega⟩ hv (by omega) (fun k z => by have y := z.2.2.2; omega) (fun k s _ => e2 k s), nsm i3 e3 (n3 (by omega)), nsm i4 e4 (n4 (by omega)), i5, i6⟩
  · rw [r1, r2, r3, r4, r5]
    have hb2 := h6 q
    exact ⟨nsm i1 e1 (n1 (by omega)), nsm i2 e2 (n2 (by omega)), Ix_rm i3 (s0 := s0) ⟨hs, hS, q, by omega⟩ hv (by omega) (fun k z => by have y := z.2.2.2; omega) (fun k s _ => e3 k s), nsm i4 e4 (n4 (by omega)), i5, i6⟩
  · rw [r1, r2, r3, r4, r5]
    exact ⟨nsm i1 e1 (n1 (by omega)), nsm i2 e2 (n2 (by omega)), nsm i3 e3 (n3 (by omega)), Ix_rm i4 (s0 := s0) ⟨hs, hS, q, by omega⟩ hv (by omega) (fun k z => by have y := z.2.2.2; omega) (fun k s _ => e4 k s), i5, i6⟩
  · rw [r1, r2, r3, r4, r5]
    refine ⟨Ix_rm i1 (s0 := s0) ⟨hs, hS, q, by omega⟩ hv (by omega) (fun k z => by have y := z.2.2.2; omega) (fun k s _ => e1 k s), nsm i2 e2 (n2 (by omega)), nsm i3 e3 (n3 (by omega)), nsm i4 e4 (n4 (by omega)), fun o ho => ?_, i6⟩
    by_cases z : o = (A s0).toInt.toNat
    · subst z
      rw [pk_us, pk_us]
      exact Or.inl ⟨hv, by omega⟩
    · rw [pk_un z, pk_un z]; exact i5 o ho
/-- the ranges of the rows -/
def RR (F A B C pb eb fb kb : Nat → Int32) : Prop := (∀ s, 0 ≤ (F s).toInt ∧ (F s).toInt ≤ 7 ∧ 0 ≤ (A s).toInt ∧ (A s).toInt ≤ 29 ∧ 0 ≤ (B s).toInt ∧ (B s).toInt ≤ 29 ∧ 0 ≤ (C s).toInt ∧ (C s).toInt ≤ 9) ∧ (∀ k, ((pb k).toInt = -9 ∨ 0 ≤ (pb k).toInt) ∧ ((eb k).toInt = -9 ∨ 0 ≤ (eb k).toInt) ∧ ((fb k).toInt = -9 ∨ 0 ≤ (fb k).toInt) ∧ ((kb k).toInt = -9 ∨ 0 ≤ (kb k).toInt)) ∧ ∀ s, (F s).toInt = 6 → (B s).toInt ≤ 5
theorem IX_pL {F A B C S pb eb fb kb ce : Nat → Int32} {n : Int} (h : IX F A B C S n pb eb fb kb ce) (hr : RR F A B C pb eb fb kb) {x : Int} (h0 : 0 ≤ x) (h1 : x ≤ 29) : pL F A S n x = (pb x.toNat).toInt := by
  have e : (pb x.toNat).toNatClampNeg = (pb x.toNat).toInt.toNat := rfl
  refine (fsF_e ?_).symm
  rcases Ix_at h.1 (k := x.toNat) (by omega) (hr.2.1 _).1 with ⟨a, b⟩ | ⟨a, b, d⟩
  · exact Or.inl ⟨a, fun s hs q => b s ⟨by omega, q.1, q.2.1, by rw [q.2.2]; omega⟩⟩
  · refine Or.inr ⟨(pb x.toNat).toNatClampNeg, by omega, by have := b.1; omega, ⟨b.2.1, b.2.2.1, by have := b.2.2.2; omega⟩, fun s hs q => ?_⟩
    have := d s ⟨by have := b.1; omega, q.1, q.2.1, by rw [q.2.2]; omega⟩
    omega
theorem IX_hF {F A B C S pb eb fb kb ce : Nat → Int32} {n : Int} (h : IX F A B C S n pb eb fb kb ce) (hr : RR F A B C pb eb fb kb) : hF ce = fP F A B S n := by
  funext x
  unfold hF fP
  by_cases q : 0 ≤ x ∧ x ≤ 29
  · have w := IX_pL h hr q.1 q.2
    have rF := hr.1 (pb x.toNat).toNatClampNeg
    have e : (pb x.toNat).toNatClampNeg = (pb x.toNat).toInt.toNat := rfl
    rw [w]
    rcases Ix_at h.1 (k := x.toNat) (by omega) (hr.2.1 _).1 with ⟨a, b⟩ | ⟨a, b, d⟩
    · rcases h.2.2.2.2.1 x.toNat (by omega) with c | c
      · rw [if_neg (fun y => by omega), if_neg (fun y => y.2.2 a)]
      · exfalso; omega
    · rcases h.2.2.2.2.1 x.toNat (by omega) with c | c
      · exfalso; omega
      · have f5 := b.2.2.1
        rw [if_pos ⟨q.1, q.2, by omega⟩, if_pos ⟨q.1, q.2, by omega⟩, ← e]
        omega
  · rw [if_neg (fun y => q ⟨y.1, y.2.1⟩), if_neg (fun y => q ⟨y.1, y.2.1⟩)]
theorem Sy_e {F A B C S pb eb fb kb ce : Nat → Int32} {n a g v : Int} (h : IX F A B C S n pb eb fb kb ce) (hr : RR F A B C pb eb fb kb) (ha : 0 ≤ a ∧ a ≤ 29) (hg : 0 ≤ g ∧ g ≤ 5) : SyX fb C a g v ↔ ∃ s : Nat, (s : Int) < n ∧ sE F A B C S 6 a g v s := by
  have e : (fb (a * 6 + g).toNat).toNatClampNeg = (fb (a * 6 + g).toNat).toInt.toNat := rfl
  unfold SyX
  constructor
  · rintro ⟨q1, q2⟩
    rcases Ix_at h.2.2.1 (k := (a * 6 + g).toNat) (by omega) (hr.2.1 _).2.2.1 with ⟨x, b⟩ | ⟨x, b, d⟩
    · exact absurd x q1
    · have r := hr.1 (fb (a * 6 + g).toNat).toNatClampNeg
      have k := b.2.2.2
      have r6 := hr.2.2 _ b.2.2.1
      exact ⟨_, b.1, b.2.1, b.2.2.1, by omega, by omega, q2⟩
  · rintro ⟨s, q, w1, w2, w3, w4, w5⟩
    have z := (h.2.2.1 (a * 6 + g).toNat s (by omega)).mp ⟨q, w1, w2, by omega⟩
    refine ⟨by omega, ?_⟩
    rw [show (fb (a * 6 + g).toNat).toNatClampNeg = s by omega]; exact w5
theorem Do_e {F A B C S pb eb fb kb ce : Nat → Int32} {n a b : Int} (h : IX F A B C S n pb eb fb kb ce) (hr : RR F A B C pb eb fb kb) (ha : 0 ≤ a ∧ a ≤ 29) : (∃ d : Nat, (d : Int) < 10 ∧ DP eb B a b d) ↔ ∃ s : Nat, (s : Int) < n ∧ aP F A B S a b s := by
  constructor
  · rintro ⟨d, q, q1, q2⟩
    have e : (eb (a * 10 + (d : Int)).toNat).toNatClampNeg = (eb (a * 10 + (d : Int)).toNat).toInt.toNat := rfl
    rcases Ix_at h.2.1 (k := (a * 10 + (d : Int)).toNat) (by omega) (hr.2.1 _).2.1 with ⟨x, b⟩ | ⟨x, b, y⟩
    · exact absurd x q1
    · have r := hr.1 (eb (a * 10 + (d : Int)).toNat).toNatClampNeg
      have k := b.2.2.2
      exact ⟨_, b.1, b.2.1, b.2.2.1, by omega, q2⟩
  · rintro ⟨s, q, w1, w2, w3, w4⟩
    have r := hr.1 s
    have ec : (((C s).toInt.toNat : Nat) : Int) = (C s).toInt := by omega
    have z := (h.2.1 (a * 10 + (((C s).toInt.toNat : Nat) : Int)).toNat s (by omega)).mp ⟨q, w1, w2, by omega⟩
    refine ⟨(C s).toInt.toNat, by omega, by omega, ?_⟩
    rw [show (eb (a * 10 + (((C s).toInt.toNat : Nat) : Int)).toNat).toNatClampNeg = s by show (eb (a * 10 + (((C s).toInt.toNat : Nat) : Int)).toNat).toInt.toNat = s; omega]; exact w4
/-- where a slot is free or not -/
theorem Sl_e {F A B C S pb eb fb kb ce : Nat → Int32} {n f a b c : Int} (h : IX F A B C S n pb eb fb kb ce) (hr : RR F A B C pb eb fb kb) (hf : 0 ≤ f ∧ f ≤ 7) (ha : 0 ≤ a ∧ a ≤ 29) (hb : 0 ≤ b ∧ b ≤ 29) (h6 : f = 6 → b ≤ 5) (h5 : f = 5 → 0 ≤ c ∧ c ≤ 9) : ((sFv pb eb fb kb f a b c).toInt = -9 ∨ 0 ≤ (sFv pb eb fb kb f a b c).toInt) ∧ ∀ s : Nat, (sFv pb eb fb kb f a b c).toInt = (s : Int) ↔ (s : Int) < n ∧ (S s).toInt = 1 ∧ ((f = 5 ∧ (F s).toInt = 5 ∧ (A s).toInt = a ∧ (C s).toInt = c) ∨ (f = 6 ∧ (F s).toInt = 6 ∧ (A s).toInt = a ∧ (B s).toInt = b) ∨ (f = 7 ∧ (F s).toInt = 7 ∧ (B s).toInt = b) ∨ (f < 5 ∧ (F s).toInt < 5 ∧ (A s).toInt = a)) := by
  unfold sFv
  by_cases q5 : f = 5
  · rw [if_pos q5]
    have hc := h5 q5
    refine ⟨(hr.2.1 _).2.1, fun s => ?_⟩
    rw [← h.2.1 (a * 10 + c).toNat s (by omega)]
    have r := hr.1 s
    unfold Ex
    omega
  · rw [if_neg q5]
    by_cases q6 : f = 6
    · rw [if_pos q6]
      have hc := h6 q6
      refine ⟨(hr.2.1 _).2.2.1, fun s => ?_⟩
      rw [← h.2.2.1 (a * 6 + b).toNat s (by omega)]
      have r := hr.1 s
      have r6 := hr.2.2 s
      unfold Fx
      constructor
      · rintro ⟨z1, z2, z3, z4⟩
        have z5 := r6 z3
        omega
      · omega
    · rw [if_neg q6]
      by_cases q7 : f = 7
      · rw [if_pos q7]
        refine ⟨(hr.2.1 _).2.2.2, fun s => ?_⟩
        rw [← h.2.2.2.1 b.toNat s (by omega)]
        unfold Kx
        omega
      · rw [if_neg q7]
        refine ⟨(hr.2.1 _).1, fun s => ?_⟩
        rw [← h.1 a.toNat s (by omega)]
        unfold Px
        omega
theorem SX_e {F A B C S pb eb fb kb ce : Nat → Int32} {n f a b c : Int} (h : IX F A B C S n pb eb fb kb ce) (hr : RR F A B C pb eb fb kb) (hf : 0 ≤ f ∧ f ≤ 7) (ha : 0 ≤ a ∧ a ≤ 29) (hb : 0 ≤ b ∧ b ≤ 29) (h6 : f = 6 → b ≤ 5) (h5 : f = 5 → 0 ≤ c ∧ c ≤ 9) : SX F A B C (sFv pb eb fb kb f a b c) f a b c ↔ ∃ s : Nat, (s : Int) < n ∧ sE F A B C S f a b c s := by
  obtain ⟨r0, w⟩ := Sl_e h hr hf ha hb h6 h5
  have e : (sFv pb eb fb kb f a b c).toNatClampNeg = (sFv pb eb fb kb f a b c).toInt.toNat := rfl
  constructor
  · rintro ⟨q1, q2, q3, q4, q5⟩
    have z := (w (sFv pb eb fb kb f a b c).toNatClampNeg).mp (by omega)
    exact ⟨_, z.1, z.2.1, q2, q3, q4, q5⟩
  · rintro ⟨s, q, w1, w2, w3, w4, w5⟩
    have z := (w s).mpr ⟨q, w1, by omega⟩
    have z2 : (sFv pb eb fb kb f a b c).toNatClampNeg = s := by omega
    exact ⟨by omega, by rw [z2]; exact w2, by rw [z2]; exact w3, by rw [z2]; exact w4, by rw [z2]; exact w5⟩

