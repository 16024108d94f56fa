theorem K6_of {i : Nat → Int32} {c : Nat → Nat → Int32} (hI : mInv i c) : K6 (c 3) := by
  have q : ∀ j : Nat, ((j : Int) ≤ 1 ∧ (c 3 j).toInt = -9) ∨ (2 ≤ (j : Int) ∧ (j : Int) ≤ 5 ∧ (c 3 j).toInt = 1) ∨ (6 ≤ (j : Int) ∧ 0 ≤ (c 3 j).toInt ∧ (c 3 j).toInt ≤ 23 ∧ (c 3 j).toInt < (j : Int)) := fun j => hI.2 3 j
  have q0 := q 0
  have q1 := q 1
  have q2 := q 2
  have q3 := q 3
  have q4 := q 4
  have q5 := q 5
  refine ⟨?_, ?_, ?_, ?_, ?_, ?_⟩
  · rw [kF_in (by omega) (by omega)]; show (c 3 0).toInt = -9; omega
  · rw [kF_in (by omega) (by omega)]; show (c 3 1).toInt = -9; omega
  · rw [kF_in (by omega) (by omega)]; show (c 3 2).toInt = 1; omega
  · rw [kF_in (by omega) (by omega)]; show (c 3 3).toInt = 1; omega
  · rw [kF_in (by omega) (by omega)]; show (c 3 4).toInt = 1; omega
  · rw [kF_in (by omega) (by omega)]; show (c 3 5).toInt = 1; omega
theorem fP_at {fo le mi sa : Nat → Int32} {n : Int} {x r y : Int32} (h : 0 ≤ x.toInt ∧ x.toInt ≤ 29) (hr : r.toInt = pL fo le sa n x.toInt) (hn : ¬ r.toInt = -9) (e : (mi r.toNatClampNeg).toInt = y.toInt) : fP fo le mi sa n x.toInt = y.toInt := by
  unfold fP
  rw [← hr, if_pos ⟨h.1, h.2, hn⟩]
  exact e
theorem fP_no {fo le mi sa : Nat → Int32} {n x : Int} (h : pL fo le sa n x = -9) : fP fo le mi sa n x = -9 := if_neg (fun q => q.2.2 h)
theorem fP_9 {fo le mi sa : Nat → Int32} {n : Int} : fP fo le mi sa n (-9) = -9 := if_neg (by omega)
theorem fP_Sp {fo le mi sa : Nat → Int32} {n : Int} (h : ∀ s, 0 ≤ (mi s).toInt ∧ (mi s).toInt ≤ 29) : Sp (fP fo le mi sa n) := by
  refine ⟨fP_9, fun x => ?_⟩
  unfold fP
  by_cases q : 0 ≤ x ∧ x ≤ 29 ∧ ¬ pL fo le sa n x = -9
  · rw [if_pos q]; exact Or.inr (h _)
  · rw [if_neg q]; exact Or.inl rfl
def KI (ko : Nat → Int32) (N kn : Int) : Prop := ∀ o : Nat, (o : Int) < N → (ko o).toInt < kn
def UQ (fo le sa : Nat → Int32) (n : Int) : Prop := ∀ s s2 : Nat, (s : Int) < n → (s2 : Int) < n → (sa s).toInt = 1 → (sa s2).toInt = 1 → (fo s).toInt < 5 → (fo s2).toInt < 5 → (le s).toInt = (le s2).toInt → s = s2
/-- what holds of kinds, objects and sentences -/
def SJ (pa ko fo le mi sa : Nat → Int32) (kn N n : Int) : Prop := KI ko N kn ∧ SI pa ko fo le mi N n ∧ UQ fo le sa n ∧ Acy (fP fo le mi sa n)
/-- what holds of the tale -/
def TJ (pa ko F A wF wA : Nat → Int32) (N p tn : Int) : Prop := ¬ p = -9 → Kd pa ko p 5 ∧ TI N (fun z => Kd pa ko z 0) p F A ∧ ∀ t : Nat, (t : Int) < tn → TI N (fun z => Kd pa ko z 0) p (fun o => wF (30 * t + o)) (fun o => wA (30 * t + o))
theorem TJ_no {pa ko F A wF wA : Nat → Int32} {N p tn : Int} (h : p = -9) : TJ pa ko F A wF wA N p tn := fun q => absurd h q
theorem TI_rm {N : Int} {Rm R2 : Int → Prop} {p : Int} {F A : Nat → Int32} (e : ∀ z, 0 ≤ z → z < N → (R2 z ↔ Rm z)) (h : TI N Rm p F A) : TI N R2 p F A := by
  obtain ⟨h1, h2, h3, h4, r, r0, r1, r2, r3⟩ := h
  exact ⟨⟨h1.1, h1.2.1, fun q => h1.2.2 ((e p h1.1 h1.2.1).mp q)⟩, h2, fun x a b d => h3 x a b ((e x a b).mp d), h4, r, r0, r1, (e r r0 r1).mpr r2, r3⟩
/-- a sentence more -/
theorem pL_same {fo le sa : Nat → Int32} {n : Int} {f a v : Int32} {x : Int} (hn : 0 ≤ n) (h : ¬ (f.toInt < 5 ∧ a.toInt = x)) : pL (upd fo n.toNat f) (upd le n.toNat a) (upd sa n.toNat v) (n + 1) x = pL fo le sa n x := by
  unfold pL
  have e : (n + 1).toNat = n.toNat + 1 := by omega
  rw [e]
  refine (fsF_e ?_).symm
  have o : ∀ s, s < n.toNat → (mP (upd fo n.toNat f) (upd le n.toNat a) (upd sa n.toNat v) x s ↔ mP fo le sa x s) := fun s hs => by
    unfold mP
    rw [pk_un (show ¬ s = n.toNat by omega), pk_un (show ¬ s = n.toNat by omega), pk_un (show ¬ s = n.toNat by omega)]
  have l : ¬ mP (upd fo n.toNat f) (upd le n.toNat a) (upd sa n.toNat v) x n.toNat := fun q => by
    unfold mP at q
    rw [pk_us, pk_us, pk_us] at q
    exact h ⟨q.2.1, q.2.2⟩
  rcases fsF_s (mP fo le sa x) n.toNat with ⟨q, b⟩ | ⟨s, q, b, d, g⟩
  · refine Or.inl ⟨q, fun s hs => ?_⟩
    by_cases z : s = n.toNat
    · rw [z]; exact l
    · exact fun w => b s (by omega) ((o s (by omega)).mp w)
  · exact Or.inr ⟨s, q, by omega, (o s b).mpr d, fun s2 h2 w => g s2 h2 ((o s2 (by omega)).mp w)⟩
theorem pL_new {fo le sa : Nat → Int32} {n : Int} {f a : Int32} (hn : 0 ≤ n) (hf : f.toInt < 5) (h : pL fo le sa n a.toInt = -9) : pL (upd fo n.toNat f) (upd le n.toNat a) (upd sa n.toNat 1) (n + 1) a.toInt = n := by
  unfold pL at h ⊢
  have e : (n + 1).toNat = n.toNat + 1 := by omega
  rw [e]
  refine (fsF_e ?_).symm
  refine Or.inr ⟨n.toNat, by omega, by omega, ?_, fun s hs w => ?_⟩
  · unfold mP
    rw [pk_us, pk_us, pk_us]
    exact ⟨by decide, hf, rfl⟩
  · unfold mP at w
    rw [pk_un (show ¬ s = n.toNat by omega), pk_un (show ¬ s = n.toNat by omega), pk_un (show ¬ s = n.toNat by omega)] at w
    exact fsF_n h (by omega) w
theorem SJ_add {pa ko fo le mi sa : Nat → Int32} {kn N n : Int} {f a b : Int32} (hS : SJ pa ko fo le mi sa kn N n) (hm : ∀ s, 0 ≤ (mi s).toInt ∧ (mi s).toInt ≤ 29) (hn : 0 ≤ n) (ha : 0 ≤ a.toInt ∧ a.toInt < N) (hN : N ≤ 30) (hb : ¬ f.toInt = 6 → 0 ≤ b.toInt ∧ b.toInt < N) (h5 : f.toInt < 5 → ¬ Kd pa ko a.toInt 0) (he : f.toInt = 5 → Kd pa ko a.toInt 0 ∧ (Kd pa ko b.toInt 0 ∨ Kd pa ko b.toInt 2)) (hp : f.toInt < 5 → pL fo le sa n a.toInt = -9 ∧ ¬ Ch (fP fo le mi sa n) b.toInt a.toInt) : SJ pa ko (upd fo n.toNat f) (upd le n.toNat a) (upd mi n.toNat b) (upd sa n.toNat 1) kn N (n + 1) := by
  obtain ⟨k1, k2, k3, k4⟩ := hS
  refine ⟨k1, fun s hs => ?_, fun s s2 hs hs2 q1 q2 q3 q4 q5 => ?_, ?_⟩
  · by_cases z : s = n.toNat
    · rw [z, pk_us, pk_us, pk_us]
      exact ⟨ha.2, fun q => (hb q).2, h5, he⟩
    · rw [pk_un z, pk_un z, pk_un z]
      exact k2 s (by omega)
  · by_cases z : s = n.toNat <;> by_cases z2 : s2 = n.toNat
    · rw [z, z2]
    · rw [z, pk_us] at q3
      rw [z, pk_us, pk_un z2] at q5
      rw [pk_un z2] at q4
      rw [pk_un z2] at q2
      exact absurd ⟨q2, q4, q5.symm⟩ (fsF_n (hp q3).1 (show (s2 : Int) < n by omega))
    · rw [z2, pk_us] at q4
      rw [z2, pk_us, pk_un z] at q5
      rw [pk_un z] at q3
      rw [pk_un z] at q1
      exact absurd ⟨q1, q3, q5⟩ (fsF_n (hp q4).1 (show (s : Int) < n by omega))
    · rw [pk_un z] at q1 q3
      rw [pk_un z2] at q2 q4
      rw [pk_un z, pk_un z2] at q5
      exact k3 s s2 (by omega) (by omega) q1 q2 q3 q4 q5
  · have other : ∀ x, ¬ (f.toInt < 5 ∧ a.toInt = x) → fP (upd fo n.toNat f) (upd le n.toNat a) (upd mi n.toNat b) (upd sa n.toNat 1) (n + 1) x = fP fo le mi sa n x := fun x hx => by
      unfold fP
      rw [pL_same hn hx]
      by_cases q : 0 ≤ x ∧ x ≤ 29 ∧ ¬ pL fo le sa n x = -9
      · rw [if_pos q, if_pos q]
        have w := fsF_q (P := mP fo le sa x) (n := n) q.2.2
        rw [pk_un (show ¬ (pL fo le sa n x).toNat = n.toNat by have w1 := w.1; unfold pL; omega)]
      · rw [if_neg q, if_neg q]
    by_cases q : f.toInt < 5
    · have e : fP (upd fo n.toNat f) (upd le n.toNat a) (upd mi n.toNat b) (upd sa n.toNat 1) (n + 1) = rp (fP fo le mi sa n) a.toInt b.toInt := by
        funext x
        by_cases z : x = a.toInt
        · rw [z, rp_s]
          unfold fP
          rw [pL_new hn q (hp q).1, if_pos ⟨ha.1, by omega, by omega⟩, pk_us]
        · rw [rp_n z]; exact other x (fun w => z w.2.symm)
      rw [e]
      have hb := hb (by omega)
      exact Acy_rp (fP_Sp hm) k4 (by omega) (Or.inr ⟨hb.1, by omega⟩) (hp q).2
    · exact Acy_le k4 (fun x _ _ => Or.inr (other x (fun w => q w.1)))
/-- a sentence is struck -/
theorem SJ_un {pa ko fo le mi sa : Nat → Int32} {kn N n : Int} {s0 : Nat} (hS : SJ pa ko fo le mi sa kn N n) : SJ pa ko fo le mi (upd sa s0 0) kn N n := by
  obtain ⟨k1, k2, k3, k4⟩ := hS
  have hm : ∀ (x : Int) (s : Nat), mP fo le (upd sa s0 0) x s → mP fo le sa x s := fun x s h => by
    unfold mP at h ⊢
    by_cases z : s = s0
    · rw [z, pk_us] at h; exact absurd h.1 (by decide +kernel)
    · rw [pk_un z] at h; exact h
  refine ⟨k1, k2, fun s s2 hs hs2 q1 q2 q3 q4 q5 => ?_, Acy_le k4 (fun x h0 h1 => ?_)⟩
  · by_cases z : s = s0
    · rw [z, pk_us] at q1; exact absurd q1 (by decide +kernel)
    · by_cases z2 : s2 = s0
      · rw [z2, pk_us] at q2; exact absurd q2 (by decide +kernel)
      · rw [pk_un z] at q1
        rw [pk_un z2] at q2
        exact k3 s s2 hs hs2 q1 q2 q3 q4 q5
  · by_cases q : pL fo le (upd sa s0 0) n x = -9
    · exact Or.inl (fP_no q)
    · right
      have w := fsF_q (P := mP fo le (upd sa s0 0) x) (n := n) q
      have w2 := hm x _ w.2
      have q2 : ¬ pL fo le sa n x = -9 := fun z => fsF_n (P := mP fo le sa x) z w.1 w2
      have v := fsF_q (P := mP fo le sa x) (n := n) q2
      have e := k3 _ _ w.1 v.1 w2.1 v.2.1 w2.2.1 v.2.2.1 (by rw [w2.2.2, v.2.2.2])
      have e2 : (pL fo le (upd sa s0 0) n x).toNat = (pL fo le sa n x).toNat := e
      unfold fP
      rw [if_pos ⟨h0, h1, q⟩, if_pos ⟨h0, h1, q2⟩, e2]
theorem Kd_new {pa ko : Nat → Int32} {kn : Int} {v : Int32} {o k : Int} (hl : ∀ j : Nat, (j : Int) < kn → (pa j).toInt = -9 ∨ (0 ≤ (pa j).toInt ∧ (pa j).toInt < (j : Int))) (hn : 0 ≤ kn ∧ kn ≤ 24) (hk : (ko o.toNat).toInt < kn) (h0 : 0 ≤ (ko o.toNat).toInt) : Kd (upd pa kn.toNat v) ko o k ↔ Kd pa ko o k := by
  unfold Kd
  exact kF_new (fun j hj => pk_un (show ¬ j = kn.toNat by omega)) hl hn hk (Or.inl h0)
theorem SJ_kind {pa ko fo le mi sa : Nat → Int32} {kn N n : Int} {v : Int32} (hS : SJ pa ko fo le mi sa kn N n) (hl : ∀ j : Nat, (j : Int) < kn → (pa j).toInt = -9 ∨ (0 ≤ (pa j).toInt ∧ (pa j).toInt < (j : Int))) (hn : 0 ≤ kn ∧ kn ≤ 24) (h0 : ∀ o, 0 ≤ (ko o).toInt) (hle : ∀ s, 0 ≤ (le s).toInt) (hmi : ∀ s, 0 ≤ (mi s).toInt) : SJ (upd pa kn.toNat v) ko fo le mi sa (kn + 1) N n := by
  obtain ⟨k1, k2, k3, k4⟩ := hS
  refine ⟨fun o ho => by have := k1 o ho; omega, fun s hs => ?_, k3, k4⟩
  obtain ⟨a, b, d, e⟩ := k2 s hs
  have hl1 := hle s
  have hm1 := hmi s
  have K1 : ∀ k, Kd (upd pa kn.toNat v) ko (le s).toInt k ↔ Kd pa ko (le s).toInt k := fun k => Kd_new hl hn (k1 _ (by omega)) (h0 _)
  refine ⟨a, b, fun q => ?_, fun q => ?_⟩
  · rw [K1]; exact d q
  · have K2 : ∀ k, Kd (upd pa kn.toNat v) ko (mi s).toInt k ↔ Kd pa ko (mi s).toInt k := fun k => Kd_new hl hn (k1 _ (by have := b (by omega); omega)) (h0 _)
    rw [K1, K2, K2]; exact e q
theorem TJ_kind {pa ko F A wF wA : Nat → Int32} {kn N p tn : Int} {v : Int32} (h : TJ pa ko F A wF wA N p tn) (hk : KI ko N kn) (hl : ∀ j : Nat, (j : Int) < kn → (pa j).toInt = -9 ∨ (0 ≤ (pa j).toInt ∧ (pa j).toInt < (j : Int))) (hn : 0 ≤ kn ∧ kn ≤ 24) (h0 : ∀ o, 0 ≤ (ko o).toInt) : TJ (upd pa kn.toNat v) ko F A wF wA N p tn := by
  intro q
  have e : ∀ z, 0 ≤ z → z < N → (Kd (upd pa kn.toNat v) ko z 0 ↔ Kd pa ko z 0) := fun z a b => Kd_new hl hn (hk _ (by omega)) (h0 _)
  have hp := (h q).2.1.1
  exact ⟨(Kd_new hl hn (hk _ (by omega)) (h0 _)).mpr (h q).1, TI_rm e (h q).2.1, fun t ht => TI_rm e ((h q).2.2 t ht)⟩
theorem SJ_make {pa ko fo le mi sa : Nat → Int32} {kn N n : Int} {v : Int32} (hS : SJ pa ko fo le mi sa kn N n) (hN : 0 ≤ N) (hv : v.toInt < kn) (hle : ∀ s, 0 ≤ (le s).toInt) (hmi : ∀ s, 0 ≤ (mi s).toInt) : SJ pa (upd ko N.toNat v) fo le mi sa kn (N + 1) n := by
  obtain ⟨k1, k2, k3, k4⟩ := hS
  refine ⟨fun o ho => ?_, fun s hs => ?_, k3, k4⟩
  · by_cases z : o = N.toNat
    · rw [z, pk_us]; exact hv
    · rw [pk_un z]; exact k1 o (by omega)
  · obtain ⟨a, b, d, e⟩ := k2 s hs
    have hl1 := hle s
    have hm1 := hmi s
    have K1 : ∀ k, Kd pa (upd ko N.toNat v) (le s).toInt k ↔ Kd pa ko (le s).toInt k := fun k => by
      unfold Kd
      rw [pk_un (show ¬ ((le s).toInt).toNat = N.toNat by omega)]
    refine ⟨by omega, fun q => by have := b q; omega, fun q => ?_, fun q => ?_⟩
    · rw [K1]; exact d q
    · have b := b (by omega)
      have K2 : ∀ k, Kd pa (upd ko N.toNat v) (mi s).toInt k ↔ Kd pa ko (mi s).toInt k := fun k => by
        unfold Kd
        rw [pk_un (show ¬ ((mi s).toInt).toNat = N.toNat by omega)]
      rw [K1, K2, K2]; exact e q
theorem sm_1t {r : Int32} {P : Prop} (h : Sm r P) (c : r.toInt = 1) : P := by
  rcases h with h | h
  · exact h.2
  · omega
theorem mI_pa {i : Nat → Int32} {c : Nat → Nat → Int32} (hI : mInv i c) (j : Nat) : (c 3 j).toInt = -9 ∨ (0 ≤ (c 3 j).toInt ∧ (c 3 j).toInt < (j : Int)) := by
  have q : ((j : Int) ≤ 1 ∧ (c 3 j).toInt = -9) ∨ (2 ≤ (j : Int) ∧ (j : Int) ≤ 5 ∧ (c 3 j).toInt = 1) ∨ (6 ≤ (j : Int) ∧ 0 ≤ (c 3 j).toInt ∧ (c 3 j).toInt ≤ 23 ∧ (c 3 j).toInt < (j : Int)) := hI.2 3 j
  omega
theorem mI_ko {i : Nat → Int32} {c : Nat → Nat → Int32} (hI : mInv i c) (o : Nat) : 0 ≤ (c 6 o).toInt := by
  have q : 0 ≤ (c 6 o).toInt ∧ (c 6 o).toInt ≤ 23 := hI.2 6 o
  exact q.1
theorem mI_le {i : Nat → Int32} {c : Nat → Nat → Int32} (hI : mInv i c) (o : Nat) : 0 ≤ (c 10 o).toInt := by
  have q : 0 ≤ (c 10 o).toInt ∧ (c 10 o).toInt ≤ 29 := hI.2 10 o
  exact q.1
theorem mI_mi {i : Nat → Int32} {c : Nat → Nat → Int32} (hI : mInv i c) (o : Nat) : 0 ≤ (c 11 o).toInt ∧ (c 11 o).toInt ≤ 29 := hI.2 11 o

