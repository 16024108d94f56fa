/-! shortest ways, and with which exit they begin -/
def bfC (g : Int → Nat → Int) (a : Int) (m : Nat) : Prop := m / 10 < (bf g a m).2.2 ∧ ¬ g ((bf g a m).2.1 (m / 10)) (m % 10) = -9 ∧ (bf g a m).1 (g ((bf g a m).2.1 (m / 10)) (m % 10)) = -9
noncomputable def bfF (g : Int → Nat → Int) (a : Int) : Nat → Int → Int
  | 0 => fun _ => -9
  | m + 1 => @ite _ (bfC g a m) (Classical.propDecidable _) (upI (bfF g a m) (g ((bf g a m).2.1 (m / 10)) (m % 10)) (if (bf g a m).2.1 (m / 10) = a then ((m % 10 : Nat) : Int) else bfF g a m ((bf g a m).2.1 (m / 10)))) (bfF g a m)
theorem bfF_y {g : Int → Nat → Int} {a : Int} {m : Nat} (h : bfC g a m) : bfF g a (m + 1) = upI (bfF g a m) (g ((bf g a m).2.1 (m / 10)) (m % 10)) (if (bf g a m).2.1 (m / 10) = a then ((m % 10 : Nat) : Int) else bfF g a m ((bf g a m).2.1 (m / 10))) := if_pos h
theorem bfF_n {g : Int → Nat → Int} {a : Int} {m : Nat} (h : ¬ bfC g a m) : bfF g a (m + 1) = bfF g a m := if_neg h
/-- how the rows hang together, st, qu, k, F: m pairs are done -/
def Bq (g : Int → Nat → Int) (a : Int) (m : Nat) (st : Int → Int) (qu : Nat → Int) (k : Nat) (F : Int → Int) : Prop :=
  (1 ≤ k ∧ qu 0 = a ∧ st a = 0 ∧ F a = -9) ∧ (∀ x, ¬ st x = -9 ↔ ∃ j, j < k ∧ qu j = x) ∧ (∀ i j, i < k → j < k → qu i = qu j → i = j)
  ∧ (∀ j, 1 ≤ j → j < k → ∃ t, t < m ∧ t / 10 < j ∧ g (qu (t / 10)) (t % 10) = qu j ∧ st (qu j) = st (qu (t / 10)) + 1 ∧ F (qu j) = (if t / 10 = 0 then ((t % 10 : Nat) : Int) else F (qu (t / 10))) ∧ ∀ t', t' < t → ¬ g (qu (t' / 10)) (t' % 10) = qu j)
  ∧ (∀ i j t t', 1 ≤ i → i < j → j < k → g (qu (t / 10)) (t % 10) = qu i → (∀ s, s < t → ¬ g (qu (s / 10)) (s % 10) = qu i) → g (qu (t' / 10)) (t' % 10) = qu j → (∀ s, s < t' → ¬ g (qu (s / 10)) (s % 10) = qu j) → t < t')
  ∧ (∀ t, t < m → t / 10 < k → ¬ g (qu (t / 10)) (t % 10) = -9 → ¬ st (g (qu (t / 10)) (t % 10)) = -9) ∧ (∀ x, st x = -9 → F x = -9) ∧ (∀ j, j < k → 0 ≤ st (qu j)) ∧ ∀ j, 1 ≤ j → j < k → ¬ qu j = -9
theorem Bq_all {g : Int → Nat → Int} {a : Int} : ∀ m : Nat, Bq g a m (bf g a m).1 (bf g a m).2.1 (bf g a m).2.2 (bfF g a m) := by
  intro m
  induction m with
  | zero =>
    refine ⟨⟨Nat.le_refl _, (show (if (0 : Nat) = 0 then a else (0 : Int)) = a from if_pos rfl), (show (if a = a then (0 : Int) else -9) = 0 from if_pos rfl), rfl⟩, fun x => ?_, fun i j hi hj _ => ?_, fun j h1 h2 => ?_, fun i j t t' h1 h2 h3 => ?_, fun t h => absurd h (Nat.not_lt_zero t), fun x _ => rfl, fun j hj => ?_, fun j h1 h2 => ?_⟩
    · show ¬ (if x = a then (0 : Int) else -9) = -9 ↔ ∃ j, j < 1 ∧ (if j = 0 then a else (0 : Int)) = x
      by_cases q : x = a
      · rw [if_pos q]; exact ⟨fun _ => ⟨0, by omega, by rw [if_pos rfl]; exact q.symm⟩, fun _ => by omega⟩
      · rw [if_neg q]
        refine ⟨fun z => absurd rfl z, fun ⟨j, z1, z2⟩ => ?_⟩
        rw [if_pos (by omega)] at z2
        exact absurd z2.symm q
    · have hi : i < 1 := hi
      have hj : j < 1 := hj
      omega
    · have h2 : j < 1 := h2
      omega
    · have h3 : j < 1 := h3
      omega
    · have hj : j < 1 := hj
      rw [show j = 0 by omega]
      show (0 : Int) ≤ (if (if (0 : Nat) = 0 then a else (0 : Int)) = a then (0 : Int) else -9)
      rw [if_pos rfl, if_pos rfl]
      exact Int.le_refl _
    · have h2 : j < 1 := h2
      omega
  | succ m ih =>
    by_cases z : bfC g a m
    · have e := bf_y z
      have eF := bfF_y z
      obtain ⟨⟨i0, i1, i2, i3⟩, j1, j2, j3, j4, j5, j6, j7, j8⟩ := ih
      obtain ⟨z1, z2, z3⟩ := z
      generalize hst : (bf g a m).1 = st at *
      generalize hqu : (bf g a m).2.1 = qu at *
      generalize hk : (bf g a m).2.2 = k at *
      generalize hF : bfF g a m = F at *
      generalize hR : qu (m / 10) = R at *
      generalize hY : g R (m % 10) = Y at *
      rw [e, eF]
      have notin : ∀ j, j < k → ¬ qu j = Y := fun j hj q => (j1 Y).mpr ⟨j, hj, q⟩ z3
      have Rin : ¬ R = Y := fun q => notin (m / 10) z1 (by rw [hR]; exact q)
      have qo : ∀ j, j < k → upN qu k Y j = qu j := fun j hj => if_neg (by omega)
      have qn : upN qu k Y k = Y := if_pos rfl
      have so : ∀ x, ¬ x = Y → upI st Y (st R + 1) x = st x := fun x hx => if_neg hx
      have sn : upI st Y (st R + 1) Y = st R + 1 := if_pos rfl
      have fo : ∀ x v, ¬ x = Y → upI F Y v x = F x := fun x v hx => if_neg hx
      have aY : ¬ a = Y := fun q => notin 0 (by omega) (by rw [i1]; exact q)
      have st0 : 0 ≤ st R := by rw [← hR]; exact j7 _ z1
      have Ra : R = a ↔ m / 10 = 0 := ⟨fun q => j2 _ 0 z1 (by omega) (by rw [hR, i1]; exact q), fun q => by rw [← hR, q]; exact i1⟩
      refine ⟨⟨by show 1 ≤ k + 1; omega, by show upN qu k Y 0 = a; rw [qo 0 (by omega)]; exact i1, by show upI st Y (st R + 1) a = 0; rw [so a aY]; exact i2, by show upI F Y _ a = -9; rw [fo a _ aY]; exact i3⟩, fun x => ?_, fun i j hi hj q => ?_, fun j h1 h2 => ?_, fun i j t t' h1 h2 h3 p1 p2 p3 p4 => ?_, fun t h1 h2 h3 => ?_, fun x hx => ?_, fun j hj => ?_, fun j h1 h2 => ?_⟩
      · show ¬ upI st Y (st R + 1) x = -9 ↔ ∃ j, j < k + 1 ∧ upN qu k Y j = x
        by_cases q : x = Y
        · rw [q, sn]
          exact ⟨fun _ => ⟨k, by omega, qn⟩, fun _ => by omega⟩
        · rw [so x q, j1 x]
          constructor
          · rintro ⟨j, y1, y2⟩; exact ⟨j, by omega, by rw [qo j y1]; exact y2⟩
          · rintro ⟨j, y1, y2⟩
            by_cases w : j = k
            · rw [w, qn] at y2; exact absurd y2.symm q
            · rw [qo j (by omega)] at y2; exact ⟨j, by omega, y2⟩
      · have hi : i < k + 1 := hi
        have hj : j < k + 1 := hj
        have q : upN qu k Y i = upN qu k Y j := q
        by_cases w : i = k
        · by_cases v : j = k
          · omega
          · rw [w, qn, qo j (by omega)] at q; exact absurd q.symm (notin j (by omega))
        · by_cases v : j = k
          · rw [v, qn, qo i (by omega)] at q; exact absurd q (notin i (by omega))
          · rw [qo i (by omega), qo j (by omega)] at q; exact j2 i j (by omega) (by omega) q
      · have h2 : j < k + 1 := h2
        show ∃ t, t < m + 1 ∧ t / 10 < j ∧ g (upN qu k Y (t / 10)) (t % 10) = upN qu k Y j ∧ upI st Y (st R + 1) (upN qu k Y j) = upI st Y (st R + 1) (upN qu k Y (t / 10)) + 1 ∧ upI F Y _ (upN qu k Y j) = (if t / 10 = 0 then ((t % 10 : Nat) : Int) else upI F Y _ (upN qu k Y (t / 10))) ∧ ∀ t', t' < t → ¬ g (upN qu k Y (t' / 10)) (t' % 10) = upN qu k Y j
        by_cases w : j = k
        · refine ⟨m, by omega, by omega, ?_, ?_, ?_, fun t' ht' => ?_⟩
          · rw [w, qn, qo _ z1, hR]; exact hY
          · rw [w, qn, qo _ z1, hR, sn, so R Rin]
          · rw [w, qn, qo _ z1, hR, fo R _ Rin]
            show upI F Y _ Y = _
            unfold upI
            rw [if_pos rfl]
            by_cases v : m / 10 = 0
            · rw [if_pos v, if_pos (Ra.mpr v)]
            · rw [if_neg v, if_neg (fun y => v (Ra.mp y))]
          · have hd := Nat.div_le_div_right (c := 10) (show t' ≤ m by omega)
            rw [w, qn, qo _ (by omega)]
            intro y
            exact j5 t' ht' (by omega) (by rw [y]; exact z2) (by rw [y]; exact z3)
        · obtain ⟨t, t1, t2, t3, t4, t5, t6⟩ := j3 j h1 (by omega)
          have qj := qo j (by omega)
          have qt := qo (t / 10) (by omega)
          refine ⟨t, by omega, t2, by rw [qj, qt]; exact t3, ?_, ?_, fun t' ht' => ?_⟩
          · rw [qj, qt, so _ (notin j (by omega)), so _ (notin (t / 10) (by omega))]; exact t4
          · rw [qj, qt, fo _ _ (notin j (by omega)), fo _ _ (notin (t / 10) (by omega))]; exact t5
          · have hd := Nat.div_le_div_right (c := 10) (show t' ≤ t by omega)
            rw [qj, qo _ (by omega)]; exact t6 t' ht'
      · have h3 : j < k + 1 := h3
        have p1 : g (upN qu k Y (t / 10)) (t % 10) = upN qu k Y i := p1
        have p2 : ∀ s, s < t → ¬ g (upN qu k Y (s / 10)) (s % 10) = upN qu k Y i := p2
        have p3 : g (upN qu k Y (t' / 10)) (t' % 10) = upN qu k Y j := p3
        have p4 : ∀ s, s < t' → ¬ g (upN qu k Y (s / 10)) (s % 10) = upN qu k Y j := p4
        -- the first pair that leads to i is among those done
        obtain ⟨u, u1, u2, u3, u4, u5, u6⟩ := j3 i h1 (by omega)
        have ui : g (upN qu k Y (u / 10)) (u % 10) = upN qu k Y i := by rw [qo i (by omega), qo _ (by omega)]; exact u3
        have tu : t ≤ u := Decidable.byContradiction (fun y => p2 u (by omega) ui)
        have dt := Nat.div_le_div_right (c := 10) tu
        have p1' : g (qu (t / 10)) (t % 10) = qu i := by rw [qo i (by omega), qo _ (by omega)] at p1; exact p1
        have t_u : t = u := by
          by_cases y : t = u
          · exact y
          · exact absurd p1' (u6 t (by omega))
        by_cases w : j = k
        · -- the new one came at m
          refine Decidable.byContradiction (fun y => ?_)
          have d' := Nat.div_le_div_right (c := 10) (show t' ≤ t by omega)
          rw [w, qn, qo _ (by omega)] at p3
          exact j5 t' (by omega) (by omega) (by rw [p3]; exact z2) (by rw [p3]; exact z3)
        · obtain ⟨v, v1, v2, v3, v4, v5, v6⟩ := j3 j (by omega) (by omega)
          have vj : g (upN qu k Y (v / 10)) (v % 10) = upN qu k Y j := by rw [qo j (by omega), qo _ (by omega)]; exact v3
          have tv : t' ≤ v := Decidable.byContradiction (fun y => p4 v (by omega) vj)
          have dv := Nat.div_le_div_right (c := 10) tv
          have p3' : g (qu (t' / 10)) (t' % 10) = qu j := by rw [qo j (by omega), qo _ (by omega)] at p3; exact p3
          have t_v : t' = v := by
            by_cases y : t' = v
            · exact y
            · exact absurd p3' (v6 t' (by omega))
          rw [t_u, t_v]
          exact j4 i j u v h1 h2 (by omega) u3 u6 v3 v6
      · have h2 : t / 10 < k + 1 := h2
        have h3 : ¬ g (upN qu k Y (t / 10)) (t % 10) = -9 := h3
        show ¬ upI st Y (st R + 1) (g (upN qu k Y (t / 10)) (t % 10)) = -9
        have hd := Nat.div_le_div_right (c := 10) (show t ≤ m by omega)
        rw [qo _ (by omega)] at h3 ⊢
        by_cases y : g (qu (t / 10)) (t % 10) = Y
        · rw [y, sn]; omega
        · rw [so _ y]
          by_cases w : t = m
          · subst w; rw [hR, hY] at y; exact absurd rfl y
          · exact j5 t (by omega) (by omega) h3
      · have hx : upI st Y (st R + 1) x = -9 := hx
        show upI F Y _ x = -9
        by_cases q : x = Y
        · rw [q, sn] at hx; omega
        · rw [fo x _ q]; rw [so x q] at hx; exact j6 x hx
      · have hj : j < k + 1 := hj
        show 0 ≤ upI st Y (st R + 1) (upN qu k Y j)
        by_cases w : j = k
        · rw [w, qn, sn]; omega
        · rw [qo j (by omega), so _ (notin j (by omega))]; exact j7 j (by omega)
      · have h2 : j < k + 1 := h2
        show ¬ upN qu k Y j = -9
        by_cases w : j = k
        · rw [w, qn]; exact z2
        · rw [qo j (by omega)]; exact j8 j h1 (by omega)
    · have e := bf_n z
      have eF := bfF_n z
      obtain ⟨i1, j1, j2, j3, j4, j5, j6, j7, j8⟩ := ih
      rw [e, eF]
      refine ⟨i1, j1, j2, fun j h1 h2 => ?_, j4, fun t h1 h2 h3 => ?_, j6, j7, j8⟩
      · obtain ⟨t, t1, t2⟩ := j3 j h1 h2
        exact ⟨t, by omega, t2⟩
      · by_cases w : t = m
        · subst w
          exact fun y => z ⟨h2, h3, y⟩
        · exact j5 t (by omega) h2 h3
theorem cnt_le9 {P : Nat → Bool} (n : Nat) : cnt P n ≤ n := by
  have h := cnt_mono (P := P) (Q := fun _ => true) (n := n) (fun _ _ _ => rfl)
  rw [cnt_all] at h
  exact h
/-- no more than thirty are met -/
theorem bf_30 {g : Int → Nat → Int} {a : Int} {R : Int → Prop} (ha : R a) (hR : ∀ r, R r → 0 ≤ r ∧ r ≤ 29) (h : ∀ r, R r → ∀ d, d < 10 → g r d = -9 ∨ R (g r d)) (m : Nat) : (bf g a m).2.2 ≤ 30 := by
  have q : ∀ m : Nat, (∀ j, j < (bf g a m).2.2 → R ((bf g a m).2.1 j)) ∧ (bf g a m).2.2 ≤ cnt (fun x => decide (¬ (bf g a m).1 (x : Int) = -9)) 30 := by
    intro m
    induction m with
    | zero =>
      refine ⟨fun j hj => ?_, ?_⟩
      · have hj : j < 1 := hj
        rw [show j = 0 by omega]; exact ha
      · have ra := hR a ha
        have w := cnt_lt (P := fun _ => false) (Q := fun x => decide (¬ (bf g a 0).1 (x : Int) = -9)) (n := 30) (j := a.toNat) (fun _ _ z => absurd z (by decide +kernel)) (by omega) (by decide +kernel) (by
          refine decide_eq_true ?_
          rw [show ((a.toNat : Nat) : Int) = a by omega]
          show ¬ (if a = a then (0 : Int) else -9) = -9
          rw [if_pos rfl]; omega)
        show 1 ≤ _
        omega
    | succ m ih =>
      obtain ⟨i1, i2⟩ := ih
      by_cases z : bfC g a m
      · have e := bf_y z
        obtain ⟨z1, z2, z3⟩ := z
        have ry := (h _ (i1 _ z1) (m % 10) (by omega)).resolve_left z2
        have rr := hR _ ry
        rw [e]
        refine ⟨fun j hj => ?_, ?_⟩
        · show R (if j = (bf g a m).2.2 then _ else _)
          by_cases w : j = (bf g a m).2.2
          · rw [if_pos w]; exact ry
          · rw [if_neg w]
            have hj : j < (bf g a m).2.2 + 1 := hj
            exact i1 j (by omega)
        · have b := Bq_all (g := g) (a := a) m
          have s0 := b.2.2.2.2.2.2.2.1 _ z1
          have w := cnt_lt (P := fun x => decide (¬ (bf g a m).1 (x : Int) = -9)) (Q := fun x => decide (¬ (upI (bf g a m).1 (g ((bf g a m).2.1 (m / 10)) (m % 10)) ((bf g a m).1 ((bf g a m).2.1 (m / 10)) + 1)) (x : Int) = -9)) (n := 30) (j := (g ((bf g a m).2.1 (m / 10)) (m % 10)).toNat) (fun x _ y => by
            have y := of_decide_eq_true y
            refine decide_eq_true ?_
            show ¬ (if (x : Int) = _ then _ else _) = -9
            by_cases v : (x : Int) = g ((bf g a m).2.1 (m / 10)) (m % 10)
            · rw [if_pos v]; omega
            · rw [if_neg v]; exact y) (by omega) (fun y => of_decide_eq_true y (by rw [show (((g ((bf g a m).2.1 (m / 10)) (m % 10)).toNat : Nat) : Int) = g ((bf g a m).2.1 (m / 10)) (m % 10) by omega]; exact z3)) (by
            refine decide_eq_true ?_
            rw [show (((g ((bf g a m).2.1 (m / 10)) (m % 10)).toNat : Nat) : Int) = g ((bf g a m).2.1 (m / 10)) (m % 10) by omega]
            show ¬ (if _ = _ then _ else _) = -9
            rw [if_pos rfl]; omega)
          show (bf g a m).2.2 + 1 ≤ _
          exact Nat.le_trans (Nat.succ_le_succ i2) w
      · rw [bf_n z]; exact ⟨i1, i2⟩
  exact Nat.le_trans (q m).2 (cnt_le9 30)
/-- ways of a length -/
def Wk (g : Int → Nat → Int) : Nat → Int → Int → Prop
  | 0, x, y => x = y
  | k + 1, x, y => ∃ d, d < 10 ∧ ¬ g x d = -9 ∧ Wk g k (g x d) y
theorem Wk_sn {g : Int → Nat → Int} {k : Nat} : ∀ {x y : Int} {d : Nat}, Wk g k x y → d < 10 → ¬ g y d = -9 → Wk g (k + 1) x (g y d) := by
  induction k with
  | zero => intro x y d h h1 h2; have h : x = y := h; subst h; exact ⟨d, h1, h2, rfl⟩
  | succ k ih =>
    intro x y d h h1 h2
    obtain ⟨e, e1, e2, e3⟩ := h
    exact ⟨e, e1, e2, ih e3 h1 h2⟩
theorem Wk_la {g : Int → Nat → Int} {k : Nat} : ∀ {x y : Int}, Wk g (k + 1) x y → ∃ z d, Wk g k x z ∧ d < 10 ∧ ¬ g z d = -9 ∧ g z d = y := by
  induction k with
  | zero =>
    intro x y h
    obtain ⟨e, e1, e2, e3⟩ := h
    exact ⟨x, e, rfl, e1, e2, e3⟩
  | succ k ih =>
    intro x y h
    obtain ⟨e, e1, e2, e3⟩ := h
    obtain ⟨z, d, z1, z2, z3, z4⟩ := ih e3
    exact ⟨z, d, ⟨e, e1, e2, z1⟩, z2, z3, z4⟩
theorem sf_t {g : Int → Nat → Int} {qu : Nat → Int} {i d : Nat} {y : Int} (hd : d < 10) (h : g (qu i) d = y) : g (qu ((10 * i + d) / 10)) ((10 * i + d) % 10) = y := by
  rw [show (10 * i + d) / 10 = i by omega, show (10 * i + d) % 10 = d by omega]; exact h
/-- what a finished walk tells -/
theorem Bq_up {g : Int → Nat → Int} {a : Int} {m : Nat} {st : Int → Int} {qu : Nat → Int} {k : Nat} {F : Int → Int} (h : Bq g a m st qu k F) : ∀ j i, i ≤ j → j < k → st (qu i) ≤ st (qu j) := by
  obtain ⟨⟨i0, i1, i2, i3⟩, j1, j2, j3, j4, j5, j6, j7, j8⟩ := h
  have q : ∀ n j i, j ≤ n → i ≤ j → j < k → st (qu i) ≤ st (qu j) := by
    intro n
    induction n with
    | zero => intro j i h1 h2 h3; rw [show i = j by omega]; exact Int.le_refl _
    | succ n ih =>
      intro j i h1 h2 h3
      by_cases e : i = j
      · rw [e]; exact Int.le_refl _
      · by_cases z : i = 0
        · rw [z, i1, i2]; exact j7 j h3
        · obtain ⟨t, t1, t2, t3, t4, t5, t6⟩ := j3 i (by omega) (by omega)
          obtain ⟨u, u1, u2, u3, u4, u5, u6⟩ := j3 j (by omega) h3
          have tu := j4 i j t u (by omega) (by omega) h3 t3 t6 u3 u6
          have d := Nat.div_le_div_right (c := 10) (show t ≤ u by omega)
          have w := ih (u / 10) (t / 10) (by omega) d (by omega)
          omega
  exact fun j i h1 h2 => q j j i (Nat.le_refl _) h1 h2
/-- one step on -/
theorem Bq_st {g : Int → Nat → Int} {a : Int} {m : Nat} {st : Int → Int} {qu : Nat → Int} {k : Nat} {F : Int → Int} (h : Bq g a m st qu k F) (hm : 10 * k ≤ m) {i d : Nat} (hi : i < k) (hd : d < 10) (hg : ¬ g (qu i) d = -9) : ∃ j, j < k ∧ qu j = g (qu i) d ∧ st (qu j) ≤ st (qu i) + 1 := by
  have up := Bq_up h
  obtain ⟨⟨i0, i1, i2, i3⟩, j1, j2, j3, j4, j5, j6, j7, j8⟩ := h
  have e := sf_t (qu := qu) hd (rfl : g (qu i) d = g (qu i) d)
  have r := j5 (10 * i + d) (by omega) (by omega) (by rw [e]; exact hg)
  rw [e] at r
  obtain ⟨j, y1, y2⟩ := (j1 _).mp r
  refine ⟨j, y1, y2, ?_⟩
  by_cases z : j = 0
  · rw [z, i1, i2]; have := j7 i hi; omega
  · obtain ⟨t, t1, t2, t3, t4, t5, t6⟩ := j3 j (by omega) y1
    have tu : t ≤ 10 * i + d := Decidable.byContradiction (fun w => t6 (10 * i + d) (by omega) (by rw [e, y2]))
    have := up i (t / 10) (by omega) hi
    omega
theorem Bq_le {g : Int → Nat → Int} {a : Int} {m : Nat} {st : Int → Int} {qu : Nat → Int} {k : Nat} {F : Int → Int} (h : Bq g a m st qu k F) (hm : 10 * k ≤ m) : ∀ (n : Nat) (i : Nat) (y : Int), i < k → Wk g n (qu i) y → ∃ j, j < k ∧ qu j = y ∧ st y ≤ st (qu i) + (n : Int) := by
  intro n
  induction n with
  | zero => intro i y hi w; have w : qu i = y := w; exact ⟨i, hi, w, by rw [w]; omega⟩
  | succ n ih =>
    intro i y hi w
    obtain ⟨d, d1, d2, d3⟩ := w
    obtain ⟨j, y1, y2, y3⟩ := Bq_st h hm hi d1 d2
    rw [← y2] at d3
    obtain ⟨l, l1, l2, l3⟩ := ih j y y1 d3
    exact ⟨l, l1, l2, by omega⟩
theorem Bq_wk {g : Int → Nat → Int} {a : Int} {m : Nat} {st : Int → Int} {qu : Nat → Int} {k : Nat} {F : Int → Int} (h : Bq g a m st qu k F) : ∀ n j, j ≤ n → j < k → Wk g (st (qu j)).toNat a (qu j) := by
  obtain ⟨⟨i0, i1, i2, i3⟩, j1, j2, j3, j4, j5, j6, j7, j8⟩ := h
  intro n
  induction n with
  | zero => intro j h1 h2; rw [show j = 0 by omega, i1, i2]; exact rfl
  | succ n ih =>
    intro j h1 h2
    by_cases z : j = 0
    · rw [z, i1, i2]; exact rfl
    · obtain ⟨t, t1, t2, t3, t4, t5, t6⟩ := j3 j (by omega) h2
      have w := ih (t / 10) (by omega) (by omega)
      have s0 := j7 (t / 10) (by omega)
      rw [t4, show (st (qu (t / 10)) + 1).toNat = (st (qu (t / 10))).toNat + 1 by omega, ← t3]
      exact Wk_sn w (by omega) (by rw [t3]; exact j8 j (by omega) h2)
/-- the walk's numbers are the shortest lengths -/
theorem bf_d {g : Int → Nat → Int} {a : Int} {R : Int → Prop} (ha : R a) (hR : ∀ r, R r → 0 ≤ r ∧ r ≤ 29) (h : ∀ r, R r → ∀ d, d < 10 → g r d = -9 ∨ R (g r d)) (x : Int) {m : Nat} (hm : m = 300) : ((bf g a m).1 x = -9 ∨ (0 ≤ (bf g a m).1 x ∧ Wk g ((bf g a m).1 x).toNat a x)) ∧ ∀ n, Wk g n a x → ¬ (bf g a m).1 x = -9 ∧ (bf g a m).1 x ≤ (n : Int) := by
  have k30 := bf_30 ha hR h m
  have b := Bq_all (g := g) (a := a) m
  have le := Bq_le b (by omega)
  have wk := Bq_wk b
  obtain ⟨⟨i0, i1, i2, i3⟩, j1, j2, j3, j4, j5, j6, j7, j8⟩ := b
  constructor
  · by_cases q : (bf g a m).1 x = -9
    · exact Or.inl q
    · obtain ⟨j, y1, y2⟩ := (j1 x).mp q
      have w := wk j j (Nat.le_refl _) y1
      have s0 := j7 j y1
      rw [y2] at w s0
      exact Or.inr ⟨s0, w⟩
  · intro n w
    obtain ⟨j, y1, y2, y3⟩ := le n 0 x (by omega) (by rw [i1]; exact w)
    rw [i1, i2] at y3
    exact ⟨(j1 x).mpr ⟨j, y1, y2⟩, by omega⟩
/-- with which exit: the least one of those that begin a shortest way -/
theorem bf_f {g : Int → Nat → Int} {a : Int} {R : Int → Prop} (ha : R a) (hR : ∀ r, R r → 0 ≤ r ∧ r ≤ 29) (h : ∀ r, R r → ∀ d, d < 10 → g r d = -9 ∨ R (g r d)) (b : Int) {m : Nat} (hm : m = 300) : (((bf g a m).1 b = -9 ∨ (bf g a m).1 b = 0) ∧ bfF g a m b = -9) ∨ (1 ≤ (bf g a m).1 b ∧ ∃ d : Nat, d < 10 ∧ bfF g a m b = (d : Int) ∧ ¬ g a d = -9 ∧ (bf g (g a d) m).1 b = (bf g a m).1 b - 1 ∧ ∀ d' : Nat, d' < d → ¬ g a d' = -9 → ¬ (bf g (g a d') m).1 b = (bf g a m).1 b - 1) := by
  have k30 := bf_30 ha hR h m
  have B := Bq_all (g := g) (a := a) m
  have up := Bq_up B
  have le := Bq_le B (by omega)
  have da := bf_d ha hR h b hm
  obtain ⟨⟨i0, i1, i2, i3⟩, j1, j2, j3, j4, j5, j6, j7, j8⟩ := B
  generalize hst : (bf g a m).1 = st at *
  generalize hqu : (bf g a m).2.1 = qu at *
  generalize hk : (bf g a m).2.2 = k at *
  generalize hF : bfF g a m = F at *
  -- what the first exits are
  have f1 : ∀ n j, j ≤ n → 1 ≤ j → j < k → ∃ d : Nat, d < 10 ∧ F (qu j) = (d : Int) ∧ ¬ g a d = -9 ∧ 1 ≤ st (qu j) ∧ Wk g (st (qu j) - 1).toNat (g a d) (qu j) := by
    intro n
    induction n with
    | zero => intro j h1 h2; omega
    | succ n ih =>
      intro j h1 h2 h3
      obtain ⟨t, t1, t2, t3, t4, t5, t6⟩ := j3 j h2 h3
      have s0 := j7 (t / 10) (by omega)
      by_cases z : t / 10 = 0
      · rw [z, i1] at t3
        rw [if_pos z] at t5
        rw [z, i1, i2] at t4
        refine ⟨t % 10, by omega, t5, by rw [t3]; exact j8 j h2 h3, by omega, ?_⟩
        rw [show (st (qu j) - 1).toNat = 0 by omega]
        exact t3
      · obtain ⟨d, d1, d2, d3, d4, d5⟩ := ih (t / 10) (by omega) (by omega) (by omega)
        rw [if_neg z, d2] at t5
        refine ⟨d, d1, t5, d3, by omega, ?_⟩
        rw [show (st (qu j) - 1).toNat = (st (qu (t / 10)) - 1).toNat + 1 by omega, ← t3]
        exact Wk_sn d5 (by omega) (by rw [t3]; exact j8 j h2 h3)
  have s1 : ∀ j, 1 ≤ j → j < k → 1 ≤ st (qu j) := fun j h1 h2 => by obtain ⟨d, _, _, _, d4, _⟩ := f1 j j (Nat.le_refl _) h1 h2; exact d4
  -- they come in order
  have f2 : ∀ n j i, j ≤ n → 1 ≤ i → i ≤ j → j < k → st (qu i) = st (qu j) → F (qu i) ≤ F (qu j) := by
    intro n
    induction n with
    | zero => intro j i h1 h2 h3; omega
    | succ n ih =>
      intro j i h1 h2 h3 h4 h5
      by_cases e : i = j
      · rw [e]; exact Int.le_refl _
      · obtain ⟨t, t1, t2, t3, t4, t5, t6⟩ := j3 i h2 (by omega)
        obtain ⟨u, u1, u2, u3, u4, u5, u6⟩ := j3 j (by omega) h4
        have tu := j4 i j t u h2 (by omega) h4 t3 t6 u3 u6
        have d := Nat.div_le_div_right (c := 10) (show t ≤ u by omega)
        by_cases z : t / 10 = 0
        · have sz : st (qu (u / 10)) = 0 := by rw [z, i1, i2] at t4; omega
          have uz : u / 10 = 0 := Decidable.byContradiction (fun y => by have := s1 (u / 10) (by omega) (by omega); omega)
          rw [t5, u5, if_pos z, if_pos uz]
          omega
        · have uz : ¬ u / 10 = 0 := by omega
          rw [t5, u5, if_neg z, if_neg uz]
          exact ih (u / 10) (t / 10) (by omega) (by omega) d (by omega) (by omega)
  -- none less
  have f3 : ∀ (n : Nat) (j d : Nat), 1 ≤ j → j < k → d < 10 → ¬ g a d = -9 → Wk g n (g a d) (qu j) → st (qu j) = (n : Int) + 1 → F (qu j) ≤ (d : Int) := by
    intro n
    induction n with
    | zero =>
      intro j d h1 h2 h3 h4 h5 h6
      have h5 : g a d = qu j := h5
      obtain ⟨t, t1, t2, t3, t4, t5, t6⟩ := j3 j h1 h2
      have td : t ≤ 10 * 0 + d := Decidable.byContradiction (fun y => t6 (10 * 0 + d) (by omega) (sf_t h3 (by rw [i1]; exact h5)))
      rw [t5, if_pos (by omega)]
      omega
    | succ n ih =>
      intro j d h1 h2 h3 h4 h5 h6
      obtain ⟨z, e, z1, z2, z3, z4⟩ := Wk_la h5
      obtain ⟨i, y1, y2, y3⟩ := le (n + 1) 0 z (by omega) (by rw [i1]; exact ⟨d, h3, h4, z1⟩)
      rw [i1, i2] at y3
      rw [← y2] at z1 z3 z4 y3
      obtain ⟨l, l1, l2, l3⟩ := le 1 i (qu j) y1 ⟨e, z2, z3, z4⟩
      have iz : 1 ≤ i := Decidable.byContradiction (fun y => by rw [show i = 0 by omega, i1, i2] at l3; omega)
      have w := ih i d iz y1 h3 h4 z1 (by omega)
      obtain ⟨t, t1, t2, t3, t4, t5, t6⟩ := j3 j h1 h2
      have td : t ≤ 10 * i + e := Decidable.byContradiction (fun y => t6 (10 * i + e) (by omega) (sf_t z2 z4))
      have tz : ¬ t / 10 = 0 := fun y => by rw [y, i1, i2] at t4; omega
      rw [t5, if_neg tz]
      have v := f2 i i (t / 10) (Nat.le_refl _) (by omega) (by omega) y1 (by omega)
      omega
  by_cases q : st b = -9
  · exact Or.inl ⟨Or.inl q, j6 b q⟩
  · obtain ⟨j, y1, y2⟩ := (j1 b).mp q
    by_cases z : j = 0
    · rw [z, i1] at y2
      rw [← y2]
      exact Or.inl ⟨Or.inr i2, i3⟩
    · obtain ⟨d, d1, d2, d3, d4, d5⟩ := f1 j j (Nat.le_refl _) (by omega) y1
      rw [y2] at d2 d4 d5
      have rd := (h a ha d d1).resolve_left d3
      have dd := bf_d rd hR h b hm
      have w := dd.2 _ d5
      refine Or.inr ⟨d4, d, d1, d2, d3, ?_, fun d' h1 h2 h3 => ?_⟩
      · rcases dd.1 with u | ⟨u1, u2⟩
        · exact absurd u w.1
        · have v := da.2 (((bf g (g a d) m).1 b).toNat + 1) ⟨d, d1, d3, u2⟩
          omega
      · have rd' := (h a ha d' (by omega)).resolve_left h2
        rcases (bf_d rd' hR h b hm).1 with u | ⟨u1, u2⟩
        · omega
        · have v := f3 ((bf g (g a d') m).1 b).toNat j d' (by omega) y1 (by omega) h2 (by rw [y2]; exact u2) (by rw [y2]; omega)
          rw [y2, d2] at v
          omega
theorem BFI_nc {g : Int → Nat → Int} {a N : Int} {st qu : Nat → Int32} {kn h d : Int32} {r : Int} (hB : BFI g a (mI h.toInt d.toInt) N st qu kn.toInt) (h0 : 0 ≤ h.toInt) (hk : h.toInt < kn.toInt) (hd : 0 ≤ d.toInt ∧ d.toInt ≤ 9) (hr : (qu h.toNatClampNeg).toInt = r) (hg : ∀ y9, y9 = g r d.toInt.toNat → y9 = -9 ∨ (0 ≤ y9 ∧ y9 < N ∧ ¬ (st y9.toNat).toInt = -9)) : ¬ bfC g a (mI h.toInt d.toInt) := by
  have e1 : mI h.toInt d.toInt / 10 = h.toInt.toNat := by unfold mI; omega
  have e2 : mI h.toInt d.toInt % 10 = d.toInt.toNat := by unfold mI; omega
  obtain ⟨b1, b2, b3, b4⟩ := hB
  have q : (bf g a (mI h.toInt d.toInt)).2.1 h.toInt.toNat = r := by rw [← b2 h.toInt.toNat (by omega)]; exact hr
  intro z
  unfold bfC at z
  rw [e1, e2, q] at z
  rcases hg _ rfl with w | ⟨w1, w2, w3⟩
  · exact z.2.1 w
  · refine w3 ?_
    rw [b1 _ (by omega), show (((g r d.toInt.toNat).toNat : Nat) : Int) = g r d.toInt.toNat by omega]
    exact z.2.2
theorem BFI_yc {g : Int → Nat → Int} {a N : Int} {st qu : Nat → Int32} {kn h d y : Int32} {r : Int32} (hB : BFI g a (mI h.toInt d.toInt) N st qu kn.toInt) (h0 : 0 ≤ h.toInt) (hk : h.toInt < kn.toInt) (hd : 0 ≤ d.toInt ∧ d.toInt ≤ 9) (hr : (qu h.toNatClampNeg).toInt = r.toInt) (hg : y.toInt = g r.toInt d.toInt.toNat) (y0 : 0 ≤ y.toInt ∧ y.toInt < N) (hy : (st y.toNatClampNeg).toInt = -9) : bfC g a (mI h.toInt d.toInt) ∧ (bf g a (mI h.toInt d.toInt)).2.1 (mI h.toInt d.toInt / 10) = r.toInt ∧ g r.toInt (mI h.toInt d.toInt % 10) = y.toInt ∧ 0 ≤ r.toInt ∧ r.toInt < N := by
  have e1 : mI h.toInt d.toInt / 10 = h.toInt.toNat := by unfold mI; omega
  have e2 : mI h.toInt d.toInt % 10 = d.toInt.toNat := by unfold mI; omega
  obtain ⟨b1, b2, b3, b4⟩ := hB
  have r0 : 0 ≤ r.toInt ∧ r.toInt < N := by rw [← hr]; exact b4 h.toNatClampNeg (by show ((h.toInt.toNat : Nat) : Int) < _; omega)
  have ey : y.toNatClampNeg = y.toInt.toNat := rfl
  have q : (bf g a (mI h.toInt d.toInt)).2.1 h.toInt.toNat = r.toInt := by rw [← b2 h.toInt.toNat (by omega)]; exact hr
  have yc : ((y.toInt.toNat : Nat) : Int) = y.toInt := by omega
  have sy := b1 y.toInt.toNat (by omega)
  rw [yc] at sy
  refine ⟨?_, by rw [e1]; exact q, by rw [e2]; exact hg.symm, r0⟩
  unfold bfC
  rw [e1, e2, q, ← hg]
  exact ⟨by omega, by omega, by rw [← sy]; exact hy⟩
def BFF (g : Int → Nat → Int) (a : Int) (m : Nat) (N : Int) (fi : Nat → Int32) : Prop := ∀ x : Nat, (x : Int) < N → (fi x).toInt = bfF g a m (x : Int)
theorem BFF_0 {g : Int → Nat → Int} {a N : Int} {fi : Nat → Int32} (h : ∀ x : Nat, (fi x).toInt = -9) : BFF g a 0 N fi := fun x _ => h x
theorem BFF_n {g : Int → Nat → Int} {a N : Int} {fi : Nat → Int32} {h d d2 : Int32} (hF : BFF g a (mI h.toInt d.toInt) N fi) (hc : ¬ bfC g a (mI h.toInt d.toInt)) (h0 : 0 ≤ h.toInt) (hd : 0 ≤ d.toInt ∧ d.toInt ≤ 9) (h2 : d2.toInt = d.toInt + 1) : BFF g a (mI h.toInt d2.toInt) N fi := by
  rw [show mI h.toInt d2.toInt = mI h.toInt d.toInt + 1 by unfold mI; omega]
  unfold BFF
  rw [bfF_n hc]
  exact hF
theorem BFF_y {g : Int → Nat → Int} {a N : Int} {fi : Nat → Int32} {h d d2 y v r : Int32} (hF : BFF g a (mI h.toInt d.toInt) N fi) (hc : bfC g a (mI h.toInt d.toInt) ∧ (bf g a (mI h.toInt d.toInt)).2.1 (mI h.toInt d.toInt / 10) = r.toInt ∧ g r.toInt (mI h.toInt d.toInt % 10) = y.toInt ∧ 0 ≤ r.toInt ∧ r.toInt < N) (h0 : 0 ≤ h.toInt) (hd : 0 ≤ d.toInt ∧ d.toInt ≤ 9) (y0 : 0 ≤ y.toInt) (hv : (r.toInt = a ∧ v.toInt = d.toInt) ∨ (¬ r.toInt = a ∧ v.toInt = (fi r.toNatClampNeg).toInt)) (h2 : d2.toInt = d.toInt + 1) : BFF g a (mI h.toInt d2.toInt) N (upd fi y.toNatClampNeg v) := by
  have e2 : mI h.toInt d.toInt % 10 = d.toInt.toNat := by unfold mI; omega
  rw [show mI h.toInt d2.toInt = mI h.toInt d.toInt + 1 by unfold mI; omega]
  unfold BFF
  rw [bfF_y hc.1, hc.2.1, hc.2.2.1]
  intro x hx
  show _ = (if (x : Int) = y.toInt then _ else _)
  have ey : y.toNatClampNeg = y.toInt.toNat := rfl
  have er : r.toNatClampNeg = r.toInt.toNat := rfl
  by_cases z : x = y.toNatClampNeg
  · rw [z, pk_us, if_pos (by omega)]
    rcases hv with ⟨w1, w2⟩ | ⟨w1, w2⟩
    · rw [if_pos w1, w2, e2]; omega
    · have q := hF r.toNatClampNeg (by omega)
      rw [if_neg w1, w2, q, show ((r.toNatClampNeg : Nat) : Int) = r.toInt by omega]
  · rw [pk_un z, if_neg (by omega)]; exact hF x hx
theorem BFF_o {g : Int → Nat → Int} {a N : Int} {fi : Nat → Int32} {h h2 d : Int32} (hF : BFF g a (mI h.toInt d.toInt) N fi) (h0 : 0 ≤ h.toInt) (hd : d.toInt = 10) (hh : h2.toInt = h.toInt + 1) : BFF g a (mI h2.toInt 0) N fi := by
  rw [show mI h2.toInt 0 = mI h.toInt d.toInt by unfold mI; omega]; exact hF
theorem bfF_e {g : Int → Nat → Int} {a : Int} {m k : Nat} (h : (bf g a m).2.2 ≤ m / 10) : bfF g a (m + k) = bfF g a m := by
  induction k with
  | zero => rfl
  | succ k ih =>
    rw [show m + (k + 1) = (m + k) + 1 by omega]
    have q : bfF g a (m + k + 1) = bfF g a (m + k) := bfF_n (by
      intro z
      unfold bfC at z
      rw [bf_e h] at z
      have := z.1
      have := Nat.div_le_div_right (c := 10) (show m ≤ m + k by omega)
      omega)
    rw [q, ih]
theorem BFF_end {g : Int → Nat → Int} {a N : Int} {st qu fi : Nat → Int32} {kn h : Int32} (hB : BFI g a (mI h.toInt 0) N st qu kn.toInt) (hF : BFF g a (mI h.toInt 0) N fi) (h0 : 0 ≤ h.toInt ∧ h.toInt ≤ 30) (hk : kn.toInt ≤ h.toInt ∨ h.toInt = 30) : BFF g a 300 N fi := by
  obtain ⟨b1, b2, b3, b4⟩ := hB
  intro x hx
  rw [hF x hx]
  rcases hk with q | q
  · have e := bfF_e (g := g) (a := a) (m := mI h.toInt 0) (k := 300 - mI h.toInt 0) (by unfold mI at *; omega)
    rw [show mI h.toInt 0 + (300 - mI h.toInt 0) = 300 by unfold mI; omega] at e
    rw [e]
  · rw [show mI h.toInt 0 = 300 by unfold mI; omega]
/-- toward, as the reference finds it -/
def NoD (g : Int → Nat → Int) (a b : Int) (m d : Nat) : Prop := ¬ g a d = -9 → ¬ bfS g (g a d) m b = bfS g a m b - 1
def TdM (g : Int → Nat → Int) (a b : Int) (m : Nat) (v : Int) : Prop := ((bfS g a m b = -9 ∨ bfS g a m b = 0) ∧ v = -9) ∨ (¬ bfS g a m b = -9 ∧ ¬ bfS g a m b = 0 ∧ ((∃ d : Nat, d < 10 ∧ v = (d : Int) ∧ ¬ g a d = -9 ∧ bfS g (g a d) m b = bfS g a m b - 1 ∧ ∀ d' : Nat, d' < d → NoD g a b m d') ∨ (v = -9 ∧ ∀ d : Nat, d < 10 → NoD g a b m d)))
theorem Td_e {g g2 : Int → Nat → Int} {a b : Int} {R : Int → Prop} {m : Nat} (hm : m = 300) (ha : R a) (hR : ∀ r, R r → 0 ≤ r ∧ r ≤ 29) (h : ∀ r, R r → ∀ d, d < 10 → g r d = g2 r d ∧ (g r d = -9 ∨ R (g r d))) {v2 : Int} (h2 : TdM g2 a b m v2) : bfF g a m b = v2 := by
  have hg : ∀ r, R r → ∀ d, d < 10 → g r d = -9 ∨ R (g r d) := fun r q d w => (h r q d w).2
  have ea : bf g a m = bf g2 a m := (bf_c ha h m).1
  have eD : ∀ d, d < 10 → ¬ g a d = -9 → g2 a d = g a d ∧ bf g (g a d) m = bf g2 (g2 a d) m := fun d q w => by
    have z := h a ha d q
    exact ⟨z.1.symm, by rw [← z.1]; exact (bf_c (z.2.resolve_left w) h m).1⟩
  have s := bf_f ha hR hg b hm
  unfold TdM NoD bfS at h2
  rw [← ea] at h2
  rcases s with ⟨s1, s2⟩ | ⟨s1, d, s2, s3, s4, s5, s6⟩
  · rcases h2 with ⟨_, p⟩ | ⟨p1, p2, _⟩
    · rw [s2, p]
    · rcases s1 with s1 | s1
      · exact absurd s1 p1
      · exact absurd s1 p2
  · have ed := eD d s2 s4
    rcases h2 with ⟨p, _⟩ | ⟨_, _, p | p⟩
    · exfalso
      rcases p with p | p
      · rw [p] at s1; omega
      · rw [p] at s1; omega
    · obtain ⟨e, e1, e2, e3, e4, e5⟩ := p
      have n3 : ¬ g a e = -9 := by rw [(h a ha e e1).1]; exact e3
      have ee := eD e e1 n3
      rw [s3, e2]
      have l1 : ¬ e < d := fun z => s6 e z n3 (by rw [ee.2]; exact e4)
      have l2 : ¬ d < e := fun z => e5 d z (by rw [ed.1]; exact s4) (by rw [← ed.2]; exact s5)
      omega
    · exact absurd (by rw [← ed.2]; exact s5) (p.2 d s2 (by rw [ed.1]; exact s4))

def wm_X5_walkFrom_e : List Cond := .code yX5_walkFrom cX5_walkFrom 8 none :: ((([.fieldLink RX5 30 "TalePlay$Roads" "steps" "[I", .methodLink RX5 50 yJ7_fill_53178, .static yJ7_fill_53178, .initialized RJ7, .code yJ7_fill_53178 cJ7_fill_53178 4 none, .fieldLink RX5 33 "TalePlay$Roads" "firsts" "[I", .fieldLink RX5 36 "TalePlay$Roads" "queue" "[I", .fieldLink RX5 9 "TalePlay$Roads" "leads" "[I", .methodLink RX5 101 yX5_isPassable, .instanceMethod yX5_isPassable, .selects RX5 yX5_isPassable yX5_isPassable, .initialized RX5, .code yX5_isPassable cX5_isPassable 3 (some .boolean), .fieldLink RX5 15 "TalePlay$Roads" "doors" "[I", .fieldLink RX5 43 "TalePlay$Roads" "book" "LTalePlay$Book;", .methodLink RX5 105 yX1_saidFlag] : List Cond) ++ (([.instanceMethod yX1_saidFlag, .selects RX1 yX1_saidFlag yX1_saidFlag, .initialized RX1, .code yX1_saidFlag cX1_saidFlag 4 (some .int), .fieldLink RX1 34 "TalePlay$Book" "flagBy" "[I", .fieldLink RX1 21 "TalePlay$Book" "cs" "[I", .fieldLink RX1 43 "TalePlay$Book" "world" "LTalePlay$World;", .methodLink RX1 114 yX10_standardFor, .instanceMethod yX10_standardFor, .selects RX10 yX10_standardFor yX10_standardFor, .initialized RX10, .code yX10_standardFor cX10_standardFor 6 (some .int), .fieldLink RX10 21 "TalePlay$World" "kindOf" "[I", .methodLink RX10 40 yX10_sortOf, .instanceMethod yX10_sortOf, .selects RX10 yX10_sortOf yX10_sortOf] : List Cond) ++ ([.code yX10_sortOf cX10_sortOf 2 (some .int), .fieldLink RX10 37 "TalePlay$World" "objects" "I", .fieldLink RX10 15 "TalePlay$World" "sorts" "[I", .fieldLink RX10 18 "TalePlay$World" "standards" "[I", .fieldLink RX10 9 "TalePlay$World" "parents" "[I"] : List Cond))) ++ wsX50 ++ wsX10 ++ wsX100)
set_option maxRecDepth 20000 in
theorem gm_X5_walkFrom_e_J7_fill_53178_50 : GoodIn wm_X5_walkFrom_e (va_wsS RX5 50 yJ7_fill_53178 wm_J7_fill_53178) := goodIn_w (List.forall_mem_append.mpr ⟨List.forall_mem_cons.mpr ⟨List.mem_cons_of_mem _ (List.mem_append_left _ (List.mem_append_left _ (List.mem_append_left _ (List.mem_append_left _ (List.mem_of_getElem? (i := 1) rfl))))), List.forall_mem_cons.mpr ⟨List.mem_cons_of_mem _ (List.mem_append_left _ (List.mem_append_left _ (List.mem_append_left _ (List.mem_append_left _ (List.mem_of_getElem? (i := 2) rfl))))), List.forall_mem_cons.mpr ⟨List.mem_cons_of_mem _ (List.mem_append_left _ (List.mem_append_left _ (List.mem_append_left _ (List.mem_append_left _ (List.mem_of_getElem? (i := 3) rfl))))), (fun _ h => absurd h List.not_mem_nil)⟩⟩⟩, List.forall_mem_cons.mpr ⟨List.mem_cons_of_mem _ (List.mem_append_left _ (List.mem_append_left _ (List.mem_append_left _ (List.mem_append_left _ (List.mem_of_getElem? (i := 4) rfl))))), (fun _ h => absurd h List.not_mem_nil)⟩⟩) (by decide +kernel)
set_option maxRecDepth 20000 in
theorem gm_X5_walkFrom_e_X5_isPassable_e_101 : GoodIn wm_X5_walkFrom_e (wsV RX5 101 RX5 yX5_isPassable wm_X5_isPassable_e) := goodIn_w (List.forall_mem_append.mpr ⟨List.forall_mem_cons.mpr ⟨List.mem_cons_of_mem _ (List.mem_append_left _ (List.mem_append_left _ (List.mem_append_left _ (List.mem_append_left _ (List.mem_of_getElem? (i := 8) rfl))))), List.forall_mem_cons.mpr ⟨List.mem_cons_of_mem _ (List.mem_append_left _ (List.mem_append_left _ (List.mem_append_left _ (List.mem_append_left _ (List.mem_of_getElem? (i := 9) rfl))))), List.forall_mem_cons.mpr ⟨List.mem_cons_of_mem _ (List.mem_append_left _ (List.mem_append_left _ (List.mem_append_left _ (List.mem_append_left _ (List.mem_of_getElem? (i := 10) rfl))))), List.forall_mem_cons.mpr ⟨List.mem_cons_of_mem _ (List.mem_append_left _ (List.mem_append_left _ (List.mem_append_left _ (List.mem_append_left _ (List.mem_of_getElem? (i := 11) rfl))))), (fun _ h => absurd h List.not_mem_nil)⟩⟩⟩⟩, List.forall_mem_cons.mpr ⟨List.mem_cons_of_mem _ (List.mem_append_left _ (List.mem_append_left _ (List.mem_append_left _ (List.mem_append_left _ (List.mem_of_getElem? (i := 12) rfl))))), List.forall_mem_append.mpr ⟨List.forall_mem_append.mpr ⟨List.forall_mem_append.mpr ⟨List.forall_mem_append.mpr ⟨List.forall_mem_cons.mpr ⟨List.mem_cons_of_mem _ (List.mem_append_left _ (List.mem_append_left _ (List.mem_append_left _ (List.mem_append_left _ (List.mem_of_getElem? (i := 13) rfl))))), List.forall_mem_cons.mpr ⟨List.mem_cons_of_mem _ (List.mem_append_left _ (List.mem_append_left _ (List.mem_append_left _ (List.mem_append_left _ (List.mem_of_getElem? (i := 14) rfl))))), List.forall_mem_cons.mpr ⟨List.mem_cons_of_mem _ (List.mem_append_left _ (List.mem_append_left _ (List.mem_append_left _ (List.mem_append_left _ (List.mem_of_getElem? (i := 15) rfl))))), List.forall_mem_cons.mpr ⟨List.mem_cons_of_mem _ (List.mem_append_left _ (List.mem_append_left _ (List.mem_append_left _ (List.mem_append_right _ (List.mem_append_left _ (List.mem_of_getElem? (i := 0) rfl)))))), List.forall_mem_cons.mpr ⟨List.mem_cons_of_mem _ (List.mem_append_left _ (List.mem_append_left _ (List.mem_append_left _ (List.mem_append_right _ (List.mem_append_left _ (List.mem_of_getElem? (i := 1) rfl)))))), List.forall_mem_cons.mpr ⟨List.mem_cons_of_mem _ (List.mem_append_left _ (List.mem_append_left _ (List.mem_append_left _ (List.mem_append_right _ (List.mem_append_left _ (List.mem_of_getElem? (i := 2) rfl)))))), List.forall_mem_cons.mpr ⟨List.mem_cons_of_mem _ (List.mem_append_left _ (List.mem_append_left _ (List.mem_append_left _ (List.mem_append_right _ (List.mem_append_left _ (List.mem_of_getElem? (i := 3) rfl)))))), List.forall_mem_cons.mpr ⟨List.mem_cons_of_mem _ (List.mem_append_left _ (List.mem_append_left _ (List.mem_append_left _ (List.mem_append_right _ (List.mem_append_left _ (List.mem_of_getElem? (i := 4) rfl)))))), List.forall_mem_cons.mpr ⟨List.mem_cons_of_mem _ (List.mem_append_left _ (List.mem_append_left _ (List.mem_append_left _ (List.mem_append_right _ (List.mem_append_left _ (List.mem_of_getElem? (i := 5) rfl)))))), List.forall_mem_cons.mpr ⟨List.mem_cons_of_mem _ (List.mem_append_left _ (List.mem_append_left _ (List.mem_append_left _ (List.mem_append_right _ (List.mem_append_left _ (List.mem_of_getElem? (i := 6) rfl)))))), List.forall_mem_cons.mpr ⟨List.mem_cons_of_mem _ (List.mem_append_left _ (List.mem_append_left _ (List.mem_append_left _ (List.mem_append_right _ (List.mem_append_left _ (List.mem_of_getElem? (i := 7) rfl)))))), List.forall_mem_cons.mpr ⟨List.mem_cons_of_mem _ (List.mem_append_left _ (List.mem_append_left _ (List.mem_append_left _ (List.mem_append_right _ (List.mem_append_left _ (List.mem_of_getElem? (i := 8) rfl)))))), List.forall_mem_cons.mpr ⟨List.mem_cons_of_mem _ (List.mem_append_left _ (List.mem_append_left _ (List.mem_append_left _ (List.mem_append_right _ (List.mem_append_left _ (List.mem_of_getElem? (i := 9) rfl)))))), List.forall_mem_cons.mpr ⟨List.mem_cons_of_mem _ (List.mem_append_left _ (List.mem_append_left _ (List.mem_append_left _ (List.mem_append_right _ (List.mem_append_left _ (List.mem_of_getElem? (i := 10) rfl)))))), List.forall_mem_cons.mpr ⟨List.mem_cons_of_mem _ (List.mem_append_left _ (List.mem_append_left _ (List.mem_append_left _ (List.mem_append_right _ (List.mem_append_left _ (List.mem_of_getElem? (i := 11) rfl)))))), List.forall_mem_cons.mpr ⟨List.mem_cons_of_mem _ (List.mem_append_left _ (List.mem_append_left _ (List.mem_append_left _ (List.mem_append_right _ (List.mem_append_left _ (List.mem_of_getElem? (i := 12) rfl)))))), (fun _ h => absurd h List.not_mem_nil)⟩⟩⟩⟩⟩⟩⟩⟩⟩⟩⟩⟩⟩⟩⟩⟩, List.forall_mem_cons.mpr ⟨List.mem_cons_of_mem _ (List.mem_append_left _ (List.mem_append_left _ (List.mem_append_left _ (List.mem_append_right _ (List.mem_append_left _ (List.mem_of_getElem? (i := 13) rfl)))))), List.forall_mem_cons.mpr ⟨List.mem_cons_of_mem _ (List.mem_append_left _ (List.mem_append_left _ (List.mem_append_left _ (List.mem_append_right _ (List.mem_append_left _ (List.mem_of_getElem? (i := 14) rfl)))))), List.forall_mem_cons.mpr ⟨List.mem_cons_of_mem _ (List.mem_append_left _ (List.mem_append_left _ (List.mem_append_left _ (List.mem_append_right _ (List.mem_append_left _ (List.mem_of_getElem? (i := 15) rfl)))))), List.forall_mem_cons.mpr ⟨List.mem_cons_of_mem _ (List.mem_append_left _ (List.mem_append_left _ (List.mem_append_left _ (List.mem_append_right _ (List.mem_append_right _ (List.mem_of_getElem? (i := 0) rfl)))))), List.forall_mem_cons.mpr ⟨List.mem_cons_of_mem _ (List.mem_append_left _ (List.mem_append_left _ (List.mem_append_left _ (List.mem_append_right _ (List.mem_append_right _ (List.mem_of_getElem? (i := 1) rfl)))))), List.forall_mem_cons.mpr ⟨List.mem_cons_of_mem _ (List.mem_append_left _ (List.mem_append_left _ (List.mem_append_left _ (List.mem_append_right _ (List.mem_append_right _ (List.mem_of_getElem? (i := 2) rfl)))))), List.forall_mem_cons.mpr ⟨List.mem_cons_of_mem _ (List.mem_append_left _ (List.mem_append_left _ (List.mem_append_left _ (List.mem_append_right _ (List.mem_append_right _ (List.mem_of_getElem? (i := 3) rfl)))))), List.forall_mem_cons.mpr ⟨List.mem_cons_of_mem _ (List.mem_append_left _ (List.mem_append_left _ (List.mem_append_left _ (List.mem_append_right _ (List.mem_append_right _ (List.mem_of_getElem? (i := 4) rfl)))))), (fun _ h => absurd h List.not_mem_nil)⟩⟩⟩⟩⟩⟩⟩⟩⟩, (fun _ h => List.mem_cons_of_mem _ (List.mem_append_left _ (List.mem_append_left _ (List.mem_append_right _ h))))⟩, (fun _ h => List.mem_cons_of_mem _ (List.mem_append_left _ (List.mem_append_right _ h)))⟩, (fun _ h => List.mem_cons_of_mem _ (List.mem_append_right _ h))⟩⟩⟩) (by decide +kernel)
set_option maxHeartbeats 4000000 in
set_option maxRecDepth 100000 in
theorem x_X5_walkFrom_e (l : Launch) (D : va_G) (sz : Nat) (sk : Value) (a : Nat → Nat) (t : Nat → ClassId) (i : Nat → Int32) (q : Int64) (c : Nat → Nat → Int32) (d : Nat → Nat → Int64) (w : Int32) (b1 : Int32) (hI : xInv i c) (hw : 0 ≤ w.toInt ∧ w.toInt ≤ 29) (hs_D : PD (c 105)) (hs_O : DoN (c 130) (i 111).toInt) : Met l yX5_walkFrom wm_X5_walkFrom_e ({ frames := 4, cells := 0, slots := 0, locals := 91 }) (va_Pc [.ref (a 128), .int w, .int b1] (yB (a 186) D sz (xwT sk a t i q c d) (xtT t))) (va_Qv (fun (u : MS) => True ∧ xInv u.1 u.2.2.1 ∧ (∀ k, k ∉ ([] : List Nat) → u.1 k = i k) ∧ (∀ k, k ∉ ([135, 136, 137] : List Nat) → u.2.2.1 k = c k) ∧ (BfE (gX (c 129) (c 130) b1.toInt (fun t9 : Int => sgX (c 120) (c 116) t9 0 (sfV (c 105) (c 108) (c 107) (c 106 (c 108 t9.toNat).toNatClampNeg).toInt 0 t9))) w.toInt 30 (u.2.2.1 135)) ∧ (BFF (gX (c 129) (c 130) b1.toInt (fun t9 : Int => sgX (c 120) (c 116) t9 0 (sfV (c 105) (c 108) (c 107) (c 106 (c 108 t9.toNat).toNatClampNeg).toInt 0 t9))) w.toInt 300 30 (u.2.2.1 136))) (oC D (va_A (xwT sk a t i q c d) sz) (fun u : MS => xwT sk a t u.1 u.2.1 u.2.2.1 u.2.2.2) (fun _ => [])) (va_A (xwT sk a t i q c d) sz)) 0 0 (va_A (xwT sk a t i q c d) sz) := by
  refine Met.ofW (cc := cX5_walkFrom) (maxL := 8) (ret := none) (by decide +kernel) rfl ?_
  intro p e s m args below meth cd s₁ B hml hv
  obtain ⟨rfl, ⟨hsz, hP, hK, hD0⟩, hN, hZ, hBW⟩ := hv
  have hx := B.exec
  have hb := B.bytes
  have hr := B.returns
  have hts := atoms_spec (ws := wm_X5_walkFrom_e) B.pre
  have hown : s.vm.findClass RX5 = some m.cls := findClass_of_methodNamed B.named
  have hlocks := B.notSynchronized
  subst hsz
  have hD := hD0.self (sz := s.heap.size)
  have hZ := xZ_A hZ hP hBW
  generalize hAe : va_A (xwT sk a t i q c d) s.heap.size = A at hD hZ ⊢
  have hA : ∀ q : Nat, s.heap.size ≤ q → A q := fun q h => by rw [← hAe]; exact Or.inr h
  have hS : va_S A s.heap s.heap [] := va_S.rf
  have hfi : ∀ k, k ∉ ([] : List Nat) → i k = i k := fun _ _ => rfl
  have hfc : ∀ k, k ∉ ([] : List Nat) → c k = c k := fun _ _ => rfl
  have hl := lv_entry ([.ref (a 128), .int w, .int b1]) (n := 8) (Nat.le_of_ble_eq_true rfl)
  rw [lg_entry_eq]
  generalize (lg_sl ([.ref (a 128), .int w, .int b1]) ++ List.replicate (8 - (lg_sl ([.ref (a 128), .int w, .int b1])).length) Slot.unset).toArray = ls at hl ⊢
  have hl : lv_has ls 8 [(0, .ref (a 128)), (1, .int w), (2, .int b1)] := hl
  have rb111_i : 0 ≤ (i 111).toInt ∧ (i 111).toInt ≤ 30 := hI.1 111
  refine lv_aload_n hx hb dX5_walkFrom_0 rfl (lv_at hl 0 rfl) ?_
  refine xgT_R_steps hx hb hts (fun _ h => List.mem_cons_of_mem _ (List.mem_append_left _ (List.mem_append_left _ (List.mem_append_right _ h)))) hown hK hP (hts (.fieldLink RX5 30 "TalePlay$Roads" "steps" "[I") (List.mem_cons_of_mem _ (List.mem_append_left _ (List.mem_append_left _ (List.mem_append_left _ (List.mem_append_left _ (List.mem_of_getElem? (i := 0) rfl))))))) dX5_walkFrom_1 ?_
  refine lv_bipush (v := (-9)) hx hb dX5_walkFrom_4 (by decide +kernel) ?_
  have hPc := hP.sub (ws' := [(a 135, .inl (t 135, 30, .inl (c 135)))]) [28] rfl
  have hKc := hK.sub (tys' := [(t 135, .int)]) [23] rfl
  have hDc := hD.sub (ws' := [(a 135, .inl (t 135, 30, .inl (c 135)))]) [28] (by decide +kernel) rfl
  refine rw_callv (wr := ((xwT sk a t i q c d)).eraseIdx 28) (va_runS (As := [.ref (a 135), .int (-9)]) (rest := []) ⟨hx, hb, hml, hown, hts⟩ (c_fill2 l D s.heap.size (a 135) (t 135) 30 (c 135) ((-9) : Int32) (by decide +kernel)) (va_cwS 2 hts gm_X5_walkFrom_e_J7_fill_53178_50 rfl rfl rfl (by decide +kernel) ⟨Nat.le_of_ble_eq_true rfl, Nat.le_of_ble_eq_true rfl⟩) (pB_S hKc hPc hDc) rfl rfl hl.1 rfl (lv_room (Nat.le_of_ble_eq_true rfl)) dX5_walkFrom_6 ⟨Nat.le_of_ble_eq_true rfl, Nat.le_of_ble_eq_true rfl⟩) hS hA hK hP hD [28] [0, 1, 2, 3, 4, 5, 6, 7, 8, 9, 10, 11, 12, 13, 14, 15, 16, 17, 18, 19, 20, 21, 22, 23, 24, 25, 26, 27, 29, 30, 31, 32, 33, 34, 35, 36, 37, 38, 39, 40, 41, 42, 43, 44, 45, 46, 47, 48, 49, 50] rfl rfl (by decide +kernel) (by decide +kernel) (fun u1 H locs hw1 hK2 hP hD hS => ?_)
  have hP : va_P D vwCl (xwT sk a t i q (updF c 135 (fun _ => ((-9) : Int32))) d) H := hP.sub [0, 1, 2, 3, 4, 5, 6, 7, 8, 9, 10, 11, 12, 13, 14, 15, 16, 17, 18, 19, 20, 21, 22, 23, 24, 25, 26, 27, 50, 28, 29, 30, 31, 32, 33, 34, 35, 36, 37, 38, 39, 40, 41, 42, 43, 44, 45, 46, 47, 48, 49] rfl
  have hD : va_D A (xwT sk a t i q (updF c 135 (fun _ => ((-9) : Int32))) d) := hD.sub [0, 1, 2, 3, 4, 5, 6, 7, 8, 9, 10, 11, 12, 13, 14, 15, 16, 17, 18, 19, 20, 21, 22, 23, 24, 25, 26, 27, 50, 28, 29, 30, 31, 32, 33, 34, 35, 36, 37, 38, 39, 40, 41, 42, 43, 44, 45, 46, 47, 48, 49] (by decide +kernel) rfl
  have hI := xInv_f hI (k := 135) (f := (fun _ => ((-9) : Int32))) (fun j => show ((-9) : Int32).toInt = -9 ∨ (0 ≤ ((-9) : Int32).toInt ∧ ((-9) : Int32).toInt ≤ 29) from by have h9 : ((-9) : Int32).toInt = -9 := (by decide +kernel); omega)
  have hfc : ∀ k, k ∉ ([135] : List Nat) → (updF c 135 (fun _ => ((-9) : Int32))) k = c k := fr_f hfc (by decide +kernel) (by decide +kernel)
  refine lv_aload_n hx hb dX5_walkFrom_9 rfl (lv_at hl 0 rfl) ?_
  refine xgT_R_firsts hx hb hts (fun _ h => List.mem_cons_of_mem _ (List.mem_append_left _ (List.mem_append_left _ (List.mem_append_right _ h)))) hown hK hP (hts (.fieldLink RX5 33 "TalePlay$Roads" "firsts" "[I") (List.mem_cons_of_mem _ (List.mem_append_left _ (List.mem_append_left _ (List.mem_append_left _ (List.mem_append_left _ (List.mem_of_getElem? (i := 5) rfl))))))) dX5_walkFrom_10 ?_
  refine lv_bipush (v := (-9)) hx hb dX5_walkFrom_13 (by decide +kernel) ?_
  have hPc := hP.sub (ws' := [(a 136, .inl (t 136, 30, .inl ((updF c 135 (fun _ => ((-9) : Int32))) 136)))]) [29] rfl
  have hKc := hK.sub (tys' := [(t 136, .int)]) [24] rfl
  have hDc := hD.sub (ws' := [(a 136, .inl (t 136, 30, .inl ((updF c 135 (fun _ => ((-9) : Int32))) 136)))]) [29] (by decide +kernel) rfl
  refine rw_callv (wr := ((xwT sk a t i q (updF c 135 (fun _ => ((-9) : Int32))) d)).eraseIdx 29) (va_runS (As := [.ref (a 136), .int (-9)]) (rest := []) ⟨hx, hb, hml, hown, hts⟩ (c_fill2 l D H.size (a 136) (t 136) 30 ((updF c 135 (fun _ => ((-9) : Int32))) 136) ((-9) : Int32) (by decide +kernel)) (va_cwS 2 hts gm_X5_walkFrom_e_J7_fill_53178_50 rfl rfl rfl (by decide +kernel) ⟨Nat.le_of_ble_eq_true rfl, Nat.le_of_ble_eq_true rfl⟩) (pB_S hKc hPc hDc) rfl rfl hl.1 rfl (lv_room (Nat.le_of_ble_eq_true rfl)) dX5_walkFrom_15 ⟨Nat.le_of_ble_eq_true rfl, Nat.le_of_ble_eq_true rfl⟩) hS hA hK hP hD [29] [0, 1, 2, 3, 4, 5, 6, 7, 8, 9, 10, 11, 12, 13, 14, 15, 16, 17, 18, 19, 20, 21, 22, 23, 24, 25, 26, 27, 28, 30, 31, 32, 33, 34, 35, 36, 37, 38, 39, 40, 41, 42, 43, 44, 45, 46, 47, 48, 49, 50] rfl rfl (by decide +kernel) (by decide +kernel) (fun u2 H locs hw2 hK2 hP hD hS => ?_)
  have hP : va_P D vwCl (xwT sk a t i q (updF (updF c 135 (fun _ => ((-9) : Int32))) 136 (fun _ => ((-9) : Int32))) d) H := hP.sub [0, 1, 2, 3, 4, 5, 6, 7, 8, 9, 10, 11, 12, 13, 14, 15, 16, 17, 18, 19, 20, 21, 22, 23, 24, 25, 26, 27, 28, 50, 29, 30, 31, 32, 33, 34, 35, 36, 37, 38, 39, 40, 41, 42, 43, 44, 45, 46, 47, 48, 49] rfl
  have hD : va_D A (xwT sk a t i q (updF (updF c 135 (fun _ => ((-9) : Int32))) 136 (fun _ => ((-9) : Int32))) d) := hD.sub [0, 1, 2, 3, 4, 5, 6, 7, 8, 9, 10, 11, 12, 13, 14, 15, 16, 17, 18, 19, 20, 21, 22, 23, 24, 25, 26, 27, 28, 50, 29, 30, 31, 32, 33, 34, 35, 36, 37, 38, 39, 40, 41, 42, 43, 44, 45, 46, 47, 48, 49] (by decide +kernel) rfl
  have hI := xInv_f hI (k := 136) (f := (fun _ => ((-9) : Int32))) (fun j => show True from trivial)
  have hfc : ∀ k, k ∉ ([135, 136] : List Nat) → (updF (updF c 135 (fun _ => ((-9) : Int32))) 136 (fun _ => ((-9) : Int32))) k = c k := fr_f hfc (by decide +kernel) (by decide +kernel)
  refine lv_aload_n hx hb dX5_walkFrom_18 rfl (lv_at hl 0 rfl) ?_
  refine xgT_R_steps hx hb hts (fun _ h => List.mem_cons_of_mem _ (List.mem_append_left _ (List.mem_append_left _ (List.mem_append_right _ h)))) hown hK hP (hts (.fieldLink RX5 30 "TalePlay$Roads" "steps" "[I") (List.mem_cons_of_mem _ (List.mem_append_left _ (List.mem_append_left _ (List.mem_append_left _ (List.mem_append_left _ (List.mem_of_getElem? (i := 0) rfl))))))) dX5_walkFrom_19 ?_
  refine lv_iload_n hx hb dX5_walkFrom_22 rfl (lv_at hl 1 rfl) ?_
  refine lv_iconst (v := 0) hx hb dX5_walkFrom_23 (by decide +kernel) ?_
  refine xsT_135 hx hb hK hP hD hS (vp_in_iff.mpr (by have h9 : w.toInt = w.toInt := rfl; omega)) dX5_walkFrom_24 (fun H locs hP hD hS => ?_)
  have hI := xInv_c hI (k := 135) (j := (w : Int32).toNatClampNeg) (x := 0) (show (0 : Int32).toInt = -9 ∨ (0 ≤ (0 : Int32).toInt ∧ (0 : Int32).toInt ≤ 29) from by decide +kernel)
  have hfc := fr_c hfc (k := 135) (j := (w : Int32).toNatClampNeg) (x := 0) (by decide +kernel)
  refine lv_aload_n hx hb dX5_walkFrom_25 rfl (lv_at hl 0 rfl) ?_
  refine xgT_R_queue hx hb hts (fun _ h => List.mem_cons_of_mem _ (List.mem_append_left _ (List.mem_append_left _ (List.mem_append_right _ h)))) hown hK hP (hts (.fieldLink RX5 36 "TalePlay$Roads" "queue" "[I") (List.mem_cons_of_mem _ (List.mem_append_left _ (List.mem_append_left _ (List.mem_append_left _ (List.mem_append_left _ (List.mem_of_getElem? (i := 6) rfl))))))) dX5_walkFrom_26 ?_
  refine lv_iconst (v := 0) hx hb dX5_walkFrom_29 (by decide +kernel) ?_
  refine lv_iload_n hx hb dX5_walkFrom_30 rfl (lv_at hl 1 rfl) ?_
  refine xsT_137 hx hb hK hP hD hS (show vp_in 0 30 from by unfold vp_in; decide) dX5_walkFrom_31 (fun H locs hP hD hS => ?_)
  have hI := xInv_c hI (k := 137) (j := (0 : Int32).toNatClampNeg) (x := w) (show 0 ≤ (w : Int32).toInt ∧ (w : Int32).toInt ≤ 29 from by omega)
  have hfc : ∀ k, k ∉ ([135, 136, 137] : List Nat) → (updA (updA (updF (updF c 135 (fun _ => ((-9) : Int32))) 136 (fun _ => ((-9) : Int32))) 135 (w : Int32).toNatClampNeg 0) 137 (0 : Int32).toNatClampNeg w) k = c k := fr_cz hfc (by decide +kernel) (by decide +kernel)
  refine lv_iconst (v := 1) hx hb dX5_walkFrom_32 (by decide +kernel) ?_
  refine lv_istore_n (lv' := [(3, .int 1), (0, .ref (a 128)), (1, .int w), (2, .int b1)]) hx hb dX5_walkFrom_33 rfl hl (by decide +kernel) rfl (fun ls hl => ?_)
  refine lv_iconst (v := 0) hx hb dX5_walkFrom_34 (by decide +kernel) ?_
  refine lv_istore (lv' := [(4, .int 0), (3, .int 1), (0, .ref (a 128)), (1, .int w), (2, .int b1)]) hx hb dX5_walkFrom_35 hl (by decide +kernel) rfl (fun ls hl => ?_)
  have lp3 : ∀ (fu : Nat) (i3 : Nat → Int32) (q3 : Int64) (c3 : Nat → Nat → Int32) (d3 : Nat → Nat → Int64) (y3_4 : Int32) (y3_3 : Int32), xInv i3 c3 → (∀ k, k ∉ ([] : List Nat) → i3 k = i k) → (∀ k, k ∉ ([135, 136, 137] : List Nat) → c3 k = c k) → (0 ≤ y3_4.toInt ∧ y3_4.toInt ≤ 30) → (1 ≤ y3_3.toInt ∧ y3_3.toInt ≤ 30) → (WQ (c3 135) (c3 137) y3_3.toInt) → (BFI (gX (c 129) (c 130) b1.toInt (fun t9 : Int => sgX (c 120) (c 116) t9 0 (sfV (c 105) (c 108) (c 107) (c 106 (c 108 t9.toNat).toNatClampNeg).toInt 0 t9))) w.toInt (mI y3_4.toInt 0) 30 (c3 135) (c3 137) y3_3.toInt) → (BFF (gX (c 129) (c 130) b1.toInt (fun t9 : Int => sgX (c 120) (c 116) t9 0 (sfV (c 105) (c 108) (c 107) (c 106 (c 108 t9.toNat).toNatClampNeg).toInt 0 t9))) w.toInt (mI y3_4.toInt 0) 30 (c3 136)) → (30 - y3_4.toInt).toNat < fu → ∀ (H : Heap) (locs : List Loc) (ls : Array Slot), va_P D vwCl (xwT sk a t i3 q3 c3 d3) H → va_D A (xwT sk a t i3 q3 c3 d3) → va_S A s.heap H locs → lv_has ls 8 [(4, .int y3_4), (3, .int y3_3), (0, .ref (a 128)), (1, .int w), (2, .int b1)] → W p l e (headSpec wm_X5_walkFrom_e ({ frames := 4, cells := 0, slots := 0, locals := 91 })).room s m ([.ref (a 128), .int w, .int b1] : List Value).toArray below meth cd H locs 0 0 (MQ below (va_Qv (fun (u : MS) => True ∧ xInv u.1 u.2.2.1 ∧ (∀ k, k ∉ ([] : List Nat) → u.1 k = i k) ∧ (∀ k, k ∉ ([135, 136, 137] : List Nat) → u.2.2.1 k = c k) ∧ (BfE (gX (c 129) (c 130) b1.toInt (fun t9 : Int => sgX (c 120) (c 116) t9 0 (sfV (c 105) (c 108) (c 107) (c 106 (c 108 t9.toNat).toNatClampNeg).toInt 0 t9))) w.toInt 30 (u.2.2.1 135)) ∧ (BFF (gX (c 129) (c 130) b1.toInt (fun t9 : Int => sgX (c 120) (c 116) t9 0 (sfV (c 105) (c 108) (c 107) (c 106 (c 108 t9.toNat).toNatClampNeg).toInt 0 t9))) w.toInt 300 30 (u.2.2.1 136))) (oC D A (fun u : MS => xwT sk a t u.1 u.2.1 u.2.2.1 u.2.2.2) (fun _ => [])) A) ([.ref (a 128), .int w, .int b1] : List Value).toArray s 0 0 A) (F0 m 37 ls []) := by
    intro fu
    induction fu with
    | zero => intro i3 q3 c3 d3 y3_4 y3_3 hI hfi hfc hy3_4 hy3_3 hz3_0 hz3_1 hz3_2 hm; exact absurd hm (Nat.not_lt_zero _)
    | succ fu ih =>
      intro i3 q3 c3 d3 y3_4 y3_3 hI hfi hfc hy3_4 hy3_3 hz3_0 hz3_1 hz3_2 hm H locs ls hP hD hS hl
      have ih3 := ih
      refine lv_iload hx hb dX5_walkFrom_37 (lv_at hl 0 rfl) ?_
      refine lv_iload_n hx hb dX5_walkFrom_39 rfl (lv_at hl 1 rfl) ?_
      refine lv_icmp_ge (tgt := 183) hx hb dX5_walkFrom_40 (by decide +kernel) (fun c4 => ?_) (fun c4 => ?_)
      · have f4 := (ti_le (a := y3_3.toInt) (b := y3_4.toInt) rfl rfl).mp c4
        exact rw_vret (i3, q3, c3, d3) hx hb hr hlocks hS (hK.sub (tys' := []) [] rfl) hP hD dX5_walkFrom_183 ⟨trivial, hI, fr_w hfi (by decide +kernel), fr_w hfc (by decide +kernel), (show BfE (gX (c 129) (c 130) b1.toInt (fun t9 : Int => sgX (c 120) (c 116) t9 0 (sfV (c 105) (c 108) (c 107) (c 106 (c 108 t9.toNat).toNatClampNeg).toInt 0 t9))) w.toInt 30 (c3 135) from BFI_end hz3_1 (by omega) (by omega)), (show BFF (gX (c 129) (c 130) b1.toInt (fun t9 : Int => sgX (c 120) (c 116) t9 0 (sfV (c 105) (c 108) (c 107) (c 106 (c 108 t9.toNat).toNatClampNeg).toInt 0 t9))) w.toInt 300 30 (c3 136) from BFF_end hz3_1 hz3_2 (by omega) (by omega))⟩
      · have f4 := mt (ti_le (a := y3_3.toInt) (b := y3_4.toInt) rfl rfl).mpr c4
        refine lv_iload hx hb dX5_walkFrom_43 (lv_at hl 0 rfl) ?_
        refine lv_bipush (v := 30) hx hb dX5_walkFrom_45 (by decide +kernel) ?_
        refine lv_icmp_ge (tgt := 183) hx hb dX5_walkFrom_47 (by decide +kernel) (fun c5 => ?_) (fun c5 => ?_)
        · have f5 := (ti_le (a := 30) (b := y3_4.toInt) (by decide +kernel) rfl).mp c5
          exact rw_vret (i3, q3, c3, d3) hx hb hr hlocks hS (hK.sub (tys' := []) [] rfl) hP hD dX5_walkFrom_183 ⟨trivial, hI, fr_w hfi (by decide +kernel), fr_w hfc (by decide +kernel), (show BfE (gX (c 129) (c 130) b1.toInt (fun t9 : Int => sgX (c 120) (c 116) t9 0 (sfV (c 105) (c 108) (c 107) (c 106 (c 108 t9.toNat).toNatClampNeg).toInt 0 t9))) w.toInt 30 (c3 135) from BFI_end hz3_1 (by omega) (by omega)), (show BFF (gX (c 129) (c 130) b1.toInt (fun t9 : Int => sgX (c 120) (c 116) t9 0 (sfV (c 105) (c 108) (c 107) (c 106 (c 108 t9.toNat).toNatClampNeg).toInt 0 t9))) w.toInt 300 30 (c3 136) from BFF_end hz3_1 hz3_2 (by omega) (by omega))⟩
        · have f5 := mt (ti_le (a := 30) (b := y3_4.toInt) (by decide +kernel) rfl).mpr c5
          refine lv_aload_n hx hb dX5_walkFrom_50 rfl (lv_at hl 2 rfl) ?_
          refine xgT_R_queue hx hb hts (fun _ h => List.mem_cons_of_mem _ (List.mem_append_left _ (List.mem_append_left _ (List.mem_append_right _ h)))) hown hK hP (hts (.fieldLink RX5 36 "TalePlay$Roads" "queue" "[I") (List.mem_cons_of_mem _ (List.mem_append_left _ (List.mem_append_left _ (List.mem_append_left _ (List.mem_append_left _ (List.mem_of_getElem? (i := 6) rfl))))))) dX5_walkFrom_51 ?_
          refine lv_iload hx hb dX5_walkFrom_54 (lv_at hl 0 rfl) ?_
          refine xlT_137 hx hb hK hP (vp_in_iff.mpr (by have h9 : y3_4.toInt = y3_4.toInt := rfl; omega)) dX5_walkFrom_56 (fun x6 ex6 => ?_)
          have rx6 : 0 ≤ x6.toInt ∧ x6.toInt ≤ 29 := by rw [ex6]; exact hI.2 137 _
          refine lv_istore (lv' := [(5, .int x6), (4, .int y3_4), (3, .int y3_3), (0, .ref (a 128)), (1, .int w), (2, .int b1)]) hx hb dX5_walkFrom_57 hl (by decide +kernel) rfl (fun ls hl => ?_)
          refine lv_iconst (v := 0) hx hb dX5_walkFrom_59 (by decide +kernel) ?_
          refine lv_istore (lv' := [(6, .int 0), (5, .int x6), (4, .int y3_4), (3, .int y3_3), (0, .ref (a 128)), (1, .int w), (2, .int b1)]) hx hb dX5_walkFrom_60 hl (by decide +kernel) rfl (fun ls hl => ?_)
          have lp7 : ∀ (fu : Nat) (i7 : Nat → Int32) (q7 : Int64) (c7 : Nat → Nat → Int32) (d7 : Nat → Nat → Int64) (y7_6 : Int32) (y7_3 : Int32), xInv i7 c7 → (∀ k, k ∉ ([] : List Nat) → i7 k = i k) → (∀ k, k ∉ ([135, 136, 137] : List Nat) → c7 k = c k) → (0 ≤ y7_6.toInt ∧ y7_6.toInt ≤ 10) → (1 ≤ y7_3.toInt ∧ y7_3.toInt ≤ 30) → (WQ (c7 135) (c7 137) y7_3.toInt) → (y3_4.toInt < y7_3.toInt) → (x6 = c7 137 y3_4.toNatClampNeg) → (BFI (gX (c 129) (c 130) b1.toInt (fun t9 : Int => sgX (c 120) (c 116) t9 0 (sfV (c 105) (c 108) (c 107) (c 106 (c 108 t9.toNat).toNatClampNeg).toInt 0 t9))) w.toInt (mI y3_4.toInt y7_6.toInt) 30 (c7 135) (c7 137) y7_3.toInt) → (BFF (gX (c 129) (c 130) b1.toInt (fun t9 : Int => sgX (c 120) (c 116) t9 0 (sfV (c 105) (c 108) (c 107) (c 106 (c 108 t9.toNat).toNatClampNeg).toInt 0 t9))) w.toInt (mI y3_4.toInt y7_6.toInt) 30 (c7 136)) → (10 - y7_6.toInt).toNat < fu → ∀ (H : Heap) (locs : List Loc) (ls : Array Slot), va_P D vwCl (xwT sk a t i7 q7 c7 d7) H → va_D A (xwT sk a t i7 q7 c7 d7) → va_S A s.heap H locs → lv_has ls 8 [(6, .int y7_6), (5, .int x6), (4, .int y3_4), (3, .int y7_3), (0, .ref (a 128)), (1, .int w), (2, .int b1)] → W p l e (headSpec wm_X5_walkFrom_e ({ frames := 4, cells := 0, slots := 0, locals := 91 })).room s m ([.ref (a 128), .int w, .int b1] : List Value).toArray below meth cd H locs 0 0 (MQ below (va_Qv (fun (u : MS) => True ∧ xInv u.1 u.2.2.1 ∧ (∀ k, k ∉ ([] : List Nat) → u.1 k = i k) ∧ (∀ k, k ∉ ([135, 136, 137] : List Nat) → u.2.2.1 k = c k) ∧ (BfE (gX (c 129) (c 130) b1.toInt (fun t9 : Int => sgX (c 120) (c 116) t9 0 (sfV (c 105) (c 108) (c 107) (c 106 (c 108 t9.toNat).toNatClampNeg).toInt 0 t9))) w.toInt 30 (u.2.2.1 135)) ∧ (BFF (gX (c 129) (c 130) b1.toInt (fun t9 : Int => sgX (c 120) (c 116) t9 0 (sfV (c 105) (c 108) (c 107) (c 106 (c 108 t9.toNat).toNatClampNeg).toInt 0 t9))) w.toInt 300 30 (u.2.2.1 136))) (oC D A (fun u : MS => xwT sk a t u.1 u.2.1 u.2.2.1 u.2.2.2) (fun _ => [])) A) ([.ref (a 128), .int w, .int b1] : List Value).toArray s 0 0 A) (F0 m 62 ls []) := by
            intro fu
            induction fu with
            | zero => intro i7 q7 c7 d7 y7_6 y7_3 hI hfi hfc hy7_6 hy7_3 hz7_0 hz7_1 hz7_2 hz7_3 hz7_4 hm; exact absurd hm (Nat.not_lt_zero _)
            | succ fu ih =>
              intro i7 q7 c7 d7 y7_6 y7_3 hI hfi hfc hy7_6 hy7_3 hz7_0 hz7_1 hz7_2 hz7_3 hz7_4 hm H locs ls hP hD hS hl
              have ih7 := ih
              refine lv_iload hx hb dX5_walkFrom_62 (lv_at hl 0 rfl) ?_
              refine lv_bipush (v := 10) hx hb dX5_walkFrom_64 (by decide +kernel) ?_
              refine lv_icmp_ge (tgt := 177) hx hb dX5_walkFrom_66 (by decide +kernel) (fun c8 => ?_) (fun c8 => ?_)
              · have f8 := (ti_le (a := 10) (b := y7_6.toInt) (by decide +kernel) rfl).mp c8
                obtain ⟨x9, ex9⟩ : ∃ y : Int32, y = y3_4 + 1 := ⟨_, rfl⟩
                have tx9 := ti_add (a := y3_4.toInt) (b := 1) ex9 rfl (by decide +kernel) (by omega) (by omega)
                refine lv_iinc (v := x9) (lv' := [(4, .int x9), (6, .int y7_6), (5, .int x6), (3, .int y7_3), (0, .ref (a 128)), (1, .int w), (2, .int b1)]) hx hb dX5_walkFrom_177 hl (k := 2) rfl (by rw [ex9]; rfl) (by decide +kernel) rfl (fun ls hl => ?_)
                refine lv_goto (tgt := 37) hx hb dX5_walkFrom_180 (by decide +kernel) ?_
                exact ih3 i7 q7 c7 d7 x9 y7_3 hI (fr_w hfi (by decide +kernel)) (fr_w hfc (by decide +kernel)) (show 0 ≤ x9.toInt ∧ x9.toInt ≤ 30 from by have h50 : x9.toInt = (y3_4.toInt + 1) := tx9; omega) (show 1 ≤ y7_3.toInt ∧ y7_3.toInt ≤ 30 from by have h50 : x9.toInt = (y3_4.toInt + 1) := tx9; omega) (show WQ (c7 135) (c7 137) y7_3.toInt from hz7_0) (show BFI (gX (c 129) (c 130) b1.toInt (fun t9 : Int => sgX (c 120) (c 116) t9 0 (sfV (c 105) (c 108) (c 107) (c 106 (c 108 t9.toNat).toNatClampNeg).toInt 0 t9))) w.toInt (mI x9.toInt 0) 30 (c7 135) (c7 137) y7_3.toInt from BFI_o hz7_3 (by omega) (by omega) tx9) (show BFF (gX (c 129) (c 130) b1.toInt (fun t9 : Int => sgX (c 120) (c 116) t9 0 (sfV (c 105) (c 108) (c 107) (c 106 (c 108 t9.toNat).toNatClampNeg).toInt 0 t9))) w.toInt (mI x9.toInt 0) 30 (c7 136) from BFF_o hz7_4 (by omega) (by omega) tx9) (by have h50 : x9.toInt = (y3_4.toInt + 1) := tx9; omega) _ _ _ hP hD hS (lv_sub hl [0, 3, 4, 5, 6] rfl)
              · have f8 := mt (ti_le (a := 10) (b := y7_6.toInt) (by decide +kernel) rfl).mpr c8
                refine lv_aload_n hx hb dX5_walkFrom_69 rfl (lv_at hl 4 rfl) ?_
                refine xgT_R_leads hx hb hts (fun _ h => List.mem_cons_of_mem _ (List.mem_append_left _ (List.mem_append_left _ (List.mem_append_right _ h)))) hown hK hP (hts (.fieldLink RX5 9 "TalePlay$Roads" "leads" "[I") (List.mem_cons_of_mem _ (List.mem_append_left _ (List.mem_append_left _ (List.mem_append_left _ (List.mem_append_left _ (List.mem_of_getElem? (i := 7) rfl))))))) dX5_walkFrom_70 ?_
                refine lv_iload hx hb dX5_walkFrom_73 (lv_at hl 1 rfl) ?_
                refine lv_bipush (v := 10) hx hb dX5_walkFrom_75 (by decide +kernel) ?_
                refine lv_imul hx hb dX5_walkFrom_77 ?_
                refine lv_topi (fun x10 ex10 => ?_)
                have tx10 := ti_mul (a := x6.toInt) (b := 10) ex10 rfl (by decide +kernel) (by omega) (by omega)
                refine lv_iload hx hb dX5_walkFrom_78 (lv_at hl 0 rfl) ?_
                refine lv_iadd hx hb dX5_walkFrom_80 ?_
                refine lv_topi (fun x11 ex11 => ?_)
                have tx11 := ti_add (a := (x6.toInt * 10)) (b := y7_6.toInt) ex11 tx10 rfl (by omega) (by omega)
                refine xlT_129 hx hb hK hP (vp_in_iff.mpr (by have h9 : x11.toInt = ((x6.toInt * 10) + y7_6.toInt) := tx11; omega)) dX5_walkFrom_81 (fun x12 ex12 => ?_)
                have rx12 : x12.toInt = -9 ∨ (0 ≤ x12.toInt ∧ x12.toInt ≤ 29) := by rw [ex12]; exact hI.2 129 _
                have gx12 : (c 129 (x11 : Int32).toNatClampNeg).toInt = x12.toInt := by rw [show x12 = c7 129 (x11 : Int32).toNatClampNeg from ex12, show c7 129 = c 129 from hfc 129 (by decide +kernel)]
                refine lv_istore (lv' := [(7, .int x12), (6, .int y7_6), (5, .int x6), (4, .int y3_4), (3, .int y7_3), (0, .ref (a 128)), (1, .int w), (2, .int b1)]) hx hb dX5_walkFrom_82 hl (by decide +kernel) rfl (fun ls hl => ?_)
                refine lv_iload hx hb dX5_walkFrom_84 (lv_at hl 0 rfl) ?_
                refine lv_bipush (v := (-9)) hx hb dX5_walkFrom_86 (by decide +kernel) ?_
                refine lv_icmp_eq (tgt := 171) hx hb dX5_walkFrom_88 (by decide +kernel) (fun c13 => ?_) (fun c13 => ?_)
                · have f13 := (ti_eq (a := x12.toInt) (b := (-9)) rfl (by decide +kernel)).mp c13
                  obtain ⟨x14, ex14⟩ : ∃ y : Int32, y = y7_6 + 1 := ⟨_, rfl⟩
                  have tx14 := ti_add (a := y7_6.toInt) (b := 1) ex14 rfl (by decide +kernel) (by omega) (by omega)
                  refine lv_iinc (v := x14) (lv' := [(6, .int x14), (7, .int x12), (5, .int x6), (4, .int y3_4), (3, .int y7_3), (0, .ref (a 128)), (1, .int w), (2, .int b1)]) hx hb dX5_walkFrom_171 hl (k := 1) rfl (by rw [ex14]; rfl) (by decide +kernel) rfl (fun ls hl => ?_)
                  refine lv_goto (tgt := 62) hx hb dX5_walkFrom_174 (by decide +kernel) ?_
                  exact ih7 i7 q7 c7 d7 x14 y7_3 hI (fr_w hfi (by decide +kernel)) (fr_w hfc (by decide +kernel)) (show 0 ≤ x14.toInt ∧ x14.toInt ≤ 10 from by have h50 : x14.toInt = (y7_6.toInt + 1) := tx14; omega) (show 1 ≤ y7_3.toInt ∧ y7_3.toInt ≤ 30 from by have h50 : x14.toInt = (y7_6.toInt + 1) := tx14; omega) (show WQ (c7 135) (c7 137) y7_3.toInt from hz7_0) (show y3_4.toInt < y7_3.toInt from by have h50 : x14.toInt = (y7_6.toInt + 1) := tx14; omega) (show x6 = c7 137 y3_4.toNatClampNeg from hz7_2) (show BFI (gX (c 129) (c 130) b1.toInt (fun t9 : Int => sgX (c 120) (c 116) t9 0 (sfV (c 105) (c 108) (c 107) (c 106 (c 108 t9.toNat).toNatClampNeg).toInt 0 t9))) w.toInt (mI y3_4.toInt x14.toInt) 30 (c7 135) (c7 137) y7_3.toInt from BFI_n (r := x6.toInt) hz7_3 (by omega) (by omega) (by omega) (by rw [← hz7_2]) (fun y9 h9 => Or.inl (by rw [h9]; exact gX_1 (by omega) (show (x11 : Int32).toInt = x6.toInt * 10 + y7_6.toInt from by omega) (show x12 = c 129 x11.toNatClampNeg from (Int32.toInt_inj.mp gx12.symm)) (by omega))) tx14) (show BFF (gX (c 129) (c 130) b1.toInt (fun t9 : Int => sgX (c 120) (c 116) t9 0 (sfV (c 105) (c 108) (c 107) (c 106 (c 108 t9.toNat).toNatClampNeg).toInt 0 t9))) w.toInt (mI y3_4.toInt x14.toInt) 30 (c7 136) from BFF_n hz7_4 (BFI_nc (r := x6.toInt) hz7_3 (by omega) (by omega) (by omega) (by rw [← hz7_2]) (fun y9 h9 => Or.inl (by rw [h9]; exact gX_1 (by omega) (show (x11 : Int32).toInt = x6.toInt * 10 + y7_6.toInt from by omega) (show x12 = c 129 x11.toNatClampNeg from (Int32.toInt_inj.mp gx12.symm)) (by omega)))) (by omega) (by omega) tx14) (by have h50 : x14.toInt = (y7_6.toInt + 1) := tx14; omega) _ _ _ hP hD hS (lv_sub hl [0, 2, 3, 4, 5, 6, 7] rfl)
                · have f13 := mt (ti_eq (a := x12.toInt) (b := (-9)) rfl (by decide +kernel)).mpr c13
                  refine lv_aload_n hx hb dX5_walkFrom_91 rfl (lv_at hl 5 rfl) ?_
                  refine xgT_R_steps hx hb hts (fun _ h => List.mem_cons_of_mem _ (List.mem_append_left _ (List.mem_append_left _ (List.mem_append_right _ h)))) hown hK hP (hts (.fieldLink RX5 30 "TalePlay$Roads" "steps" "[I") (List.mem_cons_of_mem _ (List.mem_append_left _ (List.mem_append_left _ (List.mem_append_left _ (List.mem_append_left _ (List.mem_of_getElem? (i := 0) rfl))))))) dX5_walkFrom_92 ?_
                  refine lv_iload hx hb dX5_walkFrom_95 (lv_at hl 0 rfl) ?_
                  refine xlT_135 hx hb hK hP (vp_in_iff.mpr (by have h9 : x12.toInt = x12.toInt := rfl; omega)) dX5_walkFrom_97 (fun x15 ex15 => ?_)
                  have rx15 : x15.toInt = -9 ∨ (0 ≤ x15.toInt ∧ x15.toInt ≤ 29) := by rw [ex15]; exact hI.2 135 _
                  have gx15 : (c7 135 (x12 : Int32).toNatClampNeg).toInt = x15.toInt := by rw [ex15]
                  refine lv_bipush (v := (-9)) hx hb dX5_walkFrom_98 (by decide +kernel) ?_
                  refine lv_icmp_ne (tgt := 171) hx hb dX5_walkFrom_100 (by decide +kernel) (fun c16 => ?_) (fun c16 => ?_)
                  · have f16 := mt (ti_eq (a := x15.toInt) (b := (-9)) rfl (by decide +kernel)).mpr c16
                    obtain ⟨x17, ex17⟩ : ∃ y : Int32, y = y7_6 + 1 := ⟨_, rfl⟩
                    have tx17 := ti_add (a := y7_6.toInt) (b := 1) ex17 rfl (by decide +kernel) (by omega) (by omega)
                    refine lv_iinc (v := x17) (lv' := [(6, .int x17), (7, .int x12), (5, .int x6), (4, .int y3_4), (3, .int y7_3), (0, .ref (a 128)), (1, .int w), (2, .int b1)]) hx hb dX5_walkFrom_171 hl (k := 1) rfl (by rw [ex17]; rfl) (by decide +kernel) rfl (fun ls hl => ?_)
                    refine lv_goto (tgt := 62) hx hb dX5_walkFrom_174 (by decide +kernel) ?_
                    exact ih7 i7 q7 c7 d7 x17 y7_3 hI (fr_w hfi (by decide +kernel)) (fr_w hfc (by decide +kernel)) (show 0 ≤ x17.toInt ∧ x17.toInt ≤ 10 from by have h50 : x17.toInt = (y7_6.toInt + 1) := tx17; omega) (show 1 ≤ y7_3.toInt ∧ y7_3.toInt ≤ 30 from by have h50 : x17.toInt = (y7_6.toInt + 1) := tx17; omega) (show WQ (c7 135) (c7 137) y7_3.toInt from hz7_0) (show y3_4.toInt < y7_3.toInt from by have h50 : x17.toInt = (y7_6.toInt + 1) := tx17; omega) (show x6 = c7 137 y3_4.toNatClampNeg from hz7_2) (show BFI (gX (c 129) (c 130) b1.toInt (fun t9 : Int => sgX (c 120) (c 116) t9 0 (sfV (c 105) (c 108) (c 107) (c 106 (c 108 t9.toNat).toNatClampNeg).toInt 0 t9))) w.toInt (mI y3_4.toInt x17.toInt) 30 (c7 135) (c7 137) y7_3.toInt from BFI_n (r := x6.toInt) hz7_3 (by omega) (by omega) (by omega) (by rw [← hz7_2]) (fun y9 h9 => by rcases gX_2 (dr := c 130) (o := b1.toInt) (sv := (fun t9 : Int => sgX (c 120) (c 116) t9 0 (sfV (c 105) (c 108) (c 107) (c 106 (c 108 t9.toNat).toNatClampNeg).toInt 0 t9))) (by omega) (show (x11 : Int32).toInt = x6.toInt * 10 + y7_6.toInt from by omega) (show x12 = c 129 x11.toNatClampNeg from (Int32.toInt_inj.mp gx12.symm)) with h8 | h8; (· exact Or.inl (h9.trans h8)); (· exact Or.inr ⟨by rw [h9, h8]; omega, by rw [h9, h8]; omega, by rw [h9, h8]; show ¬ (c7 135 x12.toNatClampNeg).toInt = -9; omega⟩)) tx17) (show BFF (gX (c 129) (c 130) b1.toInt (fun t9 : Int => sgX (c 120) (c 116) t9 0 (sfV (c 105) (c 108) (c 107) (c 106 (c 108 t9.toNat).toNatClampNeg).toInt 0 t9))) w.toInt (mI y3_4.toInt x17.toInt) 30 (c7 136) from BFF_n hz7_4 (BFI_nc (r := x6.toInt) hz7_3 (by omega) (by omega) (by omega) (by rw [← hz7_2]) (fun y9 h9 => by rcases gX_2 (dr := c 130) (o := b1.toInt) (sv := (fun t9 : Int => sgX (c 120) (c 116) t9 0 (sfV (c 105) (c 108) (c 107) (c 106 (c 108 t9.toNat).toNatClampNeg).toInt 0 t9))) (by omega) (show (x11 : Int32).toInt = x6.toInt * 10 + y7_6.toInt from by omega) (show x12 = c 129 x11.toNatClampNeg from (Int32.toInt_inj.mp gx12.symm)) with h8 | h8; (· exact Or.inl (h9.trans h8)); (· exact Or.inr ⟨by rw [h9, h8]; omega, by rw [h9, h8]; omega, by rw [h9, h8]; show ¬ (c7 135 x12.toNatClampNeg).toInt = -9; omega⟩))) (by omega) (by omega) tx17) (by have h50 : x17.toInt = (y7_6.toInt + 1) := tx17; omega) _ _ _ hP hD hS (lv_sub hl [0, 2, 3, 4, 5, 6, 7] rfl)
                  · have f16 := (ti_eq (a := x15.toInt) (b := (-9)) rfl (by decide +kernel)).mp c16
                    refine lv_aload_n hx hb dX5_walkFrom_103 rfl (lv_at hl 5 rfl) ?_
                    refine lv_iload hx hb dX5_walkFrom_104 (lv_at hl 2 rfl) ?_
                    refine lv_bipush (v := 10) hx hb dX5_walkFrom_106 (by decide +kernel) ?_
                    refine lv_imul hx hb dX5_walkFrom_108 ?_
                    refine lv_topi (fun x18 ex18 => ?_)
                    have tx18 := ti_mul (a := x6.toInt) (b := 10) ex18 rfl (by decide +kernel) (by omega) (by omega)
                    refine lv_iload hx hb dX5_walkFrom_109 (lv_at hl 1 rfl) ?_
                    refine lv_iadd hx hb dX5_walkFrom_111 ?_
                    refine lv_topi (fun x19 ex19 => ?_)
                    have tx19 := ti_add (a := (x6.toInt * 10)) (b := y7_6.toInt) ex19 tx18 rfl (by omega) (by omega)
                    refine lv_iload_n hx hb dX5_walkFrom_112 rfl (lv_at hl 7 rfl) ?_
                    have rb111_i7 : 0 ≤ (i7 111).toInt ∧ (i7 111).toInt ≤ 30 := hI.1 111
                    have re111_i7 : (i7 111).toInt = (i 111).toInt := congrArg Int32.toInt (hfi 111 (by decide +kernel))
                    refine ro_calli (va_runV (As := [.int x19, .int b1]) (rest := []) ⟨hx, hb, hml, hown, hts⟩ (x_X5_isPassable_e l D H.size .null a t i7 q7 c7 d7 x19 b1 hI (show 0 ≤ x19.toInt ∧ x19.toInt ≤ 299 from by have h90 : x19.toInt = ((x6.toInt * 10) + y7_6.toInt) := tx19; omega) (by rw [show c7 105 = c 105 from hfc 105 (by decide +kernel)]; exact hs_D) (by rw [show c7 130 = c 130 from hfc 130 (by decide +kernel), show i7 111 = i 111 from hfi 111 (by decide +kernel)]; exact hs_O)) (cwV 2 hts gm_X5_walkFrom_e_X5_isPassable_e_101 rfl rfl rfl (by decide +kernel) ⟨Nat.le_of_ble_eq_true rfl, Nat.le_of_ble_eq_true rfl⟩) (yA_V hN (xZ_k hZ hS hA) (xkT_B hK) (xuT_B (sk := sk) hP) (ci := 5) (q0 := 19) rfl rfl) rfl rfl hl.1 rfl (lv_room (Nat.le_of_ble_eq_true rfl)) dX5_walkFrom_113 ⟨Nat.le_of_ble_eq_true rfl, Nat.le_of_ble_eq_true rfl⟩) hS hA hP (fun r20 u20 H locs hw20 hP hS => ?_)
                    have hw20 : ((0 ≤ r20.toInt ∧ r20.toInt ≤ 1) ∧ (Sm r20 (b1.toInt = 0 ∨ (c7 130 x19.toNatClampNeg).toInt = -9 ∨ (fun t9 : Int => sgX (c7 120) (c7 116) t9 0 (sfV (c7 105) (c7 108) (c7 107) (c7 106 (c7 108 t9.toNat).toNatClampNeg).toInt 0 t9)) (c7 130 x19.toNatClampNeg).toInt = 1))) := hw20
                    obtain ⟨hw20, hr20_0⟩ := hw20
                    have hr20_0 : Sm r20 (b1.toInt = 0 ∨ (c 130 x19.toNatClampNeg).toInt = -9 ∨ (fun t9 : Int => sgX (c 120) (c 116) t9 0 (sfV (c 105) (c 108) (c 107) (c 106 (c 108 t9.toNat).toNatClampNeg).toInt 0 t9)) (c 130 x19.toNatClampNeg).toInt = 1) := by have h9 := hr20_0; rw [show c7 105 = c 105 from hfc 105 (by decide +kernel), show c7 106 = c 106 from hfc 106 (by decide +kernel), show c7 107 = c 107 from hfc 107 (by decide +kernel), show c7 108 = c 108 from hfc 108 (by decide +kernel), show c7 116 = c 116 from hfc 116 (by decide +kernel), show c7 120 = c 120 from hfc 120 (by decide +kernel), show c7 130 = c 130 from hfc 130 (by decide +kernel)] at h9; exact h9
                    refine lv_if_eq (tgt := 171) hx hb dX5_walkFrom_116 (by decide +kernel) (fun c21 => ?_) (fun c21 => ?_)
                    · have f21 := (ti_eq (a := r20.toInt) (b := 0) rfl (by decide +kernel)).mp c21
                      have s21 := sm_f hr20_0 c21
                      obtain ⟨x22, ex22⟩ : ∃ y : Int32, y = y7_6 + 1 := ⟨_, rfl⟩
                      have tx22 := ti_add (a := y7_6.toInt) (b := 1) ex22 rfl (by decide +kernel) (by omega) (by omega)
                      refine lv_iinc (v := x22) (lv' := [(6, .int x22), (7, .int x12), (5, .int x6), (4, .int y3_4), (3, .int y7_3), (0, .ref (a 128)), (1, .int w), (2, .int b1)]) hx hb dX5_walkFrom_171 hl (k := 1) rfl (by rw [ex22]; rfl) (by decide +kernel) rfl (fun ls hl => ?_)
                      refine lv_goto (tgt := 62) hx hb dX5_walkFrom_174 (by decide +kernel) ?_
                      exact ih7 i7 q7 c7 d7 x22 y7_3 hI (fr_w hfi (by decide +kernel)) (fr_w hfc (by decide +kernel)) (show 0 ≤ x22.toInt ∧ x22.toInt ≤ 10 from by have h50 : x22.toInt = (y7_6.toInt + 1) := tx22; omega) (show 1 ≤ y7_3.toInt ∧ y7_3.toInt ≤ 30 from by have h50 : x22.toInt = (y7_6.toInt + 1) := tx22; omega) (show WQ (c7 135) (c7 137) y7_3.toInt from hz7_0) (show y3_4.toInt < y7_3.toInt from by have h50 : x22.toInt = (y7_6.toInt + 1) := tx22; omega) (show x6 = c7 137 y3_4.toNatClampNeg from hz7_2) (show BFI (gX (c 129) (c 130) b1.toInt (fun t9 : Int => sgX (c 120) (c 116) t9 0 (sfV (c 105) (c 108) (c 107) (c 106 (c 108 t9.toNat).toNatClampNeg).toInt 0 t9))) w.toInt (mI y3_4.toInt x22.toInt) 30 (c7 135) (c7 137) y7_3.toInt from BFI_n (r := x6.toInt) hz7_3 (by omega) (by omega) (by omega) (by rw [← hz7_2]) (fun y9 h9 => Or.inl (by rw [h9]; exact gX_3 (by omega) (show (x19 : Int32).toInt = x6.toInt * 10 + y7_6.toInt from by omega) s21)) tx22) (show BFF (gX (c 129) (c 130) b1.toInt (fun t9 : Int => sgX (c 120) (c 116) t9 0 (sfV (c 105) (c 108) (c 107) (c 106 (c 108 t9.toNat).toNatClampNeg).toInt 0 t9))) w.toInt (mI y3_4.toInt x22.toInt) 30 (c7 136) from BFF_n hz7_4 (BFI_nc (r := x6.toInt) hz7_3 (by omega) (by omega) (by omega) (by rw [← hz7_2]) (fun y9 h9 => Or.inl (by rw [h9]; exact gX_3 (by omega) (show (x19 : Int32).toInt = x6.toInt * 10 + y7_6.toInt from by omega) s21))) (by omega) (by omega) tx22) (by have h50 : x22.toInt = (y7_6.toInt + 1) := tx22; omega) _ _ _ hP hD hS (lv_sub hl [0, 2, 3, 4, 5, 6, 7] rfl)
                    · have f21 := mt (ti_eq (a := r20.toInt) (b := 0) rfl (by decide +kernel)).mpr c21
                      have s21 := sm_t hr20_0 c21
                      refine lv_aload_n hx hb dX5_walkFrom_119 rfl (lv_at hl 5 rfl) ?_
                      refine xgT_R_steps hx hb hts (fun _ h => List.mem_cons_of_mem _ (List.mem_append_left _ (List.mem_append_left _ (List.mem_append_right _ h)))) hown hK hP (hts (.fieldLink RX5 30 "TalePlay$Roads" "steps" "[I") (List.mem_cons_of_mem _ (List.mem_append_left _ (List.mem_append_left _ (List.mem_append_left _ (List.mem_append_left _ (List.mem_of_getElem? (i := 0) rfl))))))) dX5_walkFrom_120 ?_
                      refine lv_iload hx hb dX5_walkFrom_123 (lv_at hl 0 rfl) ?_
                      refine lv_aload_n hx hb dX5_walkFrom_125 rfl (lv_at hl 5 rfl) ?_
                      refine xgT_R_steps hx hb hts (fun _ h => List.mem_cons_of_mem _ (List.mem_append_left _ (List.mem_append_left _ (List.mem_append_right _ h)))) hown hK hP (hts (.fieldLink RX5 30 "TalePlay$Roads" "steps" "[I") (List.mem_cons_of_mem _ (List.mem_append_left _ (List.mem_append_left _ (List.mem_append_left _ (List.mem_append_left _ (List.mem_of_getElem? (i := 0) rfl))))))) dX5_walkFrom_126 ?_
                      refine lv_iload hx hb dX5_walkFrom_129 (lv_at hl 2 rfl) ?_
                      refine xlT_135 hx hb hK hP (vp_in_iff.mpr (by have h9 : x6.toInt = x6.toInt := rfl; omega)) dX5_walkFrom_131 (fun x23 ex23 => ?_)
                      have rx23 : x23.toInt = -9 ∨ (0 ≤ x23.toInt ∧ x23.toInt ≤ 29) := by rw [ex23]; exact hI.2 135 _
                      have gx23 : (c7 135 (x6 : Int32).toNatClampNeg).toInt = x23.toInt := by rw [ex23]
                      have hq1 : ¬ x23.toInt = -9 ∧ x23.toInt ≤ y3_4.toInt := WQ_k (far := c7 135) (ln := c7 137) hz7_0 (by omega) (by omega) hz7_2 ex23
                      have hq2 : y7_3.toInt ≤ 29 := WQ_n (far := c7 135) (ln := c7 137) hz7_0 (by omega) ex15 (by omega)
                      refine lv_iconst (v := 1) hx hb dX5_walkFrom_132 (by decide +kernel) ?_
                      refine lv_iadd hx hb dX5_walkFrom_133 ?_
                      refine lv_topi (fun x24 ex24 => ?_)
                      have tx24 := ti_add (a := x23.toInt) (b := 1) ex24 rfl (by decide +kernel) (by omega) (by omega)
                      refine xsT_135 hx hb hK hP hD hS (vp_in_iff.mpr (by have h9 : x12.toInt = x12.toInt := rfl; omega)) dX5_walkFrom_134 (fun H locs hP hD hS => ?_)
                      have hI := xInv_c hI (k := 135) (j := (x12 : Int32).toNatClampNeg) (x := x24) (show (x24 : Int32).toInt = -9 ∨ (0 ≤ (x24 : Int32).toInt ∧ (x24 : Int32).toInt ≤ 29) from by have h9 : x24.toInt = (x23.toInt + 1) := tx24; omega)
                      have hfc := fr_c hfc (k := 135) (j := (x12 : Int32).toNatClampNeg) (x := x24) (by decide +kernel)
                      refine lv_aload_n hx hb dX5_walkFrom_135 rfl (lv_at hl 5 rfl) ?_
                      refine xgT_R_firsts hx hb hts (fun _ h => List.mem_cons_of_mem _ (List.mem_append_left _ (List.mem_append_left _ (List.mem_append_right _ h)))) hown hK hP (hts (.fieldLink RX5 33 "TalePlay$Roads" "firsts" "[I") (List.mem_cons_of_mem _ (List.mem_append_left _ (List.mem_append_left _ (List.mem_append_left _ (List.mem_append_left _ (List.mem_of_getElem? (i := 5) rfl))))))) dX5_walkFrom_136 ?_
                      refine lv_iload hx hb dX5_walkFrom_139 (lv_at hl 0 rfl) ?_
                      refine lv_iload hx hb dX5_walkFrom_141 (lv_at hl 2 rfl) ?_
                      refine lv_iload_n hx hb dX5_walkFrom_143 rfl (lv_at hl 6 rfl) ?_
                      refine lv_icmp_ne (tgt := 152) hx hb dX5_walkFrom_144 (by decide +kernel) (fun c25 => ?_) (fun c25 => ?_)
                      · have f25 := mt (ti_eq (a := x6.toInt) (b := w.toInt) rfl rfl).mpr c25
                        refine lv_aload_n hx hb dX5_walkFrom_152 rfl (lv_at hl 5 rfl) ?_
                        refine xgT_R_firsts hx hb hts (fun _ h => List.mem_cons_of_mem _ (List.mem_append_left _ (List.mem_append_left _ (List.mem_append_right _ h)))) hown hK hP (hts (.fieldLink RX5 33 "TalePlay$Roads" "firsts" "[I") (List.mem_cons_of_mem _ (List.mem_append_left _ (List.mem_append_left _ (List.mem_append_left _ (List.mem_append_left _ (List.mem_of_getElem? (i := 5) rfl))))))) dX5_walkFrom_153 ?_
                        refine lv_iload hx hb dX5_walkFrom_156 (lv_at hl 2 rfl) ?_
                        refine xlT_136 hx hb hK hP (vp_in_iff.mpr (by have h9 : x6.toInt = x6.toInt := rfl; omega)) dX5_walkFrom_158 (fun x26 ex26 => ?_)
                        have gx26 : ((updA c7 135 (x12 : Int32).toNatClampNeg x24) 136 (x6 : Int32).toNatClampNeg).toInt = x26.toInt := by rw [ex26]
                        refine xsT_136 hx hb hK hP hD hS (vp_in_iff.mpr (by have h9 : x12.toInt = x12.toInt := rfl; omega)) dX5_walkFrom_159 (fun H locs hP hD hS => ?_)
                        have hI := xInv_c hI (k := 136) (j := (x12 : Int32).toNatClampNeg) (x := x26) (show True from trivial)
                        have hfc := fr_c hfc (k := 136) (j := (x12 : Int32).toNatClampNeg) (x := x26) (by decide +kernel)
                        refine lv_aload_n hx hb dX5_walkFrom_160 rfl (lv_at hl 5 rfl) ?_
                        refine xgT_R_queue hx hb hts (fun _ h => List.mem_cons_of_mem _ (List.mem_append_left _ (List.mem_append_left _ (List.mem_append_right _ h)))) hown hK hP (hts (.fieldLink RX5 36 "TalePlay$Roads" "queue" "[I") (List.mem_cons_of_mem _ (List.mem_append_left _ (List.mem_append_left _ (List.mem_append_left _ (List.mem_append_left _ (List.mem_of_getElem? (i := 6) rfl))))))) dX5_walkFrom_161 ?_
                        refine lv_iload_n hx hb dX5_walkFrom_164 rfl (lv_at hl 4 rfl) ?_
                        obtain ⟨x27, ex27⟩ : ∃ y : Int32, y = y7_3 + 1 := ⟨_, rfl⟩
                        have tx27 := ti_add (a := y7_3.toInt) (b := 1) ex27 rfl (by decide +kernel) (by omega) (by omega)
                        refine lv_iinc (v := x27) (lv' := [(3, .int x27), (7, .int x12), (6, .int y7_6), (5, .int x6), (4, .int y3_4), (0, .ref (a 128)), (1, .int w), (2, .int b1)]) hx hb dX5_walkFrom_165 hl (k := 4) rfl (by rw [ex27]; rfl) (by decide +kernel) rfl (fun ls hl => ?_)
                        refine lv_iload hx hb dX5_walkFrom_168 (lv_at hl 1 rfl) ?_
                        refine xsT_137 hx hb hK hP hD hS (vp_in_iff.mpr (by have h9 : y7_3.toInt = y7_3.toInt := rfl; omega)) dX5_walkFrom_170 (fun H locs hP hD hS => ?_)
                        have hI := xInv_c hI (k := 137) (j := (y7_3 : Int32).toNatClampNeg) (x := x12) (show 0 ≤ (x12 : Int32).toInt ∧ (x12 : Int32).toInt ≤ 29 from by omega)
                        have hfc := fr_c hfc (k := 137) (j := (y7_3 : Int32).toNatClampNeg) (x := x12) (by decide +kernel)
                        obtain ⟨x28, ex28⟩ : ∃ y : Int32, y = y7_6 + 1 := ⟨_, rfl⟩
                        have tx28 := ti_add (a := y7_6.toInt) (b := 1) ex28 rfl (by decide +kernel) (by omega) (by omega)
                        refine lv_iinc (v := x28) (lv' := [(6, .int x28), (3, .int x27), (7, .int x12), (5, .int x6), (4, .int y3_4), (0, .ref (a 128)), (1, .int w), (2, .int b1)]) hx hb dX5_walkFrom_171 hl (k := 2) rfl (by rw [ex28]; rfl) (by decide +kernel) rfl (fun ls hl => ?_)
                        refine lv_goto (tgt := 62) hx hb dX5_walkFrom_174 (by decide +kernel) ?_
                        exact ih7 i7 q7 (updA (updA (updA c7 135 (x12 : Int32).toNatClampNeg x24) 136 (x12 : Int32).toNatClampNeg x26) 137 (y7_3 : Int32).toNatClampNeg x12) d7 x28 x27 hI (fr_w hfi (by decide +kernel)) (fr_w hfc (by decide +kernel)) (show 0 ≤ x28.toInt ∧ x28.toInt ≤ 10 from by have h50 : x28.toInt = (y7_6.toInt + 1) := tx28; have h51 : x27.toInt = (y7_3.toInt + 1) := tx27; omega) (show 1 ≤ x27.toInt ∧ x27.toInt ≤ 30 from by have h50 : x28.toInt = (y7_6.toInt + 1) := tx28; have h51 : x27.toInt = (y7_3.toInt + 1) := tx27; omega) (show WQ ((updA (updA (updA c7 135 (x12 : Int32).toNatClampNeg x24) 136 (x12 : Int32).toNatClampNeg x26) 137 (y7_3 : Int32).toNatClampNeg x12) 135) ((updA (updA (updA c7 135 (x12 : Int32).toNatClampNeg x24) 136 (x12 : Int32).toNatClampNeg x26) 137 (y7_3 : Int32).toNatClampNeg x12) 137) x27.toInt from by rw [tx27]; exact WQ_a (xa := x15) hz7_0 (by omega) (by omega) ex15 (by omega) (by have h9 := tx24; omega)) (show y3_4.toInt < x27.toInt from by have h50 : x28.toInt = (y7_6.toInt + 1) := tx28; have h51 : x27.toInt = (y7_3.toInt + 1) := tx27; omega) (show x6 = (updA (updA (updA c7 135 (x12 : Int32).toNatClampNeg x24) 136 (x12 : Int32).toNatClampNeg x26) 137 (y7_3 : Int32).toNatClampNeg x12) 137 y3_4.toNatClampNeg from by show x6 = (upd (c7 137) y7_3.toNatClampNeg x12) y3_4.toNatClampNeg; rw [pk_un (fun e9 => by have h1 := cl_nn (x := y3_4) (by omega); have h2 := cl_nn (x := y7_3) (by omega); omega)]; exact hz7_2) (show BFI (gX (c 129) (c 130) b1.toInt (fun t9 : Int => sgX (c 120) (c 116) t9 0 (sfV (c 105) (c 108) (c 107) (c 106 (c 108 t9.toNat).toNatClampNeg).toInt 0 t9))) w.toInt (mI y3_4.toInt x28.toInt) 30 ((updA (updA (updA c7 135 (x12 : Int32).toNatClampNeg x24) 136 (x12 : Int32).toNatClampNeg x26) 137 (y7_3 : Int32).toNatClampNeg x12) 135) ((updA (updA (updA c7 135 (x12 : Int32).toNatClampNeg x24) 136 (x12 : Int32).toNatClampNeg x26) 137 (y7_3 : Int32).toNatClampNeg x12) 137) x27.toInt from BFI_y (st := c7 135) (qu := c7 137) (r := x6) hz7_3 (by omega) (by omega) (by omega) (by rw [← hz7_2]) (gX_4 (by omega) (show (x11 : Int32).toInt = x6.toInt * 10 + y7_6.toInt from by omega) (show x12 = c 129 x11.toNatClampNeg from (Int32.toInt_inj.mp gx12.symm)) (by omega) (show (x19 : Int32).toInt = x6.toInt * 10 + y7_6.toInt from by omega) s21) (by omega) (by omega) (by have h9 := tx24; omega) tx27 tx28) (show BFF (gX (c 129) (c 130) b1.toInt (fun t9 : Int => sgX (c 120) (c 116) t9 0 (sfV (c 105) (c 108) (c 107) (c 106 (c 108 t9.toNat).toNatClampNeg).toInt 0 t9))) w.toInt (mI y3_4.toInt x28.toInt) 30 ((updA (updA (updA c7 135 (x12 : Int32).toNatClampNeg x24) 136 (x12 : Int32).toNatClampNeg x26) 137 (y7_3 : Int32).toNatClampNeg x12) 136) from BFF_y (fi := c7 136) (r := x6) hz7_4 (BFI_yc (st := c7 135) (qu := c7 137) (r := x6) hz7_3 (by omega) (by omega) (by omega) (by rw [← hz7_2]) (gX_4 (by omega) (show (x11 : Int32).toInt = x6.toInt * 10 + y7_6.toInt from by omega) (show x12 = c 129 x11.toNatClampNeg from (Int32.toInt_inj.mp gx12.symm)) (by omega) (show (x19 : Int32).toInt = x6.toInt * 10 + y7_6.toInt from by omega) s21) (by omega) (by omega)) (by omega) (by omega) (by omega) (Or.inr ⟨by omega, by have h7 : (c7 136 x6.toNatClampNeg).toInt = x26.toInt := gx26; omega⟩) tx28) (by have h50 : x28.toInt = (y7_6.toInt + 1) := tx28; have h51 : x27.toInt = (y7_3.toInt + 1) := tx27; omega) _ _ _ hP hD hS (lv_sub hl [0, 3, 4, 1, 5, 6, 7] rfl)
                      · have f25 := (ti_eq (a := x6.toInt) (b := w.toInt) rfl rfl).mp c25
                        refine lv_iload hx hb dX5_walkFrom_147 (lv_at hl 1 rfl) ?_
                        refine lv_goto (tgt := 159) hx hb dX5_walkFrom_149 (by decide +kernel) ?_
                        refine xsT_136 hx hb hK hP hD hS (vp_in_iff.mpr (by have h9 : x12.toInt = x12.toInt := rfl; omega)) dX5_walkFrom_159 (fun H locs hP hD hS => ?_)
                        have hI := xInv_c hI (k := 136) (j := (x12 : Int32).toNatClampNeg) (x := y7_6) (show True from trivial)
                        have hfc := fr_c hfc (k := 136) (j := (x12 : Int32).toNatClampNeg) (x := y7_6) (by decide +kernel)
                        refine lv_aload_n hx hb dX5_walkFrom_160 rfl (lv_at hl 5 rfl) ?_
                        refine xgT_R_queue hx hb hts (fun _ h => List.mem_cons_of_mem _ (List.mem_append_left _ (List.mem_append_left _ (List.mem_append_right _ h)))) hown hK hP (hts (.fieldLink RX5 36 "TalePlay$Roads" "queue" "[I") (List.mem_cons_of_mem _ (List.mem_append_left _ (List.mem_append_left _ (List.mem_append_left _ (List.mem_append_left _ (List.mem_of_getElem? (i := 6) rfl))))))) dX5_walkFrom_161 ?_
                        refine lv_iload_n hx hb dX5_walkFrom_164 rfl (lv_at hl 4 rfl) ?_
                        obtain ⟨x29, ex29⟩ : ∃ y : Int32, y = y7_3 + 1 := ⟨_, rfl⟩
                        have tx29 := ti_add (a := y7_3.toInt) (b := 1) ex29 rfl (by decide +kernel) (by omega) (by omega)
                        refine lv_iinc (v := x29) (lv' := [(3, .int x29), (7, .int x12), (6, .int y7_6), (5, .int x6), (4, .int y3_4), (0, .ref (a 128)), (1, .int w), (2, .int b1)]) hx hb dX5_walkFrom_165 hl (k := 4) rfl (by rw [ex29]; rfl) (by decide +kernel) rfl (fun ls hl => ?_)
                        refine lv_iload hx hb dX5_walkFrom_168 (lv_at hl 1 rfl) ?_
                        refine xsT_137 hx hb hK hP hD hS (vp_in_iff.mpr (by have h9 : y7_3.toInt = y7_3.toInt := rfl; omega)) dX5_walkFrom_170 (fun H locs hP hD hS => ?_)
                        have hI := xInv_c hI (k := 137) (j := (y7_3 : Int32).toNatClampNeg) (x := x12) (show 0 ≤ (x12 : Int32).toInt ∧ (x12 : Int32).toInt ≤ 29 from by omega)
                        have hfc := fr_c hfc (k := 137) (j := (y7_3 : Int32).toNatClampNeg) (x := x12) (by decide +kernel)
                        obtain ⟨x30, ex30⟩ : ∃ y : Int32, y = y7_6 + 1 := ⟨_, rfl⟩
                        have tx30 := ti_add (a := y7_6.toInt) (b := 1) ex30 rfl (by decide +kernel) (by omega) (by omega)
                        refine lv_iinc (v := x30) (lv' := [(6, .int x30), (3, .int x29), (7, .int x12), (5, .int x6), (4, .int y3_4), (0, .ref (a 128)), (1, .int w), (2, .int b1)]) hx hb dX5_walkFrom_171 hl (k := 2) rfl (by rw [ex30]; rfl) (by decide +kernel) rfl (fun ls hl => ?_)
                        refine lv_goto (tgt := 62) hx hb dX5_walkFrom_174 (by decide +kernel) ?_
                        exact ih7 i7 q7 (updA (updA (updA c7 135 (x12 : Int32).toNatClampNeg x24) 136 (x12 : Int32).toNatClampNeg y7_6) 137 (y7_3 : Int32).toNatClampNeg x12) d7 x30 x29 hI (fr_w hfi (by decide +kernel)) (fr_w hfc (by decide +kernel)) (show 0 ≤ x30.toInt ∧ x30.toInt ≤ 10 from by have h50 : x30.toInt = (y7_6.toInt + 1) := tx30; have h51 : x29.toInt = (y7_3.toInt + 1) := tx29; omega) (show 1 ≤ x29.toInt ∧ x29.toInt ≤ 30 from by have h50 : x30.toInt = (y7_6.toInt + 1) := tx30; have h51 : x29.toInt = (y7_3.toInt + 1) := tx29; omega) (show WQ ((updA (updA (updA c7 135 (x12 : Int32).toNatClampNeg x24) 136 (x12 : Int32).toNatClampNeg y7_6) 137 (y7_3 : Int32).toNatClampNeg x12) 135) ((updA (updA (updA c7 135 (x12 : Int32).toNatClampNeg x24) 136 (x12 : Int32).toNatClampNeg y7_6) 137 (y7_3 : Int32).toNatClampNeg x12) 137) x29.toInt from by rw [tx29]; exact WQ_a (xa := x15) hz7_0 (by omega) (by omega) ex15 (by omega) (by have h9 := tx24; omega)) (show y3_4.toInt < x29.toInt from by have h50 : x30.toInt = (y7_6.toInt + 1) := tx30; have h51 : x29.toInt = (y7_3.toInt + 1) := tx29; omega) (show x6 = (updA (updA (updA c7 135 (x12 : Int32).toNatClampNeg x24) 136 (x12 : Int32).toNatClampNeg y7_6) 137 (y7_3 : Int32).toNatClampNeg x12) 137 y3_4.toNatClampNeg from by show x6 = (upd (c7 137) y7_3.toNatClampNeg x12) y3_4.toNatClampNeg; rw [pk_un (fun e9 => by have h1 := cl_nn (x := y3_4) (by omega); have h2 := cl_nn (x := y7_3) (by omega); omega)]; exact hz7_2) (show BFI (gX (c 129) (c 130) b1.toInt (fun t9 : Int => sgX (c 120) (c 116) t9 0 (sfV (c 105) (c 108) (c 107) (c 106 (c 108 t9.toNat).toNatClampNeg).toInt 0 t9))) w.toInt (mI y3_4.toInt x30.toInt) 30 ((updA (updA (updA c7 135 (x12 : Int32).toNatClampNeg x24) 136 (x12 : Int32).toNatClampNeg y7_6) 137 (y7_3 : Int32).toNatClampNeg x12) 135) ((updA (updA (updA c7 135 (x12 : Int32).toNatClampNeg x24) 136 (x12 : Int32).toNatClampNeg y7_6) 137 (y7_3 : Int32).toNatClampNeg x12) 137) x29.toInt from BFI_y (st := c7 135) (qu := c7 137) (r := x6) hz7_3 (by omega) (by omega) (by omega) (by rw [← hz7_2]) (gX_4 (by omega) (show (x11 : Int32).toInt = x6.toInt * 10 + y7_6.toInt from by omega) (show x12 = c 129 x11.toNatClampNeg from (Int32.toInt_inj.mp gx12.symm)) (by omega) (show (x19 : Int32).toInt = x6.toInt * 10 + y7_6.toInt from by omega) s21) (by omega) (by omega) (by have h9 := tx24; omega) tx29 tx30) (show BFF (gX (c 129) (c 130) b1.toInt (fun t9 : Int => sgX (c 120) (c 116) t9 0 (sfV (c 105) (c 108) (c 107) (c 106 (c 108 t9.toNat).toNatClampNeg).toInt 0 t9))) w.toInt (mI y3_4.toInt x30.toInt) 30 ((updA (updA (updA c7 135 (x12 : Int32).toNatClampNeg x24) 136 (x12 : Int32).toNatClampNeg y7_6) 137 (y7_3 : Int32).toNatClampNeg x12) 136) from BFF_y (fi := c7 136) (r := x6) hz7_4 (BFI_yc (st := c7 135) (qu := c7 137) (r := x6) hz7_3 (by omega) (by omega) (by omega) (by rw [← hz7_2]) (gX_4 (by omega) (show (x11 : Int32).toInt = x6.toInt * 10 + y7_6.toInt from by omega) (show x12 = c 129 x11.toNatClampNeg from (Int32.toInt_inj.mp gx12.symm)) (by omega) (show (x19 : Int32).toInt = x6.toInt * 10 + y7_6.toInt from by omega) s21) (by omega) (by omega)) (by omega) (by omega) (by omega) (Or.inl ⟨by omega, by omega⟩) tx30) (by have h50 : x30.toInt = (y7_6.toInt + 1) := tx30; have h51 : x29.toInt = (y7_3.toInt + 1) := tx29; omega) _ _ _ hP hD hS (lv_sub hl [0, 3, 4, 1, 5, 6, 7] rfl)
          exact lp7 _ i3 q3 c3 d3 (0 : Int32) y3_3 hI (fr_w hfi (by decide +kernel)) (fr_w hfc (by decide +kernel)) (show 0 ≤ (0 : Int32).toInt ∧ (0 : Int32).toInt ≤ 10 from by decide +kernel) (show 1 ≤ y3_3.toInt ∧ y3_3.toInt ≤ 30 from by have h50 : (0 : Int32).toInt = 0 := (by decide +kernel); omega) (show WQ (c3 135) (c3 137) y3_3.toInt from hz3_0) (show y3_4.toInt < y3_3.toInt from by have h50 : (0 : Int32).toInt = 0 := (by decide +kernel); omega) (show x6 = c3 137 y3_4.toNatClampNeg from ex6) (show BFI (gX (c 129) (c 130) b1.toInt (fun t9 : Int => sgX (c 120) (c 116) t9 0 (sfV (c 105) (c 108) (c 107) (c 106 (c 108 t9.toNat).toNatClampNeg).toInt 0 t9))) w.toInt (mI y3_4.toInt (0 : Int32).toInt) 30 (c3 135) (c3 137) y3_3.toInt from by have h9 := hz3_1; exact h9) (show BFF (gX (c 129) (c 130) b1.toInt (fun t9 : Int => sgX (c 120) (c 116) t9 0 (sfV (c 105) (c 108) (c 107) (c 106 (c 108 t9.toNat).toNatClampNeg).toInt 0 t9))) w.toInt (mI y3_4.toInt (0 : Int32).toInt) 30 (c3 136) from by have h9 := hz3_2; exact h9) (Nat.lt_succ_self _) _ _ _ hP hD hS (lv_sub hl [0, 1, 2, 3, 4, 5, 6] rfl)
  exact lp3 _ i q (updA (updA (updF (updF c 135 (fun _ => ((-9) : Int32))) 136 (fun _ => ((-9) : Int32))) 135 (w : Int32).toNatClampNeg 0) 137 (0 : Int32).toNatClampNeg w) d (0 : Int32) (1 : Int32) hI (fr_w hfi (by decide +kernel)) (fr_w hfc (by decide +kernel)) (show 0 ≤ (0 : Int32).toInt ∧ (0 : Int32).toInt ≤ 30 from by decide +kernel) (show 1 ≤ (1 : Int32).toInt ∧ (1 : Int32).toInt ≤ 30 from by decide +kernel) (show WQ ((updA (updA (updF (updF c 135 (fun _ => ((-9) : Int32))) 136 (fun _ => ((-9) : Int32))) 135 (w : Int32).toNatClampNeg 0) 137 (0 : Int32).toNatClampNeg w) 135) ((updA (updA (updF (updF c 135 (fun _ => ((-9) : Int32))) 136 (fun _ => ((-9) : Int32))) 135 (w : Int32).toNatClampNeg 0) 137 (0 : Int32).toNatClampNeg w) 137) (1 : Int32).toInt from WQ_0 (by omega)) (show BFI (gX (c 129) (c 130) b1.toInt (fun t9 : Int => sgX (c 120) (c 116) t9 0 (sfV (c 105) (c 108) (c 107) (c 106 (c 108 t9.toNat).toNatClampNeg).toInt 0 t9))) w.toInt (mI (0 : Int32).toInt 0) 30 ((updA (updA (updF (updF c 135 (fun _ => ((-9) : Int32))) 136 (fun _ => ((-9) : Int32))) 135 (w : Int32).toNatClampNeg 0) 137 (0 : Int32).toNatClampNeg w) 135) ((updA (updA (updF (updF c 135 (fun _ => ((-9) : Int32))) 136 (fun _ => ((-9) : Int32))) 135 (w : Int32).toNatClampNeg 0) 137 (0 : Int32).toNatClampNeg w) 137) (1 : Int32).toInt from BFI_0 (by omega) (fun t9 h9 h8 => by show (upd (fun _ => (-9 : Int32)) w.toNatClampNeg 0 t9).toInt = -9; rw [pk_un h8]; decide) (by show (upd (fun _ => (-9 : Int32)) w.toNatClampNeg 0 w.toNatClampNeg).toInt = 0; rw [pk_us]; decide) (by show upd (c 137) 0 w 0 = w; exact pk_us) (by decide +kernel)) (show BFF (gX (c 129) (c 130) b1.toInt (fun t9 : Int => sgX (c 120) (c 116) t9 0 (sfV (c 105) (c 108) (c 107) (c 106 (c 108 t9.toNat).toNatClampNeg).toInt 0 t9))) w.toInt (mI (0 : Int32).toInt 0) 30 ((updA (updA (updF (updF c 135 (fun _ => ((-9) : Int32))) 136 (fun _ => ((-9) : Int32))) 135 (w : Int32).toNatClampNeg 0) 137 (0 : Int32).toNatClampNeg w) 136) from BFF_0 (fun _ => (show ((-9) : Int32).toInt = -9 from by decide))) (Nat.lt_succ_self _) _ _ _ hP hD hS (lv_sub hl [0, 1, 2, 3, 4] rfl)

def wm_X11_refuseRooms_e : List Cond := .code yX11_refuseRooms cX11_refuseRooms 3 (some .int) :: ((([.fieldLink RX11 10 "TalePlay" "world" "LTalePlay$World;", .methodLink RX11 109 yX10_hasObject, .instanceMethod yX10_hasObject, .selects RX10 yX10_hasObject yX10_hasObject, .initialized RX10, .code yX10_hasObject cX10_hasObject 2 (some .boolean), .fieldLink RX10 37 "TalePlay$World" "objects" "I", .methodLink RX11 125 yX10_sortOf, .instanceMethod yX10_sortOf, .selects RX10 yX10_sortOf yX10_sortOf, .code yX10_sortOf cX10_sortOf 2 (some .int), .fieldLink RX10 15 "TalePlay$World" "sorts" "[I", .fieldLink RX10 21 "TalePlay$World" "kindOf" "[I", .methodLink RX11 128 yX11_answerFinding, .instanceMethod yX11_answerFinding, .selects RX11 yX11_answerFinding yX11_answerFinding] : List Cond) ++ ([.initialized RX11, .code yX11_answerFinding cX11_answerFinding 2 (some .int), .fieldLink RX11 72 "TalePlay" "latestFinding" "I", .fieldLink RX11 68 "TalePlay" "findingCounts" "[I"] : List Cond)) ++ wsX110 ++ wsX100)
set_option maxRecDepth 20000 in
theorem gm_X11_refuseRooms_e_X10_hasObject_109 : GoodIn wm_X11_refuseRooms_e (wsV RX11 109 RX10 yX10_hasObject wm_X10_hasObject) := goodIn_w (List.forall_mem_append.mpr ⟨List.forall_mem_cons.mpr ⟨List.mem_cons_of_mem _ (List.mem_append_left _ (List.mem_append_left _ (List.mem_append_left _ (List.mem_of_getElem? (i := 1) rfl)))), List.forall_mem_cons.mpr ⟨List.mem_cons_of_mem _ (List.mem_append_left _ (List.mem_append_left _ (List.mem_append_left _ (List.mem_of_getElem? (i := 2) rfl)))), List.forall_mem_cons.mpr ⟨List.mem_cons_of_mem _ (List.mem_append_left _ (List.mem_append_left _ (List.mem_append_left _ (List.mem_of_getElem? (i := 3) rfl)))), List.forall_mem_cons.mpr ⟨List.mem_cons_of_mem _ (List.mem_append_left _ (List.mem_append_left _ (List.mem_append_left _ (List.mem_of_getElem? (i := 4) rfl)))), (fun _ h => absurd h List.not_mem_nil)⟩⟩⟩⟩, List.forall_mem_cons.mpr ⟨List.mem_cons_of_mem _ (List.mem_append_left _ (List.mem_append_left _ (List.mem_append_left _ (List.mem_of_getElem? (i := 5) rfl)))), List.forall_mem_append.mpr ⟨List.forall_mem_cons.mpr ⟨List.mem_cons_of_mem _ (List.mem_append_left _ (List.mem_append_left _ (List.mem_append_left _ (List.mem_of_getElem? (i := 6) rfl)))), (fun _ h => absurd h List.not_mem_nil)⟩, (fun _ h => List.mem_cons_of_mem _ (List.mem_append_right _ h))⟩⟩⟩) (by decide +kernel)
set_option maxRecDepth 20000 in
theorem gm_X11_refuseRooms_e_X10_sortOf_e_125 : GoodIn wm_X11_refuseRooms_e (wsV RX11 125 RX10 yX10_sortOf wm_X10_sortOf_e) := goodIn_w (List.forall_mem_append.mpr ⟨List.forall_mem_cons.mpr ⟨List.mem_cons_of_mem _ (List.mem_append_left _ (List.mem_append_left _ (List.mem_append_left _ (List.mem_of_getElem? (i := 7) rfl)))), List.forall_mem_cons.mpr ⟨List.mem_cons_of_mem _ (List.mem_append_left _ (List.mem_append_left _ (List.mem_append_left _ (List.mem_of_getElem? (i := 8) rfl)))), List.forall_mem_cons.mpr ⟨List.mem_cons_of_mem _ (List.mem_append_left _ (List.mem_append_left _ (List.mem_append_left _ (List.mem_of_getElem? (i := 9) rfl)))), List.forall_mem_cons.mpr ⟨List.mem_cons_of_mem _ (List.mem_append_left _ (List.mem_append_left _ (List.mem_append_left _ (List.mem_of_getElem? (i := 4) rfl)))), (fun _ h => absurd h List.not_mem_nil)⟩⟩⟩⟩, List.forall_mem_cons.mpr ⟨List.mem_cons_of_mem _ (List.mem_append_left _ (List.mem_append_left _ (List.mem_append_left _ (List.mem_of_getElem? (i := 10) rfl)))), List.forall_mem_append.mpr ⟨List.forall_mem_cons.mpr ⟨List.mem_cons_of_mem _ (List.mem_append_left _ (List.mem_append_left _ (List.mem_append_left _ (List.mem_of_getElem? (i := 6) rfl)))), List.forall_mem_cons.mpr ⟨List.mem_cons_of_mem _ (List.mem_append_left _ (List.mem_append_left _ (List.mem_append_left _ (List.mem_of_getElem? (i := 11) rfl)))), List.forall_mem_cons.mpr ⟨List.mem_cons_of_mem _ (List.mem_append_left _ (List.mem_append_left _ (List.mem_append_left _ (List.mem_of_getElem? (i := 12) rfl)))), (fun _ h => absurd h List.not_mem_nil)⟩⟩⟩, (fun _ h => List.mem_cons_of_mem _ (List.mem_append_right _ h))⟩⟩⟩) (by decide +kernel)
set_option maxRecDepth 20000 in
theorem gm_X11_refuseRooms_e_X11_answerFinding_128 : GoodIn wm_X11_refuseRooms_e (wsV RX11 128 RX11 yX11_answerFinding wm_X11_answerFinding) := goodIn_w (List.forall_mem_append.mpr ⟨List.forall_mem_cons.mpr ⟨List.mem_cons_of_mem _ (List.mem_append_left _ (List.mem_append_left _ (List.mem_append_left _ (List.mem_of_getElem? (i := 13) rfl)))), List.forall_mem_cons.mpr ⟨List.mem_cons_of_mem _ (List.mem_append_left _ (List.mem_append_left _ (List.mem_append_left _ (List.mem_of_getElem? (i := 14) rfl)))), List.forall_mem_cons.mpr ⟨List.mem_cons_of_mem _ (List.mem_append_left _ (List.mem_append_left _ (List.mem_append_left _ (List.mem_of_getElem? (i := 15) rfl)))), List.forall_mem_cons.mpr ⟨List.mem_cons_of_mem _ (List.mem_append_left _ (List.mem_append_left _ (List.mem_append_right _ (List.mem_of_getElem? (i := 0) rfl)))), (fun _ h => absurd h List.not_mem_nil)⟩⟩⟩⟩, List.forall_mem_cons.mpr ⟨List.mem_cons_of_mem _ (List.mem_append_left _ (List.mem_append_left _ (List.mem_append_right _ (List.mem_of_getElem? (i := 1) rfl)))), List.forall_mem_append.mpr ⟨List.forall_mem_cons.mpr ⟨List.mem_cons_of_mem _ (List.mem_append_left _ (List.mem_append_left _ (List.mem_append_right _ (List.mem_of_getElem? (i := 2) rfl)))), List.forall_mem_cons.mpr ⟨List.mem_cons_of_mem _ (List.mem_append_left _ (List.mem_append_left _ (List.mem_append_right _ (List.mem_of_getElem? (i := 3) rfl)))), (fun _ h => absurd h List.not_mem_nil)⟩⟩, (fun _ h => List.mem_cons_of_mem _ (List.mem_append_left _ (List.mem_append_right _ h)))⟩⟩⟩) (by decide +kernel)
set_option maxHeartbeats 4000000 in
set_option maxRecDepth 100000 in
theorem x_X11_refuseRooms_e (l : Launch) (D : va_G) (sz : Nat) (sk : Value) (a : Nat → Nat) (t : Nat → ClassId) (i : Nat → Int32) (q : Int64) (c : Nat → Nat → Int32) (d : Nat → Nat → Int64) (w1 : Int32) (w2 : Int32) (hI : xInv i c) : Met l yX11_refuseRooms wm_X11_refuseRooms_e ({ frames := 1, cells := 0, slots := 0, locals := 21 }) (va_Pc [.ref (a 100), .int w1, .int w2] (yB (a 186) D sz (xwT sk a t i q c d) (xtT t))) (va_Qi (fun (r : Int32) (u : MS) => True ∧ xInv u.1 u.2.2.1 ∧ (∀ k, k ∉ ([102] : List Nat) → u.1 k = i k) ∧ (∀ k, k ∉ ([101] : List Nat) → u.2.2.1 k = c k) ∧ ((¬ (0 ≤ w1.toInt ∧ w1.toInt < (i 111).toInt ∧ 0 ≤ w2.toInt ∧ w2.toInt < (i 111).toInt) ∧ r.toInt = -1) ∨ ((0 ≤ w1.toInt ∧ w1.toInt < (i 111).toInt ∧ 0 ≤ w2.toInt ∧ w2.toInt < (i 111).toInt) ∧ ¬ ((c 106 (c 108 w1.toInt.toNat).toNatClampNeg).toInt = 0 ∧ (c 106 (c 108 w2.toInt.toNat).toNatClampNeg).toInt = 0) ∧ r.toInt = -3) ∨ ((0 ≤ w1.toInt ∧ w1.toInt < (i 111).toInt ∧ 0 ≤ w2.toInt ∧ w2.toInt < (i 111).toInt) ∧ ((c 106 (c 108 w1.toInt.toNat).toNatClampNeg).toInt = 0 ∧ (c 106 (c 108 w2.toInt.toNat).toNatClampNeg).toInt = 0) ∧ r.toInt = 0))) (oC D (va_A (xwT sk a t i q c d) sz) (fun u : MS => xwT sk a t u.1 u.2.1 u.2.2.1 u.2.2.2) (fun _ => [])) (va_A (xwT sk a t i q c d) sz)) 0 0 (va_A (xwT sk a t i q c d) sz) := by
  refine Met.ofW (cc := cX11_refuseRooms) (maxL := 3) (ret := (some .int)) (by decide +kernel) rfl ?_
  intro p e s m args below meth cd s₁ B hml hv
  obtain ⟨rfl, ⟨hsz, hP, hK, hD0⟩, hN, hZ, hBW⟩ := hv
  have hx := B.exec
  have hb := B.bytes
  have hr := B.returns
  have hts := atoms_spec (ws := wm_X11_refuseRooms_e) B.pre
  have hown : s.vm.findClass RX11 = some m.cls := findClass_of_methodNamed B.named
  have hlocks := B.notSynchronized
  subst hsz
  have hD := hD0.self (sz := s.heap.size)
  have hZ := xZ_A hZ hP hBW
  generalize hAe : va_A (xwT sk a t i q c d) s.heap.size = A at hD hZ ⊢
  have hA : ∀ q : Nat, s.heap.size ≤ q → A q := fun q h => by rw [← hAe]; exact Or.inr h
  have hS : va_S A s.heap s.heap [] := va_S.rf
  have hfi : ∀ k, k ∉ ([] : List Nat) → i k = i k := fun _ _ => rfl
  have hfc : ∀ k, k ∉ ([] : List Nat) → c k = c k := fun _ _ => rfl
  have hl := lv_entry ([.ref (a 100), .int w1, .int w2]) (n := 3) (Nat.le_of_ble_eq_true rfl)
  rw [lg_entry_eq]
  generalize (lg_sl ([.ref (a 100), .int w1, .int w2]) ++ List.replicate (3 - (lg_sl ([.ref (a 100), .int w1, .int w2])).length) Slot.unset).toArray = ls at hl ⊢
  have hl : lv_has ls 3 [(0, .ref (a 100)), (1, .int w1), (2, .int w2)] := hl
  have rb111_i : 0 ≤ (i 111).toInt ∧ (i 111).toInt ≤ 30 := hI.1 111
  refine lv_aload_n hx hb dX11_refuseRooms_0 rfl (lv_at hl 0 rfl) ?_
  refine xgT_X_world hx hb hts (fun _ h => List.mem_cons_of_mem _ (List.mem_append_left _ (List.mem_append_right _ h))) hown hK hP (hts (.fieldLink RX11 10 "TalePlay" "world" "LTalePlay$World;") (List.mem_cons_of_mem _ (List.mem_append_left _ (List.mem_append_left _ (List.mem_append_left _ (List.mem_of_getElem? (i := 0) rfl)))))) dX11_refuseRooms_1 ?_
  refine lv_iload_n hx hb dX11_refuseRooms_4 rfl (lv_at hl 1 rfl) ?_
  refine ro_calli (va_runV (As := [.int w1]) (rest := []) ⟨hx, hb, hml, hown, hts⟩ (x_X10_hasObject l D s.heap.size .null a t i q c d w1 hI ) (cwV 1 hts gm_X11_refuseRooms_e_X10_hasObject_109 rfl rfl rfl (by decide +kernel) ⟨Nat.le_of_ble_eq_true rfl, Nat.le_of_ble_eq_true rfl⟩) (yA_V hN (xZ_k hZ hS hA) (xkT_W hK) (xuT_W (sk := sk) hP) (ci := 10) (q0 := 0) rfl rfl) rfl rfl hl.1 rfl (lv_room (Nat.le_of_ble_eq_true rfl)) dX11_refuseRooms_5 ⟨Nat.le_of_ble_eq_true rfl, Nat.le_of_ble_eq_true rfl⟩) hS hA hP (fun r1 u1 H locs hw1 hP hS => ?_)
  have hw1 : r1 = if (0 ≤ w1.toInt ∧ w1.toInt < (i 111).toInt) then 1 else 0 := hw1
  refine lv_if_eq (tgt := 22) hx hb dX11_refuseRooms_8 (by decide +kernel) (fun c2 => ?_) (fun c2 => ?_)
  · have f2 := fl_f hw1 c2
    refine lv_iconst (v := (-1)) hx hb dX11_refuseRooms_22 (by decide +kernel) ?_
    exact rw_iret (i, q, c, d) hx hb hr hlocks hS (hK.sub (tys' := []) [] rfl) hP hD dX11_refuseRooms_23 ⟨trivial, hI, fr_w hfi (by decide +kernel), fr_w hfc (by decide +kernel), (show (¬ (0 ≤ w1.toInt ∧ w1.toInt < (i 111).toInt ∧ 0 ≤ w2.toInt ∧ w2.toInt < (i 111).toInt) ∧ ((-1) : Int32).toInt = -1) ∨ ((0 ≤ w1.toInt ∧ w1.toInt < (i 111).toInt ∧ 0 ≤ w2.toInt ∧ w2.toInt < (i 111).toInt) ∧ ¬ ((c 106 (c 108 w1.toInt.toNat).toNatClampNeg).toInt = 0 ∧ (c 106 (c 108 w2.toInt.toNat).toNatClampNeg).toInt = 0) ∧ ((-1) : Int32).toInt = -3) ∨ ((0 ≤ w1.toInt ∧ w1.toInt < (i 111).toInt ∧ 0 ≤ w2.toInt ∧ w2.toInt < (i 111).toInt) ∧ ((c 106 (c 108 w1.toInt.toNat).toNatClampNeg).toInt = 0 ∧ (c 106 (c 108 w2.toInt.toNat).toNatClampNeg).toInt = 0) ∧ ((-1) : Int32).toInt = 0) from by have h50 : ((-1) : Int32).toInt = -1 := (by decide +kernel); omega)⟩
  · have f2 := fl_t hw1 c2
    refine lv_aload_n hx hb dX11_refuseRooms_11 rfl (lv_at hl 0 rfl) ?_
    refine xgT_X_world hx hb hts (fun _ h => List.mem_cons_of_mem _ (List.mem_append_left _ (List.mem_append_right _ h))) hown hK hP (hts (.fieldLink RX11 10 "TalePlay" "world" "LTalePlay$World;") (List.mem_cons_of_mem _ (List.mem_append_left _ (List.mem_append_left _ (List.mem_append_left _ (List.mem_of_getElem? (i := 0) rfl)))))) dX11_refuseRooms_12 ?_
    refine lv_iload_n hx hb dX11_refuseRooms_15 rfl (lv_at hl 2 rfl) ?_
    refine ro_calli (va_runV (As := [.int w2]) (rest := []) ⟨hx, hb, hml, hown, hts⟩ (x_X10_hasObject l D H.size .null a t i q c d w2 hI ) (cwV 1 hts gm_X11_refuseRooms_e_X10_hasObject_109 rfl rfl rfl (by decide +kernel) ⟨Nat.le_of_ble_eq_true rfl, Nat.le_of_ble_eq_true rfl⟩) (yA_V hN (xZ_k hZ hS hA) (xkT_W hK) (xuT_W (sk := sk) hP) (ci := 10) (q0 := 0) rfl rfl) rfl rfl hl.1 rfl (lv_room (Nat.le_of_ble_eq_true rfl)) dX11_refuseRooms_16 ⟨Nat.le_of_ble_eq_true rfl, Nat.le_of_ble_eq_true rfl⟩) hS hA hP (fun r3 u3 H locs hw3 hP hS => ?_)
    have hw3 : r3 = if (0 ≤ w2.toInt ∧ w2.toInt < (i 111).toInt) then 1 else 0 := hw3
    refine lv_if_ne (tgt := 24) hx hb dX11_refuseRooms_19 (by decide +kernel) (fun c4 => ?_) (fun c4 => ?_)
    · have f4 := fl_t hw3 c4
      refine lv_aload_n hx hb dX11_refuseRooms_24 rfl (lv_at hl 0 rfl) ?_
      refine xgT_X_world hx hb hts (fun _ h => List.mem_cons_of_mem _ (List.mem_append_left _ (List.mem_append_right _ h))) hown hK hP (hts (.fieldLink RX11 10 "TalePlay" "world" "LTalePlay$World;") (List.mem_cons_of_mem _ (List.mem_append_left _ (List.mem_append_left _ (List.mem_append_left _ (List.mem_of_getElem? (i := 0) rfl)))))) dX11_refuseRooms_25 ?_
      refine lv_iload_n hx hb dX11_refuseRooms_28 rfl (lv_at hl 1 rfl) ?_
      refine ro_calli (va_runV (As := [.int w1]) (rest := []) ⟨hx, hb, hml, hown, hts⟩ (x_X10_sortOf_e l D H.size .null a t i q c d w1 hI ) (cwV 1 hts gm_X11_refuseRooms_e_X10_sortOf_e_125 rfl rfl rfl (by decide +kernel) ⟨Nat.le_of_ble_eq_true rfl, Nat.le_of_ble_eq_true rfl⟩) (yA_V hN (xZ_k hZ hS hA) (xkT_W hK) (xuT_W (sk := sk) hP) (ci := 10) (q0 := 0) rfl rfl) rfl rfl hl.1 rfl (lv_room (Nat.le_of_ble_eq_true rfl)) dX11_refuseRooms_29 ⟨Nat.le_of_ble_eq_true rfl, Nat.le_of_ble_eq_true rfl⟩) hS hA hP (fun r5 u5 H locs hw5 hP hS => ?_)
      have hw5 : (((r5.toInt = -9 ∧ ¬ (0 ≤ w1.toInt ∧ w1.toInt < (i 111).toInt)) ∨ (0 ≤ r5.toInt ∧ r5.toInt ≤ 5 ∧ 0 ≤ w1.toInt ∧ w1.toInt < (i 111).toInt)) ∧ (SO (c 106) (c 108) (i 111).toInt w1.toInt r5.toInt)) := hw5
      obtain ⟨hw5, hr5_0⟩ := hw5
      have hr5_0 : SO (c 106) (c 108) (i 111).toInt w1.toInt r5.toInt := hr5_0
      have hoa : r5.toInt = (c 106 (c 108 w1.toInt.toNat).toNatClampNeg).toInt := by rcases hr5_0 with h9 | h9; (· exact h9.2.2); (· exfalso; omega)
      refine lv_if_ne (tgt := 46) hx hb dX11_refuseRooms_32 (by decide +kernel) (fun c6 => ?_) (fun c6 => ?_)
      · have f6 := mt (ti_eq (a := r5.toInt) (b := 0) rfl (by decide +kernel)).mpr c6
        refine lv_aload_n hx hb dX11_refuseRooms_46 rfl (lv_at hl 0 rfl) ?_
        refine lv_iconst (v := 3) hx hb dX11_refuseRooms_47 (by decide +kernel) ?_
        refine al_calli (va_runV (As := [.int 3]) (rest := []) ⟨hx, hb, hml, hown, hts⟩ (x_X11_answerFinding l D H.size sk a t i q c d 3 hI (show 1 ≤ 3 ∧ 3 ≤ 6 from by decide +kernel)) (cwV 1 hts gm_X11_refuseRooms_e_X11_answerFinding_128 rfl rfl rfl (by decide +kernel) ⟨Nat.le_of_ble_eq_true rfl, Nat.le_of_ble_eq_true rfl⟩) (yB_V hN (xZ_k hZ hS hA) (xZ_n hZ hD) hK hP hD (ci := 11) (q0 := 0) rfl rfl) rfl rfl hl.1 rfl (lv_room (Nat.le_of_ble_eq_true rfl)) dX11_refuseRooms_48 ⟨Nat.le_of_ble_eq_true rfl, Nat.le_of_ble_eq_true rfl⟩) hS hA hP hD (fun r7 u7 H locs hw7 hP hD hS => ?_)
        obtain ⟨i7, q7, c7, d7⟩ := u7
        have hw7 : r7 = (-3) ∧ xInv i7 c7 ∧ (∀ k, k ∉ ([102] : List Nat) → i7 k = i k) ∧ (∀ k, k ∉ ([101] : List Nat) → c7 k = c k) := hw7
        obtain ⟨hw7, hI, hei7, hec7⟩ := hw7
        have hfi : ∀ k, k ∉ ([102] : List Nat) → i7 k = i k := fr_z hfi hei7 (by decide +kernel) (by decide +kernel)
        have hfc : ∀ k, k ∉ ([101] : List Nat) → c7 k = c k := fr_z hfc hec7 (by decide +kernel) (by decide +kernel)
        have hw7 : r7 = (-3) := hw7
        subst hw7
        exact rw_iret (i7, q7, c7, d7) hx hb hr hlocks hS (hK.sub (tys' := []) [] rfl) hP hD dX11_refuseRooms_51 ⟨trivial, hI, fr_w hfi (by decide +kernel), fr_w hfc (by decide +kernel), (show (¬ (0 ≤ w1.toInt ∧ w1.toInt < (i 111).toInt ∧ 0 ≤ w2.toInt ∧ w2.toInt < (i 111).toInt) ∧ ((-3) : Int32).toInt = -1) ∨ ((0 ≤ w1.toInt ∧ w1.toInt < (i 111).toInt ∧ 0 ≤ w2.toInt ∧ w2.toInt < (i 111).toInt) ∧ ¬ ((c 106 (c 108 w1.toInt.toNat).toNatClampNeg).toInt = 0 ∧ (c 106 (c 108 w2.toInt.toNat).toNatClampNeg).toInt = 0) ∧ ((-3) : Int32).toInt = -3) ∨ ((0 ≤ w1.toInt ∧ w1.toInt < (i 111).toInt ∧ 0 ≤ w2.toInt ∧ w2.toInt < (i 111).toInt) ∧ ((c 106 (c 108 w1.toInt.toNat).toNatClampNeg).toInt = 0 ∧ (c 106 (c 108 w2.toInt.toNat).toNatClampNeg).toInt = 0) ∧ ((-3) : Int32).toInt = 0) from by have h50 : ((-3) : Int32).toInt = -3 := (by decide +kernel); omega)⟩
      · have f6 := (ti_eq (a := r5.toInt) (b := 0) rfl (by decide +kernel)).mp c6
        refine lv_aload_n hx hb dX11_refuseRooms_35 rfl (lv_at hl 0 rfl) ?_
        refine xgT_X_world hx hb hts (fun _ h => List.mem_cons_of_mem _ (List.mem_append_left _ (List.mem_append_right _ h))) hown hK hP (hts (.fieldLink RX11 10 "TalePlay" "world" "LTalePlay$World;") (List.mem_cons_of_mem _ (List.mem_append_left _ (List.mem_append_left _ (List.mem_append_left _ (List.mem_of_getElem? (i := 0) rfl)))))) dX11_refuseRooms_36 ?_
        refine lv_iload_n hx hb dX11_refuseRooms_39 rfl (lv_at hl 2 rfl) ?_
        refine ro_calli (va_runV (As := [.int w2]) (rest := []) ⟨hx, hb, hml, hown, hts⟩ (x_X10_sortOf_e l D H.size .null a t i q c d w2 hI ) (cwV 1 hts gm_X11_refuseRooms_e_X10_sortOf_e_125 rfl rfl rfl (by decide +kernel) ⟨Nat.le_of_ble_eq_true rfl, Nat.le_of_ble_eq_true rfl⟩) (yA_V hN (xZ_k hZ hS hA) (xkT_W hK) (xuT_W (sk := sk) hP) (ci := 10) (q0 := 0) rfl rfl) rfl rfl hl.1 rfl (lv_room (Nat.le_of_ble_eq_true rfl)) dX11_refuseRooms_40 ⟨Nat.le_of_ble_eq_true rfl, Nat.le_of_ble_eq_true rfl⟩) hS hA hP (fun r8 u8 H locs hw8 hP hS => ?_)
        have hw8 : (((r8.toInt = -9 ∧ ¬ (0 ≤ w2.toInt ∧ w2.toInt < (i 111).toInt)) ∨ (0 ≤ r8.toInt ∧ r8.toInt ≤ 5 ∧ 0 ≤ w2.toInt ∧ w2.toInt < (i 111).toInt)) ∧ (SO (c 106) (c 108) (i 111).toInt w2.toInt r8.toInt)) := hw8
        obtain ⟨hw8, hr8_0⟩ := hw8
        have hr8_0 : SO (c 106) (c 108) (i 111).toInt w2.toInt r8.toInt := hr8_0
        have hob : r8.toInt = (c 106 (c 108 w2.toInt.toNat).toNatClampNeg).toInt := by rcases hr8_0 with h9 | h9; (· exact h9.2.2); (· exfalso; omega)
        refine lv_if_eq (tgt := 52) hx hb dX11_refuseRooms_43 (by decide +kernel) (fun c9 => ?_) (fun c9 => ?_)
        · have f9 := (ti_eq (a := r8.toInt) (b := 0) rfl (by decide +kernel)).mp c9
          refine lv_iconst (v := 0) hx hb dX11_refuseRooms_52 (by decide +kernel) ?_
          exact rw_iret (i, q, c, d) hx hb hr hlocks hS (hK.sub (tys' := []) [] rfl) hP hD dX11_refuseRooms_53 ⟨trivial, hI, fr_w hfi (by decide +kernel), fr_w hfc (by decide +kernel), (show (¬ (0 ≤ w1.toInt ∧ w1.toInt < (i 111).toInt ∧ 0 ≤ w2.toInt ∧ w2.toInt < (i 111).toInt) ∧ (0 : Int32).toInt = -1) ∨ ((0 ≤ w1.toInt ∧ w1.toInt < (i 111).toInt ∧ 0 ≤ w2.toInt ∧ w2.toInt < (i 111).toInt) ∧ ¬ ((c 106 (c 108 w1.toInt.toNat).toNatClampNeg).toInt = 0 ∧ (c 106 (c 108 w2.toInt.toNat).toNatClampNeg).toInt = 0) ∧ (0 : Int32).toInt = -3) ∨ ((0 ≤ w1.toInt ∧ w1.toInt < (i 111).toInt ∧ 0 ≤ w2.toInt ∧ w2.toInt < (i 111).toInt) ∧ ((c 106 (c 108 w1.toInt.toNat).toNatClampNeg).toInt = 0 ∧ (c 106 (c 108 w2.toInt.toNat).toNatClampNeg).toInt = 0) ∧ (0 : Int32).toInt = 0) from by have h50 : (0 : Int32).toInt = 0 := (by decide +kernel); omega)⟩
        · have f9 := mt (ti_eq (a := r8.toInt) (b := 0) rfl (by decide +kernel)).mpr c9
          refine lv_aload_n hx hb dX11_refuseRooms_46 rfl (lv_at hl 0 rfl) ?_
          refine lv_iconst (v := 3) hx hb dX11_refuseRooms_47 (by decide +kernel) ?_
          refine al_calli (va_runV (As := [.int 3]) (rest := []) ⟨hx, hb, hml, hown, hts⟩ (x_X11_answerFinding l D H.size sk a t i q c d 3 hI (show 1 ≤ 3 ∧ 3 ≤ 6 from by decide +kernel)) (cwV 1 hts gm_X11_refuseRooms_e_X11_answerFinding_128 rfl rfl rfl (by decide +kernel) ⟨Nat.le_of_ble_eq_true rfl, Nat.le_of_ble_eq_true rfl⟩) (yB_V hN (xZ_k hZ hS hA) (xZ_n hZ hD) hK hP hD (ci := 11) (q0 := 0) rfl rfl) rfl rfl hl.1 rfl (lv_room (Nat.le_of_ble_eq_true rfl)) dX11_refuseRooms_48 ⟨Nat.le_of_ble_eq_true rfl, Nat.le_of_ble_eq_true rfl⟩) hS hA hP hD (fun r10 u10 H locs hw10 hP hD hS => ?_)
          obtain ⟨i10, q10, c10, d10⟩ := u10
          have hw10 : r10 = (-3) ∧ xInv i10 c10 ∧ (∀ k, k ∉ ([102] : List Nat) → i10 k = i k) ∧ (∀ k, k ∉ ([101] : List Nat) → c10 k = c k) := hw10
          obtain ⟨hw10, hI, hei10, hec10⟩ := hw10
          have hfi : ∀ k, k ∉ ([102] : List Nat) → i10 k = i k := fr_z hfi hei10 (by decide +kernel) (by decide +kernel)
          have hfc : ∀ k, k ∉ ([101] : List Nat) → c10 k = c k := fr_z hfc hec10 (by decide +kernel) (by decide +kernel)
          have hw10 : r10 = (-3) := hw10
          subst hw10
          exact rw_iret (i10, q10, c10, d10) hx hb hr hlocks hS (hK.sub (tys' := []) [] rfl) hP hD dX11_refuseRooms_51 ⟨trivial, hI, fr_w hfi (by decide +kernel), fr_w hfc (by decide +kernel), (show (¬ (0 ≤ w1.toInt ∧ w1.toInt < (i 111).toInt ∧ 0 ≤ w2.toInt ∧ w2.toInt < (i 111).toInt) ∧ ((-3) : Int32).toInt = -1) ∨ ((0 ≤ w1.toInt ∧ w1.toInt < (i 111).toInt ∧ 0 ≤ w2.toInt ∧ w2.toInt < (i 111).toInt) ∧ ¬ ((c 106 (c 108 w1.toInt.toNat).toNatClampNeg).toInt = 0 ∧ (c 106 (c 108 w2.toInt.toNat).toNatClampNeg).toInt = 0) ∧ ((-3) : Int32).toInt = -3) ∨ ((0 ≤ w1.toInt ∧ w1.toInt < (i 111).toInt ∧ 0 ≤ w2.toInt ∧ w2.toInt < (i 111).toInt) ∧ ((c 106 (c 108 w1.toInt.toNat).toNatClampNeg).toInt = 0 ∧ (c 106 (c 108 w2.toInt.toNat).toNatClampNeg).toInt = 0) ∧ ((-3) : Int32).toInt = 0) from by have h50 : ((-3) : Int32).toInt = -3 := (by decide +kernel); omega)⟩
    · have f4 := fl_f hw3 c4
      refine lv_iconst (v := (-1)) hx hb dX11_refuseRooms_22 (by decide +kernel) ?_
      exact rw_iret (i, q, c, d) hx hb hr hlocks hS (hK.sub (tys' := []) [] rfl) hP hD dX11_refuseRooms_23 ⟨trivial, hI, fr_w hfi (by decide +kernel), fr_w hfc (by decide +kernel), (show (¬ (0 ≤ w1.toInt ∧ w1.toInt < (i 111).toInt ∧ 0 ≤ w2.toInt ∧ w2.toInt < (i 111).toInt) ∧ ((-1) : Int32).toInt = -1) ∨ ((0 ≤ w1.toInt ∧ w1.toInt < (i 111).toInt ∧ 0 ≤ w2.toInt ∧ w2.toInt < (i 111).toInt) ∧ ¬ ((c 106 (c 108 w1.toInt.toNat).toNatClampNeg).toInt = 0 ∧ (c 106 (c 108 w2.toInt.toNat).toNatClampNeg).toInt = 0) ∧ ((-1) : Int32).toInt = -3) ∨ ((0 ≤ w1.toInt ∧ w1.toInt < (i 111).toInt ∧ 0 ≤ w2.toInt ∧ w2.toInt < (i 111).toInt) ∧ ((c 106 (c 108 w1.toInt.toNat).toNatClampNeg).toInt = 0 ∧ (c 106 (c 108 w2.toInt.toNat).toNatClampNeg).toInt = 0) ∧ ((-1) : Int32).toInt = 0) from by have h50 : ((-1) : Int32).toInt = -1 := (by decide +kernel); omega)⟩

set_option maxHeartbeats 4000000 in
set_option maxRecDepth 100000 in
theorem s_X12_walk_e (l : Launch) (D : va_G) (sz : Nat) (o : Nat) (a : Nat → Nat) (t : Nat → ClassId) (i : Nat → Int32) (q : Int64) (c : Nat → Nat → Int32) (d : Nat → Nat → Int64) (w : Int32) (b1 : Int32) (hI : mInv i c) (hw : 0 ≤ w.toInt ∧ w.toInt < (i 5).toInt) (hs_S : SJ (c 3) (c 6) (c 9) (c 10) (c 11) (c 13) (i 2).toInt (i 5).toInt (i 8).toInt) : Met l yX12_walk wm_X12_walk ({ frames := 2, cells := 0, slots := 0, locals := 48 }) (va_Pc [.ref o, .int w, .int b1] (pB D sz (mW o a t i q c d) (mT t))) (va_Qv (fun (u : MS) => True ∧ mInv u.1 u.2.2.1 ∧ (∀ k, k ∉ ([16, 17, 18, 19] : List Nat) → u.1 k = i k) ∧ (∀ k, k ∉ ([20, 21] : List Nat) → u.2.2.1 k = c k) ∧ (BfE (wM (c 3) (c 6) (c 9) (c 10) (c 11) (c 12) (c 13) (i 8).toInt b1.toInt (fun t9 : Int => sgM (c 9) (c 10) (c 11) (c 12) (c 13) (i 8).toInt t9 0 (sfV (c 3) (c 6) (c 4) (kS (c 3) (c 6) t9) 0 t9))) w.toInt (i 5).toInt (u.2.2.1 20))) (oC D (va_A (mW o a t i q c d) sz) (fun u : MS => mW o a t u.1 u.2.1 u.2.2.1 u.2.2.2) (fun _ => [])) (va_A (mW o a t i q c d) sz)) 0 0 (va_A (mW o a t i q c d) sz) := by
  refine Met.ofW (cc := cX12_walk) (maxL := 7) (ret := none) (by decide +kernel) rfl ?_
  intro p e s m args below meth cd s₁ B hml hv
  obtain ⟨rfl, hsz, hP, hK, hD0⟩ := hv
  have hx := B.exec
  have hb := B.bytes
  have hr := B.returns
  have hts := atoms_spec (ws := wm_X12_walk) B.pre
  have hown : s.vm.findClass RX12 = some m.cls := findClass_of_methodNamed B.named
  have hlocks := B.notSynchronized
  subst hsz
  have hD := hD0.self (sz := s.heap.size)
  generalize hAe : va_A (mW o a t i q c d) s.heap.size = A at hD ⊢
  have hA : ∀ q : Nat, s.heap.size ≤ q → A q := fun q h => by rw [← hAe]; exact Or.inr h
  have hS : va_S A s.heap s.heap [] := va_S.rf
  have hfi : ∀ k, k ∉ ([] : List Nat) → i k = i k := fun _ _ => rfl
  have hfc : ∀ k, k ∉ ([] : List Nat) → c k = c k := fun _ _ => rfl
  have hl := lv_entry ([.ref o, .int w, .int b1]) (n := 7) (Nat.le_of_ble_eq_true rfl)
  rw [lg_entry_eq]
  generalize (lg_sl ([.ref o, .int w, .int b1]) ++ List.replicate (7 - (lg_sl ([.ref o, .int w, .int b1])).length) Slot.unset).toArray = ls at hl ⊢
  have hl : lv_has ls 7 [(0, .ref o), (1, .int w), (2, .int b1)] := hl
  have rb5_i : 0 ≤ (i 5).toInt ∧ (i 5).toInt ≤ 30 := hI.1 5
  refine lv_iconst (v := 0) hx hb dX12_walk_0 (by decide +kernel) ?_
  refine lv_istore_n (lv' := [(3, .int 0), (0, .ref o), (1, .int w), (2, .int b1)]) hx hb dX12_walk_1 rfl hl (by decide +kernel) rfl (fun ls hl => ?_)
  have lp1 : ∀ (fu : Nat) (i1 : Nat → Int32) (q1 : Int64) (c1 : Nat → Nat → Int32) (d1 : Nat → Nat → Int64) (y1_3 : Int32), mInv i1 c1 → (∀ k, k ∉ ([] : List Nat) → i1 k = i k) → (∀ k, k ∉ ([20] : List Nat) → c1 k = c k) → (0 ≤ y1_3.toInt ∧ y1_3.toInt ≤ 30 ∧ y1_3.toInt ≤ (i 5).toInt) → (∀ x : Nat, (x : Int) < y1_3.toInt → (c1 20 x).toInt = -9) → (30 - y1_3.toInt).toNat < fu → ∀ (H : Heap) (locs : List Loc) (ls : Array Slot), va_P D vwCl (mW o a t i1 q1 c1 d1) H → va_D A (mW o a t i1 q1 c1 d1) → va_S A s.heap H locs → lv_has ls 7 [(3, .int y1_3), (0, .ref o), (1, .int w), (2, .int b1)] → W p l e (headSpec wm_X12_walk ({ frames := 2, cells := 0, slots := 0, locals := 48 })).room s m ([.ref o, .int w, .int b1] : List Value).toArray below meth cd H locs 0 0 (MQ below (va_Qv (fun (u : MS) => True ∧ mInv u.1 u.2.2.1 ∧ (∀ k, k ∉ ([16, 17, 18, 19] : List Nat) → u.1 k = i k) ∧ (∀ k, k ∉ ([20, 21] : List Nat) → u.2.2.1 k = c k) ∧ (BfE (wM (c 3) (c 6) (c 9) (c 10) (c 11) (c 12) (c 13) (i 8).toInt b1.toInt (fun t9 : Int => sgM (c 9) (c 10) (c 11) (c 12) (c 13) (i 8).toInt t9 0 (sfV (c 3) (c 6) (c 4) (kS (c 3) (c 6) t9) 0 t9))) w.toInt (i 5).toInt (u.2.2.1 20))) (oC D A (fun u : MS => mW o a t u.1 u.2.1 u.2.2.1 u.2.2.2) (fun _ => [])) A) ([.ref o, .int w, .int b1] : List Value).toArray s 0 0 A) (F0 m 2 ls []) := by
    intro fu
    induction fu with
    | zero => intro i1 q1 c1 d1 y1_3 hI hfi hfc hy1_3 hz1_0 hm; exact absurd hm (Nat.not_lt_zero _)
    | succ fu ih =>
      intro i1 q1 c1 d1 y1_3 hI hfi hfc hy1_3 hz1_0 hm H locs ls hP hD hS hl
      have ih1 := ih
      refine lv_iload_n hx hb dX12_walk_2 rfl (lv_at hl 0 rfl) ?_
      refine lv_aload_n hx hb dX12_walk_3 rfl (lv_at hl 1 rfl) ?_
      refine mget_5 (v := (i1 5)) rfl hx hb hts (fun _ h => List.mem_cons_of_mem _ (List.mem_append_right _ h)) hown hK hP (hts (.fieldLink RX12 177 "TalePlayModel" "objects" "I") (List.mem_cons_of_mem _ (List.mem_append_left _ (List.mem_append_left _ (List.mem_of_getElem? (i := 0) rfl))))) dX12_walk_4 ?_
      have rb5_i1 : 0 ≤ (i1 5).toInt ∧ (i1 5).toInt ≤ 30 := hI.1 5
      have re5_i1 : (i1 5).toInt = (i 5).toInt := congrArg Int32.toInt (hfi 5 (by decide +kernel))
      refine lv_icmp_ge (tgt := 24) hx hb dX12_walk_7 (by decide +kernel) (fun c2 => ?_) (fun c2 => ?_)
      · have f2 := (ti_le (a := (i1 5).toInt) (b := y1_3.toInt) rfl rfl).mp c2
        refine lv_aload_n hx hb dX12_walk_24 rfl (lv_at hl 1 rfl) ?_
        refine mget_20 hx hb hts (fun _ h => List.mem_cons_of_mem _ (List.mem_append_right _ h)) hown hK hP (hts (.fieldLink RX12 44 "TalePlayModel" "far" "[I") (List.mem_cons_of_mem _ (List.mem_append_left _ (List.mem_append_left _ (List.mem_of_getElem? (i := 1) rfl))))) dX12_walk_25 ?_
        refine lv_iload_n hx hb dX12_walk_28 rfl (lv_at hl 2 rfl) ?_
        refine lv_iconst (v := 0) hx hb dX12_walk_29 (by decide +kernel) ?_
        refine mst_20 hx hb hK hP hD hS (vp_in_iff.mpr (by have h9 : w.toInt = w.toInt := rfl; omega)) dX12_walk_30 (fun H locs hP hD hS => ?_)
        have hI := mInv_c hI (k := 20) (j := (w : Int32).toNatClampNeg) (x := 0) (show (0 : Int32).toInt = -9 ∨ (0 ≤ (0 : Int32).toInt ∧ (0 : Int32).toInt ≤ 29) from by decide +kernel)
        have hfc := fr_c hfc (k := 20) (j := (w : Int32).toNatClampNeg) (x := 0) (by decide +kernel)
        refine lv_aload_n hx hb dX12_walk_31 rfl (lv_at hl 1 rfl) ?_
        refine mget_21 hx hb hts (fun _ h => List.mem_cons_of_mem _ (List.mem_append_right _ h)) hown hK hP (hts (.fieldLink RX12 47 "TalePlayModel" "line" "[I") (List.mem_cons_of_mem _ (List.mem_append_left _ (List.mem_append_left _ (List.mem_of_getElem? (i := 2) rfl))))) dX12_walk_32 ?_
        refine lv_iconst (v := 0) hx hb dX12_walk_35 (by decide +kernel) ?_
        refine lv_iload_n hx hb dX12_walk_36 rfl (lv_at hl 2 rfl) ?_
        refine mst_21 hx hb hK hP hD hS (show vp_in 0 30 from by unfold vp_in; decide) dX12_walk_37 (fun H locs hP hD hS => ?_)
        have hI := mInv_c hI (k := 21) (j := (0 : Int32).toNatClampNeg) (x := w) (show 0 ≤ (w : Int32).toInt ∧ (w : Int32).toInt ≤ 29 from by omega)
        have hfc : ∀ k, k ∉ ([20, 21] : List Nat) → (updA (updA c1 20 (w : Int32).toNatClampNeg 0) 21 (0 : Int32).toNatClampNeg w) k = c k := fr_cz hfc (by decide +kernel) (by decide +kernel)
        refine lv_iconst (v := 1) hx hb dX12_walk_38 (by decide +kernel) ?_
        refine lv_istore_n (lv' := [(3, .int 1), (0, .ref o), (1, .int w), (2, .int b1)]) hx hb dX12_walk_39 rfl hl (by decide +kernel) rfl (fun ls hl => ?_)
        refine lv_iconst (v := 0) hx hb dX12_walk_40 (by decide +kernel) ?_
        refine lv_istore (lv' := [(4, .int 0), (3, .int 1), (0, .ref o), (1, .int w), (2, .int b1)]) hx hb dX12_walk_41 hl (by decide +kernel) rfl (fun ls hl => ?_)
        have lp3 : ∀ (fu : Nat) (i3 : Nat → Int32) (q3 : Int64) (c3 : Nat → Nat → Int32) (d3 : Nat → Nat → Int64) (y3_4 : Int32) (y3_3 : Int32), mInv i3 c3 → (∀ k, k ∉ ([16, 17, 18, 19] : List Nat) → i3 k = i k) → (∀ k, k ∉ ([20, 21] : List Nat) → c3 k = c k) → (0 ≤ y3_4.toInt ∧ y3_4.toInt ≤ 30) → (1 ≤ y3_3.toInt ∧ y3_3.toInt ≤ 30) → (WQ (c3 20) (c3 21) y3_3.toInt) → (BFI (wM (c 3) (c 6) (c 9) (c 10) (c 11) (c 12) (c 13) (i 8).toInt b1.toInt (fun t9 : Int => sgM (c 9) (c 10) (c 11) (c 12) (c 13) (i 8).toInt t9 0 (sfV (c 3) (c 6) (c 4) (kS (c 3) (c 6) t9) 0 t9))) w.toInt (mI y3_4.toInt 0) (i 5).toInt (c3 20) (c3 21) y3_3.toInt) → (30 - y3_4.toInt).toNat < fu → ∀ (H : Heap) (locs : List Loc) (ls : Array Slot), va_P D vwCl (mW o a t i3 q3 c3 d3) H → va_D A (mW o a t i3 q3 c3 d3) → va_S A s.heap H locs → lv_has ls 7 [(4, .int y3_4), (3, .int y3_3), (0, .ref o), (1, .int w), (2, .int b1)] → W p l e (headSpec wm_X12_walk ({ frames := 2, cells := 0, slots := 0, locals := 48 })).room s m ([.ref o, .int w, .int b1] : List Value).toArray below meth cd H locs 0 0 (MQ below (va_Qv (fun (u : MS) => True ∧ mInv u.1 u.2.2.1 ∧ (∀ k, k ∉ ([16, 17, 18, 19] : List Nat) → u.1 k = i k) ∧ (∀ k, k ∉ ([20, 21] : List Nat) → u.2.2.1 k = c k) ∧ (BfE (wM (c 3) (c 6) (c 9) (c 10) (c 11) (c 12) (c 13) (i 8).toInt b1.toInt (fun t9 : Int => sgM (c 9) (c 10) (c 11) (c 12) (c 13) (i 8).toInt t9 0 (sfV (c 3) (c 6) (c 4) (kS (c 3) (c 6) t9) 0 t9))) w.toInt (i 5).toInt (u.2.2.1 20))) (oC D A (fun u : MS => mW o a t u.1 u.2.1 u.2.2.1 u.2.2.2) (fun _ => [])) A) ([.ref o, .int w, .int b1] : List Value).toArray s 0 0 A) (F0 m 43 ls []) := by
          intro fu
          induction fu with
          | zero => intro i3 q3 c3 d3 y3_4 y3_3 hI hfi hfc hy3_4 hy3_3 hz3_0 hz3_1 hm; exact absurd hm (Nat.not_lt_zero _)
          | succ fu ih =>
            intro i3 q3 c3 d3 y3_4 y3_3 hI hfi hfc hy3_4 hy3_3 hz3_0 hz3_1 hm H locs ls hP hD hS hl
            have ih3 := ih
            refine lv_iload hx hb dX12_walk_43 (lv_at hl 0 rfl) ?_
            refine lv_iload_n hx hb dX12_walk_45 rfl (lv_at hl 1 rfl) ?_
            refine lv_icmp_ge (tgt := 184) hx hb dX12_walk_46 (by decide +kernel) (fun c4 => ?_) (fun c4 => ?_)
            · have f4 := (ti_le (a := y3_3.toInt) (b := y3_4.toInt) rfl rfl).mp c4
              exact rw_vret (i3, q3, c3, d3) hx hb hr hlocks hS (hK.sub (tys' := []) [] rfl) hP hD dX12_walk_184 ⟨trivial, hI, fr_w hfi (by decide +kernel), fr_w hfc (by decide +kernel), (show BfE (wM (c 3) (c 6) (c 9) (c 10) (c 11) (c 12) (c 13) (i 8).toInt b1.toInt (fun t9 : Int => sgM (c 9) (c 10) (c 11) (c 12) (c 13) (i 8).toInt t9 0 (sfV (c 3) (c 6) (c 4) (kS (c 3) (c 6) t9) 0 t9))) w.toInt (i 5).toInt (c3 20) from BFI_end hz3_1 (by omega) (by omega))⟩
            · have f4 := mt (ti_le (a := y3_3.toInt) (b := y3_4.toInt) rfl rfl).mpr c4
              refine lv_iconst (v := 0) hx hb dX12_walk_49 (by decide +kernel) ?_
              refine lv_istore (lv' := [(5, .int 0), (4, .int y3_4), (3, .int y3_3), (0, .ref o), (1, .int w), (2, .int b1)]) hx hb dX12_walk_50 hl (by decide +kernel) rfl (fun ls hl => ?_)
              have lp5 : ∀ (fu : Nat) (i5 : Nat → Int32) (q5 : Int64) (c5 : Nat → Nat → Int32) (d5 : Nat → Nat → Int64) (y5_5 : Int32) (y5_3 : Int32), mInv i5 c5 → (∀ k, k ∉ ([16, 17, 18, 19] : List Nat) → i5 k = i k) → (∀ k, k ∉ ([20, 21] : List Nat) → c5 k = c k) → (0 ≤ y5_5.toInt ∧ y5_5.toInt ≤ 10) → (1 ≤ y5_3.toInt ∧ y5_3.toInt ≤ 30) → (WQ (c5 20) (c5 21) y5_3.toInt) → (y3_4.toInt < y5_3.toInt) → (BFI (wM (c 3) (c 6) (c 9) (c 10) (c 11) (c 12) (c 13) (i 8).toInt b1.toInt (fun t9 : Int => sgM (c 9) (c 10) (c 11) (c 12) (c 13) (i 8).toInt t9 0 (sfV (c 3) (c 6) (c 4) (kS (c 3) (c 6) t9) 0 t9))) w.toInt (mI y3_4.toInt y5_5.toInt) (i 5).toInt (c5 20) (c5 21) y5_3.toInt) → (10 - y5_5.toInt).toNat < fu → ∀ (H : Heap) (locs : List Loc) (ls : Array Slot), va_P D vwCl (mW o a t i5 q5 c5 d5) H → va_D A (mW o a t i5 q5 c5 d5) → va_S A s.heap H locs → lv_has ls 7 [(5, .int y5_5), (4, .int y3_4), (3, .int y5_3), (0, .ref o), (1, .int w), (2, .int b1)] → W p l e (headSpec wm_X12_walk ({ frames := 2, cells := 0, slots := 0, locals := 48 })).room s m ([.ref o, .int w, .int b1] : List Value).toArray below meth cd H locs 0 0 (MQ below (va_Qv (fun (u : MS) => True ∧ mInv u.1 u.2.2.1 ∧ (∀ k, k ∉ ([16, 17, 18, 19] : List Nat) → u.1 k = i k) ∧ (∀ k, k ∉ ([20, 21] : List Nat) → u.2.2.1 k = c k) ∧ (BfE (wM (c 3) (c 6) (c 9) (c 10) (c 11) (c 12) (c 13) (i 8).toInt b1.toInt (fun t9 : Int => sgM (c 9) (c 10) (c 11) (c 12) (c 13) (i 8).toInt t9 0 (sfV (c 3) (c 6) (c 4) (kS (c 3) (c 6) t9) 0 t9))) w.toInt (i 5).toInt (u.2.2.1 20))) (oC D A (fun u : MS => mW o a t u.1 u.2.1 u.2.2.1 u.2.2.2) (fun _ => [])) A) ([.ref o, .int w, .int b1] : List Value).toArray s 0 0 A) (F0 m 52 ls []) := by
                intro fu
                induction fu with
                | zero => intro i5 q5 c5 d5 y5_5 y5_3 hI hfi hfc hy5_5 hy5_3 hz5_0 hz5_1 hz5_2 hm; exact absurd hm (Nat.not_lt_zero _)
                | succ fu ih =>
                  intro i5 q5 c5 d5 y5_5 y5_3 hI hfi hfc hy5_5 hy5_3 hz5_0 hz5_1 hz5_2 hm H locs ls hP hD hS hl
                  have ih5 := ih
                  refine lv_iload hx hb dX12_walk_52 (lv_at hl 0 rfl) ?_
                  refine lv_bipush (v := 10) hx hb dX12_walk_54 (by decide +kernel) ?_
                  refine lv_icmp_ge (tgt := 178) hx hb dX12_walk_56 (by decide +kernel) (fun c6 => ?_) (fun c6 => ?_)
                  · have f6 := (ti_le (a := 10) (b := y5_5.toInt) (by decide +kernel) rfl).mp c6
                    obtain ⟨x7, ex7⟩ : ∃ y : Int32, y = y3_4 + 1 := ⟨_, rfl⟩
                    have tx7 := ti_add (a := y3_4.toInt) (b := 1) ex7 rfl (by decide +kernel) (by omega) (by omega)
                    refine lv_iinc (v := x7) (lv' := [(4, .int x7), (5, .int y5_5), (3, .int y5_3), (0, .ref o), (1, .int w), (2, .int b1)]) hx hb dX12_walk_178 hl (k := 1) rfl (by rw [ex7]; rfl) (by decide +kernel) rfl (fun ls hl => ?_)
                    refine lv_goto (tgt := 43) hx hb dX12_walk_181 (by decide +kernel) ?_
                    exact ih3 i5 q5 c5 d5 x7 y5_3 hI (fr_w hfi (by decide +kernel)) (fr_w hfc (by decide +kernel)) (show 0 ≤ x7.toInt ∧ x7.toInt ≤ 30 from by have h50 : x7.toInt = (y3_4.toInt + 1) := tx7; omega) (show 1 ≤ y5_3.toInt ∧ y5_3.toInt ≤ 30 from by have h50 : x7.toInt = (y3_4.toInt + 1) := tx7; omega) (show WQ (c5 20) (c5 21) y5_3.toInt from hz5_0) (show BFI (wM (c 3) (c 6) (c 9) (c 10) (c 11) (c 12) (c 13) (i 8).toInt b1.toInt (fun t9 : Int => sgM (c 9) (c 10) (c 11) (c 12) (c 13) (i 8).toInt t9 0 (sfV (c 3) (c 6) (c 4) (kS (c 3) (c 6) t9) 0 t9))) w.toInt (mI x7.toInt 0) (i 5).toInt (c5 20) (c5 21) y5_3.toInt from BFI_o hz5_2 (by omega) (by omega) tx7) (by have h50 : x7.toInt = (y3_4.toInt + 1) := tx7; omega) _ _ _ hP hD hS (lv_sub hl [0, 2, 3, 4, 5] rfl)
                  · have f6 := mt (ti_le (a := 10) (b := y5_5.toInt) (by decide +kernel) rfl).mpr c6
                    refine lv_aload_n hx hb dX12_walk_59 rfl (lv_at hl 3 rfl) ?_
                    refine lv_aload_n hx hb dX12_walk_60 rfl (lv_at hl 3 rfl) ?_
                    refine mget_21 hx hb hts (fun _ h => List.mem_cons_of_mem _ (List.mem_append_right _ h)) hown hK hP (hts (.fieldLink RX12 47 "TalePlayModel" "line" "[I") (List.mem_cons_of_mem _ (List.mem_append_left _ (List.mem_append_left _ (List.mem_of_getElem? (i := 2) rfl))))) dX12_walk_61 ?_
                    refine lv_iload hx hb dX12_walk_64 (lv_at hl 1 rfl) ?_
                    refine mld_21 hx hb hK hP (vp_in_iff.mpr (by have h9 : y3_4.toInt = y3_4.toInt := rfl; omega)) dX12_walk_66 (fun x8 ex8 => ?_)
                    have rx8 : 0 ≤ x8.toInt ∧ x8.toInt ≤ 29 := by rw [ex8]; exact hI.2 21 _
                    refine lv_iload hx hb dX12_walk_67 (lv_at hl 0 rfl) ?_
                    have rb8_i5 : 0 ≤ (i5 8).toInt ∧ (i5 8).toInt ≤ 200 := hI.1 8
                    have re8_i5 : (i5 8).toInt = (i 8).toInt := congrArg Int32.toInt (hfi 8 (by decide +kernel))
                    refine al_calli (va_runV (As := [.int x8, .int y5_5]) (rest := []) ⟨hx, hb, hml, hown, hts⟩ (s_X12_findExit_e l D H.size o a t i5 q5 c5 d5 x8 y5_5 hI (show 0 ≤ x8.toInt ∧ x8.toInt ≤ 29 from by omega) (show 0 ≤ y5_5.toInt ∧ y5_5.toInt ≤ 9 from by omega)) (cwV 2 hts gm_X12_walk_X12_findExit rfl rfl rfl (by decide +kernel) ⟨Nat.le_of_ble_eq_true rfl, Nat.le_of_ble_eq_true rfl⟩) (pB_V hK hP hD (ci := 12) (q0 := 0) rfl rfl) rfl rfl hl.1 rfl (lv_room (Nat.le_of_ble_eq_true rfl)) dX12_walk_69 ⟨Nat.le_of_ble_eq_true rfl, Nat.le_of_ble_eq_true rfl⟩) hS hA hP hD (fun r9 u9 H locs hw9 hP hD hS => ?_)
                    obtain ⟨i9, q9, c9, d9⟩ := u9
                    have hw9 : (0 ≤ r9.toInt ∧ r9.toInt ≤ 1) ∧ mInv i9 c9 ∧ (∀ k, k ∉ ([16, 17, 18, 19] : List Nat) → i9 k = i5 k) ∧ (∀ k, k ∉ ([] : List Nat) → c9 k = c5 k) ∧ (FeM (c5 3) (c5 6) (c5 9) (c5 10) (c5 11) (c5 12) (c5 13) (i5 8).toInt x8.toInt y5_5.toInt (i9 16).toInt (i9 17).toInt (i9 18).toInt (i9 19).toInt) ∧ ((r9.toInt = 1 ∧ ¬ (i9 18).toInt = -9) ∨ (r9.toInt = 0 ∧ (i9 18).toInt = -9)) := hw9
                    obtain ⟨hw9, hI, hei9, hec9, hxp9_0, hxp9_1⟩ := hw9
                    have hxp9_0 : FeM (c 3) (c 6) (c 9) (c 10) (c 11) (c 12) (c 13) (i 8).toInt x8.toInt y5_5.toInt (i9 16).toInt (i9 17).toInt (i9 18).toInt (i9 19).toInt := by have h9 := hxp9_0; rw [show c5 3 = c 3 from hfc 3 (by decide +kernel), show c5 6 = c 6 from hfc 6 (by decide +kernel), show c5 9 = c 9 from hfc 9 (by decide +kernel), show c5 10 = c 10 from hfc 10 (by decide +kernel), show c5 11 = c 11 from hfc 11 (by decide +kernel), show c5 12 = c 12 from hfc 12 (by decide +kernel), show c5 13 = c 13 from hfc 13 (by decide +kernel), show i5 8 = i 8 from hfi 8 (by decide +kernel)] at h9; exact h9
                    have hxp9_1 : (r9.toInt = 1 ∧ ¬ (i9 18).toInt = -9) ∨ (r9.toInt = 0 ∧ (i9 18).toInt = -9) := hxp9_1
                    have hfi : ∀ k, k ∉ ([16, 17, 18, 19] : List Nat) → i9 k = i k := fr_z hfi hei9 (by decide +kernel) (by decide +kernel)
                    have hfc : ∀ k, k ∉ ([20, 21] : List Nat) → c9 k = c k := fr_z hfc hec9 (by decide +kernel) (by decide +kernel)
                    have hP : va_P D vwCl (mW o a t i9 q9 c9 d9) H := hP
                    have hD : va_D A (mW o a t i9 q9 c9 d9) := hD
                    have hW : WQ (c9 20) (c9 21) y5_3.toInt := by rw [hec9 20 (by decide +kernel), hec9 21 (by decide +kernel)]; exact hz5_0
                    have hBF : BFI (wM (c 3) (c 6) (c 9) (c 10) (c 11) (c 12) (c 13) (i 8).toInt b1.toInt (fun t9 : Int => sgM (c 9) (c 10) (c 11) (c 12) (c 13) (i 8).toInt t9 0 (sfV (c 3) (c 6) (c 4) (kS (c 3) (c 6) t9) 0 t9))) w.toInt (mI y3_4.toInt y5_5.toInt) (i 5).toInt (c9 20) (c9 21) y5_3.toInt := by rw [hec9 20 (by decide +kernel), hec9 21 (by decide +kernel)]; exact hz5_2
                    obtain ⟨hfL, hfD, hfN⟩ := fe_e hxp9_0
                    have hqr : (c9 21 y3_4.toNatClampNeg).toInt = x8.toInt := by rw [hec9 21 (by decide +kernel), ex8]
                    have hdn : ((y5_5.toInt.toNat : Nat) : Int) = y5_5.toInt := by omega
                    have hlN : (i9 16).toInt = -9 ∨ (i9 16).toInt < (i 5).toInt := by by_cases q9 : (i9 16).toInt = -9; (· exact Or.inl q9); (· exact Or.inr (fe_lt hs_S.2.1 hxp9_0 q9))
                    refine lv_if_eq (tgt := 114) hx hb dX12_walk_72 (by decide +kernel) (fun c10 => ?_) (fun c10 => ?_)
                    · have f10 := (ti_eq (a := r9.toInt) (b := 0) rfl (by decide +kernel)).mp c10
                      refine lv_iconst (v := 0) hx hb dX12_walk_114 (by decide +kernel) ?_
                      refine lv_istore (lv' := [(6, .int 0), (5, .int y5_5), (4, .int y3_4), (3, .int y5_3), (0, .ref o), (1, .int w), (2, .int b1)]) hx hb dX12_walk_115 hl (by decide +kernel) rfl (fun ls hl => ?_)
                      refine lv_iload hx hb dX12_walk_117 (lv_at hl 0 rfl) ?_
                      refine lv_if_eq (tgt := 172) hx hb dX12_walk_119 (by decide +kernel) (fun _ => ?_) (fun q9 => absurd (by decide +kernel) q9)
                      obtain ⟨x11, ex11⟩ : ∃ y : Int32, y = y5_5 + 1 := ⟨_, rfl⟩
                      have tx11 := ti_add (a := y5_5.toInt) (b := 1) ex11 rfl (by decide +kernel) (by omega) (by omega)
                      refine lv_iinc (v := x11) (lv' := [(5, .int x11), (6, .int 0), (4, .int y3_4), (3, .int y5_3), (0, .ref o), (1, .int w), (2, .int b1)]) hx hb dX12_walk_172 hl (k := 1) rfl (by rw [ex11]; rfl) (by decide +kernel) rfl (fun ls hl => ?_)
                      refine lv_goto (tgt := 52) hx hb dX12_walk_175 (by decide +kernel) ?_
                      exact ih5 i9 q9 c9 d9 x11 y5_3 hI (fr_w hfi (by decide +kernel)) (fr_w hfc (by decide +kernel)) (show 0 ≤ x11.toInt ∧ x11.toInt ≤ 10 from by have h50 : x11.toInt = (y5_5.toInt + 1) := tx11; have h51 : (0 : Int32).toInt = 0 := (by decide +kernel); omega) (show 1 ≤ y5_3.toInt ∧ y5_3.toInt ≤ 30 from by have h50 : x11.toInt = (y5_5.toInt + 1) := tx11; have h51 : (0 : Int32).toInt = 0 := (by decide +kernel); omega) (show WQ (c9 20) (c9 21) y5_3.toInt from hW) (show y3_4.toInt < y5_3.toInt from by have h50 : x11.toInt = (y5_5.toInt + 1) := tx11; have h51 : (0 : Int32).toInt = 0 := (by decide +kernel); omega) (show BFI (wM (c 3) (c 6) (c 9) (c 10) (c 11) (c 12) (c 13) (i 8).toInt b1.toInt (fun t9 : Int => sgM (c 9) (c 10) (c 11) (c 12) (c 13) (i 8).toInt t9 0 (sfV (c 3) (c 6) (c 4) (kS (c 3) (c 6) t9) 0 t9))) w.toInt (mI y3_4.toInt x11.toInt) (i 5).toInt (c9 20) (c9 21) y5_3.toInt from BFI_n (r := x8.toInt) hBF (by omega) (by omega) (by omega) hqr (fun y9 h9 => Or.inl (by rw [h9]; exact wM_n (by rw [hdn]; show ¬ (¬ feL (c 3) (c 6) (c 9) (c 10) (c 11) (c 12) (c 13) (i 8).toInt x8.toInt y5_5.toInt = -9 ∧ (b1.toInt = 0 ∨ feD (c 3) (c 6) (c 9) (c 10) (c 11) (c 12) (c 13) (i 8).toInt x8.toInt y5_5.toInt = -9 ∨ sgM (c 9) (c 10) (c 11) (c 12) (c 13) (i 8).toInt (feD (c 3) (c 6) (c 9) (c 10) (c 11) (c 12) (c 13) (i 8).toInt x8.toInt y5_5.toInt) 0 (sfV (c 3) (c 6) (c 4) (kS (c 3) (c 6) (feD (c 3) (c 6) (c 9) (c 10) (c 11) (c 12) (c 13) (i 8).toInt x8.toInt y5_5.toInt)) 0 (feD (c 3) (c 6) (c 9) (c 10) (c 11) (c 12) (c 13) (i 8).toInt x8.toInt y5_5.toInt)) = 1)); omega))) tx11) (by have h50 : x11.toInt = (y5_5.toInt + 1) := tx11; have h51 : (0 : Int32).toInt = 0 := (by decide +kernel); omega) _ _ _ hP hD hS (lv_sub hl [0, 2, 3, 4, 5, 6] rfl)
                    · have f10 := mt (ti_eq (a := r9.toInt) (b := 0) rfl (by decide +kernel)).mpr c10
                      refine lv_aload_n hx hb dX12_walk_75 rfl (lv_at hl 3 rfl) ?_
                      refine mget_16 (v := (i9 16)) rfl hx hb hts (fun _ h => List.mem_cons_of_mem _ (List.mem_append_right _ h)) hown hK hP (hts (.fieldLink RX12 263 "TalePlayModel" "leads" "I") (List.mem_cons_of_mem _ (List.mem_append_left _ (List.mem_append_left _ (List.mem_of_getElem? (i := 8) rfl))))) dX12_walk_76 ?_
                      have rb16_i9 : (i9 16).toInt = -9 ∨ (0 ≤ (i9 16).toInt ∧ (i9 16).toInt ≤ 29) := hI.1 16
                      refine lv_bipush (v := (-9)) hx hb dX12_walk_79 (by decide +kernel) ?_
                      refine lv_icmp_eq (tgt := 114) hx hb dX12_walk_81 (by decide +kernel) (fun c12 => ?_) (fun c12 => ?_)
                      · have f12 := (ti_eq (a := (i9 16).toInt) (b := (-9)) rfl (by decide +kernel)).mp c12
                        refine lv_iconst (v := 0) hx hb dX12_walk_114 (by decide +kernel) ?_
                        refine lv_istore (lv' := [(6, .int 0), (5, .int y5_5), (4, .int y3_4), (3, .int y5_3), (0, .ref o), (1, .int w), (2, .int b1)]) hx hb dX12_walk_115 hl (by decide +kernel) rfl (fun ls hl => ?_)
                        refine lv_iload hx hb dX12_walk_117 (lv_at hl 0 rfl) ?_
                        refine lv_if_eq (tgt := 172) hx hb dX12_walk_119 (by decide +kernel) (fun _ => ?_) (fun q9 => absurd (by decide +kernel) q9)
                        obtain ⟨x13, ex13⟩ : ∃ y : Int32, y = y5_5 + 1 := ⟨_, rfl⟩
                        have tx13 := ti_add (a := y5_5.toInt) (b := 1) ex13 rfl (by decide +kernel) (by omega) (by omega)
                        refine lv_iinc (v := x13) (lv' := [(5, .int x13), (6, .int 0), (4, .int y3_4), (3, .int y5_3), (0, .ref o), (1, .int w), (2, .int b1)]) hx hb dX12_walk_172 hl (k := 1) rfl (by rw [ex13]; rfl) (by decide +kernel) rfl (fun ls hl => ?_)
                        refine lv_goto (tgt := 52) hx hb dX12_walk_175 (by decide +kernel) ?_
                        exact ih5 i9 q9 c9 d9 x13 y5_3 hI (fr_w hfi (by decide +kernel)) (fr_w hfc (by decide +kernel)) (show 0 ≤ x13.toInt ∧ x13.toInt ≤ 10 from by have h50 : x13.toInt = (y5_5.toInt + 1) := tx13; have h51 : (0 : Int32).toInt = 0 := (by decide +kernel); omega) (show 1 ≤ y5_3.toInt ∧ y5_3.toInt ≤ 30 from by have h50 : x13.toInt = (y5_5.toInt + 1) := tx13; have h51 : (0 : Int32).toInt = 0 := (by decide +kernel); omega) (show WQ (c9 20) (c9 21) y5_3.toInt from hW) (show y3_4.toInt < y5_3.toInt from by have h50 : x13.toInt = (y5_5.toInt + 1) := tx13; have h51 : (0 : Int32).toInt = 0 := (by decide +kernel); omega) (show BFI (wM (c 3) (c 6) (c 9) (c 10) (c 11) (c 12) (c 13) (i 8).toInt b1.toInt (fun t9 : Int => sgM (c 9) (c 10) (c 11) (c 12) (c 13) (i 8).toInt t9 0 (sfV (c 3) (c 6) (c 4) (kS (c 3) (c 6) t9) 0 t9))) w.toInt (mI y3_4.toInt x13.toInt) (i 5).toInt (c9 20) (c9 21) y5_3.toInt from BFI_n (r := x8.toInt) hBF (by omega) (by omega) (by omega) hqr (fun y9 h9 => Or.inl (by rw [h9]; exact wM_n (by rw [hdn]; show ¬ (¬ feL (c 3) (c 6) (c 9) (c 10) (c 11) (c 12) (c 13) (i 8).toInt x8.toInt y5_5.toInt = -9 ∧ (b1.toInt = 0 ∨ feD (c 3) (c 6) (c 9) (c 10) (c 11) (c 12) (c 13) (i 8).toInt x8.toInt y5_5.toInt = -9 ∨ sgM (c 9) (c 10) (c 11) (c 12) (c 13) (i 8).toInt (feD (c 3) (c 6) (c 9) (c 10) (c 11) (c 12) (c 13) (i 8).toInt x8.toInt y5_5.toInt) 0 (sfV (c 3) (c 6) (c 4) (kS (c 3) (c 6) (feD (c 3) (c 6) (c 9) (c 10) (c 11) (c 12) (c 13) (i 8).toInt x8.toInt y5_5.toInt)) 0 (feD (c 3) (c 6) (c 9) (c 10) (c 11) (c 12) (c 13) (i 8).toInt x8.toInt y5_5.toInt)) = 1)); omega))) tx13) (by have h50 : x13.toInt = (y5_5.toInt + 1) := tx13; have h51 : (0 : Int32).toInt = 0 := (by decide +kernel); omega) _ _ _ hP hD hS (lv_sub hl [0, 2, 3, 4, 5, 6] rfl)
                      · have f12 := mt (ti_eq (a := (i9 16).toInt) (b := (-9)) rfl (by decide +kernel)).mpr c12
                        refine lv_iload_n hx hb dX12_walk_84 rfl (lv_at hl 5 rfl) ?_
                        refine lv_if_eq (tgt := 110) hx hb dX12_walk_85 (by decide +kernel) (fun c14 => ?_) (fun c14 => ?_)
                        · have f14 := (ti_eq (a := b1.toInt) (b := 0) rfl (by decide +kernel)).mp c14
                          refine lv_iconst (v := 1) hx hb dX12_walk_110 (by decide +kernel) ?_
                          refine lv_goto (tgt := 115) hx hb dX12_walk_111 (by decide +kernel) ?_
                          refine lv_istore (lv' := [(6, .int 1), (5, .int y5_5), (4, .int y3_4), (3, .int y5_3), (0, .ref o), (1, .int w), (2, .int b1)]) hx hb dX12_walk_115 hl (by decide +kernel) rfl (fun ls hl => ?_)
                          refine lv_iload hx hb dX12_walk_117 (lv_at hl 0 rfl) ?_
                          refine lv_if_eq (tgt := 172) hx hb dX12_walk_119 (by decide +kernel) (fun q9 => absurd q9 (by decide +kernel)) (fun _ => ?_)
                          refine lv_aload_n hx hb dX12_walk_122 rfl (lv_at hl 4 rfl) ?_
                          refine mget_20 hx hb hts (fun _ h => List.mem_cons_of_mem _ (List.mem_append_right _ h)) hown hK hP (hts (.fieldLink RX12 44 "TalePlayModel" "far" "[I") (List.mem_cons_of_mem _ (List.mem_append_left _ (List.mem_append_left _ (List.mem_of_getElem? (i := 1) rfl))))) dX12_walk_123 ?_
                          refine lv_aload_n hx hb dX12_walk_126 rfl (lv_at hl 4 rfl) ?_
                          refine mget_16 (v := (i9 16)) rfl hx hb hts (fun _ h => List.mem_cons_of_mem _ (List.mem_append_right _ h)) hown hK hP (hts (.fieldLink RX12 263 "TalePlayModel" "leads" "I") (List.mem_cons_of_mem _ (List.mem_append_left _ (List.mem_append_left _ (List.mem_of_getElem? (i := 8) rfl))))) dX12_walk_127 ?_
                          refine mld_20 hx hb hK hP (vp_in_iff.mpr (by have h9 : (i9 16).toInt = (i9 16).toInt := rfl; omega)) dX12_walk_130 (fun x15 ex15 => ?_)
                          have rx15 : x15.toInt = -9 ∨ (0 ≤ x15.toInt ∧ x15.toInt ≤ 29) := by rw [ex15]; exact hI.2 20 _
                          have gx15 : (c9 20 ((i9 16) : Int32).toNatClampNeg).toInt = x15.toInt := by rw [ex15]
                          refine lv_bipush (v := (-9)) hx hb dX12_walk_131 (by decide +kernel) ?_
                          refine lv_icmp_ne (tgt := 172) hx hb dX12_walk_133 (by decide +kernel) (fun c16 => ?_) (fun c16 => ?_)
                          · have f16 := mt (ti_eq (a := x15.toInt) (b := (-9)) rfl (by decide +kernel)).mpr c16
                            obtain ⟨x17, ex17⟩ : ∃ y : Int32, y = y5_5 + 1 := ⟨_, rfl⟩
                            have tx17 := ti_add (a := y5_5.toInt) (b := 1) ex17 rfl (by decide +kernel) (by omega) (by omega)
                            refine lv_iinc (v := x17) (lv' := [(5, .int x17), (6, .int 1), (4, .int y3_4), (3, .int y5_3), (0, .ref o), (1, .int w), (2, .int b1)]) hx hb dX12_walk_172 hl (k := 1) rfl (by rw [ex17]; rfl) (by decide +kernel) rfl (fun ls hl => ?_)
                            refine lv_goto (tgt := 52) hx hb dX12_walk_175 (by decide +kernel) ?_
                            exact ih5 i9 q9 c9 d9 x17 y5_3 hI (fr_w hfi (by decide +kernel)) (fr_w hfc (by decide +kernel)) (show 0 ≤ x17.toInt ∧ x17.toInt ≤ 10 from by have h50 : x17.toInt = (y5_5.toInt + 1) := tx17; have h51 : (1 : Int32).toInt = 1 := (by decide +kernel); omega) (show 1 ≤ y5_3.toInt ∧ y5_3.toInt ≤ 30 from by have h50 : x17.toInt = (y5_5.toInt + 1) := tx17; have h51 : (1 : Int32).toInt = 1 := (by decide +kernel); omega) (show WQ (c9 20) (c9 21) y5_3.toInt from hW) (show y3_4.toInt < y5_3.toInt from by have h50 : x17.toInt = (y5_5.toInt + 1) := tx17; have h51 : (1 : Int32).toInt = 1 := (by decide +kernel); omega) (show BFI (wM (c 3) (c 6) (c 9) (c 10) (c 11) (c 12) (c 13) (i 8).toInt b1.toInt (fun t9 : Int => sgM (c 9) (c 10) (c 11) (c 12) (c 13) (i 8).toInt t9 0 (sfV (c 3) (c 6) (c 4) (kS (c 3) (c 6) t9) 0 t9))) w.toInt (mI y3_4.toInt x17.toInt) (i 5).toInt (c9 20) (c9 21) y5_3.toInt from BFI_n (r := x8.toInt) hBF (by omega) (by omega) (by omega) hqr (fun y9 h9 => by rcases wM_c (pa := c 3) (ko := c 6) (F := c 9) (A := c 10) (B := c 11) (C := c 12) (S := c 13) (n := (i 8).toInt) (o := b1.toInt) (sv := (fun t9 : Int => sgM (c 9) (c 10) (c 11) (c 12) (c 13) (i 8).toInt t9 0 (sfV (c 3) (c 6) (c 4) (kS (c 3) (c 6) t9) 0 t9))) (r := x8.toInt) (d := y5_5.toInt.toNat) with h8 | h8; (· exact Or.inl (h9.trans h8)); (· rw [hdn, ← hfL] at h8; exact Or.inr ⟨by rw [h9, h8]; omega, by rw [h9, h8]; omega, by rw [h9, h8]; show ¬ (c9 20 (i9 16).toNatClampNeg).toInt = -9; omega⟩)) tx17) (by have h50 : x17.toInt = (y5_5.toInt + 1) := tx17; have h51 : (1 : Int32).toInt = 1 := (by decide +kernel); omega) _ _ _ hP hD hS (lv_sub hl [0, 2, 3, 4, 5, 6] rfl)
                          · have f16 := (ti_eq (a := x15.toInt) (b := (-9)) rfl (by decide +kernel)).mp c16
                            refine lv_aload_n hx hb dX12_walk_136 rfl (lv_at hl 4 rfl) ?_
                            refine mget_20 hx hb hts (fun _ h => List.mem_cons_of_mem _ (List.mem_append_right _ h)) hown hK hP (hts (.fieldLink RX12 44 "TalePlayModel" "far" "[I") (List.mem_cons_of_mem _ (List.mem_append_left _ (List.mem_append_left _ (List.mem_of_getElem? (i := 1) rfl))))) dX12_walk_137 ?_
                            refine lv_aload_n hx hb dX12_walk_140 rfl (lv_at hl 4 rfl) ?_
                            refine mget_16 (v := (i9 16)) rfl hx hb hts (fun _ h => List.mem_cons_of_mem _ (List.mem_append_right _ h)) hown hK hP (hts (.fieldLink RX12 263 "TalePlayModel" "leads" "I") (List.mem_cons_of_mem _ (List.mem_append_left _ (List.mem_append_left _ (List.mem_of_getElem? (i := 8) rfl))))) dX12_walk_141 ?_
                            refine lv_aload_n hx hb dX12_walk_144 rfl (lv_at hl 4 rfl) ?_
                            refine mget_20 hx hb hts (fun _ h => List.mem_cons_of_mem _ (List.mem_append_right _ h)) hown hK hP (hts (.fieldLink RX12 44 "TalePlayModel" "far" "[I") (List.mem_cons_of_mem _ (List.mem_append_left _ (List.mem_append_left _ (List.mem_of_getElem? (i := 1) rfl))))) dX12_walk_145 ?_
                            refine lv_aload_n hx hb dX12_walk_148 rfl (lv_at hl 4 rfl) ?_
                            refine mget_21 hx hb hts (fun _ h => List.mem_cons_of_mem _ (List.mem_append_right _ h)) hown hK hP (hts (.fieldLink RX12 47 "TalePlayModel" "line" "[I") (List.mem_cons_of_mem _ (List.mem_append_left _ (List.mem_append_left _ (List.mem_of_getElem? (i := 2) rfl))))) dX12_walk_149 ?_
                            refine lv_iload hx hb dX12_walk_152 (lv_at hl 2 rfl) ?_
                            refine mld_21 hx hb hK hP (vp_in_iff.mpr (by have h9 : y3_4.toInt = y3_4.toInt := rfl; omega)) dX12_walk_154 (fun x18 ex18 => ?_)
                            have rx18 : 0 ≤ x18.toInt ∧ x18.toInt ≤ 29 := by rw [ex18]; exact hI.2 21 _
                            refine mld_20 hx hb hK hP (vp_in_iff.mpr (by have h9 : x18.toInt = x18.toInt := rfl; omega)) dX12_walk_155 (fun x19 ex19 => ?_)
                            have rx19 : x19.toInt = -9 ∨ (0 ≤ x19.toInt ∧ x19.toInt ≤ 29) := by rw [ex19]; exact hI.2 20 _
                            have gx19 : (c9 20 (x18 : Int32).toNatClampNeg).toInt = x19.toInt := by rw [ex19]
                            have hq1 : ¬ x19.toInt = -9 ∧ x19.toInt ≤ y3_4.toInt := WQ_k (far := c9 20) (ln := c9 21) hW (by omega) (by omega) ex18 ex19
                            have hq2 : y5_3.toInt ≤ 29 := WQ_n (far := c9 20) (ln := c9 21) hW (by omega) ex15 (by omega)
                            refine lv_iconst (v := 1) hx hb dX12_walk_156 (by decide +kernel) ?_
                            refine lv_iadd hx hb dX12_walk_157 ?_
                            refine lv_topi (fun x20 ex20 => ?_)
                            have tx20 := ti_add (a := x19.toInt) (b := 1) ex20 rfl (by decide +kernel) (by omega) (by omega)
                            refine mst_20 hx hb hK hP hD hS (vp_in_iff.mpr (by have h9 : (i9 16).toInt = (i9 16).toInt := rfl; omega)) dX12_walk_158 (fun H locs hP hD hS => ?_)
                            have hI := mInv_c hI (k := 20) (j := ((i9 16) : Int32).toNatClampNeg) (x := x20) (show (x20 : Int32).toInt = -9 ∨ (0 ≤ (x20 : Int32).toInt ∧ (x20 : Int32).toInt ≤ 29) from by have h9 : x20.toInt = (x19.toInt + 1) := tx20; omega)
                            have hfc := fr_c hfc (k := 20) (j := ((i9 16) : Int32).toNatClampNeg) (x := x20) (by decide +kernel)
                            refine lv_aload_n hx hb dX12_walk_159 rfl (lv_at hl 4 rfl) ?_
                            refine mget_21 hx hb hts (fun _ h => List.mem_cons_of_mem _ (List.mem_append_right _ h)) hown hK hP (hts (.fieldLink RX12 47 "TalePlayModel" "line" "[I") (List.mem_cons_of_mem _ (List.mem_append_left _ (List.mem_append_left _ (List.mem_of_getElem? (i := 2) rfl))))) dX12_walk_160 ?_
                            refine lv_iload_n hx hb dX12_walk_163 rfl (lv_at hl 3 rfl) ?_
                            refine lv_aload_n hx hb dX12_walk_164 rfl (lv_at hl 4 rfl) ?_
                            refine mget_16 (v := (i9 16)) rfl hx hb hts (fun _ h => List.mem_cons_of_mem _ (List.mem_append_right _ h)) hown hK hP (hts (.fieldLink RX12 263 "TalePlayModel" "leads" "I") (List.mem_cons_of_mem _ (List.mem_append_left _ (List.mem_append_left _ (List.mem_of_getElem? (i := 8) rfl))))) dX12_walk_165 ?_
                            refine mst_21 hx hb hK hP hD hS (vp_in_iff.mpr (by have h9 : y5_3.toInt = y5_3.toInt := rfl; omega)) dX12_walk_168 (fun H locs hP hD hS => ?_)
                            have hI := mInv_c hI (k := 21) (j := (y5_3 : Int32).toNatClampNeg) (x := (i9 16)) (show 0 ≤ ((i9 16) : Int32).toInt ∧ ((i9 16) : Int32).toInt ≤ 29 from by omega)
                            have hfc := fr_c hfc (k := 21) (j := (y5_3 : Int32).toNatClampNeg) (x := (i9 16)) (by decide +kernel)
                            obtain ⟨x21, ex21⟩ : ∃ y : Int32, y = y5_3 + 1 := ⟨_, rfl⟩
                            have tx21 := ti_add (a := y5_3.toInt) (b := 1) ex21 rfl (by decide +kernel) (by omega) (by omega)
                            refine lv_iinc (v := x21) (lv' := [(3, .int x21), (6, .int 1), (5, .int y5_5), (4, .int y3_4), (0, .ref o), (1, .int w), (2, .int b1)]) hx hb dX12_walk_169 hl (k := 3) rfl (by rw [ex21]; rfl) (by decide +kernel) rfl (fun ls hl => ?_)
                            obtain ⟨x22, ex22⟩ : ∃ y : Int32, y = y5_5 + 1 := ⟨_, rfl⟩
                            have tx22 := ti_add (a := y5_5.toInt) (b := 1) ex22 rfl (by decide +kernel) (by omega) (by omega)
                            refine lv_iinc (v := x22) (lv' := [(5, .int x22), (3, .int x21), (6, .int 1), (4, .int y3_4), (0, .ref o), (1, .int w), (2, .int b1)]) hx hb dX12_walk_172 hl (k := 2) rfl (by rw [ex22]; rfl) (by decide +kernel) rfl (fun ls hl => ?_)
                            refine lv_goto (tgt := 52) hx hb dX12_walk_175 (by decide +kernel) ?_
                            exact ih5 i9 q9 (updA (updA c9 20 ((i9 16) : Int32).toNatClampNeg x20) 21 (y5_3 : Int32).toNatClampNeg (i9 16)) d9 x22 x21 hI (fr_w hfi (by decide +kernel)) (fr_w hfc (by decide +kernel)) (show 0 ≤ x22.toInt ∧ x22.toInt ≤ 10 from by have h50 : x22.toInt = (y5_5.toInt + 1) := tx22; have h51 : x21.toInt = (y5_3.toInt + 1) := tx21; have h52 : (1 : Int32).toInt = 1 := (by decide +kernel); omega) (show 1 ≤ x21.toInt ∧ x21.toInt ≤ 30 from by have h50 : x22.toInt = (y5_5.toInt + 1) := tx22; have h51 : x21.toInt = (y5_3.toInt + 1) := tx21; have h52 : (1 : Int32).toInt = 1 := (by decide +kernel); omega) (show WQ ((updA (updA c9 20 ((i9 16) : Int32).toNatClampNeg x20) 21 (y5_3 : Int32).toNatClampNeg (i9 16)) 20) ((updA (updA c9 20 ((i9 16) : Int32).toNatClampNeg x20) 21 (y5_3 : Int32).toNatClampNeg (i9 16)) 21) x21.toInt from by rw [tx21]; exact WQ_a (xa := x15) hW (by omega) (by omega) ex15 (by omega) (by have h9 := tx20; omega)) (show y3_4.toInt < x21.toInt from by have h50 : x22.toInt = (y5_5.toInt + 1) := tx22; have h51 : x21.toInt = (y5_3.toInt + 1) := tx21; have h52 : (1 : Int32).toInt = 1 := (by decide +kernel); omega) (show BFI (wM (c 3) (c 6) (c 9) (c 10) (c 11) (c 12) (c 13) (i 8).toInt b1.toInt (fun t9 : Int => sgM (c 9) (c 10) (c 11) (c 12) (c 13) (i 8).toInt t9 0 (sfV (c 3) (c 6) (c 4) (kS (c 3) (c 6) t9) 0 t9))) w.toInt (mI y3_4.toInt x22.toInt) (i 5).toInt ((updA (updA c9 20 ((i9 16) : Int32).toNatClampNeg x20) 21 (y5_3 : Int32).toNatClampNeg (i9 16)) 20) ((updA (updA c9 20 ((i9 16) : Int32).toNatClampNeg x20) 21 (y5_3 : Int32).toNatClampNeg (i9 16)) 21) x21.toInt from BFI_y (st := c9 20) (qu := c9 21) (r := x8) hBF (by omega) (by omega) (by omega) hqr (by rw [hfL]; rw [← hdn]; exact wM_y (by rw [hdn]; show ¬ feL (c 3) (c 6) (c 9) (c 10) (c 11) (c 12) (c 13) (i 8).toInt x8.toInt y5_5.toInt = -9 ∧ (b1.toInt = 0 ∨ feD (c 3) (c 6) (c 9) (c 10) (c 11) (c 12) (c 13) (i 8).toInt x8.toInt y5_5.toInt = -9 ∨ sgM (c 9) (c 10) (c 11) (c 12) (c 13) (i 8).toInt (feD (c 3) (c 6) (c 9) (c 10) (c 11) (c 12) (c 13) (i 8).toInt x8.toInt y5_5.toInt) 0 (sfV (c 3) (c 6) (c 4) (kS (c 3) (c 6) (feD (c 3) (c 6) (c 9) (c 10) (c 11) (c 12) (c 13) (i 8).toInt x8.toInt y5_5.toInt)) 0 (feD (c 3) (c 6) (c 9) (c 10) (c 11) (c 12) (c 13) (i 8).toInt x8.toInt y5_5.toInt)) = 1); omega)) (by omega) (by omega) (by have h9 := tx20; have h8 := cl_e (x := x18) (y := x8) (by rw [show x18 = c9 21 y3_4.toNatClampNeg from ex18]; exact hqr); have h7 := gx19; rw [h8] at h7; omega) tx21 tx22) (by have h50 : x22.toInt = (y5_5.toInt + 1) := tx22; have h51 : x21.toInt = (y5_3.toInt + 1) := tx21; have h52 : (1 : Int32).toInt = 1 := (by decide +kernel); omega) _ _ _ hP hD hS (lv_sub hl [0, 3, 1, 4, 5, 6] rfl)
                        · have f14 := mt (ti_eq (a := b1.toInt) (b := 0) rfl (by decide +kernel)).mpr c14
                          refine lv_aload_n hx hb dX12_walk_88 rfl (lv_at hl 3 rfl) ?_
                          refine mget_17 (v := (i9 17)) rfl hx hb hts (fun _ h => List.mem_cons_of_mem _ (List.mem_append_right _ h)) hown hK hP (hts (.fieldLink RX12 266 "TalePlayModel" "byDoor" "I") (List.mem_cons_of_mem _ (List.mem_append_left _ (List.mem_append_left _ (List.mem_of_getElem? (i := 9) rfl))))) dX12_walk_89 ?_
                          have rb17_i9 : (i9 17).toInt = -9 ∨ (0 ≤ (i9 17).toInt ∧ (i9 17).toInt ≤ 29) := hI.1 17
                          refine lv_bipush (v := (-9)) hx hb dX12_walk_92 (by decide +kernel) ?_
                          refine lv_icmp_eq (tgt := 110) hx hb dX12_walk_94 (by decide +kernel) (fun c23 => ?_) (fun c23 => ?_)
                          · have f23 := (ti_eq (a := (i9 17).toInt) (b := (-9)) rfl (by decide +kernel)).mp c23
                            refine lv_iconst (v := 1) hx hb dX12_walk_110 (by decide +kernel) ?_
                            refine lv_goto (tgt := 115) hx hb dX12_walk_111 (by decide +kernel) ?_
                            refine lv_istore (lv' := [(6, .int 1), (5, .int y5_5), (4, .int y3_4), (3, .int y5_3), (0, .ref o), (1, .int w), (2, .int b1)]) hx hb dX12_walk_115 hl (by decide +kernel) rfl (fun ls hl => ?_)
                            refine lv_iload hx hb dX12_walk_117 (lv_at hl 0 rfl) ?_
                            refine lv_if_eq (tgt := 172) hx hb dX12_walk_119 (by decide +kernel) (fun q9 => absurd q9 (by decide +kernel)) (fun _ => ?_)
                            refine lv_aload_n hx hb dX12_walk_122 rfl (lv_at hl 4 rfl) ?_
                            refine mget_20 hx hb hts (fun _ h => List.mem_cons_of_mem _ (List.mem_append_right _ h)) hown hK hP (hts (.fieldLink RX12 44 "TalePlayModel" "far" "[I") (List.mem_cons_of_mem _ (List.mem_append_left _ (List.mem_append_left _ (List.mem_of_getElem? (i := 1) rfl))))) dX12_walk_123 ?_
                            refine lv_aload_n hx hb dX12_walk_126 rfl (lv_at hl 4 rfl) ?_
                            refine mget_16 (v := (i9 16)) rfl hx hb hts (fun _ h => List.mem_cons_of_mem _ (List.mem_append_right _ h)) hown hK hP (hts (.fieldLink RX12 263 "TalePlayModel" "leads" "I") (List.mem_cons_of_mem _ (List.mem_append_left _ (List.mem_append_left _ (List.mem_of_getElem? (i := 8) rfl))))) dX12_walk_127 ?_
                            refine mld_20 hx hb hK hP (vp_in_iff.mpr (by have h9 : (i9 16).toInt = (i9 16).toInt := rfl; omega)) dX12_walk_130 (fun x24 ex24 => ?_)
                            have rx24 : x24.toInt = -9 ∨ (0 ≤ x24.toInt ∧ x24.toInt ≤ 29) := by rw [ex24]; exact hI.2 20 _
                            have gx24 : (c9 20 ((i9 16) : Int32).toNatClampNeg).toInt = x24.toInt := by rw [ex24]
                            refine lv_bipush (v := (-9)) hx hb dX12_walk_131 (by decide +kernel) ?_
                            refine lv_icmp_ne (tgt := 172) hx hb dX12_walk_133 (by decide +kernel) (fun c25 => ?_) (fun c25 => ?_)
                            · have f25 := mt (ti_eq (a := x24.toInt) (b := (-9)) rfl (by decide +kernel)).mpr c25
                              obtain ⟨x26, ex26⟩ : ∃ y : Int32, y = y5_5 + 1 := ⟨_, rfl⟩
                              have tx26 := ti_add (a := y5_5.toInt) (b := 1) ex26 rfl (by decide +kernel) (by omega) (by omega)
                              refine lv_iinc (v := x26) (lv' := [(5, .int x26), (6, .int 1), (4, .int y3_4), (3, .int y5_3), (0, .ref o), (1, .int w), (2, .int b1)]) hx hb dX12_walk_172 hl (k := 1) rfl (by rw [ex26]; rfl) (by decide +kernel) rfl (fun ls hl => ?_)
                              refine lv_goto (tgt := 52) hx hb dX12_walk_175 (by decide +kernel) ?_
                              exact ih5 i9 q9 c9 d9 x26 y5_3 hI (fr_w hfi (by decide +kernel)) (fr_w hfc (by decide +kernel)) (show 0 ≤ x26.toInt ∧ x26.toInt ≤ 10 from by have h50 : x26.toInt = (y5_5.toInt + 1) := tx26; have h51 : (1 : Int32).toInt = 1 := (by decide +kernel); omega) (show 1 ≤ y5_3.toInt ∧ y5_3.toInt ≤ 30 from by have h50 : x26.toInt = (y5_5.toInt + 1) := tx26; have h51 : (1 : Int32).toInt = 1 := (by decide +kernel); omega) (show WQ (c9 20) (c9 21) y5_3.toInt from hW) (show y3_4.toInt < y5_3.toInt from by have h50 : x26.toInt = (y5_5.toInt + 1) := tx26; have h51 : (1 : Int32).toInt = 1 := (by decide +kernel); omega) (show BFI (wM (c 3) (c 6) (c 9) (c 10) (c 11) (c 12) (c 13) (i 8).toInt b1.toInt (fun t9 : Int => sgM (c 9) (c 10) (c 11) (c 12) (c 13) (i 8).toInt t9 0 (sfV (c 3) (c 6) (c 4) (kS (c 3) (c 6) t9) 0 t9))) w.toInt (mI y3_4.toInt x26.toInt) (i 5).toInt (c9 20) (c9 21) y5_3.toInt from BFI_n (r := x8.toInt) hBF (by omega) (by omega) (by omega) hqr (fun y9 h9 => by rcases wM_c (pa := c 3) (ko := c 6) (F := c 9) (A := c 10) (B := c 11) (C := c 12) (S := c 13) (n := (i 8).toInt) (o := b1.toInt) (sv := (fun t9 : Int => sgM (c 9) (c 10) (c 11) (c 12) (c 13) (i 8).toInt t9 0 (sfV (c 3) (c 6) (c 4) (kS (c 3) (c 6) t9) 0 t9))) (r := x8.toInt) (d := y5_5.toInt.toNat) with h8 | h8; (· exact Or.inl (h9.trans h8)); (· rw [hdn, ← hfL] at h8; exact Or.inr ⟨by rw [h9, h8]; omega, by rw [h9, h8]; omega, by rw [h9, h8]; show ¬ (c9 20 (i9 16).toNatClampNeg).toInt = -9; omega⟩)) tx26) (by have h50 : x26.toInt = (y5_5.toInt + 1) := tx26; have h51 : (1 : Int32).toInt = 1 := (by decide +kernel); omega) _ _ _ hP hD hS (lv_sub hl [0, 2, 3, 4, 5, 6] rfl)
                            · have f25 := (ti_eq (a := x24.toInt) (b := (-9)) rfl (by decide +kernel)).mp c25
                              refine lv_aload_n hx hb dX12_walk_136 rfl (lv_at hl 4 rfl) ?_
                              refine mget_20 hx hb hts (fun _ h => List.mem_cons_of_mem _ (List.mem_append_right _ h)) hown hK hP (hts (.fieldLink RX12 44 "TalePlayModel" "far" "[I") (List.mem_cons_of_mem _ (List.mem_append_left _ (List.mem_append_left _ (List.mem_of_getElem? (i := 1) rfl))))) dX12_walk_137 ?_
                              refine lv_aload_n hx hb dX12_walk_140 rfl (lv_at hl 4 rfl) ?_
                              refine mget_16 (v := (i9 16)) rfl hx hb hts (fun _ h => List.mem_cons_of_mem _ (List.mem_append_right _ h)) hown hK hP (hts (.fieldLink RX12 263 "TalePlayModel" "leads" "I") (List.mem_cons_of_mem _ (List.mem_append_left _ (List.mem_append_left _ (List.mem_of_getElem? (i := 8) rfl))))) dX12_walk_141 ?_
                              refine lv_aload_n hx hb dX12_walk_144 rfl (lv_at hl 4 rfl) ?_
                              refine mget_20 hx hb hts (fun _ h => List.mem_cons_of_mem _ (List.mem_append_right _ h)) hown hK hP (hts (.fieldLink RX12 44 "TalePlayModel" "far" "[I") (List.mem_cons_of_mem _ (List.mem_append_left _ (List.mem_append_left _ (List.mem_of_getElem? (i := 1) rfl))))) dX12_walk_145 ?_
                              refine lv_aload_n hx hb dX12_walk_148 rfl (lv_at hl 4 rfl) ?_
                              refine mget_21 hx hb hts (fun _ h => List.mem_cons_of_mem _ (List.mem_append_right _ h)) hown hK hP (hts (.fieldLink RX12 47 "TalePlayModel" "line" "[I") (List.mem_cons_of_mem _ (List.mem_append_left _ (List.mem_append_left _ (List.mem_of_getElem? (i := 2) rfl))))) dX12_walk_149 ?_
                              refine lv_iload hx hb dX12_walk_152 (lv_at hl 2 rfl) ?_
                              refine mld_21 hx hb hK hP (vp_in_iff.mpr (by have h9 : y3_4.toInt = y3_4.toInt := rfl; omega)) dX12_walk_154 (fun x27 ex27 => ?_)
                              have rx27 : 0 ≤ x27.toInt ∧ x27.toInt ≤ 29 := by rw [ex27]; exact hI.2 21 _
                              refine mld_20 hx hb hK hP (vp_in_iff.mpr (by have h9 : x27.toInt = x27.toInt := rfl; omega)) dX12_walk_155 (fun x28 ex28 => ?_)
                              have rx28 : x28.toInt = -9 ∨ (0 ≤ x28.toInt ∧ x28.toInt ≤ 29) := by rw [ex28]; exact hI.2 20 _
                              have gx28 : (c9 20 (x27 : Int32).toNatClampNeg).toInt = x28.toInt := by rw [ex28]
                              have hq1 : ¬ x28.toInt = -9 ∧ x28.toInt ≤ y3_4.toInt := WQ_k (far := c9 20) (ln := c9 21) hW (by omega) (by omega) ex27 ex28
                              have hq2 : y5_3.toInt ≤ 29 := WQ_n (far := c9 20) (ln := c9 21) hW (by omega) ex24 (by omega)
                              refine lv_iconst (v := 1) hx hb dX12_walk_156 (by decide +kernel) ?_
                              refine lv_iadd hx hb dX12_walk_157 ?_
                              refine lv_topi (fun x29 ex29 => ?_)
                              have tx29 := ti_add (a := x28.toInt) (b := 1) ex29 rfl (by decide +kernel) (by omega) (by omega)
                              refine mst_20 hx hb hK hP hD hS (vp_in_iff.mpr (by have h9 : (i9 16).toInt = (i9 16).toInt := rfl; omega)) dX12_walk_158 (fun H locs hP hD hS => ?_)
                              have hI := mInv_c hI (k := 20) (j := ((i9 16) : Int32).toNatClampNeg) (x := x29) (show (x29 : Int32).toInt = -9 ∨ (0 ≤ (x29 : Int32).toInt ∧ (x29 : Int32).toInt ≤ 29) from by have h9 : x29.toInt = (x28.toInt + 1) := tx29; omega)
                              have hfc := fr_c hfc (k := 20) (j := ((i9 16) : Int32).toNatClampNeg) (x := x29) (by decide +kernel)
                              refine lv_aload_n hx hb dX12_walk_159 rfl (lv_at hl 4 rfl) ?_
                              refine mget_21 hx hb hts (fun _ h => List.mem_cons_of_mem _ (List.mem_append_right _ h)) hown hK hP (hts (.fieldLink RX12 47 "TalePlayModel" "line" "[I") (List.mem_cons_of_mem _ (List.mem_append_left _ (List.mem_append_left _ (List.mem_of_getElem? (i := 2) rfl))))) dX12_walk_160 ?_
                              refine lv_iload_n hx hb dX12_walk_163 rfl (lv_at hl 3 rfl) ?_
                              refine lv_aload_n hx hb dX12_walk_164 rfl (lv_at hl 4 rfl) ?_
                              refine mget_16 (v := (i9 16)) rfl hx hb hts (fun _ h => List.mem_cons_of_mem _ (List.mem_append_right _ h)) hown hK hP (hts (.fieldLink RX12 263 "TalePlayModel" "leads" "I") (List.mem_cons_of_mem _ (List.mem_append_left _ (List.mem_append_left _ (List.mem_of_getElem? (i := 8) rfl))))) dX12_walk_165 ?_
                              refine mst_21 hx hb hK hP hD hS (vp_in_iff.mpr (by have h9 : y5_3.toInt = y5_3.toInt := rfl; omega)) dX12_walk_168 (fun H locs hP hD hS => ?_)
                              have hI := mInv_c hI (k := 21) (j := (y5_3 : Int32).toNatClampNeg) (x := (i9 16)) (show 0 ≤ ((i9 16) : Int32).toInt ∧ ((i9 16) : Int32).toInt ≤ 29 from by omega)
                              have hfc := fr_c hfc (k := 21) (j := (y5_3 : Int32).toNatClampNeg) (x := (i9 16)) (by decide +kernel)
                              obtain ⟨x30, ex30⟩ : ∃ y : Int32, y = y5_3 + 1 := ⟨_, rfl⟩
                              have tx30 := ti_add (a := y5_3.toInt) (b := 1) ex30 rfl (by decide +kernel) (by omega) (by omega)
                              refine lv_iinc (v := x30) (lv' := [(3, .int x30), (6, .int 1), (5, .int y5_5), (4, .int y3_4), (0, .ref o), (1, .int w), (2, .int b1)]) hx hb dX12_walk_169 hl (k := 3) rfl (by rw [ex30]; rfl) (by decide +kernel) rfl (fun ls hl => ?_)
                              obtain ⟨x31, ex31⟩ : ∃ y : Int32, y = y5_5 + 1 := ⟨_, rfl⟩
                              have tx31 := ti_add (a := y5_5.toInt) (b := 1) ex31 rfl (by decide +kernel) (by omega) (by omega)
                              refine lv_iinc (v := x31) (lv' := [(5, .int x31), (3, .int x30), (6, .int 1), (4, .int y3_4), (0, .ref o), (1, .int w), (2, .int b1)]) hx hb dX12_walk_172 hl (k := 2) rfl (by rw [ex31]; rfl) (by decide +kernel) rfl (fun ls hl => ?_)
                              refine lv_goto (tgt := 52) hx hb dX12_walk_175 (by decide +kernel) ?_
                              exact ih5 i9 q9 (updA (updA c9 20 ((i9 16) : Int32).toNatClampNeg x29) 21 (y5_3 : Int32).toNatClampNeg (i9 16)) d9 x31 x30 hI (fr_w hfi (by decide +kernel)) (fr_w hfc (by decide +kernel)) (show 0 ≤ x31.toInt ∧ x31.toInt ≤ 10 from by have h50 : x31.toInt = (y5_5.toInt + 1) := tx31; have h51 : x30.toInt = (y5_3.toInt + 1) := tx30; have h52 : (1 : Int32).toInt = 1 := (by decide +kernel); omega) (show 1 ≤ x30.toInt ∧ x30.toInt ≤ 30 from by have h50 : x31.toInt = (y5_5.toInt + 1) := tx31; have h51 : x30.toInt = (y5_3.toInt + 1) := tx30; have h52 : (1 : Int32).toInt = 1 := (by decide +kernel); omega) (show WQ ((updA (updA c9 20 ((i9 16) : Int32).toNatClampNeg x29) 21 (y5_3 : Int32).toNatClampNeg (i9 16)) 20) ((updA (updA c9 20 ((i9 16) : Int32).toNatClampNeg x29) 21 (y5_3 : Int32).toNatClampNeg (i9 16)) 21) x30.toInt from by rw [tx30]; exact WQ_a (xa := x24) hW (by omega) (by omega) ex24 (by omega) (by have h9 := tx29; omega)) (show y3_4.toInt < x30.toInt from by have h50 : x31.toInt = (y5_5.toInt + 1) := tx31; have h51 : x30.toInt = (y5_3.toInt + 1) := tx30; have h52 : (1 : Int32).toInt = 1 := (by decide +kernel); omega) (show BFI (wM (c 3) (c 6) (c 9) (c 10) (c 11) (c 12) (c 13) (i 8).toInt b1.toInt (fun t9 : Int => sgM (c 9) (c 10) (c 11) (c 12) (c 13) (i 8).toInt t9 0 (sfV (c 3) (c 6) (c 4) (kS (c 3) (c 6) t9) 0 t9))) w.toInt (mI y3_4.toInt x31.toInt) (i 5).toInt ((updA (updA c9 20 ((i9 16) : Int32).toNatClampNeg x29) 21 (y5_3 : Int32).toNatClampNeg (i9 16)) 20) ((updA (updA c9 20 ((i9 16) : Int32).toNatClampNeg x29) 21 (y5_3 : Int32).toNatClampNeg (i9 16)) 21) x30.toInt from BFI_y (st := c9 20) (qu := c9 21) (r := x8) hBF (by omega) (by omega) (by omega) hqr (by rw [hfL]; rw [← hdn]; exact wM_y (by rw [hdn]; show ¬ feL (c 3) (c 6) (c 9) (c 10) (c 11) (c 12) (c 13) (i 8).toInt x8.toInt y5_5.toInt = -9 ∧ (b1.toInt = 0 ∨ feD (c 3) (c 6) (c 9) (c 10) (c 11) (c 12) (c 13) (i 8).toInt x8.toInt y5_5.toInt = -9 ∨ sgM (c 9) (c 10) (c 11) (c 12) (c 13) (i 8).toInt (feD (c 3) (c 6) (c 9) (c 10) (c 11) (c 12) (c 13) (i 8).toInt x8.toInt y5_5.toInt) 0 (sfV (c 3) (c 6) (c 4) (kS (c 3) (c 6) (feD (c 3) (c 6) (c 9) (c 10) (c 11) (c 12) (c 13) (i 8).toInt x8.toInt y5_5.toInt)) 0 (feD (c 3) (c 6) (c 9) (c 10) (c 11) (c 12) (c 13) (i 8).toInt x8.toInt y5_5.toInt)) = 1); omega)) (by omega) (by omega) (by have h9 := tx29; have h8 := cl_e (x := x27) (y := x8) (by rw [show x27 = c9 21 y3_4.toNatClampNeg from ex27]; exact hqr); have h7 := gx28; rw [h8] at h7; omega) tx30 tx31) (by have h50 : x31.toInt = (y5_5.toInt + 1) := tx31; have h51 : x30.toInt = (y5_3.toInt + 1) := tx30; have h52 : (1 : Int32).toInt = 1 := (by decide +kernel); omega) _ _ _ hP hD hS (lv_sub hl [0, 3, 1, 4, 5, 6] rfl)
                          · have f23 := mt (ti_eq (a := (i9 17).toInt) (b := (-9)) rfl (by decide +kernel)).mpr c23
                            refine lv_aload_n hx hb dX12_walk_97 rfl (lv_at hl 3 rfl) ?_
                            refine lv_aload_n hx hb dX12_walk_98 rfl (lv_at hl 3 rfl) ?_
                            refine mget_17 (v := (i9 17)) rfl hx hb hts (fun _ h => List.mem_cons_of_mem _ (List.mem_append_right _ h)) hown hK hP (hts (.fieldLink RX12 266 "TalePlayModel" "byDoor" "I") (List.mem_cons_of_mem _ (List.mem_append_left _ (List.mem_append_left _ (List.mem_of_getElem? (i := 9) rfl))))) dX12_walk_99 ?_
                            refine lv_iconst (v := 0) hx hb dX12_walk_102 (by decide +kernel) ?_
                            have rb8_i9 : 0 ≤ (i9 8).toInt ∧ (i9 8).toInt ≤ 200 := hI.1 8
                            have re8_i9 : (i9 8).toInt = (i 8).toInt := congrArg Int32.toInt (hfi 8 (by decide +kernel))
                            refine ro_calli (va_runV (As := [.int (i9 17), .int 0]) (rest := []) ⟨hx, hb, hml, hown, hts⟩ (s_X12_saidFlag_e l D H.size o a t i9 q9 c9 d9 (i9 17) 0 hI (show 0 ≤ (i9 17).toInt ∧ (i9 17).toInt ≤ 29 from by have h91 : (0 : Int32).toInt = 0 := (by decide +kernel); omega) (show 0 ≤ 0 ∧ 0 ≤ 5 from by decide +kernel)) (cwV 2 hts gm_X12_walk_X12_saidFlag rfl rfl rfl (by decide +kernel) ⟨Nat.le_of_ble_eq_true rfl, Nat.le_of_ble_eq_true rfl⟩) (pA_V hK hP (ci := 12) (q0 := 0) rfl rfl) rfl rfl hl.1 rfl (lv_room (Nat.le_of_ble_eq_true rfl)) dX12_walk_103 ⟨Nat.le_of_ble_eq_true rfl, Nat.le_of_ble_eq_true rfl⟩) hS hA hP (fun r32 u32 H locs hw32 hP hS => ?_)
                            have hw32 : ((r32.toInt = -9 ∨ (0 ≤ r32.toInt ∧ r32.toInt ≤ 1)) ∧ (SgM (c9 9) (c9 10) (c9 11) (c9 12) (c9 13) (i9 8).toInt (i9 17).toInt 0 (sfV (c9 3) (c9 6) (c9 4) (kS (c9 3) (c9 6) (i9 17).toInt) 0 (i9 17).toInt) r32.toInt)) := hw32
                            obtain ⟨hw32, hr32_0⟩ := hw32
                            have hr32_0 : SgM (c 9) (c 10) (c 11) (c 12) (c 13) (i 8).toInt (i9 17).toInt 0 (sfV (c 3) (c 6) (c 4) (kS (c 3) (c 6) (i9 17).toInt) 0 (i9 17).toInt) r32.toInt := by have h9 := hr32_0; rw [show c9 3 = c 3 from hfc 3 (by decide +kernel), show c9 4 = c 4 from hfc 4 (by decide +kernel), show c9 6 = c 6 from hfc 6 (by decide +kernel), show c9 9 = c 9 from hfc 9 (by decide +kernel), show c9 10 = c 10 from hfc 10 (by decide +kernel), show c9 11 = c 11 from hfc 11 (by decide +kernel), show c9 12 = c 12 from hfc 12 (by decide +kernel), show c9 13 = c 13 from hfc 13 (by decide +kernel), show i9 8 = i 8 from hfi 8 (by decide +kernel)] at h9; exact h9
                            have hsv : r32.toInt = sgM (c 9) (c 10) (c 11) (c 12) (c 13) (i 8).toInt (feD (c 3) (c 6) (c 9) (c 10) (c 11) (c 12) (c 13) (i 8).toInt x8.toInt y5_5.toInt) 0 (sfV (c 3) (c 6) (c 4) (kS (c 3) (c 6) (feD (c 3) (c 6) (c 9) (c 10) (c 11) (c 12) (c 13) (i 8).toInt x8.toInt y5_5.toInt)) 0 (feD (c 3) (c 6) (c 9) (c 10) (c 11) (c 12) (c 13) (i 8).toInt x8.toInt y5_5.toInt)) := by rw [← hfD]; exact sgM_e hr32_0
                            refine lv_iconst (v := 1) hx hb dX12_walk_106 (by decide +kernel) ?_
                            refine lv_icmp_ne (tgt := 114) hx hb dX12_walk_107 (by decide +kernel) (fun c33 => ?_) (fun c33 => ?_)
                            · have f33 := mt (ti_eq (a := r32.toInt) (b := 1) rfl (by decide +kernel)).mpr c33
                              refine lv_iconst (v := 0) hx hb dX12_walk_114 (by decide +kernel) ?_
                              refine lv_istore (lv' := [(6, .int 0), (5, .int y5_5), (4, .int y3_4), (3, .int y5_3), (0, .ref o), (1, .int w), (2, .int b1)]) hx hb dX12_walk_115 hl (by decide +kernel) rfl (fun ls hl => ?_)
                              refine lv_iload hx hb dX12_walk_117 (lv_at hl 0 rfl) ?_
                              refine lv_if_eq (tgt := 172) hx hb dX12_walk_119 (by decide +kernel) (fun _ => ?_) (fun q9 => absurd (by decide +kernel) q9)
                              obtain ⟨x34, ex34⟩ : ∃ y : Int32, y = y5_5 + 1 := ⟨_, rfl⟩
                              have tx34 := ti_add (a := y5_5.toInt) (b := 1) ex34 rfl (by decide +kernel) (by omega) (by omega)
                              refine lv_iinc (v := x34) (lv' := [(5, .int x34), (6, .int 0), (4, .int y3_4), (3, .int y5_3), (0, .ref o), (1, .int w), (2, .int b1)]) hx hb dX12_walk_172 hl (k := 1) rfl (by rw [ex34]; rfl) (by decide +kernel) rfl (fun ls hl => ?_)
                              refine lv_goto (tgt := 52) hx hb dX12_walk_175 (by decide +kernel) ?_
                              exact ih5 i9 q9 c9 d9 x34 y5_3 hI (fr_w hfi (by decide +kernel)) (fr_w hfc (by decide +kernel)) (show 0 ≤ x34.toInt ∧ x34.toInt ≤ 10 from by have h50 : x34.toInt = (y5_5.toInt + 1) := tx34; have h51 : (0 : Int32).toInt = 0 := (by decide +kernel); omega) (show 1 ≤ y5_3.toInt ∧ y5_3.toInt ≤ 30 from by have h50 : x34.toInt = (y5_5.toInt + 1) := tx34; have h51 : (0 : Int32).toInt = 0 := (by decide +kernel); omega) (show WQ (c9 20) (c9 21) y5_3.toInt from hW) (show y3_4.toInt < y5_3.toInt from by have h50 : x34.toInt = (y5_5.toInt + 1) := tx34; have h51 : (0 : Int32).toInt = 0 := (by decide +kernel); omega) (show BFI (wM (c 3) (c 6) (c 9) (c 10) (c 11) (c 12) (c 13) (i 8).toInt b1.toInt (fun t9 : Int => sgM (c 9) (c 10) (c 11) (c 12) (c 13) (i 8).toInt t9 0 (sfV (c 3) (c 6) (c 4) (kS (c 3) (c 6) t9) 0 t9))) w.toInt (mI y3_4.toInt x34.toInt) (i 5).toInt (c9 20) (c9 21) y5_3.toInt from BFI_n (r := x8.toInt) hBF (by omega) (by omega) (by omega) hqr (fun y9 h9 => Or.inl (by rw [h9]; exact wM_n (by rw [hdn]; show ¬ (¬ feL (c 3) (c 6) (c 9) (c 10) (c 11) (c 12) (c 13) (i 8).toInt x8.toInt y5_5.toInt = -9 ∧ (b1.toInt = 0 ∨ feD (c 3) (c 6) (c 9) (c 10) (c 11) (c 12) (c 13) (i 8).toInt x8.toInt y5_5.toInt = -9 ∨ sgM (c 9) (c 10) (c 11) (c 12) (c 13) (i 8).toInt (feD (c 3) (c 6) (c 9) (c 10) (c 11) (c 12) (c 13) (i 8).toInt x8.toInt y5_5.toInt) 0 (sfV (c 3) (c 6) (c 4) (kS (c 3) (c 6) (feD (c 3) (c 6) (c 9) (c 10) (c 11) (c 12) (c 13) (i 8).toInt x8.toInt y5_5.toInt)) 0 (feD (c 3) (c 6) (c 9) (c 10) (c 11) (c 12) (c 13) (i 8).toInt x8.toInt y5_5.toInt)) = 1)); omega))) tx34) (by have h50 : x34.toInt = (y5_5.toInt + 1) := tx34; have h51 : (0 : Int32).toInt = 0 := (by decide +kernel); omega) _ _ _ hP hD hS (lv_sub hl [0, 2, 3, 4, 5, 6] rfl)
                            · have f33 := (ti_eq (a := r32.toInt) (b := 1) rfl (by decide +kernel)).mp c33
                              refine lv_iconst (v := 1) hx hb dX12_walk_110 (by decide +kernel) ?_
                              refine lv_goto (tgt := 115) hx hb dX12_walk_111 (by decide +kernel) ?_
                              refine lv_istore (lv' := [(6, .int 1), (5, .int y5_5), (4, .int y3_4), (3, .int y5_3), (0, .ref o), (1, .int w), (2, .int b1)]) hx hb dX12_walk_115 hl (by decide +kernel) rfl (fun ls hl => ?_)
                              refine lv_iload hx hb dX12_walk_117 (lv_at hl 0 rfl) ?_
                              refine lv_if_eq (tgt := 172) hx hb dX12_walk_119 (by decide +kernel) (fun q9 => absurd q9 (by decide +kernel)) (fun _ => ?_)
                              refine lv_aload_n hx hb dX12_walk_122 rfl (lv_at hl 4 rfl) ?_
                              refine mget_20 hx hb hts (fun _ h => List.mem_cons_of_mem _ (List.mem_append_right _ h)) hown hK hP (hts (.fieldLink RX12 44 "TalePlayModel" "far" "[I") (List.mem_cons_of_mem _ (List.mem_append_left _ (List.mem_append_left _ (List.mem_of_getElem? (i := 1) rfl))))) dX12_walk_123 ?_
                              refine lv_aload_n hx hb dX12_walk_126 rfl (lv_at hl 4 rfl) ?_
                              refine mget_16 (v := (i9 16)) rfl hx hb hts (fun _ h => List.mem_cons_of_mem _ (List.mem_append_right _ h)) hown hK hP (hts (.fieldLink RX12 263 "TalePlayModel" "leads" "I") (List.mem_cons_of_mem _ (List.mem_append_left _ (List.mem_append_left _ (List.mem_of_getElem? (i := 8) rfl))))) dX12_walk_127 ?_
                              refine mld_20 hx hb hK hP (vp_in_iff.mpr (by have h9 : (i9 16).toInt = (i9 16).toInt := rfl; omega)) dX12_walk_130 (fun x35 ex35 => ?_)
                              have rx35 : x35.toInt = -9 ∨ (0 ≤ x35.toInt ∧ x35.toInt ≤ 29) := by rw [ex35]; exact hI.2 20 _
                              have gx35 : (c9 20 ((i9 16) : Int32).toNatClampNeg).toInt = x35.toInt := by rw [ex35]
                              refine lv_bipush (v := (-9)) hx hb dX12_walk_131 (by decide +kernel) ?_
                              refine lv_icmp_ne (tgt := 172) hx hb dX12_walk_133 (by decide +kernel) (fun c36 => ?_) (fun c36 => ?_)
                              · have f36 := mt (ti_eq (a := x35.toInt) (b := (-9)) rfl (by decide +kernel)).mpr c36
                                obtain ⟨x37, ex37⟩ : ∃ y : Int32, y = y5_5 + 1 := ⟨_, rfl⟩
                                have tx37 := ti_add (a := y5_5.toInt) (b := 1) ex37 rfl (by decide +kernel) (by omega) (by omega)
                                refine lv_iinc (v := x37) (lv' := [(5, .int x37), (6, .int 1), (4, .int y3_4), (3, .int y5_3), (0, .ref o), (1, .int w), (2, .int b1)]) hx hb dX12_walk_172 hl (k := 1) rfl (by rw [ex37]; rfl) (by decide +kernel) rfl (fun ls hl => ?_)
                                refine lv_goto (tgt := 52) hx hb dX12_walk_175 (by decide +kernel) ?_
                                exact ih5 i9 q9 c9 d9 x37 y5_3 hI (fr_w hfi (by decide +kernel)) (fr_w hfc (by decide +kernel)) (show 0 ≤ x37.toInt ∧ x37.toInt ≤ 10 from by have h50 : x37.toInt = (y5_5.toInt + 1) := tx37; have h51 : (1 : Int32).toInt = 1 := (by decide +kernel); omega) (show 1 ≤ y5_3.toInt ∧ y5_3.toInt ≤ 30 from by have h50 : x37.toInt = (y5_5.toInt + 1) := tx37; have h51 : (1 : Int32).toInt = 1 := (by decide +kernel); omega) (show WQ (c9 20) (c9 21) y5_3.toInt from hW) (show y3_4.toInt < y5_3.toInt from by have h50 : x37.toInt = (y5_5.toInt + 1) := tx37; have h51 : (1 : Int32).toInt = 1 := (by decide +kernel); omega) (show BFI (wM (c 3) (c 6) (c 9) (c 10) (c 11) (c 12) (c 13) (i 8).toInt b1.toInt (fun t9 : Int => sgM (c 9) (c 10) (c 11) (c 12) (c 13) (i 8).toInt t9 0 (sfV (c 3) (c 6) (c 4) (kS (c 3) (c 6) t9) 0 t9))) w.toInt (mI y3_4.toInt x37.toInt) (i 5).toInt (c9 20) (c9 21) y5_3.toInt from BFI_n (r := x8.toInt) hBF (by omega) (by omega) (by omega) hqr (fun y9 h9 => by rcases wM_c (pa := c 3) (ko := c 6) (F := c 9) (A := c 10) (B := c 11) (C := c 12) (S := c 13) (n := (i 8).toInt) (o := b1.toInt) (sv := (fun t9 : Int => sgM (c 9) (c 10) (c 11) (c 12) (c 13) (i 8).toInt t9 0 (sfV (c 3) (c 6) (c 4) (kS (c 3) (c 6) t9) 0 t9))) (r := x8.toInt) (d := y5_5.toInt.toNat) with h8 | h8; (· exact Or.inl (h9.trans h8)); (· rw [hdn, ← hfL] at h8; exact Or.inr ⟨by rw [h9, h8]; omega, by rw [h9, h8]; omega, by rw [h9, h8]; show ¬ (c9 20 (i9 16).toNatClampNeg).toInt = -9; omega⟩)) tx37) (by have h50 : x37.toInt = (y5_5.toInt + 1) := tx37; have h51 : (1 : Int32).toInt = 1 := (by decide +kernel); omega) _ _ _ hP hD hS (lv_sub hl [0, 2, 3, 4, 5, 6] rfl)
                              · have f36 := (ti_eq (a := x35.toInt) (b := (-9)) rfl (by decide +kernel)).mp c36
                                refine lv_aload_n hx hb dX12_walk_136 rfl (lv_at hl 4 rfl) ?_
                                refine mget_20 hx hb hts (fun _ h => List.mem_cons_of_mem _ (List.mem_append_right _ h)) hown hK hP (hts (.fieldLink RX12 44 "TalePlayModel" "far" "[I") (List.mem_cons_of_mem _ (List.mem_append_left _ (List.mem_append_left _ (List.mem_of_getElem? (i := 1) rfl))))) dX12_walk_137 ?_
                                refine lv_aload_n hx hb dX12_walk_140 rfl (lv_at hl 4 rfl) ?_
                                refine mget_16 (v := (i9 16)) rfl hx hb hts (fun _ h => List.mem_cons_of_mem _ (List.mem_append_right _ h)) hown hK hP (hts (.fieldLink RX12 263 "TalePlayModel" "leads" "I") (List.mem_cons_of_mem _ (List.mem_append_left _ (List.mem_append_left _ (List.mem_of_getElem? (i := 8) rfl))))) dX12_walk_141 ?_
                                refine lv_aload_n hx hb dX12_walk_144 rfl (lv_at hl 4 rfl) ?_
                                refine mget_20 hx hb hts (fun _ h => List.mem_cons_of_mem _ (List.mem_append_right _ h)) hown hK hP (hts (.fieldLink RX12 44 "TalePlayModel" "far" "[I") (List.mem_cons_of_mem _ (List.mem_append_left _ (List.mem_append_left _ (List.mem_of_getElem? (i := 1) rfl))))) dX12_walk_145 ?_
                                refine lv_aload_n hx hb dX12_walk_148 rfl (lv_at hl 4 rfl) ?_
                                refine mget_21 hx hb hts (fun _ h => List.mem_cons_of_mem _ (List.mem_append_right _ h)) hown hK hP (hts (.fieldLink RX12 47 "TalePlayModel" "line" "[I") (List.mem_cons_of_mem _ (List.mem_append_left _ (List.mem_append_left _ (List.mem_of_getElem? (i := 2) rfl))))) dX12_walk_149 ?_
                                refine lv_iload hx hb dX12_walk_152 (lv_at hl 2 rfl) ?_
                                refine mld_21 hx hb hK hP (vp_in_iff.mpr (by have h9 : y3_4.toInt = y3_4.toInt := rfl; omega)) dX12_walk_154 (fun x38 ex38 => ?_)
                                have rx38 : 0 ≤ x38.toInt ∧ x38.toInt ≤ 29 := by rw [ex38]; exact hI.2 21 _
                                refine mld_20 hx hb hK hP (vp_in_iff.mpr (by have h9 : x38.toInt = x38.toInt := rfl; omega)) dX12_walk_155 (fun x39 ex39 => ?_)
                                have rx39 : x39.toInt = -9 ∨ (0 ≤ x39.toInt ∧ x39.toInt ≤ 29) := by rw [ex39]; exact hI.2 20 _
                                have gx39 : (c9 20 (x38 : Int32).toNatClampNeg).toInt = x39.toInt := by rw [ex39]
                                have hq1 : ¬ x39.toInt = -9 ∧ x39.toInt ≤ y3_4.toInt := WQ_k (far := c9 20) (ln := c9 21) hW (by omega) (by omega) ex38 ex39
                                have hq2 : y5_3.toInt ≤ 29 := WQ_n (far := c9 20) (ln := c9 21) hW (by omega) ex35 (by omega)
                                refine lv_iconst (v := 1) hx hb dX12_walk_156 (by decide +kernel) ?_
                                refine lv_iadd hx hb dX12_walk_157 ?_
                                refine lv_topi (fun x40 ex40 => ?_)
                                have tx40 := ti_add (a := x39.toInt) (b := 1) ex40 rfl (by decide +kernel) (by omega) (by omega)
                                refine mst_20 hx hb hK hP hD hS (vp_in_iff.mpr (by have h9 : (i9 16).toInt = (i9 16).toInt := rfl; omega)) dX12_walk_158 (fun H locs hP hD hS => ?_)
                                have hI := mInv_c hI (k := 20) (j := ((i9 16) : Int32).toNatClampNeg) (x := x40) (show (x40 : Int32).toInt = -9 ∨ (0 ≤ (x40 : Int32).toInt ∧ (x40 : Int32).toInt ≤ 29) from by have h9 : x40.toInt = (x39.toInt + 1) := tx40; omega)
                                have hfc := fr_c hfc (k := 20) (j := ((i9 16) : Int32).toNatClampNeg) (x := x40) (by decide +kernel)
                                refine lv_aload_n hx hb dX12_walk_159 rfl (lv_at hl 4 rfl) ?_
                                refine mget_21 hx hb hts (fun _ h => List.mem_cons_of_mem _ (List.mem_append_right _ h)) hown hK hP (hts (.fieldLink RX12 47 "TalePlayModel" "line" "[I") (List.mem_cons_of_mem _ (List.mem_append_left _ (List.mem_append_left _ (List.mem_of_getElem? (i := 2) rfl))))) dX12_walk_160 ?_
                                refine lv_iload_n hx hb dX12_walk_163 rfl (lv_at hl 3 rfl) ?_
                                refine lv_aload_n hx hb dX12_walk_164 rfl (lv_at hl 4 rfl) ?_
                                refine mget_16 (v := (i9 16)) rfl hx hb hts (fun _ h => List.mem_cons_of_mem _ (List.mem_append_right _ h)) hown hK hP (hts (.fieldLink RX12 263 "TalePlayModel" "leads" "I") (List.mem_cons_of_mem _ (List.mem_append_left _ (List.mem_append_left _ (List.mem_of_getElem? (i := 8) rfl))))) dX12_walk_165 ?_
                                refine mst_21 hx hb hK hP hD hS (vp_in_iff.mpr (by have h9 : y5_3.toInt = y5_3.toInt := rfl; omega)) dX12_walk_168 (fun H locs hP hD hS => ?_)
                                have hI := mInv_c hI (k := 21) (j := (y5_3 : Int32).toNatClampNeg) (x := (i9 16)) (show 0 ≤ ((i9 16) : Int32).toInt ∧ ((i9 16) : Int32).toInt ≤ 29 from by omega)
                                have hfc := fr_c hfc (k := 21) (j := (y5_3 : Int32).toNatClampNeg) (x := (i9 16)) (by decide +kernel)
                                obtain ⟨x41, ex41⟩ : ∃ y : Int32, y = y5_3 + 1 := ⟨_, rfl⟩
                                have tx41 := ti_add (a := y5_3.toInt) (b := 1) ex41 rfl (by decide +kernel) (by omega) (by omega)
                                refine lv_iinc (v := x41) (lv' := [(3, .int x41), (6, .int 1), (5, .int y5_5), (4, .int y3_4), (0, .ref o), (1, .int w), (2, .int b1)]) hx hb dX12_walk_169 hl (k := 3) rfl (by rw [ex41]; rfl) (by decide +kernel) rfl (fun ls hl => ?_)
                                obtain ⟨x42, ex42⟩ : ∃ y : Int32, y = y5_5 + 1 := ⟨_, rfl⟩
                                have tx42 := ti_add (a := y5_5.toInt) (b := 1) ex42 rfl (by decide +kernel) (by omega) (by omega)
                                refine lv_iinc (v := x42) (lv' := [(5, .int x42), (3, .int x41), (6, .int 1), (4, .int y3_4), (0, .ref o), (1, .int w), (2, .int b1)]) hx hb dX12_walk_172 hl (k := 2) rfl (by rw [ex42]; rfl) (by decide +kernel) rfl (fun ls hl => ?_)
                                refine lv_goto (tgt := 52) hx hb dX12_walk_175 (by decide +kernel) ?_
                                exact ih5 i9 q9 (updA (updA c9 20 ((i9 16) : Int32).toNatClampNeg x40) 21 (y5_3 : Int32).toNatClampNeg (i9 16)) d9 x42 x41 hI (fr_w hfi (by decide +kernel)) (fr_w hfc (by decide +kernel)) (show 0 ≤ x42.toInt ∧ x42.toInt ≤ 10 from by have h50 : x42.toInt = (y5_5.toInt + 1) := tx42; have h51 : x41.toInt = (y5_3.toInt + 1) := tx41; have h52 : (1 : Int32).toInt = 1 := (by decide +kernel); omega) (show 1 ≤ x41.toInt ∧ x41.toInt ≤ 30 from by have h50 : x42.toInt = (y5_5.toInt + 1) := tx42; have h51 : x41.toInt = (y5_3.toInt + 1) := tx41; have h52 : (1 : Int32).toInt = 1 := (by decide +kernel); omega) (show WQ ((updA (updA c9 20 ((i9 16) : Int32).toNatClampNeg x40) 21 (y5_3 : Int32).toNatClampNeg (i9 16)) 20) ((updA (updA c9 20 ((i9 16) : Int32).toNatClampNeg x40) 21 (y5_3 : Int32).toNatClampNeg (i9 16)) 21) x41.toInt from by rw [tx41]; exact WQ_a (xa := x35) hW (by omega) (by omega) ex35 (by omega) (by have h9 := tx40; omega)) (show y3_4.toInt < x41.toInt from by have h50 : x42.toInt = (y5_5.toInt + 1) := tx42; have h51 : x41.toInt = (y5_3.toInt + 1) := tx41; have h52 : (1 : Int32).toInt = 1 := (by decide +kernel); omega) (show BFI (wM (c 3) (c 6) (c 9) (c 10) (c 11) (c 12) (c 13) (i 8).toInt b1.toInt (fun t9 : Int => sgM (c 9) (c 10) (c 11) (c 12) (c 13) (i 8).toInt t9 0 (sfV (c 3) (c 6) (c 4) (kS (c 3) (c 6) t9) 0 t9))) w.toInt (mI y3_4.toInt x42.toInt) (i 5).toInt ((updA (updA c9 20 ((i9 16) : Int32).toNatClampNeg x40) 21 (y5_3 : Int32).toNatClampNeg (i9 16)) 20) ((updA (updA c9 20 ((i9 16) : Int32).toNatClampNeg x40) 21 (y5_3 : Int32).toNatClampNeg (i9 16)) 21) x41.toInt from BFI_y (st := c9 20) (qu := c9 21) (r := x8) hBF (by omega) (by omega) (by omega) hqr (by rw [hfL]; rw [← hdn]; exact wM_y (by rw [hdn]; show ¬ feL (c 3) (c 6) (c 9) (c 10) (c 11) (c 12) (c 13) (i 8).toInt x8.toInt y5_5.toInt = -9 ∧ (b1.toInt = 0 ∨ feD (c 3) (c 6) (c 9) (c 10) (c 11) (c 12) (c 13) (i 8).toInt x8.toInt y5_5.toInt = -9 ∨ sgM (c 9) (c 10) (c 11) (c 12) (c 13) (i 8).toInt (feD (c 3) (c 6) (c 9) (c 10) (c 11) (c 12) (c 13) (i 8).toInt x8.toInt y5_5.toInt) 0 (sfV (c 3) (c 6) (c 4) (kS (c 3) (c 6) (feD (c 3) (c 6) (c 9) (c 10) (c 11) (c 12) (c 13) (i 8).toInt x8.toInt y5_5.toInt)) 0 (feD (c 3) (c 6) (c 9) (c 10) (c 11) (c 12) (c 13) (i 8).toInt x8.toInt y5_5.toInt)) = 1); omega)) (by omega) (by omega) (by have h9 := tx40; have h8 := cl_e (x := x38) (y := x8) (by rw [show x38 = c9 21 y3_4.toNatClampNeg from ex38]; exact hqr); have h7 := gx39; rw [h8] at h7; omega) tx41 tx42) (by have h50 : x42.toInt = (y5_5.toInt + 1) := tx42; have h51 : x41.toInt = (y5_3.toInt + 1) := tx41; have h52 : (1 : Int32).toInt = 1 := (by decide +kernel); omega) _ _ _ hP hD hS (lv_sub hl [0, 3, 1, 4, 5, 6] rfl)
              exact lp5 _ i3 q3 c3 d3 (0 : Int32) y3_3 hI (fr_w hfi (by decide +kernel)) (fr_w hfc (by decide +kernel)) (show 0 ≤ (0 : Int32).toInt ∧ (0 : Int32).toInt ≤ 10 from by decide +kernel) (show 1 ≤ y3_3.toInt ∧ y3_3.toInt ≤ 30 from by have h50 : (0 : Int32).toInt = 0 := (by decide +kernel); omega) (show WQ (c3 20) (c3 21) y3_3.toInt from hz3_0) (show y3_4.toInt < y3_3.toInt from by have h50 : (0 : Int32).toInt = 0 := (by decide +kernel); omega) (show BFI (wM (c 3) (c 6) (c 9) (c 10) (c 11) (c 12) (c 13) (i 8).toInt b1.toInt (fun t9 : Int => sgM (c 9) (c 10) (c 11) (c 12) (c 13) (i 8).toInt t9 0 (sfV (c 3) (c 6) (c 4) (kS (c 3) (c 6) t9) 0 t9))) w.toInt (mI y3_4.toInt (0 : Int32).toInt) (i 5).toInt (c3 20) (c3 21) y3_3.toInt from by have h9 := hz3_1; exact h9) (Nat.lt_succ_self _) _ _ _ hP hD hS (lv_sub hl [0, 1, 2, 3, 4, 5] rfl)
        exact lp3 _ i1 q1 (updA (updA c1 20 (w : Int32).toNatClampNeg 0) 21 (0 : Int32).toNatClampNeg w) d1 (0 : Int32) (1 : Int32) hI (fr_w hfi (by decide +kernel)) (fr_w hfc (by decide +kernel)) (show 0 ≤ (0 : Int32).toInt ∧ (0 : Int32).toInt ≤ 30 from by decide +kernel) (show 1 ≤ (1 : Int32).toInt ∧ (1 : Int32).toInt ≤ 30 from by decide +kernel) (show WQ ((updA (updA c1 20 (w : Int32).toNatClampNeg 0) 21 (0 : Int32).toNatClampNeg w) 20) ((updA (updA c1 20 (w : Int32).toNatClampNeg 0) 21 (0 : Int32).toNatClampNeg w) 21) (1 : Int32).toInt from WQ_0 (by omega)) (show BFI (wM (c 3) (c 6) (c 9) (c 10) (c 11) (c 12) (c 13) (i 8).toInt b1.toInt (fun t9 : Int => sgM (c 9) (c 10) (c 11) (c 12) (c 13) (i 8).toInt t9 0 (sfV (c 3) (c 6) (c 4) (kS (c 3) (c 6) t9) 0 t9))) w.toInt (mI (0 : Int32).toInt 0) (i 5).toInt ((updA (updA c1 20 (w : Int32).toNatClampNeg 0) 21 (0 : Int32).toNatClampNeg w) 20) ((updA (updA c1 20 (w : Int32).toNatClampNeg 0) 21 (0 : Int32).toNatClampNeg w) 21) (1 : Int32).toInt from BFI_0 (by omega) (fun t9 h9 h8 => by show (upd (c1 20) w.toNatClampNeg 0 t9).toInt = -9; rw [pk_un h8]; exact hz1_0 t9 (by omega)) (by show (upd (c1 20) w.toNatClampNeg 0 w.toNatClampNeg).toInt = 0; rw [pk_us]; decide) (by show upd (c1 21) 0 w 0 = w; exact pk_us) (by decide +kernel)) (Nat.lt_succ_self _) _ _ _ hP hD hS (lv_sub hl [0, 1, 2, 3, 4] rfl)
      · have f2 := mt (ti_le (a := (i1 5).toInt) (b := y1_3.toInt) rfl rfl).mpr c2
        refine lv_aload_n hx hb dX12_walk_10 rfl (lv_at hl 1 rfl) ?_
        refine mget_20 hx hb hts (fun _ h => List.mem_cons_of_mem _ (List.mem_append_right _ h)) hown hK hP (hts (.fieldLink RX12 44 "TalePlayModel" "far" "[I") (List.mem_cons_of_mem _ (List.mem_append_left _ (List.mem_append_left _ (List.mem_of_getElem? (i := 1) rfl))))) dX12_walk_11 ?_
        refine lv_iload_n hx hb dX12_walk_14 rfl (lv_at hl 0 rfl) ?_
        refine lv_bipush (v := (-9)) hx hb dX12_walk_15 (by decide +kernel) ?_
        refine mst_20 hx hb hK hP hD hS (vp_in_iff.mpr (by have h9 : y1_3.toInt = y1_3.toInt := rfl; omega)) dX12_walk_17 (fun H locs hP hD hS => ?_)
        have hI := mInv_c hI (k := 20) (j := (y1_3 : Int32).toNatClampNeg) (x := (-9)) (show ((-9) : Int32).toInt = -9 ∨ (0 ≤ ((-9) : Int32).toInt ∧ ((-9) : Int32).toInt ≤ 29) from by decide +kernel)
        have hfc := fr_c hfc (k := 20) (j := (y1_3 : Int32).toNatClampNeg) (x := (-9)) (by decide +kernel)
        obtain ⟨x43, ex43⟩ : ∃ y : Int32, y = y1_3 + 1 := ⟨_, rfl⟩
        have tx43 := ti_add (a := y1_3.toInt) (b := 1) ex43 rfl (by decide +kernel) (by omega) (by omega)
        refine lv_iinc (v := x43) (lv' := [(3, .int x43), (0, .ref o), (1, .int w), (2, .int b1)]) hx hb dX12_walk_18 hl (k := 0) rfl (by rw [ex43]; rfl) (by decide +kernel) rfl (fun ls hl => ?_)
        refine lv_goto (tgt := 2) hx hb dX12_walk_21 (by decide +kernel) ?_
        exact ih1 i1 q1 (updA c1 20 (y1_3 : Int32).toNatClampNeg (-9)) d1 x43 hI (fr_w hfi (by decide +kernel)) (fr_w hfc (by decide +kernel)) (show 0 ≤ x43.toInt ∧ x43.toInt ≤ 30 ∧ x43.toInt ≤ (i 5).toInt from by have h50 : x43.toInt = (y1_3.toInt + 1) := tx43; omega) (show ∀ x : Nat, (x : Int) < x43.toInt → ((updA c1 20 (y1_3 : Int32).toNatClampNeg (-9)) 20 x).toInt = -9 from fun t9 h9 => by show (upd (c1 20) y1_3.toNatClampNeg (-9) t9).toInt = -9; by_cases q9 : t9 = y1_3.toNatClampNeg; (· rw [q9, pk_us]; decide); (· rw [pk_un q9]; exact hz1_0 t9 (by have h8 := tx43; have h7 := cl_nn (x := y1_3) (by omega); omega))) (by have h50 : x43.toInt = (y1_3.toInt + 1) := tx43; omega) _ _ _ hP hD hS (lv_sub hl [0, 1, 2, 3] rfl)
  exact lp1 _ i q c d (0 : Int32) hI (fr_w hfi (by decide +kernel)) (fr_w hfc (by decide +kernel)) (show 0 ≤ (0 : Int32).toInt ∧ (0 : Int32).toInt ≤ 30 ∧ (0 : Int32).toInt ≤ (i 5).toInt from by have h50 : (0 : Int32).toInt = 0 := (by decide +kernel); omega) (show ∀ x : Nat, (x : Int) < (0 : Int32).toInt → (c 20 x).toInt = -9 from fun t9 h9 => by have h8 : (0 : Int32).toInt = 0 := (by decide +kernel); omega) (Nat.lt_succ_self _) _ _ _ hP hD hS (lv_sub hl [0, 1, 2, 3] rfl)

set_option maxHeartbeats 4000000 in
set_option maxRecDepth 100000 in
theorem s_X12_wayRefused_e (l : Launch) (D : va_G) (sz : Nat) (o : Nat) (a : Nat → Nat) (t : Nat → ClassId) (i : Nat → Int32) (q : Int64) (c : Nat → Nat → Int32) (d : Nat → Nat → Int64) (w1 : Int32) (w2 : Int32) (hI : mInv i c) : Met l yX12_wayRefused wm_X12_wayRefused ({ frames := 2, cells := 0, slots := 0, locals := 46 }) (va_Pc [.ref o, .int w1, .int w2] (pB D sz (mW o a t i q c d) (mT t))) (va_Qi (fun (r : Int32) (u : MS) => True ∧ mInv u.1 u.2.2.1 ∧ (∀ k, k ∉ ([0] : List Nat) → u.1 k = i k) ∧ (∀ k, k ∉ ([1] : List Nat) → u.2.2.1 k = c k) ∧ ((¬ (0 ≤ w1.toInt ∧ w1.toInt < (i 5).toInt ∧ 0 ≤ w2.toInt ∧ w2.toInt < (i 5).toInt) ∧ r.toInt = -1) ∨ ((0 ≤ w1.toInt ∧ w1.toInt < (i 5).toInt ∧ 0 ≤ w2.toInt ∧ w2.toInt < (i 5).toInt) ∧ ¬ (kS (c 3) (c 6) w1.toInt = 0 ∧ kS (c 3) (c 6) w2.toInt = 0) ∧ r.toInt = -3) ∨ ((0 ≤ w1.toInt ∧ w1.toInt < (i 5).toInt ∧ 0 ≤ w2.toInt ∧ w2.toInt < (i 5).toInt) ∧ (kS (c 3) (c 6) w1.toInt = 0 ∧ kS (c 3) (c 6) w2.toInt = 0) ∧ r.toInt = 0))) (oC D (va_A (mW o a t i q c d) sz) (fun u : MS => mW o a t u.1 u.2.1 u.2.2.1 u.2.2.2) (fun _ => [])) (va_A (mW o a t i q c d) sz)) 0 0 (va_A (mW o a t i q c d) sz) := by
  refine Met.ofW (cc := cX12_wayRefused) (maxL := 3) (ret := (some .int)) (by decide +kernel) rfl ?_
  intro p e s m args below meth cd s₁ B hml hv
  obtain ⟨rfl, hsz, hP, hK, hD0⟩ := hv
  have hx := B.exec
  have hb := B.bytes
  have hr := B.returns
  have hts := atoms_spec (ws := wm_X12_wayRefused) B.pre
  have hown : s.vm.findClass RX12 = some m.cls := findClass_of_methodNamed B.named
  have hlocks := B.notSynchronized
  subst hsz
  have hD := hD0.self (sz := s.heap.size)
  generalize hAe : va_A (mW o a t i q c d) s.heap.size = A at hD ⊢
  have hA : ∀ q : Nat, s.heap.size ≤ q → A q := fun q h => by rw [← hAe]; exact Or.inr h
  have hS : va_S A s.heap s.heap [] := va_S.rf
  have hfi : ∀ k, k ∉ ([] : List Nat) → i k = i k := fun _ _ => rfl
  have hfc : ∀ k, k ∉ ([] : List Nat) → c k = c k := fun _ _ => rfl
  have hl := lv_entry ([.ref o, .int w1, .int w2]) (n := 3) (Nat.le_of_ble_eq_true rfl)
  rw [lg_entry_eq]
  generalize (lg_sl ([.ref o, .int w1, .int w2]) ++ List.replicate (3 - (lg_sl ([.ref o, .int w1, .int w2])).length) Slot.unset).toArray = ls at hl ⊢
  have hl : lv_has ls 3 [(0, .ref o), (1, .int w1), (2, .int w2)] := hl
  have rb5_i : 0 ≤ (i 5).toInt ∧ (i 5).toInt ≤ 30 := hI.1 5
  refine lv_aload_n hx hb dX12_wayRefused_0 rfl (lv_at hl 0 rfl) ?_
  refine lv_iload_n hx hb dX12_wayRefused_1 rfl (lv_at hl 1 rfl) ?_
  refine ro_calli (va_runV (As := [.int w1]) (rest := []) ⟨hx, hb, hml, hown, hts⟩ (s_X12_isObject l D s.heap.size o a t i q c d w1 hI ) (cwV 1 hts gm_X12_wayRefused_X12_isObject rfl rfl rfl (by decide +kernel) ⟨Nat.le_of_ble_eq_true rfl, Nat.le_of_ble_eq_true rfl⟩) (pA_V hK hP (ci := 12) (q0 := 0) rfl rfl) rfl rfl hl.1 rfl (lv_room (Nat.le_of_ble_eq_true rfl)) dX12_wayRefused_2 ⟨Nat.le_of_ble_eq_true rfl, Nat.le_of_ble_eq_true rfl⟩) hS hA hP (fun r1 u1 H locs hw1 hP hS => ?_)
  have hw1 : r1 = if (0 ≤ w1.toInt ∧ w1.toInt ≤ (i 5).toInt - 1) then 1 else 0 := hw1
  refine lv_if_eq (tgt := 16) hx hb dX12_wayRefused_5 (by decide +kernel) (fun c2 => ?_) (fun c2 => ?_)
  · have f2 := fl_f hw1 c2
    refine lv_iconst (v := (-1)) hx hb dX12_wayRefused_16 (by decide +kernel) ?_
    refine lv_goto (tgt := 47) hx hb dX12_wayRefused_17 (by decide +kernel) ?_
    exact rw_iret (i, q, c, d) hx hb hr hlocks hS (hK.sub (tys' := []) [] rfl) hP hD dX12_wayRefused_47 ⟨trivial, hI, fr_w hfi (by decide +kernel), fr_w hfc (by decide +kernel), (show (¬ (0 ≤ w1.toInt ∧ w1.toInt < (i 5).toInt ∧ 0 ≤ w2.toInt ∧ w2.toInt < (i 5).toInt) ∧ ((-1) : Int32).toInt = -1) ∨ ((0 ≤ w1.toInt ∧ w1.toInt < (i 5).toInt ∧ 0 ≤ w2.toInt ∧ w2.toInt < (i 5).toInt) ∧ ¬ (kS (c 3) (c 6) w1.toInt = 0 ∧ kS (c 3) (c 6) w2.toInt = 0) ∧ ((-1) : Int32).toInt = -3) ∨ ((0 ≤ w1.toInt ∧ w1.toInt < (i 5).toInt ∧ 0 ≤ w2.toInt ∧ w2.toInt < (i 5).toInt) ∧ (kS (c 3) (c 6) w1.toInt = 0 ∧ kS (c 3) (c 6) w2.toInt = 0) ∧ ((-1) : Int32).toInt = 0) from by have h50 : ((-1) : Int32).toInt = -1 := (by decide +kernel); omega)⟩
  · have f2 := fl_t hw1 c2
    refine lv_aload_n hx hb dX12_wayRefused_8 rfl (lv_at hl 0 rfl) ?_
    refine lv_iload_n hx hb dX12_wayRefused_9 rfl (lv_at hl 2 rfl) ?_
    refine ro_calli (va_runV (As := [.int w2]) (rest := []) ⟨hx, hb, hml, hown, hts⟩ (s_X12_isObject l D H.size o a t i q c d w2 hI ) (cwV 1 hts gm_X12_wayRefused_X12_isObject rfl rfl rfl (by decide +kernel) ⟨Nat.le_of_ble_eq_true rfl, Nat.le_of_ble_eq_true rfl⟩) (pA_V hK hP (ci := 12) (q0 := 0) rfl rfl) rfl rfl hl.1 rfl (lv_room (Nat.le_of_ble_eq_true rfl)) dX12_wayRefused_10 ⟨Nat.le_of_ble_eq_true rfl, Nat.le_of_ble_eq_true rfl⟩) hS hA hP (fun r3 u3 H locs hw3 hP hS => ?_)
    have hw3 : r3 = if (0 ≤ w2.toInt ∧ w2.toInt ≤ (i 5).toInt - 1) then 1 else 0 := hw3
    refine lv_if_ne (tgt := 20) hx hb dX12_wayRefused_13 (by decide +kernel) (fun c4 => ?_) (fun c4 => ?_)
    · have f4 := fl_t hw3 c4
      refine lv_aload_n hx hb dX12_wayRefused_20 rfl (lv_at hl 0 rfl) ?_
      refine lv_iload_n hx hb dX12_wayRefused_21 rfl (lv_at hl 1 rfl) ?_
      refine lv_iconst (v := 0) hx hb dX12_wayRefused_22 (by decide +kernel) ?_
      refine ro_calli (va_runV (As := [.int w1, .int 0]) (rest := []) ⟨hx, hb, hml, hown, hts⟩ (s_X12_isOf_e l D H.size o a t i q c d w1 0 hI (show 0 ≤ w1.toInt ∧ w1.toInt ≤ 29 from by have h91 : (0 : Int32).toInt = 0 := (by decide +kernel); omega) (show 0 ≤ 0 ∧ 0 ≤ 5 from by decide +kernel)) (cwV 2 hts gm_X12_wayRefused_X12_isOf rfl rfl rfl (by decide +kernel) ⟨Nat.le_of_ble_eq_true rfl, Nat.le_of_ble_eq_true rfl⟩) (pA_V hK hP (ci := 12) (q0 := 0) rfl rfl) rfl rfl hl.1 rfl (lv_room (Nat.le_of_ble_eq_true rfl)) dX12_wayRefused_23 ⟨Nat.le_of_ble_eq_true rfl, Nat.le_of_ble_eq_true rfl⟩) hS hA hP (fun r5 u5 H locs hw5 hP hS => ?_)
      have hw5 : ((0 ≤ r5.toInt ∧ r5.toInt ≤ 1) ∧ (0 ≤ kS (c 3) (c 6) w1.toInt ∧ kS (c 3) (c 6) w1.toInt ≤ 5 ∧ ((r5.toInt = 1 ∧ (kS (c 3) (c 6) w1.toInt = 0 ∨ ((1 : Int) = 0 ∧ 1 < kS (c 3) (c 6) w1.toInt))) ∨ (r5.toInt = 0 ∧ ¬ (kS (c 3) (c 6) w1.toInt = 0 ∨ ((1 : Int) = 0 ∧ 1 < kS (c 3) (c 6) w1.toInt)))))) := hw5
      obtain ⟨hw5, hr5_0⟩ := hw5
      have hr5_0 : 0 ≤ kS (c 3) (c 6) w1.toInt ∧ kS (c 3) (c 6) w1.toInt ≤ 5 ∧ ((r5.toInt = 1 ∧ (kS (c 3) (c 6) w1.toInt = 0 ∨ ((1 : Int) = 0 ∧ 1 < kS (c 3) (c 6) w1.toInt))) ∨ (r5.toInt = 0 ∧ ¬ (kS (c 3) (c 6) w1.toInt = 0 ∨ ((1 : Int) = 0 ∧ 1 < kS (c 3) (c 6) w1.toInt)))) := hr5_0
      refine lv_if_eq (tgt := 38) hx hb dX12_wayRefused_26 (by decide +kernel) (fun c6 => ?_) (fun c6 => ?_)
      · have f6 := (ti_eq (a := r5.toInt) (b := 0) rfl (by decide +kernel)).mp c6
        refine lv_aload_n hx hb dX12_wayRefused_38 rfl (lv_at hl 0 rfl) ?_
        refine lv_iconst (v := 3) hx hb dX12_wayRefused_39 (by decide +kernel) ?_
        refine al_calli (va_runV (As := [.int 3]) (rest := []) ⟨hx, hb, hml, hown, hts⟩ (s_X12_meets l D H.size o a t i q c d 3 hI (show 1 ≤ 3 ∧ 3 ≤ 6 from by decide +kernel)) (cwV 1 hts gm_X12_wayRefused_X12_meets rfl rfl rfl (by decide +kernel) ⟨Nat.le_of_ble_eq_true rfl, Nat.le_of_ble_eq_true rfl⟩) (pB_V hK hP hD (ci := 12) (q0 := 0) rfl rfl) rfl rfl hl.1 rfl (lv_room (Nat.le_of_ble_eq_true rfl)) dX12_wayRefused_40 ⟨Nat.le_of_ble_eq_true rfl, Nat.le_of_ble_eq_true rfl⟩) hS hA hP hD (fun r7 u7 H locs hw7 hP hD hS => ?_)
        obtain ⟨i7, q7, c7, d7⟩ := u7
        have hw7 : r7 = (-3) ∧ mInv i7 c7 ∧ (∀ k, k ∉ ([0] : List Nat) → i7 k = i k) ∧ (∀ k, k ∉ ([1] : List Nat) → c7 k = c k) := hw7
        obtain ⟨hw7, hI, hei7, hec7⟩ := hw7
        have hfi : ∀ k, k ∉ ([0] : List Nat) → i7 k = i k := fr_z hfi hei7 (by decide +kernel) (by decide +kernel)
        have hfc : ∀ k, k ∉ ([1] : List Nat) → c7 k = c k := fr_z hfc hec7 (by decide +kernel) (by decide +kernel)
        have hP : va_P D vwCl (mW o a t i7 q7 c7 d7) H := hP
        have hD : va_D A (mW o a t i7 q7 c7 d7) := hD
        have hw7 : r7 = (-3) := hw7
        subst hw7
        refine lv_goto (tgt := 47) hx hb dX12_wayRefused_43 (by decide +kernel) ?_
        exact rw_iret (i7, q7, c7, d7) hx hb hr hlocks hS (hK.sub (tys' := []) [] rfl) hP hD dX12_wayRefused_47 ⟨trivial, hI, fr_w hfi (by decide +kernel), fr_w hfc (by decide +kernel), (show (¬ (0 ≤ w1.toInt ∧ w1.toInt < (i 5).toInt ∧ 0 ≤ w2.toInt ∧ w2.toInt < (i 5).toInt) ∧ ((-3) : Int32).toInt = -1) ∨ ((0 ≤ w1.toInt ∧ w1.toInt < (i 5).toInt ∧ 0 ≤ w2.toInt ∧ w2.toInt < (i 5).toInt) ∧ ¬ (kS (c 3) (c 6) w1.toInt = 0 ∧ kS (c 3) (c 6) w2.toInt = 0) ∧ ((-3) : Int32).toInt = -3) ∨ ((0 ≤ w1.toInt ∧ w1.toInt < (i 5).toInt ∧ 0 ≤ w2.toInt ∧ w2.toInt < (i 5).toInt) ∧ (kS (c 3) (c 6) w1.toInt = 0 ∧ kS (c 3) (c 6) w2.toInt = 0) ∧ ((-3) : Int32).toInt = 0) from by have h50 : ((-3) : Int32).toInt = -3 := (by decide +kernel); omega)⟩
      · have f6 := mt (ti_eq (a := r5.toInt) (b := 0) rfl (by decide +kernel)).mpr c6
        refine lv_aload_n hx hb dX12_wayRefused_29 rfl (lv_at hl 0 rfl) ?_
        refine lv_iload_n hx hb dX12_wayRefused_30 rfl (lv_at hl 2 rfl) ?_
        refine lv_iconst (v := 0) hx hb dX12_wayRefused_31 (by decide +kernel) ?_
        refine ro_calli (va_runV (As := [.int w2, .int 0]) (rest := []) ⟨hx, hb, hml, hown, hts⟩ (s_X12_isOf_e l D H.size o a t i q c d w2 0 hI (show 0 ≤ w2.toInt ∧ w2.toInt ≤ 29 from by have h91 : (0 : Int32).toInt = 0 := (by decide +kernel); omega) (show 0 ≤ 0 ∧ 0 ≤ 5 from by decide +kernel)) (cwV 2 hts gm_X12_wayRefused_X12_isOf rfl rfl rfl (by decide +kernel) ⟨Nat.le_of_ble_eq_true rfl, Nat.le_of_ble_eq_true rfl⟩) (pA_V hK hP (ci := 12) (q0 := 0) rfl rfl) rfl rfl hl.1 rfl (lv_room (Nat.le_of_ble_eq_true rfl)) dX12_wayRefused_32 ⟨Nat.le_of_ble_eq_true rfl, Nat.le_of_ble_eq_true rfl⟩) hS hA hP (fun r8 u8 H locs hw8 hP hS => ?_)
        have hw8 : ((0 ≤ r8.toInt ∧ r8.toInt ≤ 1) ∧ (0 ≤ kS (c 3) (c 6) w2.toInt ∧ kS (c 3) (c 6) w2.toInt ≤ 5 ∧ ((r8.toInt = 1 ∧ (kS (c 3) (c 6) w2.toInt = 0 ∨ ((1 : Int) = 0 ∧ 1 < kS (c 3) (c 6) w2.toInt))) ∨ (r8.toInt = 0 ∧ ¬ (kS (c 3) (c 6) w2.toInt = 0 ∨ ((1 : Int) = 0 ∧ 1 < kS (c 3) (c 6) w2.toInt)))))) := hw8
        obtain ⟨hw8, hr8_0⟩ := hw8
        have hr8_0 : 0 ≤ kS (c 3) (c 6) w2.toInt ∧ kS (c 3) (c 6) w2.toInt ≤ 5 ∧ ((r8.toInt = 1 ∧ (kS (c 3) (c 6) w2.toInt = 0 ∨ ((1 : Int) = 0 ∧ 1 < kS (c 3) (c 6) w2.toInt))) ∨ (r8.toInt = 0 ∧ ¬ (kS (c 3) (c 6) w2.toInt = 0 ∨ ((1 : Int) = 0 ∧ 1 < kS (c 3) (c 6) w2.toInt)))) := hr8_0
        refine lv_if_ne (tgt := 46) hx hb dX12_wayRefused_35 (by decide +kernel) (fun c9 => ?_) (fun c9 => ?_)
        · have f9 := mt (ti_eq (a := r8.toInt) (b := 0) rfl (by decide +kernel)).mpr c9
          refine lv_iconst (v := 0) hx hb dX12_wayRefused_46 (by decide +kernel) ?_
          exact rw_iret (i, q, c, d) hx hb hr hlocks hS (hK.sub (tys' := []) [] rfl) hP hD dX12_wayRefused_47 ⟨trivial, hI, fr_w hfi (by decide +kernel), fr_w hfc (by decide +kernel), (show (¬ (0 ≤ w1.toInt ∧ w1.toInt < (i 5).toInt ∧ 0 ≤ w2.toInt ∧ w2.toInt < (i 5).toInt) ∧ (0 : Int32).toInt = -1) ∨ ((0 ≤ w1.toInt ∧ w1.toInt < (i 5).toInt ∧ 0 ≤ w2.toInt ∧ w2.toInt < (i 5).toInt) ∧ ¬ (kS (c 3) (c 6) w1.toInt = 0 ∧ kS (c 3) (c 6) w2.toInt = 0) ∧ (0 : Int32).toInt = -3) ∨ ((0 ≤ w1.toInt ∧ w1.toInt < (i 5).toInt ∧ 0 ≤ w2.toInt ∧ w2.toInt < (i 5).toInt) ∧ (kS (c 3) (c 6) w1.toInt = 0 ∧ kS (c 3) (c 6) w2.toInt = 0) ∧ (0 : Int32).toInt = 0) from by have h50 : (0 : Int32).toInt = 0 := (by decide +kernel); omega)⟩
        · have f9 := (ti_eq (a := r8.toInt) (b := 0) rfl (by decide +kernel)).mp c9
          refine lv_aload_n hx hb dX12_wayRefused_38 rfl (lv_at hl 0 rfl) ?_
          refine lv_iconst (v := 3) hx hb dX12_wayRefused_39 (by decide +kernel) ?_
          refine al_calli (va_runV (As := [.int 3]) (rest := []) ⟨hx, hb, hml, hown, hts⟩ (s_X12_meets l D H.size o a t i q c d 3 hI (show 1 ≤ 3 ∧ 3 ≤ 6 from by decide +kernel)) (cwV 1 hts gm_X12_wayRefused_X12_meets rfl rfl rfl (by decide +kernel) ⟨Nat.le_of_ble_eq_true rfl, Nat.le_of_ble_eq_true rfl⟩) (pB_V hK hP hD (ci := 12) (q0 := 0) rfl rfl) rfl rfl hl.1 rfl (lv_room (Nat.le_of_ble_eq_true rfl)) dX12_wayRefused_40 ⟨Nat.le_of_ble_eq_true rfl, Nat.le_of_ble_eq_true rfl⟩) hS hA hP hD (fun r10 u10 H locs hw10 hP hD hS => ?_)
          obtain ⟨i10, q10, c10, d10⟩ := u10
          have hw10 : r10 = (-3) ∧ mInv i10 c10 ∧ (∀ k, k ∉ ([0] : List Nat) → i10 k = i k) ∧ (∀ k, k ∉ ([1] : List Nat) → c10 k = c k) := hw10
          obtain ⟨hw10, hI, hei10, hec10⟩ := hw10
          have hfi : ∀ k, k ∉ ([0] : List Nat) → i10 k = i k := fr_z hfi hei10 (by decide +kernel) (by decide +kernel)
          have hfc : ∀ k, k ∉ ([1] : List Nat) → c10 k = c k := fr_z hfc hec10 (by decide +kernel) (by decide +kernel)
          have hP : va_P D vwCl (mW o a t i10 q10 c10 d10) H := hP
          have hD : va_D A (mW o a t i10 q10 c10 d10) := hD
          have hw10 : r10 = (-3) := hw10
          subst hw10
          refine lv_goto (tgt := 47) hx hb dX12_wayRefused_43 (by decide +kernel) ?_
          exact rw_iret (i10, q10, c10, d10) hx hb hr hlocks hS (hK.sub (tys' := []) [] rfl) hP hD dX12_wayRefused_47 ⟨trivial, hI, fr_w hfi (by decide +kernel), fr_w hfc (by decide +kernel), (show (¬ (0 ≤ w1.toInt ∧ w1.toInt < (i 5).toInt ∧ 0 ≤ w2.toInt ∧ w2.toInt < (i 5).toInt) ∧ ((-3) : Int32).toInt = -1) ∨ ((0 ≤ w1.toInt ∧ w1.toInt < (i 5).toInt ∧ 0 ≤ w2.toInt ∧ w2.toInt < (i 5).toInt) ∧ ¬ (kS (c 3) (c 6) w1.toInt = 0 ∧ kS (c 3) (c 6) w2.toInt = 0) ∧ ((-3) : Int32).toInt = -3) ∨ ((0 ≤ w1.toInt ∧ w1.toInt < (i 5).toInt ∧ 0 ≤ w2.toInt ∧ w2.toInt < (i 5).toInt) ∧ (kS (c 3) (c 6) w1.toInt = 0 ∧ kS (c 3) (c 6) w2.toInt = 0) ∧ ((-3) : Int32).toInt = 0) from by have h50 : ((-3) : Int32).toInt = -3 := (by decide +kernel); omega)⟩
    · have f4 := fl_f hw3 c4
      refine lv_iconst (v := (-1)) hx hb dX12_wayRefused_16 (by decide +kernel) ?_
      refine lv_goto (tgt := 47) hx hb dX12_wayRefused_17 (by decide +kernel) ?_
      exact rw_iret (i, q, c, d) hx hb hr hlocks hS (hK.sub (tys' := []) [] rfl) hP hD dX12_wayRefused_47 ⟨trivial, hI, fr_w hfi (by decide +kernel), fr_w hfc (by decide +kernel), (show (¬ (0 ≤ w1.toInt ∧ w1.toInt < (i 5).toInt ∧ 0 ≤ w2.toInt ∧ w2.toInt < (i 5).toInt) ∧ ((-1) : Int32).toInt = -1) ∨ ((0 ≤ w1.toInt ∧ w1.toInt < (i 5).toInt ∧ 0 ≤ w2.toInt ∧ w2.toInt < (i 5).toInt) ∧ ¬ (kS (c 3) (c 6) w1.toInt = 0 ∧ kS (c 3) (c 6) w2.toInt = 0) ∧ ((-1) : Int32).toInt = -3) ∨ ((0 ≤ w1.toInt ∧ w1.toInt < (i 5).toInt ∧ 0 ≤ w2.toInt ∧ w2.toInt < (i 5).toInt) ∧ (kS (c 3) (c 6) w1.toInt = 0 ∧ kS (c 3) (c 6) w2.toInt = 0) ∧ ((-1) : Int32).toInt = 0) from by have h50 : ((-1) : Int32).toInt = -1 := (by decide +kernel); omega)⟩

def wm_X11_toward_e : List Cond := .code yX11_toward cX11_toward 5 (some .int) :: ((([.methodLink RX11 232 yX11_refuseRooms, .instanceMethod yX11_refuseRooms, .selects RX11 yX11_refuseRooms yX11_refuseRooms, .initialized RX11, .code yX11_refuseRooms cX11_refuseRooms 3 (some .int), .fieldLink RX11 10 "TalePlay" "world" "LTalePlay$World;", .methodLink RX11 109 yX10_hasObject, .instanceMethod yX10_hasObject, .selects RX10 yX10_hasObject yX10_hasObject, .initialized RX10, .code yX10_hasObject cX10_hasObject 2 (some .boolean), .fieldLink RX10 37 "TalePlay$World" "objects" "I", .methodLink RX11 125 yX10_sortOf, .instanceMethod yX10_sortOf, .selects RX10 yX10_sortOf yX10_sortOf, .code yX10_sortOf cX10_sortOf 2 (some .int)] : List Cond) ++ (([.fieldLink RX10 15 "TalePlay$World" "sorts" "[I", .fieldLink RX10 21 "TalePlay$World" "kindOf" "[I", .methodLink RX11 128 yX11_answerFinding, .instanceMethod yX11_answerFinding, .selects RX11 yX11_answerFinding yX11_answerFinding, .code yX11_answerFinding cX11_answerFinding 2 (some .int), .fieldLink RX11 72 "TalePlay" "latestFinding" "I", .fieldLink RX11 68 "TalePlay" "findingCounts" "[I", .fieldLink RX11 30 "TalePlay" "roads" "LTalePlay$Roads;", .methodLink RX11 235 yX5_walkFrom, .instanceMethod yX5_walkFrom, .selects RX5 yX5_walkFrom yX5_walkFrom, .initialized RX5, .code yX5_walkFrom cX5_walkFrom 8 none, .fieldLink RX5 30 "TalePlay$Roads" "steps" "[I", .methodLink RX5 50 yJ7_fill_53178] : List Cond) ++ (([.static yJ7_fill_53178, .initialized RJ7, .code yJ7_fill_53178 cJ7_fill_53178 4 none, .fieldLink RX5 33 "TalePlay$Roads" "firsts" "[I", .fieldLink RX5 36 "TalePlay$Roads" "queue" "[I", .fieldLink RX5 9 "TalePlay$Roads" "leads" "[I", .methodLink RX5 101 yX5_isPassable, .instanceMethod yX5_isPassable, .selects RX5 yX5_isPassable yX5_isPassable, .code yX5_isPassable cX5_isPassable 3 (some .boolean), .fieldLink RX5 15 "TalePlay$Roads" "doors" "[I", .fieldLink RX5 43 "TalePlay$Roads" "book" "LTalePlay$Book;", .methodLink RX5 105 yX1_saidFlag, .instanceMethod yX1_saidFlag, .selects RX1 yX1_saidFlag yX1_saidFlag, .initialized RX1] : List Cond) ++ ([.code yX1_saidFlag cX1_saidFlag 4 (some .int), .fieldLink RX1 34 "TalePlay$Book" "flagBy" "[I", .fieldLink RX1 21 "TalePlay$Book" "cs" "[I", .fieldLink RX1 43 "TalePlay$Book" "world" "LTalePlay$World;", .methodLink RX1 114 yX10_standardFor, .instanceMethod yX10_standardFor, .selects RX10 yX10_standardFor yX10_standardFor, .code yX10_standardFor cX10_standardFor 6 (some .int), .methodLink RX10 40 yX10_sortOf, .fieldLink RX10 18 "TalePlay$World" "standards" "[I", .fieldLink RX10 9 "TalePlay$World" "parents" "[I", .fieldLink RX11 242 "TalePlay$Roads" "firsts" "[I"] : List Cond)))) ++ wsX110 ++ wsX100 ++ wsX50 ++ wsX10)
set_option maxRecDepth 20000 in
theorem gm_X11_toward_e_X11_refuseRooms_e_232 : GoodIn wm_X11_toward_e (wsV RX11 232 RX11 yX11_refuseRooms wm_X11_refuseRooms_e) := goodIn_w (List.forall_mem_append.mpr ⟨List.forall_mem_cons.mpr ⟨List.mem_cons_of_mem _ (List.mem_append_left _ (List.mem_append_left _ (List.mem_append_left _ (List.mem_append_left _ (List.mem_append_left _ (List.mem_of_getElem? (i := 0) rfl)))))), List.forall_mem_cons.mpr ⟨List.mem_cons_of_mem _ (List.mem_append_left _ (List.mem_append_left _ (List.mem_append_left _ (List.mem_append_left _ (List.mem_append_left _ (List.mem_of_getElem? (i := 1) rfl)))))), List.forall_mem_cons.mpr ⟨List.mem_cons_of_mem _ (List.mem_append_left _ (List.mem_append_left _ (List.mem_append_left _ (List.mem_append_left _ (List.mem_append_left _ (List.mem_of_getElem? (i := 2) rfl)))))), List.forall_mem_cons.mpr ⟨List.mem_cons_of_mem _ (List.mem_append_left _ (List.mem_append_left _ (List.mem_append_left _ (List.mem_append_left _ (List.mem_append_left _ (List.mem_of_getElem? (i := 3) rfl)))))), (fun _ h => absurd h List.not_mem_nil)⟩⟩⟩⟩, List.forall_mem_cons.mpr ⟨List.mem_cons_of_mem _ (List.mem_append_left _ (List.mem_append_left _ (List.mem_append_left _ (List.mem_append_left _ (List.mem_append_left _ (List.mem_of_getElem? (i := 4) rfl)))))), List.forall_mem_append.mpr ⟨List.forall_mem_append.mpr ⟨List.forall_mem_append.mpr ⟨List.forall_mem_cons.mpr ⟨List.mem_cons_of_mem _ (List.mem_append_left _ (List.mem_append_left _ (List.mem_append_left _ (List.mem_append_left _ (List.mem_append_left _ (List.mem_of_getElem? (i := 5) rfl)))))), List.forall_mem_cons.mpr ⟨List.mem_cons_of_mem _ (List.mem_append_left _ (List.mem_append_left _ (List.mem_append_left _ (List.mem_append_left _ (List.mem_append_left _ (List.mem_of_getElem? (i := 6) rfl)))))), List.forall_mem_cons.mpr ⟨List.mem_cons_of_mem _ (List.mem_append_left _ (List.mem_append_left _ (List.mem_append_left _ (List.mem_append_left _ (List.mem_append_left _ (List.mem_of_getElem? (i := 7) rfl)))))), List.forall_mem_cons.mpr ⟨List.mem_cons_of_mem _ (List.mem_append_left _ (List.mem_append_left _ (List.mem_append_left _ (List.mem_append_left _ (List.mem_append_left _ (List.mem_of_getElem? (i := 8) rfl)))))), List.forall_mem_cons.mpr ⟨List.mem_cons_of_mem _ (List.mem_append_left _ (List.mem_append_left _ (List.mem_append_left _ (List.mem_append_left _ (List.mem_append_left _ (List.mem_of_getElem? (i := 9) rfl)))))), List.forall_mem_cons.mpr ⟨List.mem_cons_of_mem _ (List.mem_append_left _ (List.mem_append_left _ (List.mem_append_left _ (List.mem_append_left _ (List.mem_append_left _ (List.mem_of_getElem? (i := 10) rfl)))))), List.forall_mem_cons.mpr ⟨List.mem_cons_of_mem _ (List.mem_append_left _ (List.mem_append_left _ (List.mem_append_left _ (List.mem_append_left _ (List.mem_append_left _ (List.mem_of_getElem? (i := 11) rfl)))))), List.forall_mem_cons.mpr ⟨List.mem_cons_of_mem _ (List.mem_append_left _ (List.mem_append_left _ (List.mem_append_left _ (List.mem_append_left _ (List.mem_append_left _ (List.mem_of_getElem? (i := 12) rfl)))))), List.forall_mem_cons.mpr ⟨List.mem_cons_of_mem _ (List.mem_append_left _ (List.mem_append_left _ (List.mem_append_left _ (List.mem_append_left _ (List.mem_append_left _ (List.mem_of_getElem? (i := 13) rfl)))))), List.forall_mem_cons.mpr ⟨List.mem_cons_of_mem _ (List.mem_append_left _ (List.mem_append_left _ (List.mem_append_left _ (List.mem_append_left _ (List.mem_append_left _ (List.mem_of_getElem? (i := 14) rfl)))))), List.forall_mem_cons.mpr ⟨List.mem_cons_of_mem _ (List.mem_append_left _ (List.mem_append_left _ (List.mem_append_left _ (List.mem_append_left _ (List.mem_append_left _ (List.mem_of_getElem? (i := 15) rfl)))))), List.forall_mem_cons.mpr ⟨List.mem_cons_of_mem _ (List.mem_append_left _ (List.mem_append_left _ (List.mem_append_left _ (List.mem_append_left _ (List.mem_append_right _ (List.mem_append_left _ (List.mem_of_getElem? (i := 0) rfl))))))), List.forall_mem_cons.mpr ⟨List.mem_cons_of_mem _ (List.mem_append_left _ (List.mem_append_left _ (List.mem_append_left _ (List.mem_append_left _ (List.mem_append_right _ (List.mem_append_left _ (List.mem_of_getElem? (i := 1) rfl))))))), List.forall_mem_cons.mpr ⟨List.mem_cons_of_mem _ (List.mem_append_left _ (List.mem_append_left _ (List.mem_append_left _ (List.mem_append_left _ (List.mem_append_right _ (List.mem_append_left _ (List.mem_of_getElem? (i := 2) rfl))))))), List.forall_mem_cons.mpr ⟨List.mem_cons_of_mem _ (List.mem_append_left _ (List.mem_append_left _ (List.mem_append_left _ (List.mem_append_left _ (List.mem_append_right _ (List.mem_append_left _ (List.mem_of_getElem? (i := 3) rfl))))))), List.forall_mem_cons.mpr ⟨List.mem_cons_of_mem _ (List.mem_append_left _ (List.mem_append_left _ (List.mem_append_left _ (List.mem_append_left _ (List.mem_append_right _ (List.mem_append_left _ (List.mem_of_getElem? (i := 4) rfl))))))), (fun _ h => absurd h List.not_mem_nil)⟩⟩⟩⟩⟩⟩⟩⟩⟩⟩⟩⟩⟩⟩⟩⟩, List.forall_mem_cons.mpr ⟨List.mem_cons_of_mem _ (List.mem_append_left _ (List.mem_append_left _ (List.mem_append_left _ (List.mem_append_left _ (List.mem_append_left _ (List.mem_of_getElem? (i := 3) rfl)))))), List.forall_mem_cons.mpr ⟨List.mem_cons_of_mem _ (List.mem_append_left _ (List.mem_append_left _ (List.mem_append_left _ (List.mem_append_left _ (List.mem_append_right _ (List.mem_append_left _ (List.mem_of_getElem? (i := 5) rfl))))))), List.forall_mem_cons.mpr ⟨List.mem_cons_of_mem _ (List.mem_append_left _ (List.mem_append_left _ (List.mem_append_left _ (List.mem_append_left _ (List.mem_append_right _ (List.mem_append_left _ (List.mem_of_getElem? (i := 6) rfl))))))), List.forall_mem_cons.mpr ⟨List.mem_cons_of_mem _ (List.mem_append_left _ (List.mem_append_left _ (List.mem_append_left _ (List.mem_append_left _ (List.mem_append_right _ (List.mem_append_left _ (List.mem_of_getElem? (i := 7) rfl))))))), (fun _ h => absurd h List.not_mem_nil)⟩⟩⟩⟩⟩, (fun _ h => List.mem_cons_of_mem _ (List.mem_append_left _ (List.mem_append_left _ (List.mem_append_left _ (List.mem_append_right _ h)))))⟩, (fun _ h => List.mem_cons_of_mem _ (List.mem_append_left _ (List.mem_append_left _ (List.mem_append_right _ h))))⟩⟩⟩) (by decide +kernel)
set_option maxRecDepth 20000 in
theorem gm_X11_toward_e_X5_walkFrom_e_235 : GoodIn wm_X11_toward_e (wsV RX11 235 RX5 yX5_walkFrom wm_X5_walkFrom_e) := goodIn_w (List.forall_mem_append.mpr ⟨List.forall_mem_cons.mpr ⟨List.mem_cons_of_mem _ (List.mem_append_left _ (List.mem_append_left _ (List.mem_append_left _ (List.mem_append_left _ (List.mem_append_right _ (List.mem_append_left _ (List.mem_of_getElem? (i := 9) rfl))))))), List.forall_mem_cons.mpr ⟨List.mem_cons_of_mem _ (List.mem_append_left _ (List.mem_append_left _ (List.mem_append_left _ (List.mem_append_left _ (List.mem_append_right _ (List.mem_append_left _ (List.mem_of_getElem? (i := 10) rfl))))))), List.forall_mem_cons.mpr ⟨List.mem_cons_of_mem _ (List.mem_append_left _ (List.mem_append_left _ (List.mem_append_left _ (List.mem_append_left _ (List.mem_append_right _ (List.mem_append_left _ (List.mem_of_getElem? (i := 11) rfl))))))), List.forall_mem_cons.mpr ⟨List.mem_cons_of_mem _ (List.mem_append_left _ (List.mem_append_left _ (List.mem_append_left _ (List.mem_append_left _ (List.mem_append_right _ (List.mem_append_left _ (List.mem_of_getElem? (i := 12) rfl))))))), (fun _ h => absurd h List.not_mem_nil)⟩⟩⟩⟩, List.forall_mem_cons.mpr ⟨List.mem_cons_of_mem _ (List.mem_append_left _ (List.mem_append_left _ (List.mem_append_left _ (List.mem_append_left _ (List.mem_append_right _ (List.mem_append_left _ (List.mem_of_getElem? (i := 13) rfl))))))), List.forall_mem_append.mpr ⟨List.forall_mem_append.mpr ⟨List.forall_mem_append.mpr ⟨List.forall_mem_append.mpr ⟨List.forall_mem_cons.mpr ⟨List.mem_cons_of_mem _ (List.mem_append_left _ (List.mem_append_left _ (List.mem_append_left _ (List.mem_append_left _ (List.mem_append_right _ (List.mem_append_left _ (List.mem_of_getElem? (i := 14) rfl))))))), List.forall_mem_cons.mpr ⟨List.mem_cons_of_mem _ (List.mem_append_left _ (List.mem_append_left _ (List.mem_append_left _ (List.mem_append_left _ (List.mem_append_right _ (List.mem_append_left _ (List.mem_of_getElem? (i := 15) rfl))))))), List.forall_mem_cons.mpr ⟨List.mem_cons_of_mem _ (List.mem_append_left _ (List.mem_append_left _ (List.mem_append_left _ (List.mem_append_left _ (List.mem_append_right _ (List.mem_append_right _ (List.mem_append_left _ (List.mem_of_getElem? (i := 0) rfl)))))))), List.forall_mem_cons.mpr ⟨List.mem_cons_of_mem _ (List.mem_append_left _ (List.mem_append_left _ (List.mem_append_left _ (List.mem_append_left _ (List.mem_append_right _ (List.mem_append_right _ (List.mem_append_left _ (List.mem_of_getElem? (i := 1) rfl)))))))), List.forall_mem_cons.mpr ⟨List.mem_cons_of_mem _ (List.mem_append_left _ (List.mem_append_left _ (List.mem_append_left _ (List.mem_append_left _ (List.mem_append_right _ (List.mem_append_right _ (List.mem_append_left _ (List.mem_of_getElem? (i := 2) rfl)))))))), List.forall_mem_cons.mpr ⟨List.mem_cons_of_mem _ (List.mem_append_left _ (List.mem_append_left _ (List.mem_append_left _ (List.mem_append_left _ (List.mem_append_right _ (List.mem_append_right _ (List.mem_append_left _ (List.mem_of_getElem? (i := 3) rfl)))))))), List.forall_mem_cons.mpr ⟨List.mem_cons_of_mem _ (List.mem_append_left _ (List.mem_append_left _ (List.mem_append_left _ (List.mem_append_left _ (List.mem_append_right _ (List.mem_append_right _ (List.mem_append_left _ (List.mem_of_getElem? (i := 4) rfl)))))))), List.forall_mem_cons.mpr ⟨List.mem_cons_of_mem _ (List.mem_append_left _ (List.mem_append_left _ (List.mem_append_left _ (List.mem_append_left _ (List.mem_append_right _ (List.mem_append_right _ (List.mem_append_left _ (List.mem_of_getElem? (i := 5) rfl)))))))), List.forall_mem_cons.mpr ⟨List.mem_cons_of_mem _ (List.mem_append_left _ (List.mem_append_left _ (List.mem_append_left _ (List.mem_append_left _ (List.mem_append_right _ (List.mem_append_right _ (List.mem_append_left _ (List.mem_of_getElem? (i := 6) rfl)))))))), List.forall_mem_cons.mpr ⟨List.mem_cons_of_mem _ (List.mem_append_left _ (List.mem_append_left _ (List.mem_append_left _ (List.mem_append_left _ (List.mem_append_right _ (List.mem_append_right _ (List.mem_append_left _ (List.mem_of_getElem? (i := 7) rfl)))))))), List.forall_mem_cons.mpr ⟨List.mem_cons_of_mem _ (List.mem_append_left _ (List.mem_append_left _ (List.mem_append_left _ (List.mem_append_left _ (List.mem_append_right _ (List.mem_append_right _ (List.mem_append_left _ (List.mem_of_getElem? (i := 8) rfl)))))))), List.forall_mem_cons.mpr ⟨List.mem_cons_of_mem _ (List.mem_append_left _ (List.mem_append_left _ (List.mem_append_left _ (List.mem_append_left _ (List.mem_append_right _ (List.mem_append_left _ (List.mem_of_getElem? (i := 12) rfl))))))), List.forall_mem_cons.mpr ⟨List.mem_cons_of_mem _ (List.mem_append_left _ (List.mem_append_left _ (List.mem_append_left _ (List.mem_append_left _ (List.mem_append_right _ (List.mem_append_right _ (List.mem_append_left _ (List.mem_of_getElem? (i := 9) rfl)))))))), List.forall_mem_cons.mpr ⟨List.mem_cons_of_mem _ (List.mem_append_left _ (List.mem_append_left _ (List.mem_append_left _ (List.mem_append_left _ (List.mem_append_right _ (List.mem_append_right _ (List.mem_append_left _ (List.mem_of_getElem? (i := 10) rfl)))))))), List.forall_mem_cons.mpr ⟨List.mem_cons_of_mem _ (List.mem_append_left _ (List.mem_append_left _ (List.mem_append_left _ (List.mem_append_left _ (List.mem_append_right _ (List.mem_append_right _ (List.mem_append_left _ (List.mem_of_getElem? (i := 11) rfl)))))))), List.forall_mem_cons.mpr ⟨List.mem_cons_of_mem _ (List.mem_append_left _ (List.mem_append_left _ (List.mem_append_left _ (List.mem_append_left _ (List.mem_append_right _ (List.mem_append_right _ (List.mem_append_left _ (List.mem_of_getElem? (i := 12) rfl)))))))), (fun _ h => absurd h List.not_mem_nil)⟩⟩⟩⟩⟩⟩⟩⟩⟩⟩⟩⟩⟩⟩⟩⟩, List.forall_mem_append.mpr ⟨List.forall_mem_cons.mpr ⟨List.mem_cons_of_mem _ (List.mem_append_left _ (List.mem_append_left _ (List.mem_append_left _ (List.mem_append_left _ (List.mem_append_right _ (List.mem_append_right _ (List.mem_append_left _ (List.mem_of_getElem? (i := 13) rfl)))))))), List.forall_mem_cons.mpr ⟨List.mem_cons_of_mem _ (List.mem_append_left _ (List.mem_append_left _ (List.mem_append_left _ (List.mem_append_left _ (List.mem_append_right _ (List.mem_append_right _ (List.mem_append_left _ (List.mem_of_getElem? (i := 14) rfl)))))))), List.forall_mem_cons.mpr ⟨List.mem_cons_of_mem _ (List.mem_append_left _ (List.mem_append_left _ (List.mem_append_left _ (List.mem_append_left _ (List.mem_append_right _ (List.mem_append_right _ (List.mem_append_left _ (List.mem_of_getElem? (i := 15) rfl)))))))), List.forall_mem_cons.mpr ⟨List.mem_cons_of_mem _ (List.mem_append_left _ (List.mem_append_left _ (List.mem_append_left _ (List.mem_append_left _ (List.mem_append_right _ (List.mem_append_right _ (List.mem_append_right _ (List.mem_of_getElem? (i := 0) rfl)))))))), List.forall_mem_cons.mpr ⟨List.mem_cons_of_mem _ (List.mem_append_left _ (List.mem_append_left _ (List.mem_append_left _ (List.mem_append_left _ (List.mem_append_right _ (List.mem_append_right _ (List.mem_append_right _ (List.mem_of_getElem? (i := 1) rfl)))))))), List.forall_mem_cons.mpr ⟨List.mem_cons_of_mem _ (List.mem_append_left _ (List.mem_append_left _ (List.mem_append_left _ (List.mem_append_left _ (List.mem_append_right _ (List.mem_append_right _ (List.mem_append_right _ (List.mem_of_getElem? (i := 2) rfl)))))))), List.forall_mem_cons.mpr ⟨List.mem_cons_of_mem _ (List.mem_append_left _ (List.mem_append_left _ (List.mem_append_left _ (List.mem_append_left _ (List.mem_append_right _ (List.mem_append_right _ (List.mem_append_right _ (List.mem_of_getElem? (i := 3) rfl)))))))), List.forall_mem_cons.mpr ⟨List.mem_cons_of_mem _ (List.mem_append_left _ (List.mem_append_left _ (List.mem_append_left _ (List.mem_append_left _ (List.mem_append_right _ (List.mem_append_right _ (List.mem_append_right _ (List.mem_of_getElem? (i := 4) rfl)))))))), List.forall_mem_cons.mpr ⟨List.mem_cons_of_mem _ (List.mem_append_left _ (List.mem_append_left _ (List.mem_append_left _ (List.mem_append_left _ (List.mem_append_right _ (List.mem_append_right _ (List.mem_append_right _ (List.mem_of_getElem? (i := 5) rfl)))))))), List.forall_mem_cons.mpr ⟨List.mem_cons_of_mem _ (List.mem_append_left _ (List.mem_append_left _ (List.mem_append_left _ (List.mem_append_left _ (List.mem_append_right _ (List.mem_append_right _ (List.mem_append_right _ (List.mem_of_getElem? (i := 6) rfl)))))))), List.forall_mem_cons.mpr ⟨List.mem_cons_of_mem _ (List.mem_append_left _ (List.mem_append_left _ (List.mem_append_left _ (List.mem_append_left _ (List.mem_append_left _ (List.mem_of_getElem? (i := 9) rfl)))))), List.forall_mem_cons.mpr ⟨List.mem_cons_of_mem _ (List.mem_append_left _ (List.mem_append_left _ (List.mem_append_left _ (List.mem_append_left _ (List.mem_append_right _ (List.mem_append_right _ (List.mem_append_right _ (List.mem_of_getElem? (i := 7) rfl)))))))), List.forall_mem_cons.mpr ⟨List.mem_cons_of_mem _ (List.mem_append_left _ (List.mem_append_left _ (List.mem_append_left _ (List.mem_append_left _ (List.mem_append_right _ (List.mem_append_left _ (List.mem_of_getElem? (i := 1) rfl))))))), List.forall_mem_cons.mpr ⟨List.mem_cons_of_mem _ (List.mem_append_left _ (List.mem_append_left _ (List.mem_append_left _ (List.mem_append_left _ (List.mem_append_right _ (List.mem_append_right _ (List.mem_append_right _ (List.mem_of_getElem? (i := 8) rfl)))))))), List.forall_mem_cons.mpr ⟨List.mem_cons_of_mem _ (List.mem_append_left _ (List.mem_append_left _ (List.mem_append_left _ (List.mem_append_left _ (List.mem_append_left _ (List.mem_of_getElem? (i := 13) rfl)))))), List.forall_mem_cons.mpr ⟨List.mem_cons_of_mem _ (List.mem_append_left _ (List.mem_append_left _ (List.mem_append_left _ (List.mem_append_left _ (List.mem_append_left _ (List.mem_of_getElem? (i := 14) rfl)))))), (fun _ h => absurd h List.not_mem_nil)⟩⟩⟩⟩⟩⟩⟩⟩⟩⟩⟩⟩⟩⟩⟩⟩, List.forall_mem_cons.mpr ⟨List.mem_cons_of_mem _ (List.mem_append_left _ (List.mem_append_left _ (List.mem_append_left _ (List.mem_append_left _ (List.mem_append_left _ (List.mem_of_getElem? (i := 15) rfl)))))), List.forall_mem_cons.mpr ⟨List.mem_cons_of_mem _ (List.mem_append_left _ (List.mem_append_left _ (List.mem_append_left _ (List.mem_append_left _ (List.mem_append_left _ (List.mem_of_getElem? (i := 11) rfl)))))), List.forall_mem_cons.mpr ⟨List.mem_cons_of_mem _ (List.mem_append_left _ (List.mem_append_left _ (List.mem_append_left _ (List.mem_append_left _ (List.mem_append_right _ (List.mem_append_left _ (List.mem_of_getElem? (i := 0) rfl))))))), List.forall_mem_cons.mpr ⟨List.mem_cons_of_mem _ (List.mem_append_left _ (List.mem_append_left _ (List.mem_append_left _ (List.mem_append_left _ (List.mem_append_right _ (List.mem_append_right _ (List.mem_append_right _ (List.mem_of_getElem? (i := 9) rfl)))))))), List.forall_mem_cons.mpr ⟨List.mem_cons_of_mem _ (List.mem_append_left _ (List.mem_append_left _ (List.mem_append_left _ (List.mem_append_left _ (List.mem_append_right _ (List.mem_append_right _ (List.mem_append_right _ (List.mem_of_getElem? (i := 10) rfl)))))))), (fun _ h => absurd h List.not_mem_nil)⟩⟩⟩⟩⟩⟩⟩, (fun _ h => List.mem_cons_of_mem _ (List.mem_append_left _ (List.mem_append_right _ h)))⟩, (fun _ h => List.mem_cons_of_mem _ (List.mem_append_right _ h))⟩, (fun _ h => List.mem_cons_of_mem _ (List.mem_append_left _ (List.mem_append_left _ (List.mem_append_right _ h))))⟩⟩⟩) (by decide +kernel)
set_option maxHeartbeats 4000000 in
set_option maxRecDepth 100000 in
theorem x_X11_toward_e (l : Launch) (D : va_G) (sz : Nat) (sk : Value) (a : Nat → Nat) (t : Nat → ClassId) (i : Nat → Int32) (q : Int64) (c : Nat → Nat → Int32) (d : Nat → Nat → Int64) (w1 : Int32) (w2 : Int32) (b1 : Int32) (hI : xInv i c) (hs_D : PD (c 105)) (hs_O : DoN (c 130) (i 111).toInt) : Met l yX11_toward wm_X11_toward_e ({ frames := 5, cells := 0, slots := 0, locals := 118 }) (va_Pc [.ref (a 100), .int w1, .int w2, .int b1] (yB (a 186) D sz (xwT sk a t i q c d) (xtT t))) (va_Qi (fun (r : Int32) (u : MS) => True ∧ xInv u.1 u.2.2.1 ∧ (∀ k, k ∉ ([102] : List Nat) → u.1 k = i k) ∧ (∀ k, k ∉ ([101, 135, 136, 137] : List Nat) → u.2.2.1 k = c k) ∧ (WyR (i 111).toInt w1.toInt w2.toInt (c 106 (c 108 w1.toInt.toNat).toNatClampNeg).toInt (c 106 (c 108 w2.toInt.toNat).toNatClampNeg).toInt r.toInt (fun z9 => z9 = bfF (gX (c 129) (c 130) b1.toInt (fun t9 : Int => sgX (c 120) (c 116) t9 0 (sfV (c 105) (c 108) (c 107) (c 106 (c 108 t9.toNat).toNatClampNeg).toInt 0 t9))) w1.toInt 300 w2.toInt))) (oC D (va_A (xwT sk a t i q c d) sz) (fun u : MS => xwT sk a t u.1 u.2.1 u.2.2.1 u.2.2.2) (fun _ => [])) (va_A (xwT sk a t i q c d) sz)) 0 0 (va_A (xwT sk a t i q c d) sz) := by
  refine Met.ofW (cc := cX11_toward) (maxL := 5) (ret := (some .int)) (by decide +kernel) rfl ?_
  intro p e s m args below meth cd s₁ B hml hv
  obtain ⟨rfl, ⟨hsz, hP, hK, hD0⟩, hN, hZ, hBW⟩ := hv
  have hx := B.exec
  have hb := B.bytes
  have hr := B.returns
  have hts := atoms_spec (ws := wm_X11_toward_e) B.pre
  have hown : s.vm.findClass RX11 = some m.cls := findClass_of_methodNamed B.named
  have hlocks := B.notSynchronized
  subst hsz
  have hD := hD0.self (sz := s.heap.size)
  have hZ := xZ_A hZ hP hBW
  generalize hAe : va_A (xwT sk a t i q c d) s.heap.size = A at hD hZ ⊢
  have hA : ∀ q : Nat, s.heap.size ≤ q → A q := fun q h => by rw [← hAe]; exact Or.inr h
  have hS : va_S A s.heap s.heap [] := va_S.rf
  have hfi : ∀ k, k ∉ ([] : List Nat) → i k = i k := fun _ _ => rfl
  have hfc : ∀ k, k ∉ ([] : List Nat) → c k = c k := fun _ _ => rfl
  have hl := lv_entry ([.ref (a 100), .int w1, .int w2, .int b1]) (n := 5) (Nat.le_of_ble_eq_true rfl)
  rw [lg_entry_eq]
  generalize (lg_sl ([.ref (a 100), .int w1, .int w2, .int b1]) ++ List.replicate (5 - (lg_sl ([.ref (a 100), .int w1, .int w2, .int b1])).length) Slot.unset).toArray = ls at hl ⊢
  have hl : lv_has ls 5 [(0, .ref (a 100)), (1, .int w1), (2, .int w2), (3, .int b1)] := hl
  have rb111_i : 0 ≤ (i 111).toInt ∧ (i 111).toInt ≤ 30 := hI.1 111
  refine lv_aload_n hx hb dX11_toward_0 rfl (lv_at hl 0 rfl) ?_
  refine lv_iload_n hx hb dX11_toward_1 rfl (lv_at hl 1 rfl) ?_
  refine lv_iload_n hx hb dX11_toward_2 rfl (lv_at hl 2 rfl) ?_
  refine al_calli (va_runV (As := [.int w1, .int w2]) (rest := []) ⟨hx, hb, hml, hown, hts⟩ (x_X11_refuseRooms_e l D s.heap.size sk a t i q c d w1 w2 hI ) (cwV 2 hts gm_X11_toward_e_X11_refuseRooms_e_232 rfl rfl rfl (by decide +kernel) ⟨Nat.le_of_ble_eq_true rfl, Nat.le_of_ble_eq_true rfl⟩) (yB_V hN (xZ_k hZ hS hA) (xZ_n hZ hD) hK hP hD (ci := 11) (q0 := 0) rfl rfl) rfl rfl hl.1 rfl (lv_room (Nat.le_of_ble_eq_true rfl)) dX11_toward_3 ⟨Nat.le_of_ble_eq_true rfl, Nat.le_of_ble_eq_true rfl⟩) hS hA hP hD (fun r1 u1 H locs hw1 hP hD hS => ?_)
  obtain ⟨i1, q1, c1, d1⟩ := u1
  have hw1 : True ∧ xInv i1 c1 ∧ (∀ k, k ∉ ([102] : List Nat) → i1 k = i k) ∧ (∀ k, k ∉ ([101] : List Nat) → c1 k = c k) ∧ ((¬ (0 ≤ w1.toInt ∧ w1.toInt < (i 111).toInt ∧ 0 ≤ w2.toInt ∧ w2.toInt < (i 111).toInt) ∧ r1.toInt = -1) ∨ ((0 ≤ w1.toInt ∧ w1.toInt < (i 111).toInt ∧ 0 ≤ w2.toInt ∧ w2.toInt < (i 111).toInt) ∧ ¬ ((c 106 (c 108 w1.toInt.toNat).toNatClampNeg).toInt = 0 ∧ (c 106 (c 108 w2.toInt.toNat).toNatClampNeg).toInt = 0) ∧ r1.toInt = -3) ∨ ((0 ≤ w1.toInt ∧ w1.toInt < (i 111).toInt ∧ 0 ≤ w2.toInt ∧ w2.toInt < (i 111).toInt) ∧ ((c 106 (c 108 w1.toInt.toNat).toNatClampNeg).toInt = 0 ∧ (c 106 (c 108 w2.toInt.toNat).toNatClampNeg).toInt = 0) ∧ r1.toInt = 0)) := hw1
  obtain ⟨hw1, hI, hei1, hec1, hxp1_0⟩ := hw1
  have hxp1_0 : (¬ (0 ≤ w1.toInt ∧ w1.toInt < (i 111).toInt ∧ 0 ≤ w2.toInt ∧ w2.toInt < (i 111).toInt) ∧ r1.toInt = -1) ∨ ((0 ≤ w1.toInt ∧ w1.toInt < (i 111).toInt ∧ 0 ≤ w2.toInt ∧ w2.toInt < (i 111).toInt) ∧ ¬ ((c 106 (c 108 w1.toInt.toNat).toNatClampNeg).toInt = 0 ∧ (c 106 (c 108 w2.toInt.toNat).toNatClampNeg).toInt = 0) ∧ r1.toInt = -3) ∨ ((0 ≤ w1.toInt ∧ w1.toInt < (i 111).toInt ∧ 0 ≤ w2.toInt ∧ w2.toInt < (i 111).toInt) ∧ ((c 106 (c 108 w1.toInt.toNat).toNatClampNeg).toInt = 0 ∧ (c 106 (c 108 w2.toInt.toNat).toNatClampNeg).toInt = 0) ∧ r1.toInt = 0) := hxp1_0
  have hfi : ∀ k, k ∉ ([102] : List Nat) → i1 k = i k := fr_z hfi hei1 (by decide +kernel) (by decide +kernel)
  have hfc : ∀ k, k ∉ ([101] : List Nat) → c1 k = c k := fr_z hfc hec1 (by decide +kernel) (by decide +kernel)
  refine lv_istore (lv' := [(4, .int r1), (0, .ref (a 100)), (1, .int w1), (2, .int w2), (3, .int b1)]) hx hb dX11_toward_6 hl (by decide +kernel) rfl (fun ls hl => ?_)
  refine lv_iload hx hb dX11_toward_8 (lv_at hl 0 rfl) ?_
  refine lv_if_eq (tgt := 16) hx hb dX11_toward_10 (by decide +kernel) (fun c2 => ?_) (fun c2 => ?_)
  · have f2 := (ti_eq (a := r1.toInt) (b := 0) rfl (by decide +kernel)).mp c2
    refine lv_aload_n hx hb dX11_toward_16 rfl (lv_at hl 1 rfl) ?_
    refine xgT_X_roads hx hb hts (fun _ h => List.mem_cons_of_mem _ (List.mem_append_left _ (List.mem_append_left _ (List.mem_append_left _ (List.mem_append_right _ h))))) hown hK hP (hts (.fieldLink RX11 30 "TalePlay" "roads" "LTalePlay$Roads;") (List.mem_cons_of_mem _ (List.mem_append_left _ (List.mem_append_left _ (List.mem_append_left _ (List.mem_append_left _ (List.mem_append_right _ (List.mem_append_left _ (List.mem_of_getElem? (i := 8) rfl))))))))) dX11_toward_17 ?_
    refine lv_iload_n hx hb dX11_toward_20 rfl (lv_at hl 2 rfl) ?_
    refine lv_iload_n hx hb dX11_toward_21 rfl (lv_at hl 4 rfl) ?_
    have rb111_i1 : 0 ≤ (i1 111).toInt ∧ (i1 111).toInt ≤ 30 := hI.1 111
    have re111_i1 : (i1 111).toInt = (i 111).toInt := congrArg Int32.toInt (hfi 111 (by decide +kernel))
    refine al_callv (va_runV (As := [.int w1, .int b1]) (rest := []) ⟨hx, hb, hml, hown, hts⟩ (x_X5_walkFrom_e l D H.size sk a t i1 q1 c1 d1 w1 b1 hI (show 0 ≤ w1.toInt ∧ w1.toInt ≤ 29 from by omega) (by rw [show c1 105 = c 105 from hfc 105 (by decide +kernel)]; exact hs_D) (by rw [show c1 130 = c 130 from hfc 130 (by decide +kernel), show i1 111 = i 111 from hfi 111 (by decide +kernel)]; exact hs_O)) (cwV 2 hts gm_X11_toward_e_X5_walkFrom_e_235 rfl rfl rfl (by decide +kernel) ⟨Nat.le_of_ble_eq_true rfl, Nat.le_of_ble_eq_true rfl⟩) (yB_V hN (xZ_k hZ hS hA) (xZ_n hZ hD) hK hP hD (ci := 5) (q0 := 21) rfl rfl) rfl rfl hl.1 rfl (lv_room (Nat.le_of_ble_eq_true rfl)) dX11_toward_22 ⟨Nat.le_of_ble_eq_true rfl, Nat.le_of_ble_eq_true rfl⟩) hS hA hP hD (fun u3 H locs hw3 hP hD hS => ?_)
    obtain ⟨i3, q3, c3, d3⟩ := u3
    have hw3 : True ∧ xInv i3 c3 ∧ (∀ k, k ∉ ([] : List Nat) → i3 k = i1 k) ∧ (∀ k, k ∉ ([135, 136, 137] : List Nat) → c3 k = c1 k) ∧ (BfE (gX (c1 129) (c1 130) b1.toInt (fun t9 : Int => sgX (c1 120) (c1 116) t9 0 (sfV (c1 105) (c1 108) (c1 107) (c1 106 (c1 108 t9.toNat).toNatClampNeg).toInt 0 t9))) w1.toInt 30 (c3 135)) ∧ (BFF (gX (c1 129) (c1 130) b1.toInt (fun t9 : Int => sgX (c1 120) (c1 116) t9 0 (sfV (c1 105) (c1 108) (c1 107) (c1 106 (c1 108 t9.toNat).toNatClampNeg).toInt 0 t9))) w1.toInt 300 30 (c3 136)) := hw3
    obtain ⟨hw3, hI, hei3, hec3, hxp3_0, hxp3_1⟩ := hw3
    have hxp3_0 : BfE (gX (c 129) (c 130) b1.toInt (fun t9 : Int => sgX (c 120) (c 116) t9 0 (sfV (c 105) (c 108) (c 107) (c 106 (c 108 t9.toNat).toNatClampNeg).toInt 0 t9))) w1.toInt 30 (c3 135) := by have h9 := hxp3_0; rw [show c1 105 = c 105 from hfc 105 (by decide +kernel), show c1 106 = c 106 from hfc 106 (by decide +kernel), show c1 107 = c 107 from hfc 107 (by decide +kernel), show c1 108 = c 108 from hfc 108 (by decide +kernel), show c1 116 = c 116 from hfc 116 (by decide +kernel), show c1 120 = c 120 from hfc 120 (by decide +kernel), show c1 129 = c 129 from hfc 129 (by decide +kernel), show c1 130 = c 130 from hfc 130 (by decide +kernel)] at h9; exact h9
    have hxp3_1 : BFF (gX (c 129) (c 130) b1.toInt (fun t9 : Int => sgX (c 120) (c 116) t9 0 (sfV (c 105) (c 108) (c 107) (c 106 (c 108 t9.toNat).toNatClampNeg).toInt 0 t9))) w1.toInt 300 30 (c3 136) := by have h9 := hxp3_1; rw [show c1 105 = c 105 from hfc 105 (by decide +kernel), show c1 106 = c 106 from hfc 106 (by decide +kernel), show c1 107 = c 107 from hfc 107 (by decide +kernel), show c1 108 = c 108 from hfc 108 (by decide +kernel), show c1 116 = c 116 from hfc 116 (by decide +kernel), show c1 120 = c 120 from hfc 120 (by decide +kernel), show c1 129 = c 129 from hfc 129 (by decide +kernel), show c1 130 = c 130 from hfc 130 (by decide +kernel)] at h9; exact h9
    have hfi : ∀ k, k ∉ ([102] : List Nat) → i3 k = i k := fr_z hfi hei3 (by decide +kernel) (by decide +kernel)
    have hfc : ∀ k, k ∉ ([101, 135, 136, 137] : List Nat) → c3 k = c k := fr_z hfc hec3 (by decide +kernel) (by decide +kernel)
    refine lv_aload_n hx hb dX11_toward_25 rfl (lv_at hl 1 rfl) ?_
    refine xgT_X_roads hx hb hts (fun _ h => List.mem_cons_of_mem _ (List.mem_append_left _ (List.mem_append_left _ (List.mem_append_left _ (List.mem_append_right _ h))))) hown hK hP (hts (.fieldLink RX11 30 "TalePlay" "roads" "LTalePlay$Roads;") (List.mem_cons_of_mem _ (List.mem_append_left _ (List.mem_append_left _ (List.mem_append_left _ (List.mem_append_left _ (List.mem_append_right _ (List.mem_append_left _ (List.mem_of_getElem? (i := 8) rfl))))))))) dX11_toward_26 ?_
    refine xgT_R_firsts hx hb hts (fun _ h => List.mem_cons_of_mem _ (List.mem_append_left _ (List.mem_append_right _ h))) hown hK hP (hts (.fieldLink RX11 242 "TalePlay$Roads" "firsts" "[I") (List.mem_cons_of_mem _ (List.mem_append_left _ (List.mem_append_left _ (List.mem_append_left _ (List.mem_append_left _ (List.mem_append_right _ (List.mem_append_right _ (List.mem_append_right _ (List.mem_of_getElem? (i := 11) rfl)))))))))) dX11_toward_29 ?_
    refine lv_iload_n hx hb dX11_toward_32 rfl (lv_at hl 3 rfl) ?_
    refine xlT_136 hx hb hK hP (vp_in_iff.mpr (by have h9 : w2.toInt = w2.toInt := rfl; omega)) dX11_toward_33 (fun x4 ex4 => ?_)
    have gx4 : (c3 136 (w2 : Int32).toNatClampNeg).toInt = x4.toInt := by rw [ex4]
    exact rw_iret (i3, q3, c3, d3) hx hb hr hlocks hS (hK.sub (tys' := []) [] rfl) hP hD dX11_toward_34 ⟨trivial, hI, fr_w hfi (by decide +kernel), fr_w hfc (by decide +kernel), (show WyR (i 111).toInt w1.toInt w2.toInt (c 106 (c 108 w1.toInt.toNat).toNatClampNeg).toInt (c 106 (c 108 w2.toInt.toNat).toNatClampNeg).toInt (x4 : Int32).toInt (fun z9 => z9 = bfF (gX (c 129) (c 130) b1.toInt (fun t9 : Int => sgX (c 120) (c 116) t9 0 (sfV (c 105) (c 108) (c 107) (c 106 (c 108 t9.toNat).toNatClampNeg).toInt 0 t9))) w1.toInt 300 w2.toInt) from Or.inr (Or.inr ⟨by omega, by omega, by show x4.toInt = _; have h9 := hxp3_1 w2.toNatClampNeg (by rw [cl_nn (by omega)]; omega); rw [cl_nn (by omega)] at h9; rw [← h9]; exact gx4.symm⟩))⟩
  · have f2 := mt (ti_eq (a := r1.toInt) (b := 0) rfl (by decide +kernel)).mpr c2
    refine lv_iload hx hb dX11_toward_13 (lv_at hl 0 rfl) ?_
    exact rw_iret (i1, q1, c1, d1) hx hb hr hlocks hS (hK.sub (tys' := []) [] rfl) hP hD dX11_toward_15 ⟨trivial, hI, fr_w hfi (by decide +kernel), fr_w hfc (by decide +kernel), (show WyR (i 111).toInt w1.toInt w2.toInt (c 106 (c 108 w1.toInt.toNat).toNatClampNeg).toInt (c 106 (c 108 w2.toInt.toNat).toNatClampNeg).toInt (r1 : Int32).toInt (fun z9 => z9 = bfF (gX (c 129) (c 130) b1.toInt (fun t9 : Int => sgX (c 120) (c 116) t9 0 (sfV (c 105) (c 108) (c 107) (c 106 (c 108 t9.toNat).toNatClampNeg).toInt 0 t9))) w1.toInt 300 w2.toInt) from by rcases hxp1_0 with h9 | h9 | h9; (· exact Or.inl h9); (· exact Or.inr (Or.inl h9)); (· exfalso; omega))⟩

set_option maxHeartbeats 4000000 in
set_option maxRecDepth 100000 in
theorem s_X12_toward_e (l : Launch) (D : va_G) (sz : Nat) (o : Nat) (a : Nat → Nat) (t : Nat → ClassId) (i : Nat → Int32) (q : Int64) (c : Nat → Nat → Int32) (d : Nat → Nat → Int64) (w1 : Int32) (w2 : Int32) (b1 : Int32) (hI : mInv i c) (hs_S : SJ (c 3) (c 6) (c 9) (c 10) (c 11) (c 13) (i 2).toInt (i 5).toInt (i 8).toInt) : Met l yX12_toward wm_X12_toward ({ frames := 3, cells := 0, slots := 0, locals := 74 }) (va_Pc [.ref o, .int w1, .int w2, .int b1] (pB D sz (mW o a t i q c d) (mT t))) (va_Qi (fun (r : Int32) (u : MS) => True ∧ mInv u.1 u.2.2.1 ∧ (∀ k, k ∉ ([0, 16, 17, 18, 19] : List Nat) → u.1 k = i k) ∧ (∀ k, k ∉ ([1, 20, 21] : List Nat) → u.2.2.1 k = c k) ∧ (WyR (i 5).toInt w1.toInt w2.toInt (kS (c 3) (c 6) w1.toInt) (kS (c 3) (c 6) w2.toInt) r.toInt (fun z9 => TdM (wM (c 3) (c 6) (c 9) (c 10) (c 11) (c 12) (c 13) (i 8).toInt b1.toInt (fun t9 : Int => sgM (c 9) (c 10) (c 11) (c 12) (c 13) (i 8).toInt t9 0 (sfV (c 3) (c 6) (c 4) (kS (c 3) (c 6) t9) 0 t9))) w1.toInt w2.toInt 300 z9))) (oC D (va_A (mW o a t i q c d) sz) (fun u : MS => mW o a t u.1 u.2.1 u.2.2.1 u.2.2.2) (fun _ => [])) (va_A (mW o a t i q c d) sz)) 0 0 (va_A (mW o a t i q c d) sz) := by
  refine Met.ofW (cc := cX12_toward) (maxL := 9) (ret := (some .int)) (by decide +kernel) rfl ?_
  intro p e s m args below meth cd s₁ B hml hv
  obtain ⟨rfl, hsz, hP, hK, hD0⟩ := hv
  have hx := B.exec
  have hb := B.bytes
  have hr := B.returns
  have hts := atoms_spec (ws := wm_X12_toward) B.pre
  have hown : s.vm.findClass RX12 = some m.cls := findClass_of_methodNamed B.named
  have hlocks := B.notSynchronized
  subst hsz
  have hD := hD0.self (sz := s.heap.size)
  generalize hAe : va_A (mW o a t i q c d) s.heap.size = A at hD ⊢
  have hA : ∀ q : Nat, s.heap.size ≤ q → A q := fun q h => by rw [← hAe]; exact Or.inr h
  have hS : va_S A s.heap s.heap [] := va_S.rf
  have hfi : ∀ k, k ∉ ([] : List Nat) → i k = i k := fun _ _ => rfl
  have hfc : ∀ k, k ∉ ([] : List Nat) → c k = c k := fun _ _ => rfl
  have hl := lv_entry ([.ref o, .int w1, .int w2, .int b1]) (n := 9) (Nat.le_of_ble_eq_true rfl)
  rw [lg_entry_eq]
  generalize (lg_sl ([.ref o, .int w1, .int w2, .int b1]) ++ List.replicate (9 - (lg_sl ([.ref o, .int w1, .int w2, .int b1])).length) Slot.unset).toArray = ls at hl ⊢
  have hl : lv_has ls 9 [(0, .ref o), (1, .int w1), (2, .int w2), (3, .int b1)] := hl
  have rb5_i : 0 ≤ (i 5).toInt ∧ (i 5).toInt ≤ 30 := hI.1 5
  refine lv_aload_n hx hb dX12_toward_0 rfl (lv_at hl 0 rfl) ?_
  refine lv_iload_n hx hb dX12_toward_1 rfl (lv_at hl 1 rfl) ?_
  refine lv_iload_n hx hb dX12_toward_2 rfl (lv_at hl 2 rfl) ?_
  refine al_calli (va_runV (As := [.int w1, .int w2]) (rest := []) ⟨hx, hb, hml, hown, hts⟩ (s_X12_wayRefused_e l D s.heap.size o a t i q c d w1 w2 hI ) (cwV 2 hts gm_X12_toward_X12_wayRefused rfl rfl rfl (by decide +kernel) ⟨Nat.le_of_ble_eq_true rfl, Nat.le_of_ble_eq_true rfl⟩) (pB_V hK hP hD (ci := 12) (q0 := 0) rfl rfl) rfl rfl hl.1 rfl (lv_room (Nat.le_of_ble_eq_true rfl)) dX12_toward_3 ⟨Nat.le_of_ble_eq_true rfl, Nat.le_of_ble_eq_true rfl⟩) hS hA hP hD (fun r1 u1 H locs hw1 hP hD hS => ?_)
  obtain ⟨i1, q1, c1, d1⟩ := u1
  have hw1 : True ∧ mInv i1 c1 ∧ (∀ k, k ∉ ([0] : List Nat) → i1 k = i k) ∧ (∀ k, k ∉ ([1] : List Nat) → c1 k = c k) ∧ ((¬ (0 ≤ w1.toInt ∧ w1.toInt < (i 5).toInt ∧ 0 ≤ w2.toInt ∧ w2.toInt < (i 5).toInt) ∧ r1.toInt = -1) ∨ ((0 ≤ w1.toInt ∧ w1.toInt < (i 5).toInt ∧ 0 ≤ w2.toInt ∧ w2.toInt < (i 5).toInt) ∧ ¬ (kS (c 3) (c 6) w1.toInt = 0 ∧ kS (c 3) (c 6) w2.toInt = 0) ∧ r1.toInt = -3) ∨ ((0 ≤ w1.toInt ∧ w1.toInt < (i 5).toInt ∧ 0 ≤ w2.toInt ∧ w2.toInt < (i 5).toInt) ∧ (kS (c 3) (c 6) w1.toInt = 0 ∧ kS (c 3) (c 6) w2.toInt = 0) ∧ r1.toInt = 0)) := hw1
  obtain ⟨hw1, hI, hei1, hec1, hxp1_0⟩ := hw1
  have hxp1_0 : (¬ (0 ≤ w1.toInt ∧ w1.toInt < (i 5).toInt ∧ 0 ≤ w2.toInt ∧ w2.toInt < (i 5).toInt) ∧ r1.toInt = -1) ∨ ((0 ≤ w1.toInt ∧ w1.toInt < (i 5).toInt ∧ 0 ≤ w2.toInt ∧ w2.toInt < (i 5).toInt) ∧ ¬ (kS (c 3) (c 6) w1.toInt = 0 ∧ kS (c 3) (c 6) w2.toInt = 0) ∧ r1.toInt = -3) ∨ ((0 ≤ w1.toInt ∧ w1.toInt < (i 5).toInt ∧ 0 ≤ w2.toInt ∧ w2.toInt < (i 5).toInt) ∧ (kS (c 3) (c 6) w1.toInt = 0 ∧ kS (c 3) (c 6) w2.toInt = 0) ∧ r1.toInt = 0) := hxp1_0
  have hfi : ∀ k, k ∉ ([0] : List Nat) → i1 k = i k := fr_z hfi hei1 (by decide +kernel) (by decide +kernel)
  have hfc : ∀ k, k ∉ ([1] : List Nat) → c1 k = c k := fr_z hfc hec1 (by decide +kernel) (by decide +kernel)
  have hP : va_P D vwCl (mW o a t i1 q1 c1 d1) H := hP
  have hD : va_D A (mW o a t i1 q1 c1 d1) := hD
  refine lv_istore (lv' := [(4, .int r1), (0, .ref o), (1, .int w1), (2, .int w2), (3, .int b1)]) hx hb dX12_toward_6 hl (by decide +kernel) rfl (fun ls hl => ?_)
  refine lv_iload hx hb dX12_toward_8 (lv_at hl 0 rfl) ?_
  refine lv_if_ge (tgt := 16) hx hb dX12_toward_10 (by decide +kernel) (fun c2 => ?_) (fun c2 => ?_)
  · have f2 := (ti_le (a := 0) (b := r1.toInt) (by decide +kernel) rfl).mp c2
    refine lv_aload_n hx hb dX12_toward_16 rfl (lv_at hl 1 rfl) ?_
    refine lv_iload_n hx hb dX12_toward_17 rfl (lv_at hl 2 rfl) ?_
    refine lv_iload_n hx hb dX12_toward_18 rfl (lv_at hl 4 rfl) ?_
    have rb2_i1 : 6 ≤ (i1 2).toInt ∧ (i1 2).toInt ≤ 24 := hI.1 2
    have re2_i1 : (i1 2).toInt = (i 2).toInt := congrArg Int32.toInt (hfi 2 (by decide +kernel))
    have rb5_i1 : 0 ≤ (i1 5).toInt ∧ (i1 5).toInt ≤ 30 := hI.1 5
    have re5_i1 : (i1 5).toInt = (i 5).toInt := congrArg Int32.toInt (hfi 5 (by decide +kernel))
    have rb8_i1 : 0 ≤ (i1 8).toInt ∧ (i1 8).toInt ≤ 200 := hI.1 8
    have re8_i1 : (i1 8).toInt = (i 8).toInt := congrArg Int32.toInt (hfi 8 (by decide +kernel))
    refine al_callv (va_runV (As := [.int w1, .int b1]) (rest := []) ⟨hx, hb, hml, hown, hts⟩ (s_X12_walk_e l D H.size o a t i1 q1 c1 d1 w1 b1 hI (show 0 ≤ w1.toInt ∧ w1.toInt < ((i1 5) : Int32).toInt from by omega) (by rw [show c1 3 = c 3 from hfc 3 (by decide +kernel), show c1 6 = c 6 from hfc 6 (by decide +kernel), show c1 9 = c 9 from hfc 9 (by decide +kernel), show c1 10 = c 10 from hfc 10 (by decide +kernel), show c1 11 = c 11 from hfc 11 (by decide +kernel), show c1 13 = c 13 from hfc 13 (by decide +kernel), show i1 2 = i 2 from hfi 2 (by decide +kernel), show i1 5 = i 5 from hfi 5 (by decide +kernel), show i1 8 = i 8 from hfi 8 (by decide +kernel)]; exact hs_S)) (cwV 2 hts gm_X12_toward_X12_walk rfl rfl rfl (by decide +kernel) ⟨Nat.le_of_ble_eq_true rfl, Nat.le_of_ble_eq_true rfl⟩) (pB_V hK hP hD (ci := 12) (q0 := 0) rfl rfl) rfl rfl hl.1 rfl (lv_room (Nat.le_of_ble_eq_true rfl)) dX12_toward_19 ⟨Nat.le_of_ble_eq_true rfl, Nat.le_of_ble_eq_true rfl⟩) hS hA hP hD (fun u3 H locs hw3 hP hD hS => ?_)
    obtain ⟨i3, q3, c3, d3⟩ := u3
    have hw3 : True ∧ mInv i3 c3 ∧ (∀ k, k ∉ ([16, 17, 18, 19] : List Nat) → i3 k = i1 k) ∧ (∀ k, k ∉ ([20, 21] : List Nat) → c3 k = c1 k) ∧ (BfE (wM (c1 3) (c1 6) (c1 9) (c1 10) (c1 11) (c1 12) (c1 13) (i1 8).toInt b1.toInt (fun t9 : Int => sgM (c1 9) (c1 10) (c1 11) (c1 12) (c1 13) (i1 8).toInt t9 0 (sfV (c1 3) (c1 6) (c1 4) (kS (c1 3) (c1 6) t9) 0 t9))) w1.toInt (i1 5).toInt (c3 20)) := hw3
    obtain ⟨hw3, hI, hei3, hec3, hxp3_0⟩ := hw3
    have hxp3_0 : BfE (wM (c 3) (c 6) (c 9) (c 10) (c 11) (c 12) (c 13) (i 8).toInt b1.toInt (fun t9 : Int => sgM (c 9) (c 10) (c 11) (c 12) (c 13) (i 8).toInt t9 0 (sfV (c 3) (c 6) (c 4) (kS (c 3) (c 6) t9) 0 t9))) w1.toInt (i 5).toInt (c3 20) := by have h9 := hxp3_0; rw [show c1 3 = c 3 from hfc 3 (by decide +kernel), show c1 4 = c 4 from hfc 4 (by decide +kernel), show c1 6 = c 6 from hfc 6 (by decide +kernel), show c1 9 = c 9 from hfc 9 (by decide +kernel), show c1 10 = c 10 from hfc 10 (by decide +kernel), show c1 11 = c 11 from hfc 11 (by decide +kernel), show c1 12 = c 12 from hfc 12 (by decide +kernel), show c1 13 = c 13 from hfc 13 (by decide +kernel), show i1 5 = i 5 from hfi 5 (by decide +kernel), show i1 8 = i 8 from hfi 8 (by decide +kernel)] at h9; exact h9
    have hfi : ∀ k, k ∉ ([0, 16, 17, 18, 19] : List Nat) → i3 k = i k := fr_z hfi hei3 (by decide +kernel) (by decide +kernel)
    have hfc : ∀ k, k ∉ ([1, 20, 21] : List Nat) → c3 k = c k := fr_z hfc hec3 (by decide +kernel) (by decide +kernel)
    have hP : va_P D vwCl (mW o a t i3 q3 c3 d3) H := hP
    have hD : va_D A (mW o a t i3 q3 c3 d3) := hD
    refine lv_aload_n hx hb dX12_toward_22 rfl (lv_at hl 1 rfl) ?_
    refine mget_20 hx hb hts (fun _ h => List.mem_cons_of_mem _ (List.mem_append_right _ h)) hown hK hP (hts (.fieldLink RX12 44 "TalePlayModel" "far" "[I") (List.mem_cons_of_mem _ (List.mem_append_left _ (List.mem_append_right _ (List.mem_append_left _ (List.mem_of_getElem? (i := 13) rfl)))))) dX12_toward_23 ?_
    refine lv_iload_n hx hb dX12_toward_26 rfl (lv_at hl 3 rfl) ?_
    refine mld_20 hx hb hK hP (vp_in_iff.mpr (by have h9 : w2.toInt = w2.toInt := rfl; omega)) dX12_toward_27 (fun x4 ex4 => ?_)
    have rx4 : x4.toInt = -9 ∨ (0 ≤ x4.toInt ∧ x4.toInt ≤ 29) := by rw [ex4]; exact hI.2 20 _
    have gx4 : (c3 20 (w2 : Int32).toNatClampNeg).toInt = x4.toInt := by rw [ex4]
    have hAL : x4.toInt = bfS (wM (c 3) (c 6) (c 9) (c 10) (c 11) (c 12) (c 13) (i 8).toInt b1.toInt (fun t9 : Int => sgM (c 9) (c 10) (c 11) (c 12) (c 13) (i 8).toInt t9 0 (sfV (c 3) (c 6) (c 4) (kS (c 3) (c 6) t9) 0 t9))) w1.toInt 300 w2.toInt := by have h9 := hxp3_0 w2.toNatClampNeg (by rw [cl_nn (by omega)]; omega); rw [cl_nn (by omega)] at h9; rw [← h9]; exact gx4.symm
    refine lv_istore (lv' := [(5, .int x4), (4, .int r1), (0, .ref o), (1, .int w1), (2, .int w2), (3, .int b1)]) hx hb dX12_toward_28 hl (by decide +kernel) rfl (fun ls hl => ?_)
    refine lv_iload hx hb dX12_toward_30 (lv_at hl 0 rfl) ?_
    refine lv_bipush (v := (-9)) hx hb dX12_toward_32 (by decide +kernel) ?_
    refine lv_icmp_eq (tgt := 42) hx hb dX12_toward_34 (by decide +kernel) (fun c5 => ?_) (fun c5 => ?_)
    · have f5 := (ti_eq (a := x4.toInt) (b := (-9)) rfl (by decide +kernel)).mp c5
      refine lv_bipush (v := (-9)) hx hb dX12_toward_42 (by decide +kernel) ?_
      exact rw_iret (i3, q3, c3, d3) hx hb hr hlocks hS (hK.sub (tys' := []) [] rfl) hP hD dX12_toward_44 ⟨trivial, hI, fr_w hfi (by decide +kernel), fr_w hfc (by decide +kernel), (show WyR (i 5).toInt w1.toInt w2.toInt (kS (c 3) (c 6) w1.toInt) (kS (c 3) (c 6) w2.toInt) ((-9) : Int32).toInt (fun z9 => TdM (wM (c 3) (c 6) (c 9) (c 10) (c 11) (c 12) (c 13) (i 8).toInt b1.toInt (fun t9 : Int => sgM (c 9) (c 10) (c 11) (c 12) (c 13) (i 8).toInt t9 0 (sfV (c 3) (c 6) (c 4) (kS (c 3) (c 6) t9) 0 t9))) w1.toInt w2.toInt 300 z9) from Or.inr (Or.inr ⟨by omega, by omega, Or.inl ⟨by rw [← hAL]; omega, by decide⟩⟩))⟩
    · have f5 := mt (ti_eq (a := x4.toInt) (b := (-9)) rfl (by decide +kernel)).mpr c5
      refine lv_iload hx hb dX12_toward_37 (lv_at hl 0 rfl) ?_
      refine lv_if_ne (tgt := 45) hx hb dX12_toward_39 (by decide +kernel) (fun c6 => ?_) (fun c6 => ?_)
      · have f6 := mt (ti_eq (a := x4.toInt) (b := 0) rfl (by decide +kernel)).mpr c6
        refine lv_iconst (v := 0) hx hb dX12_toward_45 (by decide +kernel) ?_
        refine lv_istore (lv' := [(6, .int 0), (5, .int x4), (4, .int r1), (0, .ref o), (1, .int w1), (2, .int w2), (3, .int b1)]) hx hb dX12_toward_46 hl (by decide +kernel) rfl (fun ls hl => ?_)
        have lp7 : ∀ (fu : Nat) (i7 : Nat → Int32) (q7 : Int64) (c7 : Nat → Nat → Int32) (d7 : Nat → Nat → Int64) (y7_6 : Int32), mInv i7 c7 → (∀ k, k ∉ ([0, 16, 17, 18, 19] : List Nat) → i7 k = i k) → (∀ k, k ∉ ([1, 20, 21] : List Nat) → c7 k = c k) → (0 ≤ y7_6.toInt ∧ y7_6.toInt ≤ 10) → (∀ d9 : Nat, (d9 : Int) < y7_6.toInt → NoD (wM (c 3) (c 6) (c 9) (c 10) (c 11) (c 12) (c 13) (i 8).toInt b1.toInt (fun t9 : Int => sgM (c 9) (c 10) (c 11) (c 12) (c 13) (i 8).toInt t9 0 (sfV (c 3) (c 6) (c 4) (kS (c 3) (c 6) t9) 0 t9))) w1.toInt w2.toInt 300 d9) → (10 - y7_6.toInt).toNat < fu → ∀ (H : Heap) (locs : List Loc) (ls : Array Slot), va_P D vwCl (mW o a t i7 q7 c7 d7) H → va_D A (mW o a t i7 q7 c7 d7) → va_S A s.heap H locs → lv_has ls 9 [(6, .int y7_6), (5, .int x4), (4, .int r1), (0, .ref o), (1, .int w1), (2, .int w2), (3, .int b1)] → W p l e (headSpec wm_X12_toward ({ frames := 3, cells := 0, slots := 0, locals := 74 })).room s m ([.ref o, .int w1, .int w2, .int b1] : List Value).toArray below meth cd H locs 0 0 (MQ below (va_Qi (fun (r : Int32) (u : MS) => True ∧ mInv u.1 u.2.2.1 ∧ (∀ k, k ∉ ([0, 16, 17, 18, 19] : List Nat) → u.1 k = i k) ∧ (∀ k, k ∉ ([1, 20, 21] : List Nat) → u.2.2.1 k = c k) ∧ (WyR (i 5).toInt w1.toInt w2.toInt (kS (c 3) (c 6) w1.toInt) (kS (c 3) (c 6) w2.toInt) r.toInt (fun z9 => TdM (wM (c 3) (c 6) (c 9) (c 10) (c 11) (c 12) (c 13) (i 8).toInt b1.toInt (fun t9 : Int => sgM (c 9) (c 10) (c 11) (c 12) (c 13) (i 8).toInt t9 0 (sfV (c 3) (c 6) (c 4) (kS (c 3) (c 6) t9) 0 t9))) w1.toInt w2.toInt 300 z9))) (oC D A (fun u : MS => mW o a t u.1 u.2.1 u.2.2.1 u.2.2.2) (fun _ => [])) A) ([.ref o, .int w1, .int w2, .int b1] : List Value).toArray s 0 0 A) (F0 m 48 ls []) := by
          intro fu
          induction fu with
          | zero => intro i7 q7 c7 d7 y7_6 hI hfi hfc hy7_6 hz7_0 hm; exact absurd hm (Nat.not_lt_zero _)
          | succ fu ih =>
            intro i7 q7 c7 d7 y7_6 hI hfi hfc hy7_6 hz7_0 hm H locs ls hP hD hS hl
            have ih7 := ih
            refine lv_iload hx hb dX12_toward_48 (lv_at hl 0 rfl) ?_
            refine lv_bipush (v := 10) hx hb dX12_toward_50 (by decide +kernel) ?_
            refine lv_icmp_ge (tgt := 147) hx hb dX12_toward_52 (by decide +kernel) (fun c8 => ?_) (fun c8 => ?_)
            · have f8 := (ti_le (a := 10) (b := y7_6.toInt) (by decide +kernel) rfl).mp c8
              refine lv_bipush (v := (-9)) hx hb dX12_toward_147 (by decide +kernel) ?_
              exact rw_iret (i7, q7, c7, d7) hx hb hr hlocks hS (hK.sub (tys' := []) [] rfl) hP hD dX12_toward_149 ⟨trivial, hI, fr_w hfi (by decide +kernel), fr_w hfc (by decide +kernel), (show WyR (i 5).toInt w1.toInt w2.toInt (kS (c 3) (c 6) w1.toInt) (kS (c 3) (c 6) w2.toInt) ((-9) : Int32).toInt (fun z9 => TdM (wM (c 3) (c 6) (c 9) (c 10) (c 11) (c 12) (c 13) (i 8).toInt b1.toInt (fun t9 : Int => sgM (c 9) (c 10) (c 11) (c 12) (c 13) (i 8).toInt t9 0 (sfV (c 3) (c 6) (c 4) (kS (c 3) (c 6) t9) 0 t9))) w1.toInt w2.toInt 300 z9) from Or.inr (Or.inr ⟨by omega, by omega, Or.inr ⟨by rw [← hAL]; omega, by rw [← hAL]; omega, Or.inr ⟨by decide, fun d9 h9 => hz7_0 d9 (by omega)⟩⟩⟩))⟩
            · have f8 := mt (ti_le (a := 10) (b := y7_6.toInt) (by decide +kernel) rfl).mpr c8
              refine lv_aload_n hx hb dX12_toward_55 rfl (lv_at hl 3 rfl) ?_
              refine lv_iload_n hx hb dX12_toward_56 rfl (lv_at hl 4 rfl) ?_
              refine lv_iload hx hb dX12_toward_57 (lv_at hl 0 rfl) ?_
              have rb8_i7 : 0 ≤ (i7 8).toInt ∧ (i7 8).toInt ≤ 200 := hI.1 8
              have re8_i7 : (i7 8).toInt = (i 8).toInt := congrArg Int32.toInt (hfi 8 (by decide +kernel))
              refine al_calli (va_runV (As := [.int w1, .int y7_6]) (rest := []) ⟨hx, hb, hml, hown, hts⟩ (s_X12_findExit_e l D H.size o a t i7 q7 c7 d7 w1 y7_6 hI (show 0 ≤ w1.toInt ∧ w1.toInt ≤ 29 from by omega) (show 0 ≤ y7_6.toInt ∧ y7_6.toInt ≤ 9 from by omega)) (cwV 2 hts gm_X12_toward_X12_findExit rfl rfl rfl (by decide +kernel) ⟨Nat.le_of_ble_eq_true rfl, Nat.le_of_ble_eq_true rfl⟩) (pB_V hK hP hD (ci := 12) (q0 := 0) rfl rfl) rfl rfl hl.1 rfl (lv_room (Nat.le_of_ble_eq_true rfl)) dX12_toward_59 ⟨Nat.le_of_ble_eq_true rfl, Nat.le_of_ble_eq_true rfl⟩) hS hA hP hD (fun r9 u9 H locs hw9 hP hD hS => ?_)
              obtain ⟨i9, q9, c9, d9⟩ := u9
              have hw9 : (0 ≤ r9.toInt ∧ r9.toInt ≤ 1) ∧ mInv i9 c9 ∧ (∀ k, k ∉ ([16, 17, 18, 19] : List Nat) → i9 k = i7 k) ∧ (∀ k, k ∉ ([] : List Nat) → c9 k = c7 k) ∧ (FeM (c7 3) (c7 6) (c7 9) (c7 10) (c7 11) (c7 12) (c7 13) (i7 8).toInt w1.toInt y7_6.toInt (i9 16).toInt (i9 17).toInt (i9 18).toInt (i9 19).toInt) ∧ ((r9.toInt = 1 ∧ ¬ (i9 18).toInt = -9) ∨ (r9.toInt = 0 ∧ (i9 18).toInt = -9)) := hw9
              obtain ⟨hw9, hI, hei9, hec9, hxp9_0, hxp9_1⟩ := hw9
              have hxp9_0 : FeM (c 3) (c 6) (c 9) (c 10) (c 11) (c 12) (c 13) (i 8).toInt w1.toInt y7_6.toInt (i9 16).toInt (i9 17).toInt (i9 18).toInt (i9 19).toInt := by have h9 := hxp9_0; rw [show c7 3 = c 3 from hfc 3 (by decide +kernel), show c7 6 = c 6 from hfc 6 (by decide +kernel), show c7 9 = c 9 from hfc 9 (by decide +kernel), show c7 10 = c 10 from hfc 10 (by decide +kernel), show c7 11 = c 11 from hfc 11 (by decide +kernel), show c7 12 = c 12 from hfc 12 (by decide +kernel), show c7 13 = c 13 from hfc 13 (by decide +kernel), show i7 8 = i 8 from hfi 8 (by decide +kernel)] at h9; exact h9
              have hxp9_1 : (r9.toInt = 1 ∧ ¬ (i9 18).toInt = -9) ∨ (r9.toInt = 0 ∧ (i9 18).toInt = -9) := hxp9_1
              have hfi : ∀ k, k ∉ ([0, 16, 17, 18, 19] : List Nat) → i9 k = i k := fr_z hfi hei9 (by decide +kernel) (by decide +kernel)
              have hfc : ∀ k, k ∉ ([1, 20, 21] : List Nat) → c9 k = c k := fr_z hfc hec9 (by decide +kernel) (by decide +kernel)
              have hP : va_P D vwCl (mW o a t i9 q9 c9 d9) H := hP
              have hD : va_D A (mW o a t i9 q9 c9 d9) := hD
              obtain ⟨hfL, hfD, hfN⟩ := fe_e hxp9_0
              have hdn : ((y7_6.toInt.toNat : Nat) : Int) = y7_6.toInt := by omega
              have hlN : (i9 16).toInt = -9 ∨ (i9 16).toInt < (i 5).toInt := by by_cases q9 : (i9 16).toInt = -9; (· exact Or.inl q9); (· exact Or.inr (fe_lt hs_S.2.1 hxp9_0 q9))
              refine lv_if_eq (tgt := 104) hx hb dX12_toward_62 (by decide +kernel) (fun c10 => ?_) (fun c10 => ?_)
              · have f10 := (ti_eq (a := r9.toInt) (b := 0) rfl (by decide +kernel)).mp c10
                refine lv_iconst (v := 0) hx hb dX12_toward_104 (by decide +kernel) ?_
                refine lv_istore (lv' := [(7, .int 0), (6, .int y7_6), (5, .int x4), (4, .int r1), (0, .ref o), (1, .int w1), (2, .int w2), (3, .int b1)]) hx hb dX12_toward_105 hl (by decide +kernel) rfl (fun ls hl => ?_)
                refine lv_aload_n hx hb dX12_toward_107 rfl (lv_at hl 4 rfl) ?_
                refine mget_16 (v := (i9 16)) rfl hx hb hts (fun _ h => List.mem_cons_of_mem _ (List.mem_append_right _ h)) hown hK hP (hts (.fieldLink RX12 263 "TalePlayModel" "leads" "I") (List.mem_cons_of_mem _ (List.mem_append_left _ (List.mem_append_right _ (List.mem_append_right _ (List.mem_append_left _ (List.mem_of_getElem? (i := 3) rfl))))))) dX12_toward_108 ?_
                have rb16_i9 : (i9 16).toInt = -9 ∨ (0 ≤ (i9 16).toInt ∧ (i9 16).toInt ≤ 29) := hI.1 16
                refine lv_istore (lv' := [(8, .int (i9 16)), (7, .int 0), (6, .int y7_6), (5, .int x4), (4, .int r1), (0, .ref o), (1, .int w1), (2, .int w2), (3, .int b1)]) hx hb dX12_toward_111 hl (by decide +kernel) rfl (fun ls hl => ?_)
                refine lv_iload hx hb dX12_toward_113 (lv_at hl 1 rfl) ?_
                refine lv_if_eq (tgt := 141) hx hb dX12_toward_115 (by decide +kernel) (fun _ => ?_) (fun q9 => absurd (by decide +kernel) q9)
                obtain ⟨x11, ex11⟩ : ∃ y : Int32, y = y7_6 + 1 := ⟨_, rfl⟩
                have tx11 := ti_add (a := y7_6.toInt) (b := 1) ex11 rfl (by decide +kernel) (by omega) (by omega)
                refine lv_iinc (v := x11) (lv' := [(6, .int x11), (8, .int (i9 16)), (7, .int 0), (5, .int x4), (4, .int r1), (0, .ref o), (1, .int w1), (2, .int w2), (3, .int b1)]) hx hb dX12_toward_141 hl (k := 2) rfl (by rw [ex11]; rfl) (by decide +kernel) rfl (fun ls hl => ?_)
                refine lv_goto (tgt := 48) hx hb dX12_toward_144 (by decide +kernel) ?_
                exact ih7 i9 q9 c9 d9 x11 hI (fr_w hfi (by decide +kernel)) (fr_w hfc (by decide +kernel)) (show 0 ≤ x11.toInt ∧ x11.toInt ≤ 10 from by have h50 : x11.toInt = (y7_6.toInt + 1) := tx11; have h52 : (0 : Int32).toInt = 0 := (by decide +kernel); omega) (show ∀ d9 : Nat, (d9 : Int) < x11.toInt → NoD (wM (c 3) (c 6) (c 9) (c 10) (c 11) (c 12) (c 13) (i 8).toInt b1.toInt (fun t9 : Int => sgM (c 9) (c 10) (c 11) (c 12) (c 13) (i 8).toInt t9 0 (sfV (c 3) (c 6) (c 4) (kS (c 3) (c 6) t9) 0 t9))) w1.toInt w2.toInt 300 d9 from fun d9 h9 => by by_cases q9 : d9 = y7_6.toInt.toNat; (· rw [q9]; exact (show NoD (wM (c 3) (c 6) (c 9) (c 10) (c 11) (c 12) (c 13) (i 8).toInt b1.toInt (fun t9 : Int => sgM (c 9) (c 10) (c 11) (c 12) (c 13) (i 8).toInt t9 0 (sfV (c 3) (c 6) (c 4) (kS (c 3) (c 6) t9) 0 t9))) w1.toInt w2.toInt 300 y7_6.toInt.toNat from fun q9 => absurd (wM_n (by rw [hdn]; show ¬ (¬ feL (c 3) (c 6) (c 9) (c 10) (c 11) (c 12) (c 13) (i 8).toInt w1.toInt y7_6.toInt = -9 ∧ (b1.toInt = 0 ∨ feD (c 3) (c 6) (c 9) (c 10) (c 11) (c 12) (c 13) (i 8).toInt w1.toInt y7_6.toInt = -9 ∨ sgM (c 9) (c 10) (c 11) (c 12) (c 13) (i 8).toInt (feD (c 3) (c 6) (c 9) (c 10) (c 11) (c 12) (c 13) (i 8).toInt w1.toInt y7_6.toInt) 0 (sfV (c 3) (c 6) (c 4) (kS (c 3) (c 6) (feD (c 3) (c 6) (c 9) (c 10) (c 11) (c 12) (c 13) (i 8).toInt w1.toInt y7_6.toInt)) 0 (feD (c 3) (c 6) (c 9) (c 10) (c 11) (c 12) (c 13) (i 8).toInt w1.toInt y7_6.toInt)) = 1)); omega)) q9)); (· exact hz7_0 d9 (by have h8 := tx11; omega))) (by have h50 : x11.toInt = (y7_6.toInt + 1) := tx11; have h52 : (0 : Int32).toInt = 0 := (by decide +kernel); omega) _ _ _ hP hD hS (lv_sub hl [0, 3, 4, 5, 6, 7, 8] rfl)
              · have f10 := mt (ti_eq (a := r9.toInt) (b := 0) rfl (by decide +kernel)).mpr c10
                refine lv_aload_n hx hb dX12_toward_65 rfl (lv_at hl 3 rfl) ?_
                refine mget_16 (v := (i9 16)) rfl hx hb hts (fun _ h => List.mem_cons_of_mem _ (List.mem_append_right _ h)) hown hK hP (hts (.fieldLink RX12 263 "TalePlayModel" "leads" "I") (List.mem_cons_of_mem _ (List.mem_append_left _ (List.mem_append_right _ (List.mem_append_right _ (List.mem_append_left _ (List.mem_of_getElem? (i := 3) rfl))))))) dX12_toward_66 ?_
                have rb16_i9 : (i9 16).toInt = -9 ∨ (0 ≤ (i9 16).toInt ∧ (i9 16).toInt ≤ 29) := hI.1 16
                refine lv_bipush (v := (-9)) hx hb dX12_toward_69 (by decide +kernel) ?_
                refine lv_icmp_eq (tgt := 104) hx hb dX12_toward_71 (by decide +kernel) (fun c12 => ?_) (fun c12 => ?_)
                · have f12 := (ti_eq (a := (i9 16).toInt) (b := (-9)) rfl (by decide +kernel)).mp c12
                  refine lv_iconst (v := 0) hx hb dX12_toward_104 (by decide +kernel) ?_
                  refine lv_istore (lv' := [(7, .int 0), (6, .int y7_6), (5, .int x4), (4, .int r1), (0, .ref o), (1, .int w1), (2, .int w2), (3, .int b1)]) hx hb dX12_toward_105 hl (by decide +kernel) rfl (fun ls hl => ?_)
                  refine lv_aload_n hx hb dX12_toward_107 rfl (lv_at hl 4 rfl) ?_
                  refine mget_16 (v := (i9 16)) rfl hx hb hts (fun _ h => List.mem_cons_of_mem _ (List.mem_append_right _ h)) hown hK hP (hts (.fieldLink RX12 263 "TalePlayModel" "leads" "I") (List.mem_cons_of_mem _ (List.mem_append_left _ (List.mem_append_right _ (List.mem_append_right _ (List.mem_append_left _ (List.mem_of_getElem? (i := 3) rfl))))))) dX12_toward_108 ?_
                  refine lv_istore (lv' := [(8, .int (i9 16)), (7, .int 0), (6, .int y7_6), (5, .int x4), (4, .int r1), (0, .ref o), (1, .int w1), (2, .int w2), (3, .int b1)]) hx hb dX12_toward_111 hl (by decide +kernel) rfl (fun ls hl => ?_)
                  refine lv_iload hx hb dX12_toward_113 (lv_at hl 1 rfl) ?_
                  refine lv_if_eq (tgt := 141) hx hb dX12_toward_115 (by decide +kernel) (fun _ => ?_) (fun q9 => absurd (by decide +kernel) q9)
                  obtain ⟨x13, ex13⟩ : ∃ y : Int32, y = y7_6 + 1 := ⟨_, rfl⟩
                  have tx13 := ti_add (a := y7_6.toInt) (b := 1) ex13 rfl (by decide +kernel) (by omega) (by omega)
                  refine lv_iinc (v := x13) (lv' := [(6, .int x13), (8, .int (i9 16)), (7, .int 0), (5, .int x4), (4, .int r1), (0, .ref o), (1, .int w1), (2, .int w2), (3, .int b1)]) hx hb dX12_toward_141 hl (k := 2) rfl (by rw [ex13]; rfl) (by decide +kernel) rfl (fun ls hl => ?_)
                  refine lv_goto (tgt := 48) hx hb dX12_toward_144 (by decide +kernel) ?_
                  exact ih7 i9 q9 c9 d9 x13 hI (fr_w hfi (by decide +kernel)) (fr_w hfc (by decide +kernel)) (show 0 ≤ x13.toInt ∧ x13.toInt ≤ 10 from by have h50 : x13.toInt = (y7_6.toInt + 1) := tx13; have h52 : (0 : Int32).toInt = 0 := (by decide +kernel); omega) (show ∀ d9 : Nat, (d9 : Int) < x13.toInt → NoD (wM (c 3) (c 6) (c 9) (c 10) (c 11) (c 12) (c 13) (i 8).toInt b1.toInt (fun t9 : Int => sgM (c 9) (c 10) (c 11) (c 12) (c 13) (i 8).toInt t9 0 (sfV (c 3) (c 6) (c 4) (kS (c 3) (c 6) t9) 0 t9))) w1.toInt w2.toInt 300 d9 from fun d9 h9 => by by_cases q9 : d9 = y7_6.toInt.toNat; (· rw [q9]; exact (show NoD (wM (c 3) (c 6) (c 9) (c 10) (c 11) (c 12) (c 13) (i 8).toInt b1.toInt (fun t9 : Int => sgM (c 9) (c 10) (c 11) (c 12) (c 13) (i 8).toInt t9 0 (sfV (c 3) (c 6) (c 4) (kS (c 3) (c 6) t9) 0 t9))) w1.toInt w2.toInt 300 y7_6.toInt.toNat from fun q9 => absurd (wM_n (by rw [hdn]; show ¬ (¬ feL (c 3) (c 6) (c 9) (c 10) (c 11) (c 12) (c 13) (i 8).toInt w1.toInt y7_6.toInt = -9 ∧ (b1.toInt = 0 ∨ feD (c 3) (c 6) (c 9) (c 10) (c 11) (c 12) (c 13) (i 8).toInt w1.toInt y7_6.toInt = -9 ∨ sgM (c 9) (c 10) (c 11) (c 12) (c 13) (i 8).toInt (feD (c 3) (c 6) (c 9) (c 10) (c 11) (c 12) (c 13) (i 8).toInt w1.toInt y7_6.toInt) 0 (sfV (c 3) (c 6) (c 4) (kS (c 3) (c 6) (feD (c 3) (c 6) (c 9) (c 10) (c 11) (c 12) (c 13) (i 8).toInt w1.toInt y7_6.toInt)) 0 (feD (c 3) (c 6) (c 9) (c 10) (c 11) (c 12) (c 13) (i 8).toInt w1.toInt y7_6.toInt)) = 1)); omega)) q9)); (· exact hz7_0 d9 (by have h8 := tx13; omega))) (by have h50 : x13.toInt = (y7_6.toInt + 1) := tx13; have h52 : (0 : Int32).toInt = 0 := (by decide +kernel); omega) _ _ _ hP hD hS (lv_sub hl [0, 3, 4, 5, 6, 7, 8] rfl)
                · have f12 := mt (ti_eq (a := (i9 16).toInt) (b := (-9)) rfl (by decide +kernel)).mpr c12
                  refine lv_iload_n hx hb dX12_toward_74 rfl (lv_at hl 6 rfl) ?_
                  refine lv_if_eq (tgt := 100) hx hb dX12_toward_75 (by decide +kernel) (fun c14 => ?_) (fun c14 => ?_)
                  · have f14 := (ti_eq (a := b1.toInt) (b := 0) rfl (by decide +kernel)).mp c14
                    refine lv_iconst (v := 1) hx hb dX12_toward_100 (by decide +kernel) ?_
                    refine lv_goto (tgt := 105) hx hb dX12_toward_101 (by decide +kernel) ?_
                    refine lv_istore (lv' := [(7, .int 1), (6, .int y7_6), (5, .int x4), (4, .int r1), (0, .ref o), (1, .int w1), (2, .int w2), (3, .int b1)]) hx hb dX12_toward_105 hl (by decide +kernel) rfl (fun ls hl => ?_)
                    refine lv_aload_n hx hb dX12_toward_107 rfl (lv_at hl 4 rfl) ?_
                    refine mget_16 (v := (i9 16)) rfl hx hb hts (fun _ h => List.mem_cons_of_mem _ (List.mem_append_right _ h)) hown hK hP (hts (.fieldLink RX12 263 "TalePlayModel" "leads" "I") (List.mem_cons_of_mem _ (List.mem_append_left _ (List.mem_append_right _ (List.mem_append_right _ (List.mem_append_left _ (List.mem_of_getElem? (i := 3) rfl))))))) dX12_toward_108 ?_
                    refine lv_istore (lv' := [(8, .int (i9 16)), (7, .int 1), (6, .int y7_6), (5, .int x4), (4, .int r1), (0, .ref o), (1, .int w1), (2, .int w2), (3, .int b1)]) hx hb dX12_toward_111 hl (by decide +kernel) rfl (fun ls hl => ?_)
                    refine lv_iload hx hb dX12_toward_113 (lv_at hl 1 rfl) ?_
                    refine lv_if_eq (tgt := 141) hx hb dX12_toward_115 (by decide +kernel) (fun q9 => absurd q9 (by decide +kernel)) (fun _ => ?_)
                    have hgo0 : (i9 16).toInt = (wM (c 3) (c 6) (c 9) (c 10) (c 11) (c 12) (c 13) (i 8).toInt b1.toInt (fun t9 : Int => sgM (c 9) (c 10) (c 11) (c 12) (c 13) (i 8).toInt t9 0 (sfV (c 3) (c 6) (c 4) (kS (c 3) (c 6) t9) 0 t9))) w1.toInt y7_6.toInt.toNat := by rw [show (i9 16).toInt = feL (c 3) (c 6) (c 9) (c 10) (c 11) (c 12) (c 13) (i 8).toInt w1.toInt y7_6.toInt from hfL]; rw [← hdn]; exact wM_y (by rw [hdn]; show ¬ feL (c 3) (c 6) (c 9) (c 10) (c 11) (c 12) (c 13) (i 8).toInt w1.toInt y7_6.toInt = -9 ∧ (b1.toInt = 0 ∨ feD (c 3) (c 6) (c 9) (c 10) (c 11) (c 12) (c 13) (i 8).toInt w1.toInt y7_6.toInt = -9 ∨ sgM (c 9) (c 10) (c 11) (c 12) (c 13) (i 8).toInt (feD (c 3) (c 6) (c 9) (c 10) (c 11) (c 12) (c 13) (i 8).toInt w1.toInt y7_6.toInt) 0 (sfV (c 3) (c 6) (c 4) (kS (c 3) (c 6) (feD (c 3) (c 6) (c 9) (c 10) (c 11) (c 12) (c 13) (i 8).toInt w1.toInt y7_6.toInt)) 0 (feD (c 3) (c 6) (c 9) (c 10) (c 11) (c 12) (c 13) (i 8).toInt w1.toInt y7_6.toInt)) = 1); omega)
                    have hgo := hgo0.symm
                    refine lv_aload_n hx hb dX12_toward_118 rfl (lv_at hl 5 rfl) ?_
                    refine lv_iload hx hb dX12_toward_119 (lv_at hl 0 rfl) ?_
                    refine lv_iload_n hx hb dX12_toward_121 rfl (lv_at hl 8 rfl) ?_
                    have rb2_i9 : 6 ≤ (i9 2).toInt ∧ (i9 2).toInt ≤ 24 := hI.1 2
                    have re2_i9 : (i9 2).toInt = (i 2).toInt := congrArg Int32.toInt (hfi 2 (by decide +kernel))
                    have rb5_i9 : 0 ≤ (i9 5).toInt ∧ (i9 5).toInt ≤ 30 := hI.1 5
                    have re5_i9 : (i9 5).toInt = (i 5).toInt := congrArg Int32.toInt (hfi 5 (by decide +kernel))
                    have rb8_i9 : 0 ≤ (i9 8).toInt ∧ (i9 8).toInt ≤ 200 := hI.1 8
                    have re8_i9 : (i9 8).toInt = (i 8).toInt := congrArg Int32.toInt (hfi 8 (by decide +kernel))
                    refine al_callv (va_runV (As := [.int (i9 16), .int b1]) (rest := []) ⟨hx, hb, hml, hown, hts⟩ (s_X12_walk_e l D H.size o a t i9 q9 c9 d9 (i9 16) b1 hI (show 0 ≤ (i9 16).toInt ∧ (i9 16).toInt < ((i9 5) : Int32).toInt from by omega) (by rw [show c9 3 = c 3 from hfc 3 (by decide +kernel), show c9 6 = c 6 from hfc 6 (by decide +kernel), show c9 9 = c 9 from hfc 9 (by decide +kernel), show c9 10 = c 10 from hfc 10 (by decide +kernel), show c9 11 = c 11 from hfc 11 (by decide +kernel), show c9 13 = c 13 from hfc 13 (by decide +kernel), show i9 2 = i 2 from hfi 2 (by decide +kernel), show i9 5 = i 5 from hfi 5 (by decide +kernel), show i9 8 = i 8 from hfi 8 (by decide +kernel)]; exact hs_S)) (cwV 2 hts gm_X12_toward_X12_walk rfl rfl rfl (by decide +kernel) ⟨Nat.le_of_ble_eq_true rfl, Nat.le_of_ble_eq_true rfl⟩) (pB_V hK hP hD (ci := 12) (q0 := 0) rfl rfl) rfl rfl hl.1 rfl (lv_room (Nat.le_of_ble_eq_true rfl)) dX12_toward_122 ⟨Nat.le_of_ble_eq_true rfl, Nat.le_of_ble_eq_true rfl⟩) hS hA hP hD (fun u15 H locs hw15 hP hD hS => ?_)
                    obtain ⟨i15, q15, c15, d15⟩ := u15
                    have hw15 : True ∧ mInv i15 c15 ∧ (∀ k, k ∉ ([16, 17, 18, 19] : List Nat) → i15 k = i9 k) ∧ (∀ k, k ∉ ([20, 21] : List Nat) → c15 k = c9 k) ∧ (BfE (wM (c9 3) (c9 6) (c9 9) (c9 10) (c9 11) (c9 12) (c9 13) (i9 8).toInt b1.toInt (fun t9 : Int => sgM (c9 9) (c9 10) (c9 11) (c9 12) (c9 13) (i9 8).toInt t9 0 (sfV (c9 3) (c9 6) (c9 4) (kS (c9 3) (c9 6) t9) 0 t9))) (i9 16).toInt (i9 5).toInt (c15 20)) := hw15
                    obtain ⟨hw15, hI, hei15, hec15, hxp15_0⟩ := hw15
                    have hxp15_0 : BfE (wM (c 3) (c 6) (c 9) (c 10) (c 11) (c 12) (c 13) (i 8).toInt b1.toInt (fun t9 : Int => sgM (c 9) (c 10) (c 11) (c 12) (c 13) (i 8).toInt t9 0 (sfV (c 3) (c 6) (c 4) (kS (c 3) (c 6) t9) 0 t9))) (i9 16).toInt (i 5).toInt (c15 20) := by have h9 := hxp15_0; rw [show c9 3 = c 3 from hfc 3 (by decide +kernel), show c9 4 = c 4 from hfc 4 (by decide +kernel), show c9 6 = c 6 from hfc 6 (by decide +kernel), show c9 9 = c 9 from hfc 9 (by decide +kernel), show c9 10 = c 10 from hfc 10 (by decide +kernel), show c9 11 = c 11 from hfc 11 (by decide +kernel), show c9 12 = c 12 from hfc 12 (by decide +kernel), show c9 13 = c 13 from hfc 13 (by decide +kernel), show i9 5 = i 5 from hfi 5 (by decide +kernel), show i9 8 = i 8 from hfi 8 (by decide +kernel)] at h9; exact h9
                    have hfi : ∀ k, k ∉ ([0, 16, 17, 18, 19] : List Nat) → i15 k = i k := fr_z hfi hei15 (by decide +kernel) (by decide +kernel)
                    have hfc : ∀ k, k ∉ ([1, 20, 21] : List Nat) → c15 k = c k := fr_z hfc hec15 (by decide +kernel) (by decide +kernel)
                    have hP : va_P D vwCl (mW o a t i15 q15 c15 d15) H := hP
                    have hD : va_D A (mW o a t i15 q15 c15 d15) := hD
                    refine lv_aload_n hx hb dX12_toward_125 rfl (lv_at hl 5 rfl) ?_
                    refine mget_20 hx hb hts (fun _ h => List.mem_cons_of_mem _ (List.mem_append_right _ h)) hown hK hP (hts (.fieldLink RX12 44 "TalePlayModel" "far" "[I") (List.mem_cons_of_mem _ (List.mem_append_left _ (List.mem_append_right _ (List.mem_append_left _ (List.mem_of_getElem? (i := 13) rfl)))))) dX12_toward_126 ?_
                    refine lv_iload_n hx hb dX12_toward_129 rfl (lv_at hl 7 rfl) ?_
                    refine mld_20 hx hb hK hP (vp_in_iff.mpr (by have h9 : w2.toInt = w2.toInt := rfl; omega)) dX12_toward_130 (fun x16 ex16 => ?_)
                    have rx16 : x16.toInt = -9 ∨ (0 ≤ x16.toInt ∧ x16.toInt ≤ 29) := by rw [ex16]; exact hI.2 20 _
                    have gx16 : (c15 20 (w2 : Int32).toNatClampNeg).toInt = x16.toInt := by rw [ex16]
                    have hW2 : bfS (wM (c 3) (c 6) (c 9) (c 10) (c 11) (c 12) (c 13) (i 8).toInt b1.toInt (fun t9 : Int => sgM (c 9) (c 10) (c 11) (c 12) (c 13) (i 8).toInt t9 0 (sfV (c 3) (c 6) (c 4) (kS (c 3) (c 6) t9) 0 t9))) (i9 16).toInt 300 w2.toInt = x16.toInt := by have h9 := hxp15_0 w2.toNatClampNeg (by rw [cl_nn (by omega)]; omega); rw [cl_nn (by omega)] at h9; rw [← h9]; exact gx16
                    refine lv_iload hx hb dX12_toward_131 (lv_at hl 3 rfl) ?_
                    refine lv_iconst (v := 1) hx hb dX12_toward_133 (by decide +kernel) ?_
                    refine lv_isub hx hb dX12_toward_134 ?_
                    refine lv_topi (fun x17 ex17 => ?_)
                    have tx17 := ti_sub (a := x4.toInt) (b := 1) ex17 rfl (by decide +kernel) (by omega) (by omega)
                    refine lv_icmp_ne (tgt := 141) hx hb dX12_toward_135 (by decide +kernel) (fun c18 => ?_) (fun c18 => ?_)
                    · have f18 := mt (ti_eq (a := x16.toInt) (b := (x4.toInt - 1)) rfl tx17).mpr c18
                      obtain ⟨x19, ex19⟩ : ∃ y : Int32, y = y7_6 + 1 := ⟨_, rfl⟩
                      have tx19 := ti_add (a := y7_6.toInt) (b := 1) ex19 rfl (by decide +kernel) (by omega) (by omega)
                      refine lv_iinc (v := x19) (lv' := [(6, .int x19), (8, .int (i9 16)), (7, .int 1), (5, .int x4), (4, .int r1), (0, .ref o), (1, .int w1), (2, .int w2), (3, .int b1)]) hx hb dX12_toward_141 hl (k := 2) rfl (by rw [ex19]; rfl) (by decide +kernel) rfl (fun ls hl => ?_)
                      refine lv_goto (tgt := 48) hx hb dX12_toward_144 (by decide +kernel) ?_
                      exact ih7 i15 q15 c15 d15 x19 hI (fr_w hfi (by decide +kernel)) (fr_w hfc (by decide +kernel)) (show 0 ≤ x19.toInt ∧ x19.toInt ≤ 10 from by have h50 : x19.toInt = (y7_6.toInt + 1) := tx19; have h52 : (1 : Int32).toInt = 1 := (by decide +kernel); omega) (show ∀ d9 : Nat, (d9 : Int) < x19.toInt → NoD (wM (c 3) (c 6) (c 9) (c 10) (c 11) (c 12) (c 13) (i 8).toInt b1.toInt (fun t9 : Int => sgM (c 9) (c 10) (c 11) (c 12) (c 13) (i 8).toInt t9 0 (sfV (c 3) (c 6) (c 4) (kS (c 3) (c 6) t9) 0 t9))) w1.toInt w2.toInt 300 d9 from fun d9 h9 => by by_cases q9 : d9 = y7_6.toInt.toNat; (· rw [q9]; exact (show NoD (wM (c 3) (c 6) (c 9) (c 10) (c 11) (c 12) (c 13) (i 8).toInt b1.toInt (fun t9 : Int => sgM (c 9) (c 10) (c 11) (c 12) (c 13) (i 8).toInt t9 0 (sfV (c 3) (c 6) (c 4) (kS (c 3) (c 6) t9) 0 t9))) w1.toInt w2.toInt 300 y7_6.toInt.toNat from fun _ q8 => by rw [hgo, hW2, ← hAL] at q8; omega)); (· exact hz7_0 d9 (by have h8 := tx19; omega))) (by have h50 : x19.toInt = (y7_6.toInt + 1) := tx19; have h52 : (1 : Int32).toInt = 1 := (by decide +kernel); omega) _ _ _ hP hD hS (lv_sub hl [0, 3, 4, 5, 6, 7, 8] rfl)
                    · have f18 := (ti_eq (a := x16.toInt) (b := (x4.toInt - 1)) rfl tx17).mp c18
                      refine lv_iload hx hb dX12_toward_138 (lv_at hl 2 rfl) ?_
                      exact rw_iret (i15, q15, c15, d15) hx hb hr hlocks hS (hK.sub (tys' := []) [] rfl) hP hD dX12_toward_140 ⟨trivial, hI, fr_w hfi (by decide +kernel), fr_w hfc (by decide +kernel), (show WyR (i 5).toInt w1.toInt w2.toInt (kS (c 3) (c 6) w1.toInt) (kS (c 3) (c 6) w2.toInt) (y7_6 : Int32).toInt (fun z9 => TdM (wM (c 3) (c 6) (c 9) (c 10) (c 11) (c 12) (c 13) (i 8).toInt b1.toInt (fun t9 : Int => sgM (c 9) (c 10) (c 11) (c 12) (c 13) (i 8).toInt t9 0 (sfV (c 3) (c 6) (c 4) (kS (c 3) (c 6) t9) 0 t9))) w1.toInt w2.toInt 300 z9) from Or.inr (Or.inr ⟨by omega, by omega, Or.inr ⟨by rw [← hAL]; omega, by rw [← hAL]; omega, Or.inl ⟨y7_6.toInt.toNat, by omega, by omega, by rw [hgo]; omega, by rw [hgo, hW2, ← hAL]; omega, fun d9 h9 => hz7_0 d9 (by omega)⟩⟩⟩))⟩
                  · have f14 := mt (ti_eq (a := b1.toInt) (b := 0) rfl (by decide +kernel)).mpr c14
                    refine lv_aload_n hx hb dX12_toward_78 rfl (lv_at hl 3 rfl) ?_
                    refine mget_17 (v := (i9 17)) rfl hx hb hts (fun _ h => List.mem_cons_of_mem _ (List.mem_append_right _ h)) hown hK hP (hts (.fieldLink RX12 266 "TalePlayModel" "byDoor" "I") (List.mem_cons_of_mem _ (List.mem_append_left _ (List.mem_append_right _ (List.mem_append_right _ (List.mem_append_left _ (List.mem_of_getElem? (i := 4) rfl))))))) dX12_toward_79 ?_
                    have rb17_i9 : (i9 17).toInt = -9 ∨ (0 ≤ (i9 17).toInt ∧ (i9 17).toInt ≤ 29) := hI.1 17
                    refine lv_bipush (v := (-9)) hx hb dX12_toward_82 (by decide +kernel) ?_
                    refine lv_icmp_eq (tgt := 100) hx hb dX12_toward_84 (by decide +kernel) (fun c20 => ?_) (fun c20 => ?_)
                    · have f20 := (ti_eq (a := (i9 17).toInt) (b := (-9)) rfl (by decide +kernel)).mp c20
                      refine lv_iconst (v := 1) hx hb dX12_toward_100 (by decide +kernel) ?_
                      refine lv_goto (tgt := 105) hx hb dX12_toward_101 (by decide +kernel) ?_
                      refine lv_istore (lv' := [(7, .int 1), (6, .int y7_6), (5, .int x4), (4, .int r1), (0, .ref o), (1, .int w1), (2, .int w2), (3, .int b1)]) hx hb dX12_toward_105 hl (by decide +kernel) rfl (fun ls hl => ?_)
                      refine lv_aload_n hx hb dX12_toward_107 rfl (lv_at hl 4 rfl) ?_
                      refine mget_16 (v := (i9 16)) rfl hx hb hts (fun _ h => List.mem_cons_of_mem _ (List.mem_append_right _ h)) hown hK hP (hts (.fieldLink RX12 263 "TalePlayModel" "leads" "I") (List.mem_cons_of_mem _ (List.mem_append_left _ (List.mem_append_right _ (List.mem_append_right _ (List.mem_append_left _ (List.mem_of_getElem? (i := 3) rfl))))))) dX12_toward_108 ?_
                      refine lv_istore (lv' := [(8, .int (i9 16)), (7, .int 1), (6, .int y7_6), (5, .int x4), (4, .int r1), (0, .ref o), (1, .int w1), (2, .int w2), (3, .int b1)]) hx hb dX12_toward_111 hl (by decide +kernel) rfl (fun ls hl => ?_)
                      refine lv_iload hx hb dX12_toward_113 (lv_at hl 1 rfl) ?_
                      refine lv_if_eq (tgt := 141) hx hb dX12_toward_115 (by decide +kernel) (fun q9 => absurd q9 (by decide +kernel)) (fun _ => ?_)
                      have hgo0 : (i9 16).toInt = (wM (c 3) (c 6) (c 9) (c 10) (c 11) (c 12) (c 13) (i 8).toInt b1.toInt (fun t9 : Int => sgM (c 9) (c 10) (c 11) (c 12) (c 13) (i 8).toInt t9 0 (sfV (c 3) (c 6) (c 4) (kS (c 3) (c 6) t9) 0 t9))) w1.toInt y7_6.toInt.toNat := by rw [show (i9 16).toInt = feL (c 3) (c 6) (c 9) (c 10) (c 11) (c 12) (c 13) (i 8).toInt w1.toInt y7_6.toInt from hfL]; rw [← hdn]; exact wM_y (by rw [hdn]; show ¬ feL (c 3) (c 6) (c 9) (c 10) (c 11) (c 12) (c 13) (i 8).toInt w1.toInt y7_6.toInt = -9 ∧ (b1.toInt = 0 ∨ feD (c 3) (c 6) (c 9) (c 10) (c 11) (c 12) (c 13) (i 8).toInt w1.toInt y7_6.toInt = -9 ∨ sgM (c 9) (c 10) (c 11) (c 12) (c 13) (i 8).toInt (feD (c 3) (c 6) (c 9) (c 10) (c 11) (c 12) (c 13) (i 8).toInt w1.toInt y7_6.toInt) 0 (sfV (c 3) (c 6) (c 4) (kS (c 3) (c 6) (feD (c 3) (c 6) (c 9) (c 10) (c 11) (c 12) (c 13) (i 8).toInt w1.toInt y7_6.toInt)) 0 (feD (c 3) (c 6) (c 9) (c 10) (c 11) (c 12) (c 13) (i 8).toInt w1.toInt y7_6.toInt)) = 1); omega)
                      have hgo := hgo0.symm
                      refine lv_aload_n hx hb dX12_toward_118 rfl (lv_at hl 5 rfl) ?_
                      refine lv_iload hx hb dX12_toward_119 (lv_at hl 0 rfl) ?_
                      refine lv_iload_n hx hb dX12_toward_121 rfl (lv_at hl 8 rfl) ?_
                      have rb2_i9 : 6 ≤ (i9 2).toInt ∧ (i9 2).toInt ≤ 24 := hI.1 2
                      have re2_i9 : (i9 2).toInt = (i 2).toInt := congrArg Int32.toInt (hfi 2 (by decide +kernel))
                      have rb5_i9 : 0 ≤ (i9 5).toInt ∧ (i9 5).toInt ≤ 30 := hI.1 5
                      have re5_i9 : (i9 5).toInt = (i 5).toInt := congrArg Int32.toInt (hfi 5 (by decide +kernel))
                      have rb8_i9 : 0 ≤ (i9 8).toInt ∧ (i9 8).toInt ≤ 200 := hI.1 8
                      have re8_i9 : (i9 8).toInt = (i 8).toInt := congrArg Int32.toInt (hfi 8 (by decide +kernel))
                      refine al_callv (va_runV (As := [.int (i9 16), .int b1]) (rest := []) ⟨hx, hb, hml, hown, hts⟩ (s_X12_walk_e l D H.size o a t i9 q9 c9 d9 (i9 16) b1 hI (show 0 ≤ (i9 16).toInt ∧ (i9 16).toInt < ((i9 5) : Int32).toInt from by omega) (by rw [show c9 3 = c 3 from hfc 3 (by decide +kernel), show c9 6 = c 6 from hfc 6 (by decide +kernel), show c9 9 = c 9 from hfc 9 (by decide +kernel), show c9 10 = c 10 from hfc 10 (by decide +kernel), show c9 11 = c 11 from hfc 11 (by decide +kernel), show c9 13 = c 13 from hfc 13 (by decide +kernel), show i9 2 = i 2 from hfi 2 (by decide +kernel), show i9 5 = i 5 from hfi 5 (by decide +kernel), show i9 8 = i 8 from hfi 8 (by decide +kernel)]; exact hs_S)) (cwV 2 hts gm_X12_toward_X12_walk rfl rfl rfl (by decide +kernel) ⟨Nat.le_of_ble_eq_true rfl, Nat.le_of_ble_eq_true rfl⟩) (pB_V hK hP hD (ci := 12) (q0 := 0) rfl rfl) rfl rfl hl.1 rfl (lv_room (Nat.le_of_ble_eq_true rfl)) dX12_toward_122 ⟨Nat.le_of_ble_eq_true rfl, Nat.le_of_ble_eq_true rfl⟩) hS hA hP hD (fun u21 H locs hw21 hP hD hS => ?_)
                      obtain ⟨i21, q21, c21, d21⟩ := u21
                      have hw21 : True ∧ mInv i21 c21 ∧ (∀ k, k ∉ ([16, 17, 18, 19] : List Nat) → i21 k = i9 k) ∧ (∀ k, k ∉ ([20, 21] : List Nat) → c21 k = c9 k) ∧ (BfE (wM (c9 3) (c9 6) (c9 9) (c9 10) (c9 11) (c9 12) (c9 13) (i9 8).toInt b1.toInt (fun t9 : Int => sgM (c9 9) (c9 10) (c9 11) (c9 12) (c9 13) (i9 8).toInt t9 0 (sfV (c9 3) (c9 6) (c9 4) (kS (c9 3) (c9 6) t9) 0 t9))) (i9 16).toInt (i9 5).toInt (c21 20)) := hw21
                      obtain ⟨hw21, hI, hei21, hec21, hxp21_0⟩ := hw21
                      have hxp21_0 : BfE (wM (c 3) (c 6) (c 9) (c 10) (c 11) (c 12) (c 13) (i 8).toInt b1.toInt (fun t9 : Int => sgM (c 9) (c 10) (c 11) (c 12) (c 13) (i 8).toInt t9 0 (sfV (c 3) (c 6) (c 4) (kS (c 3) (c 6) t9) 0 t9))) (i9 16).toInt (i 5).toInt (c21 20) := by have h9 := hxp21_0; rw [show c9 3 = c 3 from hfc 3 (by decide +kernel), show c9 4 = c 4 from hfc 4 (by decide +kernel), show c9 6 = c 6 from hfc 6 (by decide +kernel), show c9 9 = c 9 from hfc 9 (by decide +kernel), show c9 10 = c 10 from hfc 10 (by decide +kernel), show c9 11 = c 11 from hfc 11 (by decide +kernel), show c9 12 = c 12 from hfc 12 (by decide +kernel), show c9 13 = c 13 from hfc 13 (by decide +kernel), show i9 5 = i 5 from hfi 5 (by decide +kernel), show i9 8 = i 8 from hfi 8 (by decide +kernel)] at h9; exact h9
                      have hfi : ∀ k, k ∉ ([0, 16, 17, 18, 19] : List Nat) → i21 k = i k := fr_z hfi hei21 (by decide +kernel) (by decide +kernel)
                      have hfc : ∀ k, k ∉ ([1, 20, 21] : List Nat) → c21 k = c k := fr_z hfc hec21 (by decide +kernel) (by decide +kernel)
                      have hP : va_P D vwCl (mW o a t i21 q21 c21 d21) H := hP
                      have hD : va_D A (mW o a t i21 q21 c21 d21) := hD
                      refine lv_aload_n hx hb dX12_toward_125 rfl (lv_at hl 5 rfl) ?_
                      refine mget_20 hx hb hts (fun _ h => List.mem_cons_of_mem _ (List.mem_append_right _ h)) hown hK hP (hts (.fieldLink RX12 44 "TalePlayModel" "far" "[I") (List.mem_cons_of_mem _ (List.mem_append_left _ (List.mem_append_right _ (List.mem_append_left _ (List.mem_of_getElem? (i := 13) rfl)))))) dX12_toward_126 ?_
                      refine lv_iload_n hx hb dX12_toward_129 rfl (lv_at hl 7 rfl) ?_
                      refine mld_20 hx hb hK hP (vp_in_iff.mpr (by have h9 : w2.toInt = w2.toInt := rfl; omega)) dX12_toward_130 (fun x22 ex22 => ?_)
                      have rx22 : x22.toInt = -9 ∨ (0 ≤ x22.toInt ∧ x22.toInt ≤ 29) := by rw [ex22]; exact hI.2 20 _
                      have gx22 : (c21 20 (w2 : Int32).toNatClampNeg).toInt = x22.toInt := by rw [ex22]
                      have hW2 : bfS (wM (c 3) (c 6) (c 9) (c 10) (c 11) (c 12) (c 13) (i 8).toInt b1.toInt (fun t9 : Int => sgM (c 9) (c 10) (c 11) (c 12) (c 13) (i 8).toInt t9 0 (sfV (c 3) (c 6) (c 4) (kS (c 3) (c 6) t9) 0 t9))) (i9 16).toInt 300 w2.toInt = x22.toInt := by have h9 := hxp21_0 w2.toNatClampNeg (by rw [cl_nn (by omega)]; omega); rw [cl_nn (by omega)] at h9; rw [← h9]; exact gx22
                      refine lv_iload hx hb dX12_toward_131 (lv_at hl 3 rfl) ?_
                      refine lv_iconst (v := 1) hx hb dX12_toward_133 (by decide +kernel) ?_
                      refine lv_isub hx hb dX12_toward_134 ?_
                      refine lv_topi (fun x23 ex23 => ?_)
                      have tx23 := ti_sub (a := x4.toInt) (b := 1) ex23 rfl (by decide +kernel) (by omega) (by omega)
                      refine lv_icmp_ne (tgt := 141) hx hb dX12_toward_135 (by decide +kernel) (fun c24 => ?_) (fun c24 => ?_)
                      · have f24 := mt (ti_eq (a := x22.toInt) (b := (x4.toInt - 1)) rfl tx23).mpr c24
                        obtain ⟨x25, ex25⟩ : ∃ y : Int32, y = y7_6 + 1 := ⟨_, rfl⟩
                        have tx25 := ti_add (a := y7_6.toInt) (b := 1) ex25 rfl (by decide +kernel) (by omega) (by omega)
                        refine lv_iinc (v := x25) (lv' := [(6, .int x25), (8, .int (i9 16)), (7, .int 1), (5, .int x4), (4, .int r1), (0, .ref o), (1, .int w1), (2, .int w2), (3, .int b1)]) hx hb dX12_toward_141 hl (k := 2) rfl (by rw [ex25]; rfl) (by decide +kernel) rfl (fun ls hl => ?_)
                        refine lv_goto (tgt := 48) hx hb dX12_toward_144 (by decide +kernel) ?_
                        exact ih7 i21 q21 c21 d21 x25 hI (fr_w hfi (by decide +kernel)) (fr_w hfc (by decide +kernel)) (show 0 ≤ x25.toInt ∧ x25.toInt ≤ 10 from by have h50 : x25.toInt = (y7_6.toInt + 1) := tx25; have h52 : (1 : Int32).toInt = 1 := (by decide +kernel); omega) (show ∀ d9 : Nat, (d9 : Int) < x25.toInt → NoD (wM (c 3) (c 6) (c 9) (c 10) (c 11) (c 12) (c 13) (i 8).toInt b1.toInt (fun t9 : Int => sgM (c 9) (c 10) (c 11) (c 12) (c 13) (i 8).toInt t9 0 (sfV (c 3) (c 6) (c 4) (kS (c 3) (c 6) t9) 0 t9))) w1.toInt w2.toInt 300 d9 from fun d9 h9 => by by_cases q9 : d9 = y7_6.toInt.toNat; (· rw [q9]; exact (show NoD (wM (c 3) (c 6) (c 9) (c 10) (c 11) (c 12) (c 13) (i 8).toInt b1.toInt (fun t9 : Int => sgM (c 9) (c 10) (c 11) (c 12) (c 13) (i 8).toInt t9 0 (sfV (c 3) (c 6) (c 4) (kS (c 3) (c 6) t9) 0 t9))) w1.toInt w2.toInt 300 y7_6.toInt.toNat from fun _ q8 => by rw [hgo, hW2, ← hAL] at q8; omega)); (· exact hz7_0 d9 (by have h8 := tx25; omega))) (by have h50 : x25.toInt = (y7_6.toInt + 1) := tx25; have h52 : (1 : Int32).toInt = 1 := (by decide +kernel); omega) _ _ _ hP hD hS (lv_sub hl [0, 3, 4, 5, 6, 7, 8] rfl)
                      · have f24 := (ti_eq (a := x22.toInt) (b := (x4.toInt - 1)) rfl tx23).mp c24
                        refine lv_iload hx hb dX12_toward_138 (lv_at hl 2 rfl) ?_
                        exact rw_iret (i21, q21, c21, d21) hx hb hr hlocks hS (hK.sub (tys' := []) [] rfl) hP hD dX12_toward_140 ⟨trivial, hI, fr_w hfi (by decide +kernel), fr_w hfc (by decide +kernel), (show WyR (i 5).toInt w1.toInt w2.toInt (kS (c 3) (c 6) w1.toInt) (kS (c 3) (c 6) w2.toInt) (y7_6 : Int32).toInt (fun z9 => TdM (wM (c 3) (c 6) (c 9) (c 10) (c 11) (c 12) (c 13) (i 8).toInt b1.toInt (fun t9 : Int => sgM (c 9) (c 10) (c 11) (c 12) (c 13) (i 8).toInt t9 0 (sfV (c 3) (c 6) (c 4) (kS (c 3) (c 6) t9) 0 t9))) w1.toInt w2.toInt 300 z9) from Or.inr (Or.inr ⟨by omega, by omega, Or.inr ⟨by rw [← hAL]; omega, by rw [← hAL]; omega, Or.inl ⟨y7_6.toInt.toNat, by omega, by omega, by rw [hgo]; omega, by rw [hgo, hW2, ← hAL]; omega, fun d9 h9 => hz7_0 d9 (by omega)⟩⟩⟩))⟩
                    · have f20 := mt (ti_eq (a := (i9 17).toInt) (b := (-9)) rfl (by decide +kernel)).mpr c20
                      refine lv_aload_n hx hb dX12_toward_87 rfl (lv_at hl 3 rfl) ?_
                      refine lv_aload_n hx hb dX12_toward_88 rfl (lv_at hl 3 rfl) ?_
                      refine mget_17 (v := (i9 17)) rfl hx hb hts (fun _ h => List.mem_cons_of_mem _ (List.mem_append_right _ h)) hown hK hP (hts (.fieldLink RX12 266 "TalePlayModel" "byDoor" "I") (List.mem_cons_of_mem _ (List.mem_append_left _ (List.mem_append_right _ (List.mem_append_right _ (List.mem_append_left _ (List.mem_of_getElem? (i := 4) rfl))))))) dX12_toward_89 ?_
                      refine lv_iconst (v := 0) hx hb dX12_toward_92 (by decide +kernel) ?_
                      have rb8_i9 : 0 ≤ (i9 8).toInt ∧ (i9 8).toInt ≤ 200 := hI.1 8
                      have re8_i9 : (i9 8).toInt = (i 8).toInt := congrArg Int32.toInt (hfi 8 (by decide +kernel))
                      refine ro_calli (va_runV (As := [.int (i9 17), .int 0]) (rest := []) ⟨hx, hb, hml, hown, hts⟩ (s_X12_saidFlag_e l D H.size o a t i9 q9 c9 d9 (i9 17) 0 hI (show 0 ≤ (i9 17).toInt ∧ (i9 17).toInt ≤ 29 from by have h91 : (0 : Int32).toInt = 0 := (by decide +kernel); omega) (show 0 ≤ 0 ∧ 0 ≤ 5 from by decide +kernel)) (cwV 2 hts gm_X12_toward_X12_saidFlag rfl rfl rfl (by decide +kernel) ⟨Nat.le_of_ble_eq_true rfl, Nat.le_of_ble_eq_true rfl⟩) (pA_V hK hP (ci := 12) (q0 := 0) rfl rfl) rfl rfl hl.1 rfl (lv_room (Nat.le_of_ble_eq_true rfl)) dX12_toward_93 ⟨Nat.le_of_ble_eq_true rfl, Nat.le_of_ble_eq_true rfl⟩) hS hA hP (fun r26 u26 H locs hw26 hP hS => ?_)
                      have hw26 : ((r26.toInt = -9 ∨ (0 ≤ r26.toInt ∧ r26.toInt ≤ 1)) ∧ (SgM (c9 9) (c9 10) (c9 11) (c9 12) (c9 13) (i9 8).toInt (i9 17).toInt 0 (sfV (c9 3) (c9 6) (c9 4) (kS (c9 3) (c9 6) (i9 17).toInt) 0 (i9 17).toInt) r26.toInt)) := hw26
                      obtain ⟨hw26, hr26_0⟩ := hw26
                      have hr26_0 : SgM (c 9) (c 10) (c 11) (c 12) (c 13) (i 8).toInt (i9 17).toInt 0 (sfV (c 3) (c 6) (c 4) (kS (c 3) (c 6) (i9 17).toInt) 0 (i9 17).toInt) r26.toInt := by have h9 := hr26_0; rw [show c9 3 = c 3 from hfc 3 (by decide +kernel), show c9 4 = c 4 from hfc 4 (by decide +kernel), show c9 6 = c 6 from hfc 6 (by decide +kernel), show c9 9 = c 9 from hfc 9 (by decide +kernel), show c9 10 = c 10 from hfc 10 (by decide +kernel), show c9 11 = c 11 from hfc 11 (by decide +kernel), show c9 12 = c 12 from hfc 12 (by decide +kernel), show c9 13 = c 13 from hfc 13 (by decide +kernel), show i9 8 = i 8 from hfi 8 (by decide +kernel)] at h9; exact h9
                      have hsv : r26.toInt = sgM (c 9) (c 10) (c 11) (c 12) (c 13) (i 8).toInt (feD (c 3) (c 6) (c 9) (c 10) (c 11) (c 12) (c 13) (i 8).toInt w1.toInt y7_6.toInt) 0 (sfV (c 3) (c 6) (c 4) (kS (c 3) (c 6) (feD (c 3) (c 6) (c 9) (c 10) (c 11) (c 12) (c 13) (i 8).toInt w1.toInt y7_6.toInt)) 0 (feD (c 3) (c 6) (c 9) (c 10) (c 11) (c 12) (c 13) (i 8).toInt w1.toInt y7_6.toInt)) := by rw [← hfD]; exact sgM_e hr26_0
                      refine lv_iconst (v := 1) hx hb dX12_toward_96 (by decide +kernel) ?_
                      refine lv_icmp_ne (tgt := 104) hx hb dX12_toward_97 (by decide +kernel) (fun c27 => ?_) (fun c27 => ?_)
                      · have f27 := mt (ti_eq (a := r26.toInt) (b := 1) rfl (by decide +kernel)).mpr c27
                        refine lv_iconst (v := 0) hx hb dX12_toward_104 (by decide +kernel) ?_
                        refine lv_istore (lv' := [(7, .int 0), (6, .int y7_6), (5, .int x4), (4, .int r1), (0, .ref o), (1, .int w1), (2, .int w2), (3, .int b1)]) hx hb dX12_toward_105 hl (by decide +kernel) rfl (fun ls hl => ?_)
                        refine lv_aload_n hx hb dX12_toward_107 rfl (lv_at hl 4 rfl) ?_
                        refine mget_16 (v := (i9 16)) rfl hx hb hts (fun _ h => List.mem_cons_of_mem _ (List.mem_append_right _ h)) hown hK hP (hts (.fieldLink RX12 263 "TalePlayModel" "leads" "I") (List.mem_cons_of_mem _ (List.mem_append_left _ (List.mem_append_right _ (List.mem_append_right _ (List.mem_append_left _ (List.mem_of_getElem? (i := 3) rfl))))))) dX12_toward_108 ?_
                        refine lv_istore (lv' := [(8, .int (i9 16)), (7, .int 0), (6, .int y7_6), (5, .int x4), (4, .int r1), (0, .ref o), (1, .int w1), (2, .int w2), (3, .int b1)]) hx hb dX12_toward_111 hl (by decide +kernel) rfl (fun ls hl => ?_)
                        refine lv_iload hx hb dX12_toward_113 (lv_at hl 1 rfl) ?_
                        refine lv_if_eq (tgt := 141) hx hb dX12_toward_115 (by decide +kernel) (fun _ => ?_) (fun q9 => absurd (by decide +kernel) q9)
                        obtain ⟨x28, ex28⟩ : ∃ y : Int32, y = y7_6 + 1 := ⟨_, rfl⟩
                        have tx28 := ti_add (a := y7_6.toInt) (b := 1) ex28 rfl (by decide +kernel) (by omega) (by omega)
                        refine lv_iinc (v := x28) (lv' := [(6, .int x28), (8, .int (i9 16)), (7, .int 0), (5, .int x4), (4, .int r1), (0, .ref o), (1, .int w1), (2, .int w2), (3, .int b1)]) hx hb dX12_toward_141 hl (k := 2) rfl (by rw [ex28]; rfl) (by decide +kernel) rfl (fun ls hl => ?_)
                        refine lv_goto (tgt := 48) hx hb dX12_toward_144 (by decide +kernel) ?_
                        exact ih7 i9 q9 c9 d9 x28 hI (fr_w hfi (by decide +kernel)) (fr_w hfc (by decide +kernel)) (show 0 ≤ x28.toInt ∧ x28.toInt ≤ 10 from by have h50 : x28.toInt = (y7_6.toInt + 1) := tx28; have h52 : (0 : Int32).toInt = 0 := (by decide +kernel); omega) (show ∀ d9 : Nat, (d9 : Int) < x28.toInt → NoD (wM (c 3) (c 6) (c 9) (c 10) (c 11) (c 12) (c 13) (i 8).toInt b1.toInt (fun t9 : Int => sgM (c 9) (c 10) (c 11) (c 12) (c 13) (i 8).toInt t9 0 (sfV (c 3) (c 6) (c 4) (kS (c 3) (c 6) t9) 0 t9))) w1.toInt w2.toInt 300 d9 from fun d9 h9 => by by_cases q9 : d9 = y7_6.toInt.toNat; (· rw [q9]; exact (show NoD (wM (c 3) (c 6) (c 9) (c 10) (c 11) (c 12) (c 13) (i 8).toInt b1.toInt (fun t9 : Int => sgM (c 9) (c 10) (c 11) (c 12) (c 13) (i 8).toInt t9 0 (sfV (c 3) (c 6) (c 4) (kS (c 3) (c 6) t9) 0 t9))) w1.toInt w2.toInt 300 y7_6.toInt.toNat from fun q9 => absurd (wM_n (by rw [hdn]; show ¬ (¬ feL (c 3) (c 6) (c 9) (c 10) (c 11) (c 12) (c 13) (i 8).toInt w1.toInt y7_6.toInt = -9 ∧ (b1.toInt = 0 ∨ feD (c 3) (c 6) (c 9) (c 10) (c 11) (c 12) (c 13) (i 8).toInt w1.toInt y7_6.toInt = -9 ∨ sgM (c 9) (c 10) (c 11) (c 12) (c 13) (i 8).toInt (feD (c 3) (c 6) (c 9) (c 10) (c 11) (c 12) (c 13) (i 8).toInt w1.toInt y7_6.toInt) 0 (sfV (c 3) (c 6) (c 4) (kS (c 3) (c 6) (feD (c 3) (c 6) (c 9) (c 10) (c 11) (c 12) (c 13) (i 8).toInt w1.toInt y7_6.toInt)) 0 (feD (c 3) (c 6) (c 9) (c 10) (c 11) (c 12) (c 13) (i 8).toInt w1.toInt y7_6.toInt)) = 1)); omega)) q9)); (· exact hz7_0 d9 (by have h8 := tx28; omega))) (by have h50 : x28.toInt = (y7_6.toInt + 1) := tx28; have h52 : (0 : Int32).toInt = 0 := (by decide +kernel); omega) _ _ _ hP hD hS (lv_sub hl [0, 3, 4, 5, 6, 7, 8] rfl)
                      · have f27 := (ti_eq (a := r26.toInt) (b := 1) rfl (by decide +kernel)).mp c27
                        refine lv_iconst (v := 1) hx hb dX12_toward_100 (by decide +kernel) ?_
                        refine lv_goto (tgt := 105) hx hb dX12_toward_101 (by decide +kernel) ?_
                        refine lv_istore (lv' := [(7, .int 1), (6, .int y7_6), (5, .int x4), (4, .int r1), (0, .ref o), (1, .int w1), (2, .int w2), (3, .int b1)]) hx hb dX12_toward_105 hl (by decide +kernel) rfl (fun ls hl => ?_)
                        refine lv_aload_n hx hb dX12_toward_107 rfl (lv_at hl 4 rfl) ?_
                        refine mget_16 (v := (i9 16)) rfl hx hb hts (fun _ h => List.mem_cons_of_mem _ (List.mem_append_right _ h)) hown hK hP (hts (.fieldLink RX12 263 "TalePlayModel" "leads" "I") (List.mem_cons_of_mem _ (List.mem_append_left _ (List.mem_append_right _ (List.mem_append_right _ (List.mem_append_left _ (List.mem_of_getElem? (i := 3) rfl))))))) dX12_toward_108 ?_
                        refine lv_istore (lv' := [(8, .int (i9 16)), (7, .int 1), (6, .int y7_6), (5, .int x4), (4, .int r1), (0, .ref o), (1, .int w1), (2, .int w2), (3, .int b1)]) hx hb dX12_toward_111 hl (by decide +kernel) rfl (fun ls hl => ?_)
                        refine lv_iload hx hb dX12_toward_113 (lv_at hl 1 rfl) ?_
                        refine lv_if_eq (tgt := 141) hx hb dX12_toward_115 (by decide +kernel) (fun q9 => absurd q9 (by decide +kernel)) (fun _ => ?_)
                        have hgo0 : (i9 16).toInt = (wM (c 3) (c 6) (c 9) (c 10) (c 11) (c 12) (c 13) (i 8).toInt b1.toInt (fun t9 : Int => sgM (c 9) (c 10) (c 11) (c 12) (c 13) (i 8).toInt t9 0 (sfV (c 3) (c 6) (c 4) (kS (c 3) (c 6) t9) 0 t9))) w1.toInt y7_6.toInt.toNat := by rw [show (i9 16).toInt = feL (c 3) (c 6) (c 9) (c 10) (c 11) (c 12) (c 13) (i 8).toInt w1.toInt y7_6.toInt from hfL]; rw [← hdn]; exact wM_y (by rw [hdn]; show ¬ feL (c 3) (c 6) (c 9) (c 10) (c 11) (c 12) (c 13) (i 8).toInt w1.toInt y7_6.toInt = -9 ∧ (b1.toInt = 0 ∨ feD (c 3) (c 6) (c 9) (c 10) (c 11) (c 12) (c 13) (i 8).toInt w1.toInt y7_6.toInt = -9 ∨ sgM (c 9) (c 10) (c 11) (c 12) (c 13) (i 8).toInt (feD (c 3) (c 6) (c 9) (c 10) (c 11) (c 12) (c 13) (i 8).toInt w1.toInt y7_6.toInt) 0 (sfV (c 3) (c 6) (c 4) (kS (c 3) (c 6) (feD (c 3) (c 6) (c 9) (c 10) (c 11) (c 12) (c 13) (i 8).toInt w1.toInt y7_6.toInt)) 0 (feD (c 3) (c 6) (c 9) (c 10) (c 11) (c 12) (c 13) (i 8).toInt w1.toInt y7_6.toInt)) = 1); omega)
                        have hgo := hgo0.symm
                        refine lv_aload_n hx hb dX12_toward_118 rfl (lv_at hl 5 rfl) ?_
                        refine lv_iload hx hb dX12_toward_119 (lv_at hl 0 rfl) ?_
                        refine lv_iload_n hx hb dX12_toward_121 rfl (lv_at hl 8 rfl) ?_
                        have rb2_i9 : 6 ≤ (i9 2).toInt ∧ (i9 2).toInt ≤ 24 := hI.1 2
                        have re2_i9 : (i9 2).toInt = (i 2).toInt := congrArg Int32.toInt (hfi 2 (by decide +kernel))
                        have rb5_i9 : 0 ≤ (i9 5).toInt ∧ (i9 5).toInt ≤ 30 := hI.1 5
                        have re5_i9 : (i9 5).toInt = (i 5).toInt := congrArg Int32.toInt (hfi 5 (by decide +kernel))
                        refine al_callv (va_runV (As := [.int (i9 16), .int b1]) (rest := []) ⟨hx, hb, hml, hown, hts⟩ (s_X12_walk_e l D H.size o a t i9 q9 c9 d9 (i9 16) b1 hI (show 0 ≤ (i9 16).toInt ∧ (i9 16).toInt < ((i9 5) : Int32).toInt from by omega) (by rw [show c9 3 = c 3 from hfc 3 (by decide +kernel), show c9 6 = c 6 from hfc 6 (by decide +kernel), show c9 9 = c 9 from hfc 9 (by decide +kernel), show c9 10 = c 10 from hfc 10 (by decide +kernel), show c9 11 = c 11 from hfc 11 (by decide +kernel), show c9 13 = c 13 from hfc 13 (by decide +kernel), show i9 2 = i 2 from hfi 2 (by decide +kernel), show i9 5 = i 5 from hfi 5 (by decide +kernel), show i9 8 = i 8 from hfi 8 (by decide +kernel)]; exact hs_S)) (cwV 2 hts gm_X12_toward_X12_walk rfl rfl rfl (by decide +kernel) ⟨Nat.le_of_ble_eq_true rfl, Nat.le_of_ble_eq_true rfl⟩) (pB_V hK hP hD (ci := 12) (q0 := 0) rfl rfl) rfl rfl hl.1 rfl (lv_room (Nat.le_of_ble_eq_true rfl)) dX12_toward_122 ⟨Nat.le_of_ble_eq_true rfl, Nat.le_of_ble_eq_true rfl⟩) hS hA hP hD (fun u29 H locs hw29 hP hD hS => ?_)
                        obtain ⟨i29, q29, c29, d29⟩ := u29
                        have hw29 : True ∧ mInv i29 c29 ∧ (∀ k, k ∉ ([16, 17, 18, 19] : List Nat) → i29 k = i9 k) ∧ (∀ k, k ∉ ([20, 21] : List Nat) → c29 k = c9 k) ∧ (BfE (wM (c9 3) (c9 6) (c9 9) (c9 10) (c9 11) (c9 12) (c9 13) (i9 8).toInt b1.toInt (fun t9 : Int => sgM (c9 9) (c9 10) (c9 11) (c9 12) (c9 13) (i9 8).toInt t9 0 (sfV (c9 3) (c9 6) (c9 4) (kS (c9 3) (c9 6) t9) 0 t9))) (i9 16).toInt (i9 5).toInt (c29 20)) := hw29
                        obtain ⟨hw29, hI, hei29, hec29, hxp29_0⟩ := hw29
                        have hxp29_0 : BfE (wM (c 3) (c 6) (c 9) (c 10) (c 11) (c 12) (c 13) (i 8).toInt b1.toInt (fun t9 : Int => sgM (c 9) (c 10) (c 11) (c 12) (c 13) (i 8).toInt t9 0 (sfV (c 3) (c 6) (c 4) (kS (c 3) (c 6) t9) 0 t9))) (i9 16).toInt (i 5).toInt (c29 20) := by have h9 := hxp29_0; rw [show c9 3 = c 3 from hfc 3 (by decide +kernel), show c9 4 = c 4 from hfc 4 (by decide +kernel), show c9 6 = c 6 from hfc 6 (by decide +kernel), show c9 9 = c 9 from hfc 9 (by decide +kernel), show c9 10 = c 10 from hfc 10 (by decide +kernel), show c9 11 = c 11 from hfc 11 (by decide +kernel), show c9 12 = c 12 from hfc 12 (by decide +kernel), show c9 13 = c 13 from hfc 13 (by decide +kernel), show i9 5 = i 5 from hfi 5 (by decide +kernel), show i9 8 = i 8 from hfi 8 (by decide +kernel)] at h9; exact h9
                        have hfi : ∀ k, k ∉ ([0, 16, 17, 18, 19] : List Nat) → i29 k = i k := fr_z hfi hei29 (by decide +kernel) (by decide +kernel)
                        have hfc : ∀ k, k ∉ ([1, 20, 21] : List Nat) → c29 k = c k := fr_z hfc hec29 (by decide +kernel) (by decide +kernel)
                        have hP : va_P D vwCl (mW o a t i29 q29 c29 d29) H := hP
                        have hD : va_D A (mW o a t i29 q29 c29 d29) := hD
                        refine lv_aload_n hx hb dX12_toward_125 rfl (lv_at hl 5 rfl) ?_
                        refine mget_20 hx hb hts (fun _ h => List.mem_cons_of_mem _ (List.mem_append_right _ h)) hown hK hP (hts (.fieldLink RX12 44 "TalePlayModel" "far" "[I") (List.mem_cons_of_mem _ (List.mem_append_left _ (List.mem_append_right _ (List.mem_append_left _ (List.mem_of_getElem? (i := 13) rfl)))))) dX12_toward_126 ?_
                        refine lv_iload_n hx hb dX12_toward_129 rfl (lv_at hl 7 rfl) ?_
                        refine mld_20 hx hb hK hP (vp_in_iff.mpr (by have h9 : w2.toInt = w2.toInt := rfl; omega)) dX12_toward_130 (fun x30 ex30 => ?_)
                        have rx30 : x30.toInt = -9 ∨ (0 ≤ x30.toInt ∧ x30.toInt ≤ 29) := by rw [ex30]; exact hI.2 20 _
                        have gx30 : (c29 20 (w2 : Int32).toNatClampNeg).toInt = x30.toInt := by rw [ex30]
                        have hW2 : bfS (wM (c 3) (c 6) (c 9) (c 10) (c 11) (c 12) (c 13) (i 8).toInt b1.toInt (fun t9 : Int => sgM (c 9) (c 10) (c 11) (c 12) (c 13) (i 8).toInt t9 0 (sfV (c 3) (c 6) (c 4) (kS (c 3) (c 6) t9) 0 t9))) (i9 16).toInt 300 w2.toInt = x30.toInt := by have h9 := hxp29_0 w2.toNatClampNeg (by rw [cl_nn (by omega)]; omega); rw [cl_nn (by omega)] at h9; rw [← h9]; exact gx30
                        refine lv_iload hx hb dX12_toward_131 (lv_at hl 3 rfl) ?_
                        refine lv_iconst (v := 1) hx hb dX12_toward_133 (by decide +kernel) ?_
                        refine lv_isub hx hb dX12_toward_134 ?_
                        refine lv_topi (fun x31 ex31 => ?_)
                        have tx31 := ti_sub (a := x4.toInt) (b := 1) ex31 rfl (by decide +kernel) (by omega) (by omega)
                        refine lv_icmp_ne (tgt := 141) hx hb dX12_toward_135 (by decide +kernel) (fun c32 => ?_) (fun c32 => ?_)
                        · have f32 := mt (ti_eq (a := x30.toInt) (b := (x4.toInt - 1)) rfl tx31).mpr c32
                          obtain ⟨x33, ex33⟩ : ∃ y : Int32, y = y7_6 + 1 := ⟨_, rfl⟩
                          have tx33 := ti_add (a := y7_6.toInt) (b := 1) ex33 rfl (by decide +kernel) (by omega) (by omega)
                          refine lv_iinc (v := x33) (lv' := [(6, .int x33), (8, .int (i9 16)), (7, .int 1), (5, .int x4), (4, .int r1), (0, .ref o), (1, .int w1), (2, .int w2), (3, .int b1)]) hx hb dX12_toward_141 hl (k := 2) rfl (by rw [ex33]; rfl) (by decide +kernel) rfl (fun ls hl => ?_)
                          refine lv_goto (tgt := 48) hx hb dX12_toward_144 (by decide +kernel) ?_
                          exact ih7 i29 q29 c29 d29 x33 hI (fr_w hfi (by decide +kernel)) (fr_w hfc (by decide +kernel)) (show 0 ≤ x33.toInt ∧ x33.toInt ≤ 10 from by have h50 : x33.toInt = (y7_6.toInt + 1) := tx33; have h52 : (1 : Int32).toInt = 1 := (by decide +kernel); omega) (show ∀ d9 : Nat, (d9 : Int) < x33.toInt → NoD (wM (c 3) (c 6) (c 9) (c 10) (c 11) (c 12) (c 13) (i 8).toInt b1.toInt (fun t9 : Int => sgM (c 9) (c 10) (c 11) (c 12) (c 13) (i 8).toInt t9 0 (sfV (c 3) (c 6) (c 4) (kS (c 3) (c 6) t9) 0 t9))) w1.toInt w2.toInt 300 d9 from fun d9 h9 => by by_cases q9 : d9 = y7_6.toInt.toNat; (· rw [q9]; exact (show NoD (wM (c 3) (c 6) (c 9) (c 10) (c 11) (c 12) (c 13) (i 8).toInt b1.toInt (fun t9 : Int => sgM (c 9) (c 10) (c 11) (c 12) (c 13) (i 8).toInt t9 0 (sfV (c 3) (c 6) (c 4) (kS (c 3) (c 6) t9) 0 t9))) w1.toInt w2.toInt 300 y7_6.toInt.toNat from fun _ q8 => by rw [hgo, hW2, ← hAL] at q8; omega)); (· exact hz7_0 d9 (by have h8 := tx33; omega))) (by have h50 : x33.toInt = (y7_6.toInt + 1) := tx33; have h52 : (1 : Int32).toInt = 1 := (by decide +kernel); omega) _ _ _ hP hD hS (lv_sub hl [0, 3, 4, 5, 6, 7, 8] rfl)
                        · have f32 := (ti_eq (a := x30.toInt) (b := (x4.toInt - 1)) rfl tx31).mp c32
                          refine lv_iload hx hb dX12_toward_138 (lv_at hl 2 rfl) ?_
                          exact rw_iret (i29, q29, c29, d29) hx hb hr hlocks hS (hK.sub (tys' := []) [] rfl) hP hD dX12_toward_140 ⟨trivial, hI, fr_w hfi (by decide +kernel), fr_w hfc (by decide +kernel), (show WyR (i 5).toInt w1.toInt w2.toInt (kS (c 3) (c 6) w1.toInt) (kS (c 3) (c 6) w2.toInt) (y7_6 : Int32).toInt (fun z9 => TdM (wM (c 3) (c 6) (c 9) (c 10) (c 11) (c 12) (c 13) (i 8).toInt b1.toInt (fun t9 : Int => sgM (c 9) (c 10) (c 11) (c 12) (c 13) (i 8).toInt t9 0 (sfV (c 3) (c 6) (c 4) (kS (c 3) (c 6) t9) 0 t9))) w1.toInt w2.toInt 300 z9) from Or.inr (Or.inr ⟨by omega, by omega, Or.inr ⟨by rw [← hAL]; omega, by rw [← hAL]; omega, Or.inl ⟨y7_6.toInt.toNat, by omega, by omega, by rw [hgo]; omega, by rw [hgo, hW2, ← hAL]; omega, fun d9 h9 => hz7_0 d9 (by omega)⟩⟩⟩))⟩
        exact lp7 _ i3 q3 c3 d3 (0 : Int32) hI (fr_w hfi (by decide +kernel)) (fr_w hfc (by decide +kernel)) (show 0 ≤ (0 : Int32).toInt ∧ (0 : Int32).toInt ≤ 10 from by decide +kernel) (show ∀ d9 : Nat, (d9 : Int) < (0 : Int32).toInt → NoD (wM (c 3) (c 6) (c 9) (c 10) (c 11) (c 12) (c 13) (i 8).toInt b1.toInt (fun t9 : Int => sgM (c 9) (c 10) (c 11) (c 12) (c 13) (i 8).toInt t9 0 (sfV (c 3) (c 6) (c 4) (kS (c 3) (c 6) t9) 0 t9))) w1.toInt w2.toInt 300 d9 from fun d9 h9 => by have h8 : (0 : Int32).toInt = 0 := (by decide +kernel); omega) (Nat.lt_succ_self _) _ _ _ hP hD hS (lv_sub hl [0, 1, 2, 3, 4, 5, 6] rfl)
      · have f6 := (ti_eq (a := x4.toInt) (b := 0) rfl (by decide +kernel)).mp c6
        refine lv_bipush (v := (-9)) hx hb dX12_toward_42 (by decide +kernel) ?_
        exact rw_iret (i3, q3, c3, d3) hx hb hr hlocks hS (hK.sub (tys' := []) [] rfl) hP hD dX12_toward_44 ⟨trivial, hI, fr_w hfi (by decide +kernel), fr_w hfc (by decide +kernel), (show WyR (i 5).toInt w1.toInt w2.toInt (kS (c 3) (c 6) w1.toInt) (kS (c 3) (c 6) w2.toInt) ((-9) : Int32).toInt (fun z9 => TdM (wM (c 3) (c 6) (c 9) (c 10) (c 11) (c 12) (c 13) (i 8).toInt b1.toInt (fun t9 : Int => sgM (c 9) (c 10) (c 11) (c 12) (c 13) (i 8).toInt t9 0 (sfV (c 3) (c 6) (c 4) (kS (c 3) (c 6) t9) 0 t9))) w1.toInt w2.toInt 300 z9) from Or.inr (Or.inr ⟨by omega, by omega, Or.inl ⟨by rw [← hAL]; omega, by decide⟩⟩))⟩
  · have f2 := mt (ti_le (a := 0) (b := r1.toInt) (by decide +kernel) rfl).mpr c2
    refine lv_iload hx hb dX12_toward_13 (lv_at hl 0 rfl) ?_
    exact rw_iret (i1, q1, c1, d1) hx hb hr hlocks hS (hK.sub (tys' := []) [] rfl) hP hD dX12_toward_15 ⟨trivial, hI, fr_w hfi (by decide +kernel), fr_w hfc (by decide +kernel), (show WyR (i 5).toInt w1.toInt w2.toInt (kS (c 3) (c 6) w1.toInt) (kS (c 3) (c 6) w2.toInt) (r1 : Int32).toInt (fun z9 => TdM (wM (c 3) (c 6) (c 9) (c 10) (c 11) (c 12) (c 13) (i 8).toInt b1.toInt (fun t9 : Int => sgM (c 9) (c 10) (c 11) (c 12) (c 13) (i 8).toInt t9 0 (sfV (c 3) (c 6) (c 4) (kS (c 3) (c 6) t9) 0 t9))) w1.toInt w2.toInt 300 z9) from by rcases hxp1_0 with h9 | h9 | h9; (· exact Or.inl h9); (· exact Or.inr (Or.inl h9)); (· exfalso; omega))⟩

