theorem RDS_n {Z : Int → Int} {F A B C S ld dr bw im f1 f2 : Nat → Int32} {n : Nat} (h : RDS Z F A B C S n ld dr bw im f1 f2) (hp : ¬ ((S n).toInt = 1 ∧ (F n).toInt = 5)) : RDS Z F A B C S (n + 1) ld dr bw im f1 f2 := by
  obtain ⟨b1, l1, l2, ⟨h1, h2⟩, h3, h4⟩ := h
  exact ⟨b1, l1, l2, ⟨fun k hk => DA_n (h1 k hk) (fun q => hp ⟨q.1, q.2.1⟩), fun t ht => DB_n (h2 t ht) (fun q => hp ⟨q.1, q.2.1⟩)⟩, fun k hk => DI_n (h3 k hk) (fun q => hp ⟨q.1, q.2.1⟩), h4⟩
theorem opp_i {d : Int} (h : 0 ≤ d ∧ d ≤ 9) : opp (opp d) = d ∧ 0 ≤ opp d ∧ opp d ≤ 9 := by
  by_cases e : d % 2 = 0
  · have q : opp d = d + 1 := opp_e e
    rw [q, opp_o (by omega)]; omega
  · have q : opp d = d - 1 := opp_o e
    rw [q, opp_e (by omega)]; omega
theorem lsF_c {P Q : Nat → Prop} {n : Nat} {r : Int} (e : ∀ s, s < n → (P s ↔ Q s)) (h : lst P n r) : lsF Q n = r := (lsF_e (lst_ag e h)).symm
theorem fsF_c {P Q : Nat → Prop} {n : Nat} {r : Int} (e : ∀ s, s < n → (P s ↔ Q s)) (h : fst P n r) : fsF Q n = r := (fsF_e (fst_ag e h)).symm
theorem RD_fe {pa ko so ko2 F A B C S pb eb fb kb ce ld dr bw im f1 f2 : Nat → Int32} {n N r d : Int} (h : RDS (zX so ko N) F A B C S n.toNat ld dr bw im f1 f2) (hI : IX F A B C S n pb eb fb kb ce) (hr : RR F A B C pb eb fb kb) (hD : DR (zX so ko N) F A B S n N) (hz : ∀ t, 0 ≤ t → t < N → zX so ko N t = kS pa ko2 t) (hB : ∀ s : Nat, (s : Int) < n → (F s).toInt = 5 → (B s).toInt < N ∧ (kS pa ko2 (B s).toInt = 0 ∨ kS pa ko2 (B s).toInt = 2)) (hN : N ≤ 30) (r0 : 0 ≤ r ∧ r < N) (rR : kS pa ko2 r = 0) (hd : 0 ≤ d ∧ d ≤ 9) : FeM pa ko2 F A B C S n r d (ld (r * 10 + d).toNat).toInt (dr (r * 10 + d).toNat).toInt (bw (r * 10 + d).toNat).toInt (im (r * 10 + d).toNat).toInt := by
  obtain ⟨b1, l1, l2, ⟨h1, h2⟩, h3, h4⟩ := h
  have kk : (((r * 10 + d).toNat : Nat) : Int) = r * 10 + d := by omega
  have hk : (r * 10 + d).toNat < 300 := by omega
  generalize (r * 10 + d).toNat = k at *
  have eK : ∀ s, s < n.toNat → (Ek F A C S k s ↔ bP F A C S r d s) := fun s hs => by
    have R := hr.1 s
    constructor
    · rintro ⟨a, b, e⟩; exact ⟨a, b, by omega, by omega⟩
    · rintro ⟨a, b, e, f⟩; exact ⟨a, b, by omega⟩
  have eI : ∀ s, s < n.toNat → (Iq (zX so ko N) F B C S k s ↔ qP F B C S r (opp d) s) := fun s hs => by
    have R := hr.1 s
    have O := opp_i (d := (C s).toInt) (by omega)
    have Od := opp_i hd
    constructor
    · rintro ⟨a, b, e, f⟩
      refine ⟨a, b, by omega, ?_⟩
      have : opp (C s).toInt = d := by omega
      rw [← this]; exact O.1.symm
    · rintro ⟨a, b, e, f⟩
      refine ⟨a, b, by rw [e, hz r r0.1 r0.2]; exact rR, ?_⟩
      rw [f, Od.1]; omega
  obtain ⟨a1, ⟨p1, a2, a3⟩, ⟨p2, a4, a5⟩⟩ := h1 k hk
  obtain ⟨q, c1, c2⟩ := h3 k hk
  have c4 := (h4 k hk).1 hk
  have B1 := lsF_c eK a1
  have Q1 := fsF_c eI c1
  unfold FeM
  rw [B1, Q1]
  -- one sentence a slot
  have uq : ∀ s s' : Nat, s < n.toNat → s' < n.toNat → Ek F A C S k s → Ek F A C S k s' → s = s' := fun s s' y1 y2 z1 z2 => by
    have w1 := (hI.2.1 k s hk).mp ⟨by omega, z1.1, z1.2.1, z1.2.2⟩
    have w2 := (hI.2.1 k s' hk).mp ⟨by omega, z2.1, z2.2.1, z2.2.2⟩
    omega
  rcases a1 with ⟨v, v2⟩ | ⟨s, v, v2, v3, v4⟩
  · -- none is said
    have p1' : p1 = -9 := by
      rcases a2 with y | ⟨s, _, y2, y3, _⟩
      · exact y.1
      · exact absurd y3.1 (v2 s y2)
    have p2' : p2 = -9 := by
      rcases a4 with y | ⟨s, _, y2, y3, _⟩
      · exact y.1
      · exact absurd y3.1 (v2 s y2)
    rw [p1', vI_n] at a3
    rw [p2', vI_n] at a5
    unfold thr at c4
    rw [if_pos a5] at c4
    refine Or.inr ⟨v, a5, ?_⟩
    rcases c2 with ⟨y, _⟩ | ⟨_, y1, y2, y3, y4⟩ | ⟨_, y1, y2, y3, y4⟩
    · exact absurd v y
    · exact Or.inr ⟨y1, y2, y4, by rw [c4, y3, a3]⟩
    · refine Or.inl ⟨y1, y2, y4, ?_⟩
      rw [c4, y3]
      unfold vI
      rw [if_neg y1]
  · have v9 : ¬ (b1 k).toInt = -9 := by omega
    have vs : (b1 k).toInt.toNat = s := by omega
    have hb := hB s (by omega) v3.2.1
    have R := hr.1 s
    have zz := hz (B s).toInt (by omega) hb.1
    have As : (A s).toInt = r ∧ (C s).toInt = d := by have := v3.2.2; have R2 := hr.1 s; omega
    obtain ⟨y1, y2, y3⟩ : bw k = b1 k ∧ l2 k = l1 k ∧ (im k).toInt = 0 := by
      rcases c2 with y | y | y
      · exact ⟨y.2.1, y.2.2.1, y.2.2.2⟩
      · exact absurd y.1 v9
      · exact absurd y.1 v9
    refine Or.inl ⟨v9, by rw [y1], y3, ?_⟩
    rw [vs]
    by_cases e : kS pa ko2 (B s).toInt = 2
    · -- a door
      have zd : zX so ko N (B s).toInt = 2 := by rw [zz]; exact e
      have p2' : p2 = (s : Int) := by
        rcases a4 with ⟨_, y⟩ | ⟨s', w1, w2, w3, _⟩
        · exact absurd ⟨v3, by rw [zd]; omega⟩ (y s v2)
        · rw [w1, uq s' s w2 v2 w3.1 v3]
      rw [p2', vI_y] at a5
      refine Or.inl ⟨e, a5, ?_⟩
      obtain ⟨u1, u2⟩ := hD (B s).toInt (by omega) hb.1 zd
      have tB : (B s).toInt.toNat < 30 := by omega
      obtain ⟨r1, r2, t1, t2, t3, t4⟩ := h2 (B s).toInt.toNat tB
      have tc : (((B s).toInt.toNat : Nat) : Int) = (B s).toInt := by omega
      have eT : ∀ s', Dt (zX so ko N) F B S (((B s).toInt.toNat : Nat) : Int) s' ↔ EB F B S (B s).toInt s' := fun s' => by
        constructor
        · rintro ⟨z1, z2, z3, z4⟩; exact ⟨z1, z2, by omega⟩
        · rintro ⟨z1, z2, z3⟩; exact ⟨z1, z2, by rw [z3, zd]; omega, by omega⟩
      have Es : EB F B S (B s).toInt s := ⟨v3.1, v3.2.1, rfl⟩
      unfold thr at c4
      have dk : (dr k).toNatClampNeg = (B s).toInt.toNat := by show (dr k).toInt.toNat = _; rw [a5]
      rw [if_neg (by omega), dk, show (k : Int) / 10 = r by omega] at c4
      rw [c4]
      -- the first and the last of that door
      rcases t1 with ⟨_, z⟩ | ⟨s1, m1, m2, m3, m4⟩
      · exact absurd ((eT s).mpr Es) (z s v2)
      · rcases t2 with ⟨_, z⟩ | ⟨s2, w1, w2, w3, w4⟩
        · exact absurd ((eT s).mpr Es) (z s v2)
        · have E1 := (eT s1).mp m3
          have E2 := (eT s2).mp w3
          rw [m1, vI_y] at t3
          have l1s : s1 ≤ s := Decidable.byContradiction (fun z => m4 s (by omega) ((eT s).mpr Es))
          have ls2 : s ≤ s2 := Decidable.byContradiction (fun z => w4 s (by omega) v2 ((eT s).mpr Es))
          have mid : s = s1 ∨ s = s2 := by
            by_cases z1 : s = s1
            · exact Or.inl z1
            · by_cases z2 : s = s2
              · exact Or.inr z2
              · exact absurd (u2 s1 s s2 (by omega) (by omega) (by omega) E1 Es E2) (fun z => z)
          have only : ∀ s', s' < n.toNat → EB F B S (B s).toInt s' → s' = s1 ∨ s' = s2 := fun s' y4 y5 => by
            have g1 : s1 ≤ s' := Decidable.byContradiction (fun z => m4 s' (by omega) ((eT s').mpr y5))
            have g2 : s' ≤ s2 := Decidable.byContradiction (fun z => w4 s' (by omega) y4 ((eT s').mpr y5))
            by_cases z1 : s' = s1
            · exact Or.inl z1
            · by_cases z2 : s' = s2
              · exact Or.inr z2
              · exact absurd (u2 s1 s' s2 (by omega) (by omega) (by omega) E1 y5 E2) (fun z => z)
          unfold oS
          by_cases ee : s1 = s2
          · -- one alone
            have no : fsF (oP F A B S (B s).toInt r) n.toNat = -9 := by
              refine (fsF_e (Or.inl ⟨rfl, fun s' y4 y5 => ?_⟩)).symm
              have := only s' y4 ⟨y5.1, y5.2.1, y5.2.2.1⟩
              have : s' = s := by omega
              rw [this] at y5
              exact y5.2.2.2 As.1
            rw [if_pos no, t3, show s1 = s by omega, if_pos As.1, t4, if_pos (by omega)]
          · have nA : ¬ (A s1).toInt = (A s2).toInt := fun z => ee (u1 s1 s2 (by omega) (by omega) E1 E2 z)
            rw [m1, w1, if_neg (by omega), vI_y] at t4
            rcases mid with g | g
            · have yes : fsF (oP F A B S (B s).toInt r) n.toNat = (s2 : Int) := by
                refine (fsF_e (Or.inr ⟨s2, rfl, w2, ⟨E2.1, E2.2.1, E2.2.2, by rw [← As.1, g]; exact fun z => nA z.symm⟩, fun s' y4 y5 => ?_⟩)).symm
                have := only s' (by omega) ⟨y5.1, y5.2.1, y5.2.2.1⟩
                have : s' = s := by omega
                rw [this] at y5
                exact y5.2.2.2 As.1
              rw [if_pos (by rw [t3, ← g]; exact As.1), yes, if_neg (show ¬ (s2 : Int) = -9 by omega), t4, show ((s2 : Int)).toNat = s2 by omega]
            · have n1 : ¬ (A s1).toInt = r := fun z => nA (by rw [z, ← g]; exact As.1.symm)
              have yes : fsF (oP F A B S (B s).toInt r) n.toNat = (s1 : Int) := by
                refine (fsF_e (Or.inr ⟨s1, rfl, m2, ⟨E1.1, E1.2.1, E1.2.2, n1⟩, fun s' y4 y5 => ?_⟩)).symm
                have := only s' (by omega) ⟨y5.1, y5.2.1, y5.2.2.1⟩
                omega
              rw [if_neg (by rw [t3]; exact n1), yes, if_neg (show ¬ (s1 : Int) = -9 by omega), t3, show ((s1 : Int)).toNat = s1 by omega]
    · -- a room
      have e0 : kS pa ko2 (B s).toInt = 0 := hb.2.resolve_right e
      have zr : zX so ko N (B s).toInt = 0 := by rw [zz]; exact e0
      have p1' : p1 = (s : Int) := by
        rcases a2 with ⟨_, y⟩ | ⟨s', w1, w2, w3, _⟩
        · exact absurd ⟨v3, zr⟩ (y s v2)
        · rw [w1, uq s' s w2 v2 w3.1 v3]
      have p2' : p2 = -9 := by
        rcases a4 with y | ⟨s', w1, w2, w3, _⟩
        · exact y.1
        · have := uq s' s w2 v2 w3.1 v3
          rw [this] at w3
          exact absurd zr w3.2
      rw [p1', vI_y] at a3
      rw [p2', vI_n] at a5
      unfold thr at c4
      rw [if_pos a5] at c4
      exact Or.inr ⟨e, a5, by rw [c4, y2, a3]⟩
/-! roads between two calls -/
def SB (F B : Nat → Int32) (n N : Int) : Prop := ∀ s : Nat, (s : Int) < n → (F s).toInt = 5 → 0 ≤ (B s).toInt ∧ (B s).toInt < N
theorem RDS_z {Z Z' : Int → Int} {F A B C S ld dr bw im f1 f2 : Nat → Int32} {n N : Int} (h : RDS Z F A B C S n.toNat ld dr bw im f1 f2) (hB : SB F B n N) (e : ∀ b, 0 ≤ b → b < N → Z' b = Z b) : RDS Z' F A B C S n.toNat ld dr bw im f1 f2 :=
  RDS_e (fun s hs => ⟨Iff.rfl, fun _ b => ⟨rfl, rfl, rfl, e _ (hB s (by omega) b).1 (hB s (by omega) b).2⟩⟩) h
theorem DR_z {Z Z' : Int → Int} {F A B S : Nat → Int32} {n N N' : Int} (h : DR Z F A B S n N) (hB : SB F B n N) (e : ∀ b, 0 ≤ b → b < N → Z' b = Z b) : DR Z' F A B S n N' := fun b b0 b1 bz => by
  by_cases q : b < N
  · exact h b b0 q (by rw [← e b b0 q]; exact bz)
  · refine ⟨fun s1 s2 a1 a2 p1 p2 _ => ?_, fun s1 s2 s3 a1 a2 a3 p1 p2 p3 => ?_⟩
    · have := (hB s1 a1 p1.2.1).2; have := p1.2.2; omega
    · have := (hB s3 a3 p3.2.1).2; have := p3.2.2; omega
theorem zX_k {so so2 ko : Nat → Int32} {k kn : Int32} {N : Int} (h : KS so so2 k kn) (hk : KI ko N kn.toInt) (h0 : ∀ j, 0 ≤ (ko j).toInt) : ∀ b, 0 ≤ b → b < N → zX so2 ko N b = zX so ko N b := fun b b0 b1 => by
  unfold zX
  rw [if_pos ⟨b0, b1⟩, if_pos ⟨b0, b1⟩]
  rcases h with ⟨_, e⟩ | ⟨a, a2, a3, e⟩
  · rw [e]
  · have k1 := hk b.toNat (by omega)
    have k2 := h0 b.toNat
    rw [e, pk_un (show ¬ (ko b.toNat).toNatClampNeg = kn.toNatClampNeg by show ¬ (ko b.toNat).toInt.toNat = kn.toInt.toNat; omega)]
theorem zX_m {so ko ko2 : Nat → Int32} {k s1 kn ob : Int32} {N2 : Int} (h : OU ko ko2 k s1 kn ob) (hb : 0 ≤ ob.toInt) (hN : ob.toInt ≤ N2) : ∀ b, 0 ≤ b → b < ob.toInt → zX so ko2 N2 b = zX so ko ob.toInt b := fun b b0 b1 => by
  unfold zX
  rw [if_pos ⟨b0, by omega⟩, if_pos ⟨b0, b1⟩]
  rcases h with ⟨_, e⟩ | ⟨a, a2, a3, a4, a5, e⟩
  · rw [e]
  · rw [e, pk_un (show ¬ b.toNat = ob.toNatClampNeg by show ¬ b.toNat = ob.toInt.toNat; omega)]
theorem RD_say {Q : Prop} {Z : Int → Int} {F A B C S F' A' B' C' S' ld dr bw im f1 f2 ld' dr' bw' im' f1' f2' : Nat → Int32} {n n' f a b l : Int32} (h : RDS Z F A B C S n.toInt.toNat ld dr bw im f1 f2) (hn : 0 ≤ n.toInt) (h1 : SyW Q F A B C S F' A' B' C' S' n n' f a b l) (h2 : RdQ Q Z F' A' B' C' S' ld dr bw im f1 f2 ld' dr' bw' im' f1' f2' n'.toInt f.toInt) : RDS Z F' A' B' C' S' n'.toInt.toNat ld' dr' bw' im' f1' f2' := by
  rcases h2 with ⟨q, e1, e2, e3, e4, e5, e6⟩ | ⟨_, _, q⟩
  · rw [e1, e2, e3, e4, e5, e6]
    rcases h1 with ⟨p, r1, r2, r3, r4, r5, r6⟩ | ⟨p, r1, r2, r3, r4, r5, r6⟩
    · rw [r1, r2, r3, r4, r5, r6]; exact h
    · have f5 : ¬ f.toInt = 5 := fun z => q ⟨p, z⟩
      have en : n'.toInt.toNat = n.toInt.toNat + 1 := by omega
      have en2 : n.toNatClampNeg = n.toInt.toNat := rfl
      rw [en]
      refine RDS_n (RDS_e (Z := Z) (F := F) (A := A) (B := B) (C := C) (S := S) (fun s hs => ?_) h) (fun z => f5 ?_)
      · have ne : ¬ s = n.toNatClampNeg := by omega
        rw [r1, r2, r3, r4, r5, pk_un ne, pk_un ne, pk_un ne, pk_un ne, pk_un ne]
        exact ⟨Iff.rfl, fun _ _ => ⟨rfl, rfl, rfl, rfl⟩⟩
      · have z2 := z.2
        rw [r1, en2, pk_us] at z2
        exact z2
  · exact q
theorem DR_say {Z : Int → Int} {F A B C S F' A' B' C' S' pb eb fb kb ce : Nat → Int32} {n n' f a b c N : Int32} {z y : Int} (h : DR Z F A B S n.toInt N.toInt) (hI : IX F A B C S n.toInt pb eb fb kb ce) (hr : RR F A B C pb eb fb kb) (hN : N.toInt ≤ 30) (hn : 0 ≤ n.toInt) (hy : WF f.toInt a.toInt b.toInt c.toInt N.toInt → ¬ f.toInt = 6 → y = Z b.toInt)
    (h1 : SyW (AcX F A B C S pb eb fb kb ce n.toInt N.toInt z y f.toInt a.toInt b.toInt c.toInt (lI f c).toInt) F A B C S F' A' B' C' S' n n' f a b (lI f c)) : DR Z F' A' B' S' n'.toInt N.toInt := by
  rcases h1 with ⟨p, r1, r2, r3, r4, r5, r6⟩ | ⟨p, r1, r2, r3, r4, r5, r6⟩
  · rw [r1, r2, r3, r5, r6]; exact h
  · obtain ⟨w, _, _, w4, w5⟩ := p
    have w2 := w
    unfold WF at w2
    have en2 : n.toNatClampNeg = n.toInt.toNat := rfl
    have one : (1 : Int32).toInt = 1 := by decide
    have old : ∀ (b' : Int) (s : Nat), ¬ s = n.toNatClampNeg → (EB F' B' S' b' s ↔ EB F B S b' s) := fun b' s ne => by
      unfold EB; rw [r1, r3, r5, pk_un ne, pk_un ne, pk_un ne]
    have new : ∀ b' : Int, EB F' B' S' b' n.toNatClampNeg → f.toInt = 5 ∧ b.toInt = b' := fun b' q => by
      unfold EB at q; rw [r1, r3, r5, pk_us, pk_us, pk_us] at q; exact ⟨q.2.1, q.2.2⟩
    have oA : ∀ s, ¬ s = n.toNatClampNeg → A' s = A s := fun s ne => by rw [r2, pk_un ne]
    have nA : A' n.toNatClampNeg = a := by rw [r2, pk_us]
    intro b' b0 b1 bz
    obtain ⟨u1, u2⟩ := h b' b0 b1 bz
    -- where the new one is of that door: none of this room, no two
    have nd : f.toInt = 5 → b.toInt = b' → (∀ s : Nat, (s : Int) < n.toInt → EB F B S b' s → ¬ (A s).toInt = a.toInt) ∧ ¬ Two (EB F B S b') n.toInt := fun f5 eb' => by
      have ny : y = 2 := by rw [hy w (by omega), eb']; exact bz
      have nx : ¬ DoX eb F B S n.toInt a.toInt b.toInt := fun q => w5 (Or.inr (Or.inl ⟨f5, ny, q⟩))
      unfold DoX at nx
      rw [Do_e hI hr (by omega), eb'] at nx
      exact ⟨fun s hs p z => nx (Or.inl ⟨s, hs, p.1, p.2.1, z, p.2.2⟩), fun q => nx (Or.inr q)⟩
    refine ⟨fun s1 s2 a1 a2 p1 p2 e => ?_, fun s1 s2 s3 a1 a2 a3 p1 p2 p3 => ?_⟩
    · by_cases q1 : s1 = n.toNatClampNeg
      · by_cases q2 : s2 = n.toNatClampNeg
        · omega
        · rw [q1] at p1 e
          have g := new b' p1
          have p2' := (old b' s2 q2).mp p2
          rw [nA, oA s2 q2] at e
          exact absurd e.symm ((nd g.1 g.2).1 s2 (by omega) p2')
      · by_cases q2 : s2 = n.toNatClampNeg
        · rw [q2] at p2 e
          have g := new b' p2
          have p1' := (old b' s1 q1).mp p1
          rw [nA, oA s1 q1] at e
          exact absurd e ((nd g.1 g.2).1 s1 (by omega) p1')
        · rw [oA s1 q1, oA s2 q2] at e
          exact u1 s1 s2 (by omega) (by omega) ((old b' s1 q1).mp p1) ((old b' s2 q2).mp p2) e
    · by_cases q3 : s3 = n.toNatClampNeg
      · rw [q3] at p3
        have g := new b' p3
        exact (nd g.1 g.2).2 ⟨s1, s2, a1, by omega, (old b' s1 (by omega)).mp p1, (old b' s2 (by omega)).mp p2⟩
      · have d3 : (s3 : Int) < n.toInt := by omega
        exact u2 s1 s2 s3 a1 a2 d3 ((old b' s1 (by omega)).mp p1) ((old b' s2 (by omega)).mp p2) ((old b' s3 q3).mp p3)
theorem RD_un {Z : Int → Int} {F A B C S S' ld dr bw im f1 f2 ld' dr' bw' im' f1' f2' : Nat → Int32} {n s : Int32} (h : RDS Z F A B C S n.toInt.toNat ld dr bw im f1 f2) (h1 : UnW S S' n s) (h2 : RdQ (UnQ S n s) Z F A B C S' ld dr bw im f1 f2 ld' dr' bw' im' f1' f2' n.toInt (F s.toNatClampNeg).toInt) : RDS Z F A B C S' n.toInt.toNat ld' dr' bw' im' f1' f2' := by
  rcases h2 with ⟨q, e1, e2, e3, e4, e5, e6⟩ | ⟨_, _, q⟩
  · rw [e1, e2, e3, e4, e5, e6]
    rcases h1 with ⟨_, t⟩ | ⟨p, t⟩
    · rw [t]; exact h
    · have f5 : ¬ (F s.toNatClampNeg).toInt = 5 := fun z => q ⟨p, z⟩
      refine RDS_e (Z := Z) (F := F) (A := A) (B := B) (C := C) (S := S) (fun j hj => ?_) h
      rw [t]
      by_cases e : j = s.toNatClampNeg
      · subst e
        exact ⟨⟨fun z => absurd z.2 f5, fun z => absurd z.2 f5⟩, fun _ _ => ⟨rfl, rfl, rfl, rfl⟩⟩
      · rw [pk_un e]
        exact ⟨Iff.rfl, fun _ _ => ⟨rfl, rfl, rfl, rfl⟩⟩
  · exact q
theorem DR_un {Z : Int → Int} {F A B S S' : Nat → Int32} {n s : Int32} {N : Int} (h : DR Z F A B S n.toInt N) (h1 : UnW S S' n s) : DR Z F A B S' n.toInt N := by
  rcases h1 with ⟨_, t⟩ | ⟨p, t⟩
  · rw [t]; exact h
  · have sub : ∀ (b : Int) (j : Nat), EB F B S' b j → EB F B S b j := fun b j q => by
      unfold EB at q ⊢
      rw [t] at q
      by_cases e : j = s.toNatClampNeg
      · subst e; rw [pk_us] at q; exact absurd q.1 (by decide +kernel)
      · rw [pk_un e] at q; exact q
    intro b b0 b1 bz
    obtain ⟨u1, u2⟩ := h b b0 b1 bz
    exact ⟨fun s1 s2 a1 a2 p1 p2 e => u1 s1 s2 a1 a2 (sub b s1 p1) (sub b s2 p2) e, fun s1 s2 s3 a1 a2 a3 p1 p2 p3 => u2 s1 s2 s3 a1 a2 a3 (sub b s1 p1) (sub b s2 p2) (sub b s3 p3)⟩
theorem RDS_0 {Z : Int → Int} {F A B C S ld dr bw im f1 f2 : Nat → Int32} {n : Int} (hn : n = 0) (h : ∀ k, (ld k).toInt = -9 ∧ (dr k).toInt = -9 ∧ (bw k).toInt = -9 ∧ (im k).toInt = 0 ∧ (f1 k).toInt = -9 ∧ (f2 k).toInt = -9) : RDS Z F A B C S n.toNat ld dr bw im f1 f2 := by
  rw [hn]
  refine ⟨bw, ld, ld, D1_0 (x := 0) (by decide +kernel) (fun k => ⟨(h k).2.2.1, (h k).1, (h k).2.1, (h k).2.2.2.2.1, (h k).2.2.2.2.2⟩), D2_0 (x := 0) (by decide +kernel) (fun k => (h k).2.2.2.1), fun k hk => ⟨fun _ => ?_, fun q => absurd hk q⟩⟩
  unfold thr
  rw [if_pos (h k).2.1]
theorem DR_0 {Z : Int → Int} {F A B S : Nat → Int32} {n N : Int} (hn : n = 0) : DR Z F A B S n N := fun b _ _ _ => ⟨fun s1 s2 a1 => by omega, fun s1 s2 s3 a1 a2 a3 => by omega⟩
theorem hB_of {jm : Nat → Int32} {em : Nat → Nat → Int32} {kn N n : Int} (hM : mInv jm em) (hs : SJ (em 3) (em 6) (em 9) (em 10) (em 11) (em 13) kn N n) : ∀ s : Nat, (s : Int) < n → (em 9 s).toInt = 5 → (em 11 s).toInt < N ∧ (kS (em 3) (em 6) (em 11 s).toInt = 0 ∨ kS (em 3) (em 6) (em 11 s).toInt = 2) := fun s h1 h5 => by
  have q := hs.2.1 s h1
  refine ⟨q.2.1 (by omega), ?_⟩
  have e0 := kS_e (k := 0) (K6_of hM) (Kd_tot hM (em 11 s).toInt) (by omega)
  have e2 := kS_e (k := 2) (K6_of hM) (Kd_tot hM (em 11 s).toInt) (by omega)
  rcases (q.2.2.2 h5).2 with w | w
  · have := e0.mp w; omega
  · have := e2.mp w; omega

