theorem Wy_t {N v p x y go kx km : Int} {Z : Int → Int} {Qf SM : Int → Int → Prop} {ce F A O L sz sn rc sn2 rc2 : Nat → Int32} {lsg : Int → Int → Nat → Bool} {rk : Int → Nat} (hS : ScR N Z Qf ce F A O L) (ha : Abs ce N) (hN : N ≤ 30) (hp : 0 ≤ p ∧ p < N) (hp5 : Z p = 5) (hpp : ¬ fMn N F p = -9) (hA : IsA v x y N) (h0 : ¬ v = 0) (hsn : ∀ z, 0 ≤ z → z < N → ((sn z.toNat).toInt = 1 ↔ (sn2 z.toNat).toInt = 1) ∧ ((rc z.toNat).toInt = 1 ↔ (rc2 z.toNat).toInt = 1)) (hq : ∀ z k, 0 ≤ z → z < N → 2 ≤ k → k ≤ 5 → (Qf z k ↔ (Can (Z z) k ∧ SM z k))) (hk : 0 ≤ x → x < N → kx = km) (hls : ∀ (g o : Int) (z : Nat), lsg g o z = lsM F A g o z) (hrk : Rk (nF N F A) rk) (hz : ∀ z, 0 ≤ z → z < N → 0 ≤ Z z ∧ Z z ≤ 5) :
    plV (rxV v go (takeV ((sn x.toNat).toInt = 1) (x = p ∨ ChB 30 (hF ce) (hF ce p) x) (Hd (hF ce) (fX ce) p x) (¬ ((Z x = 1 ∨ 3 ≤ Z x) ∧ ¬ Z x = 5) ∨ bT ce 3 x ∨ fX ce x = 4) ((rc x.toNat).toInt = 1) (AnB Z (hF ce) p 30 (hF ce x)) (100 < (wtB Z sz (lsP ce) N.toNat ((31 : Int) - 0).toNat x.toNat + sumI (fun z => if lsP ce 2 p z = true then wtB Z sz (lsP ce) N.toNat ((30 : Int) - 0).toNat z else 0) N.toNat).toInt)) (iV (¬ (Hd (hF ce) (fX ce) p x)) 11 0) (shutV v ((sn x.toNat).toInt = 1) (Z x = 2 ∨ Z x = 3) (bT ce 0 x) (bT ce 1 x) ((rc x.toNat).toInt = 1) 0) (wearV (Hd (hF ce) (fX ce) p x) (bT ce 4 x)) (enterV ((sn x.toNat).toInt = 1) (Z x = 3 ∨ Z x = 4) (ChB 30 (hF ce) (hF ce x) p) (Z x = 3 ∧ ¬ bT ce 0 x) ((rc x.toNat).toInt = 1) (hF ce p = x)) (leaveV (hF ce p = -9 ∨ ByR Z (hF ce) (fX ce) p) (Z (hF ce p) = 3 ∧ ¬ bT ce 0 (hF ce p)) (fX ce (hF ce p) = 0 ∨ fX ce (hF ce p) = 1)))
      (ryV v (putV ((sn y.toNat).toInt = 1) (((0 : Int) = 0 ∧ Z y = 3) ∨ (¬ (0 : Int) = 0 ∧ Z y = 4)) (y = x ∨ ChB 30 (hF ce) (hF ce y) x) ((0 : Int) = 0 ∧ ¬ bT ce 0 y) ((rc y.toNat).toInt = 1) (8 ≤ ((cnt (lsP ce 0 y) N.toNat : Nat) : Int))) (putV ((sn y.toNat).toInt = 1) (((1 : Int) = 0 ∧ Z y = 3) ∨ (¬ (1 : Int) = 0 ∧ Z y = 4)) (y = x ∨ ChB 30 (hF ce) (hF ce y) x) ((1 : Int) = 0 ∧ ¬ bT ce 0 y) ((rc y.toNat).toInt = 1) (8 ≤ ((cnt (lsP ce 1 y) N.toNat : Nat) : Int))) (keyV (Hd (hF ce) (fX ce) p y) (kx = y))) =
    wyV v (takeV ((sn2 x.toNat).toInt = 1) (x = p ∨ ChB 30 (nF N F A) (nF N F A p) x) (Hd (nF N F A) (fMn N F) p x) (¬ ((Z x = 1 ∨ 3 ≤ Z x) ∧ ¬ Z x = 5) ∨ SM x 3 ∨ fMn N F x = 4) ((rc2 x.toNat).toInt = 1) (AnB Z (nF N F A) p 30 (nF N F A x)) (100 < (wtB Z sz lsg N.toNat 31 x.toNat + sumI (fun z => if lsM F A 2 p z = true then wtB Z sz lsg N.toNat 31 z else 0) N.toNat).toInt)) (iV (¬ (Hd (nF N F A) (fMn N F) p x)) 11 0) (iV (¬ (Hd (nF N F A) (fMn N F) p x)) 11 (putV ((sn2 y.toNat).toInt = 1) (((1 : Int) ≤ 1 ∧ Z y = 3) ∨ (¬ (1 : Int) ≤ 1 ∧ Z y = 4)) (y = x ∨ ChB 30 (nF N F A) (nF N F A y) x) ((1 : Int) ≤ 1 ∧ ¬ bM O y) ((rc2 y.toNat).toInt = 1) (8 ≤ ((cnt (lsM F A (if (1 : Int) ≤ 1 then 0 else 1) y) N.toNat : Nat) : Int)))) (iV (¬ (Hd (nF N F A) (fMn N F) p x)) 11 (putV ((sn2 y.toNat).toInt = 1) (((1 : Int) ≤ 0 ∧ Z y = 3) ∨ (¬ (1 : Int) ≤ 0 ∧ Z y = 4)) (y = x ∨ ChB 30 (nF N F A) (nF N F A y) x) ((1 : Int) ≤ 0 ∧ ¬ bM O y) ((rc2 y.toNat).toInt = 1) (8 ≤ ((cnt (lsM F A (if (1 : Int) ≤ 0 then 0 else 1) y) N.toNat : Nat) : Int)))) (shutV v ((sn2 x.toNat).toInt = 1) (Z x = 2 ∨ Z x = 3) (bM O x) (bM L x) ((rc2 x.toNat).toInt = 1) (if 7 ≤ v then keyV (Hd (nF N F A) (fMn N F) p y) (km = y) else 0)) (wearV (Hd (nF N F A) (fMn N F) p x) (SM x 4)) (enterV ((sn2 x.toNat).toInt = 1) (Z x = 3 ∨ Z x = 4) (ChB 30 (nF N F A) (nF N F A x) p) (Z x = 3 ∧ ¬ bM O x) ((rc2 x.toNat).toInt = 1) (nF N F A p = x)) (leaveV (ByR Z (nF N F A) (fMn N F) p) (fMn N F p = 0 ∧ Z (nF N F A p) = 3 ∧ ¬ bM O (nF N F A p)) (fMn N F (nF N F A p) = 0 ∨ fMn N F (nF N F A p) = 1)) := by
  have eH := Sc_h hS ha hN
  have eF := Sc_f hS ha hN
  have hP := (Sc_p hS p hp.1 hp.2).resolve_left hpp
  rw [eH, eF, Wyx_e h0]
  unfold IsA at hA
  obtain ⟨a1, a2, a3, a4, a5⟩ := hA
  have hL : ∀ (g o : Int) (z : Nat), (g = 0 ∨ g = 1) → 0 ≤ o → z < N.toNat → (lsP ce g o z = true ↔ lsg g o z = true) := fun g o z g1 o1 z1 => by
    rw [hls]; exact Sc_l hS (by omega) (by omega) o1
  have hr : ∀ (g o : Int) (z : Nat), (g = 0 ∨ g = 1) → 0 ≤ o → z < N.toNat → lsg g o z = true → rk o < rk (z : Int) := fun g o z g1 o1 z1 e => by
    rw [hls] at e
    have e := lsM_e e
    have w : nF N F A (z : Int) = o := by
      unfold nF
      rw [if_pos ⟨by omega, by omega, by rw [show ((z : Nat) : Int).toNat = z by omega]; omega⟩, show ((z : Nat) : Int).toNat = z by omega]
      exact e.2
    have u := hrk.2 (z : Int) (by omega) (by omega) (by rw [w]; omega)
    rw [w] at u
    exact u
  refine wyV_c (fun q => ?_) (fun q => ?_) (fun q => ?_) (fun q => ?_) (fun q => ?_) (fun q => ?_) (fun q => ?_)
  · have x0 := a4 (by omega)
    have s := hsn x x0.1 x0.2
    have b := Sc_b hS x0.1 x0.2
    refine takeV_c s.1 ?_ s.2 ?_
    · rw [b.2.2 3 (by omega) (by omega), hq x 3 x0.1 x0.2 (by omega) (by omega)]
      constructor
      · rintro (u | u | u)
        · exact Or.inl u
        · exact Or.inr (Or.inl u.2)
        · exact Or.inr (Or.inr u)
      · rintro (u | u | u)
        · exact Or.inl u
        · by_cases g : (Z x = 1 ∨ 3 ≤ Z x) ∧ ¬ Z x = 5
          · exact Or.inr (Or.inl ⟨Or.inr (Or.inr (Or.inl ⟨rfl, g.1⟩)), u⟩)
          · exact Or.inl g
        · exact Or.inr (Or.inr u)
    · rw [show ((31 : Int) - 0).toNat = 31 from rfl, show ((30 : Int) - 0).toNat = 30 from rfl, wtB_c hL 31 x.toNat]
      rw [sumI_c (g := fun z => if lsP ce 2 p z = true then wtB Z sz (lsP ce) N.toNat 30 z else 0) (h := fun z => if lsM F A 2 p z = true then wtB Z sz lsg N.toNat 31 z else 0) N.toNat (fun z hz9 => by
        have w := Sc_l hS (f := 2) (g := p) (x := z) (by omega) (by omega) hp.1
        by_cases g : lsP ce 2 p z = true
        · rw [if_pos g, if_pos (w.mp g), wtB_c hL 30 z]
          exact wtB_st hrk.1 hr 30 31 z (by omega) (by omega)
        · rw [if_neg g, if_neg (fun u => g (w.mpr u))])]
  · have y0 := a5 (by omega)
    have s := hsn y y0.1 y0.2
    have b := Sc_b hS y0.1 y0.2
    refine iV_d (fun _ => putV_c s.1 (by omega) ⟨fun u => ⟨by decide, fun w => u.2 (b.1.mpr w)⟩, fun u => ⟨by decide, fun w => u.2 (b.1.mp w)⟩⟩ s.2 ?_)
    rw [if_pos (by decide +kernel), cnt_ce N.toNat (fun z hz9 => Sc_l hS (f := 0) (g := y) (x := z) (by omega) (by omega) y0.1)]
  · have y0 := a5 (by omega)
    have s := hsn y y0.1 y0.2
    refine iV_d (fun _ => putV_c s.1 (by omega) ⟨fun u => absurd u.1 (by decide +kernel), fun u => absurd u.1 (by decide +kernel)⟩ s.2 ?_)
    rw [if_neg (by decide +kernel), cnt_ce N.toNat (fun z hz9 => Sc_l hS (f := 1) (g := y) (x := z) (by omega) (by omega) y0.1)]
  · have x0 := a4 (by omega)
    have s := hsn x x0.1 x0.2
    have b := Sc_b hS x0.1 x0.2
    refine shutV_c s.1 b.1 b.2.1 s.2 ?_
    by_cases q7 : 7 ≤ v
    · rw [if_pos q7, if_pos q7, if_pos (by omega), hk x0.1 x0.2]
    · rw [if_neg q7, if_neg q7]
  · have x0 := a4 (by omega)
    have b := Sc_b hS x0.1 x0.2
    refine wearV_c (fun hd => ?_)
    rw [b.2.2 4 (by omega) (by omega), hq x 4 x0.1 x0.2 (by omega) (by omega)]
    have w := (Sc_p hS x x0.1 x0.2).resolve_left (by have := hd.2; omega)
    have z5 := hz x x0.1 x0.2
    have h2 := hd.2
    unfold PlOk at w
    exact ⟨fun u => u.2, fun u => ⟨Or.inr (Or.inr (Or.inr (Or.inl ⟨rfl, by omega, by omega⟩))), u⟩⟩
  · have x0 := a4 (by omega)
    have s := hsn x x0.1 x0.2
    have b := Sc_b hS x0.1 x0.2
    exact enterV_c s.1 ⟨fun u => ⟨u.1, fun w => u.2 (b.1.mpr w)⟩, fun u => ⟨u.1, fun w => u.2 (b.1.mp w)⟩⟩ s.2
  · unfold PlOk at hP
    have b := Sc_b hS (x := nF N F A p) (by omega) (by omega)
    refine leaveV_c ⟨fun u => u.elim (fun w => by omega) id, Or.inr⟩ (fun _ => ⟨fun u => ⟨by omega, u.1, fun w => u.2 (b.1.mpr w)⟩, fun u => ⟨u.2.1, fun w => u.2.2 (b.1.mp w)⟩⟩)
theorem Wy_0 {v go tk hd sh wr en lv pi po ky : Int} (h : v = 0) : plV (rxV v go tk hd sh wr en lv) (ryV v pi po ky) = go := by
  unfold rxV ryV
  rw [if_pos h, if_neg (by omega), if_neg (by omega), if_neg (by omega)]
  exact plV_0
theorem FeM_d {pa ko F A B C S : Nat → Int32} {n r d ld dr bw im : Int} (h : FeM pa ko F A B C S n r d ld dr bw im) (hd : ¬ dr = -9) : ∃ s : Nat, (s : Int) < n ∧ (F s).toInt = 5 ∧ dr = (B s).toInt := by
  unfold FeM at h
  rcases h with ⟨a, _, _, ⟨k, b, c⟩ | ⟨k, b, c⟩⟩ | ⟨a, b, _⟩
  · have w := lsF_r a
    exact ⟨_, w.1, w.2.2.1, b⟩
  · exact absurd b hd
  · exact absurd b hd
/-- a reason to go, or none -/
theorem Go_e {N p x : Int} {so ko pa ko2 F A B C S pb eb fb kb cb ld dr bw im f1 f2 ce nf na nO nL : Nat → Int32} {Qf : Int → Int → Prop} {n ld2 dr2 bw2 im2 : Int} (hS : ScR N (zX so ko N) Qf ce nf na nO nL) (ha : Abs ce N) (hN : N ≤ 30) (hp : 0 ≤ p ∧ p < N) (hx : 0 ≤ x ∧ x ≤ 9) (h : RDS (zX so ko N) F A B C S n.toNat ld dr bw im f1 f2) (hI : IX F A B C S n pb eb fb kb cb) (hr : RR F A B C pb eb fb kb) (hD : DR (zX so ko N) F A B S n N) (hz : ∀ t, 0 ≤ t → t < N → zX so ko N t = kS pa ko2 t) (hB : ∀ s : Nat, (s : Int) < n → (F s).toInt = 5 → (B s).toInt < N ∧ (kS pa ko2 (B s).toInt = 0 ∨ kS pa ko2 (B s).toInt = 2)) (hf : FeM pa ko2 F A B C S n (na p.toNat).toInt x ld2 dr2 bw2 im2) : goV (ByR (zX so ko N) (hF ce) (fX ce) p) (ld ((hF ce) p * 10 + x).toNat).toInt (dr ((hF ce) p * 10 + x).toNat).toInt (bT ce 0) = goV (ByR (zX so ko N) (nF N nf na) (fMn N nf) p) ld2 dr2 (bM nO) := by
  rw [Sc_h hS ha hN, Sc_f hS ha hN]
  have hbt : ByR (zX so ko N) (nF N nf na) (fMn N nf) p → FeM pa ko2 F A B C S n (na p.toNat).toInt x (ld (nF N nf na p * 10 + x).toNat).toInt (dr (nF N nf na p * 10 + x).toNat).toInt (bw (nF N nf na p * 10 + x).toNat).toInt (im (nF N nf na p * 10 + x).toNat).toInt := fun b => by
    have e0 : (nf p.toNat).toInt = 0 := by have w := b.1; unfold fMn at w; rw [if_pos hp] at w; exact w
    have e1 : nF N nf na p = (na p.toNat).toInt := by unfold nF; rw [if_pos ⟨hp.1, hp.2, by omega⟩]
    have e2 := b.2
    rw [e1] at e2 ⊢
    have e3 : 0 ≤ (na p.toNat).toInt ∧ (na p.toNat).toInt < N := by
      by_cases q : 0 ≤ (na p.toNat).toInt ∧ (na p.toNat).toInt < N
      · exact q
      · unfold zX at e2; rw [if_neg q] at e2; omega
    exact RD_fe h hI hr hD hz hB hN e3 (by rw [← hz _ e3.1 e3.2]; exact e2) hx
  refine goV_c (fun b => ⟨(FeM_u (hbt b) hf).1, (FeM_u (hbt b) hf).2.1⟩) (fun b q => ?_)
  obtain ⟨s, s1, s2, s3⟩ := FeM_d (hbt b) q
  have w := hB s s1 s2
  have u := hr.1 s
  rw [s3]
  exact (Sc_b hS (by omega) (by omega)).1
/-- the sides of doors are alike -/
theorem Sd_e {Z : Int → Int} {F A B C S ld dr bw im f1 f2 : Nat → Int32} {n N s x : Int} (h : RDS Z F A B C S n.toNat ld dr bw im f1 f2) (hD : DR Z F A B S n N) (hA : ∀ t : Nat, (t : Int) < n → (F t).toInt = 5 → Z (A t).toInt = 0) (hN : N ≤ 30) (hx : 0 ≤ x ∧ x < N) (hz : Z x = 2) (hs : ¬ s = -9) : sD f1 f2 s x ↔ sdM Z F A B S n s x := by
  obtain ⟨b1, l1, l2, ⟨_, h2⟩, _, _⟩ := h
  obtain ⟨r1, r2, a1, a2, a3, a4⟩ := h2 x.toNat (by omega)
  rw [show ((x.toNat : Nat) : Int) = x by omega] at a1 a2
  have hd := hD x hx.1 hx.2 hz
  have mk : ∀ t : Nat, t < n.toNat → Dt Z F B S x t → (A t).toInt = s → sdM Z F A B S n s x := fun t t1 t2 t3 => ⟨by rw [← t3]; exact hA t (by omega) t2.2.1, t, by omega, t2.1, t2.2.1, t2.2.2.2, t3⟩
  have eb : ∀ t : Nat, sdP F A B S x s t → Dt Z F B S x t := fun t q => ⟨q.1, q.2.1, by rw [q.2.2.1]; omega, q.2.2.1⟩
  unfold sD
  rcases a1 with ⟨e1, n1⟩ | ⟨t1, e1, c1, p1, n1⟩
  · constructor
    · intro q
      exfalso
      rcases a2 with ⟨e2, _⟩ | ⟨t2, e2, c2, p2, _⟩
      · rw [e1, e2, if_pos rfl] at a4
        rw [e1, vI_n] at a3
        omega
      · exact n1 t2 c2 p2
    · rintro ⟨_, t, u1, u2⟩
      exact absurd (eb t u2) (n1 t (by omega))
  · rcases a2 with ⟨e2, n2⟩ | ⟨t2, e2, c2, p2, n2⟩
    · exact absurd p1 (n2 t1 c1)
    · rw [e1, vI_y] at a3
      constructor
      · rintro (q | q)
        · exact mk t1 c1 p1 (by omega)
        · by_cases e : r1 = r2
          · rw [if_pos e] at a4; omega
          · rw [if_neg e, e2, vI_y] at a4
            exact mk t2 c2 p2 (by omega)
      · rintro ⟨_, t, u1, u2⟩
        have ut := eb t u2
        have u5 := u2.2.2.2
        by_cases q1 : t = t1
        · rw [q1] at u5; exact Or.inl (by omega)
        · by_cases q2 : t = t2
          · have e : ¬ r1 = r2 := by omega
            rw [if_neg e, e2, vI_y] at a4
            rw [q2] at u5
            exact Or.inr (by omega)
          · exfalso
            have g1 : t1 < t := by
              rcases Nat.lt_or_ge t t1 with z | z
              · exact absurd ut (n1 t z)
              · omega
            have g2 : t < t2 := by
              rcases Nat.lt_or_ge t2 t with z | z
              · exact absurd ut (n2 t z (by omega))
              · omega
            exact hd.2 t1 t t2 g1 g2 (by omega) ⟨p1.1, p1.2.1, p1.2.2.2⟩ ⟨ut.1, ut.2.1, ut.2.2.2⟩ ⟨p2.1, p2.2.1, p2.2.2.2⟩
theorem Aa_e {Q : Prop} {tu th w p tu2 : Int} {X : Prop} {r r2 : Int32} (h1 : AaR Q tu th w r.toInt) (h2 : AaM Q p tu2 X r2.toInt) (ht : tu = tu2) (h100 : tu ≤ 100) (hT : (¬ th = 1 ∧ p = -9 ∧ tu = 0) ∨ (th = 1 ∧ ¬ p = -9)) (hW : Q → th = 1 → X → r2.toInt = w) : r = r2 := by
  apply Int32.toInt_inj.mp
  unfold AaR at h1
  unfold AaM at h2
  rcases h1 with ⟨a, b⟩ | ⟨a, b, c⟩ | ⟨a, b, c, d⟩ | ⟨a, b, c, d⟩
  · rcases h2 with ⟨a2, b2⟩ | ⟨a2, _⟩ | ⟨a2, _⟩ | ⟨a2, _⟩
    · omega
    · exact absurd a2 a
    · exact absurd a2 a
    · exact absurd a2 a
  all_goals (rcases h2 with ⟨a2, b2⟩ | ⟨a2, b2, c2, d2⟩ | ⟨a2, b2, c2⟩ | ⟨a2, b2, c2, d2⟩)
  all_goals first | exact absurd a a2 | omega | (have z := hW a c d2; omega)
theorem Sx_e {F A B C S pb eb fb kb ce : Nat → Int32} {n o f v v2 : Int} (h : IX F A B C S n pb eb fb kb ce) (hr : RR F A B C pb eb fb kb) (ho : 0 ≤ o ∧ o ≤ 29) (hf : 0 ≤ f ∧ f ≤ 5) (ev : v = v2) : sgX fb C o f v = 1 ↔ SgM F A B C S n o f v2 1 := by
  subst ev
  have w := sgM_i (F := F) (A := A) (B := B) (C := C) (S := S) (n := n) (o := o) (f := f) (v := v)
  have e := Sg_e h hr ho hf (sgX_i (fb := fb) (C := C) (o := o) (f := f) (v := v)) w
  rw [e]
  constructor
  · intro q; rw [q] at w; exact w
  · intro q; exact (sgM_e q).symm
theorem zXM {so ko pa ko2 : Nat → Int32} {N : Int} (hz : ∀ t, 0 ≤ t → t < N → zX so ko N t = kS pa ko2 t) : zX so ko N = zM pa ko2 N := by
  funext x
  by_cases q : 0 ≤ x ∧ x < N
  · rw [hz x q.1 q.2, zM_i q]
  · unfold zX zM; rw [if_neg q, if_neg q]
theorem sfV_c {pa ko st st2 : Nat → Int32} {s s2 f o : Int} (hf : 0 ≤ f ∧ f ≤ 5) (h : ∀ j : Nat, j < 144 → st j = st2 j) (e : s = s2) : sfV pa ko st s f o = sfV pa ko st2 s2 f o := by
  unfold sfV
  rw [stL_c hf h, e]

