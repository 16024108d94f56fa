/-- what stands where two calls meet: all that a look and a reason need -/
theorem At_e {jm : Nat → Int32} {em : Nat → Nat → Int32} {so ko pa st sz F A B C S pb eb fb kb cb ld dr bw im f1 f2 ce sb fc sn rc : Nat → Int32} {gl lt bx rm dd sn2 rc2 : Nat → Int32} {n th pl ap tu br br2 r r2 : Int32} {N kn v x y v2 x2 y2 : Int} (hM : mInv jm em) (hN : N ≤ 30) (eN : N = (jm 5).toInt) (ev : v2 = v) (ex : x2 = x) (ey : y2 = y)
    (hSN : SN F A B C S n pb eb fb kb cb (em 9) (em 10) (em 11) (em 12) (em 13) (jm 8)) (hr : RR F A B C pb eb fb kb) (hD : DR (zX so ko N) F A B S n.toInt N) (hRD : RDS (zX so ko N) F A B C S n.toInt.toNat ld dr bw im f1 f2) (hs : SJ (em 3) (em 6) (em 9) (em 10) (em 11) (em 13) kn (jm 5).toInt (jm 8).toInt)
    (hz : ∀ t, 0 ≤ t → t < N → zX so ko N t = kS (em 3) (em 6) t) (hZ5 : ∀ t, 0 ≤ t → t < N → 0 ≤ zX so ko N t ∧ zX so ko N t ≤ 5) (ePA : pa = em 3) (eKO : ko = em 6) (est : ∀ j : Nat, j < 144 → st j = em 4 j) (eSZ : sz = em 7)
    (hT : TL N (zX so ko N) (fun o f : Int => Can ((zX so ko N) o) f ∧ sgX fb C o f (sfV pa ko st (so (ko o.toNat).toNatClampNeg).toInt f o) = 1) (LkR (zX so ko N) (hF ce) (fX ce) (bT ce 0) (bT ce 5) (bT ce 2) (sD f1 f2) pl.toInt N sn rc br) th pl tu ce sb fc (jm 22) (jm 27) (em 23) (em 24) (em 25) (em 26) (em 29) (em 30) (em 31) (em 32)) (hPJ : PJ th pl ap tu ce sb fc) (hTI : ¬ (jm 22).toInt = -9 → Acy (nF (jm 5).toInt (em 23) (em 24))) (h100 : tu.toInt ≤ 100)
    (h1 : AaR (IsA v x y N) tu.toInt th.toInt (plV (rxV v (goV (ByR (zX so ko N) (hF ce) (fX ce) ap.toInt) (ld ((hF ce) ap.toInt * 10 + x).toNat).toInt (dr ((hF ce) ap.toInt * 10 + x).toNat).toInt (bT ce 0)) (takeV ((sn x.toNat).toInt = 1) (x = ap.toInt ∨ ChB 30 (hF ce) (hF ce ap.toInt) x) (Hd (hF ce) (fX ce) ap.toInt x) (¬ (((zX so ko N) x = 1 ∨ 3 ≤ (zX so ko N) x) ∧ ¬ (zX so ko N) x = 5) ∨ bT ce 3 x ∨ fX ce x = 4) ((rc x.toNat).toInt = 1) (AnB (zX so ko N) (hF ce) ap.toInt 30 (hF ce x)) (100 < (wtB (zX so ko N) sz (lsP ce) N.toNat ((31 : Int) - 0).toNat x.toNat + sumI (fun z => if lsP ce 2 ap.toInt z = true then wtB (zX so ko N) sz (lsP ce) N.toNat ((30 : Int) - 0).toNat z else 0) N.toNat).toInt)) (iV (¬ (Hd (hF ce) (fX ce) ap.toInt x)) 11 0) (shutV v ((sn x.toNat).toInt = 1) ((zX so ko N) x = 2 ∨ (zX so ko N) x = 3) (bT ce 0 x) (bT ce 1 x) ((rc x.toNat).toInt = 1) 0) (wearV (Hd (hF ce) (fX ce) ap.toInt x) (bT ce 4 x)) (enterV ((sn x.toNat).toInt = 1) ((zX so ko N) x = 3 ∨ (zX so ko N) x = 4) (ChB 30 (hF ce) (hF ce x) ap.toInt) ((zX so ko N) x = 3 ∧ ¬ bT ce 0 x) ((rc x.toNat).toInt = 1) (hF ce ap.toInt = x)) (leaveV (hF ce ap.toInt = -9 ∨ ByR (zX so ko N) (hF ce) (fX ce) ap.toInt) ((zX so ko N) (hF ce ap.toInt) = 3 ∧ ¬ bT ce 0 (hF ce ap.toInt)) (fX ce (hF ce ap.toInt) = 0 ∨ fX ce (hF ce ap.toInt) = 1)))
      (ryV v (putV ((sn y.toNat).toInt = 1) (((0 : Int) = 0 ∧ (zX so ko N) y = 3) ∨ (¬ (0 : Int) = 0 ∧ (zX so ko N) y = 4)) (y = x ∨ ChB 30 (hF ce) (hF ce y) x) ((0 : Int) = 0 ∧ ¬ bT ce 0 y) ((rc y.toNat).toInt = 1) (8 ≤ ((cnt (lsP ce 0 y) N.toNat : Nat) : Int))) (putV ((sn y.toNat).toInt = 1) (((1 : Int) = 0 ∧ (zX so ko N) y = 3) ∨ (¬ (1 : Int) = 0 ∧ (zX so ko N) y = 4)) (y = x ∨ ChB 30 (hF ce) (hF ce y) x) ((1 : Int) = 0 ∧ ¬ bT ce 0 y) ((rc y.toNat).toInt = 1) (8 ≤ ((cnt (lsP ce 1 y) N.toNat : Nat) : Int))) (keyV (Hd (hF ce) (fX ce) ap.toInt y) (kyV kb A x = y)))) r.toInt)
    (h2 : AaM (IsA v2 x2 y2 (jm 5).toInt) (jm 22).toInt (jm 27).toInt ((LkK (em 3) (em 6) (jm 5).toInt lt gl bx rm dd (fun z : Int => SgM (em 9) (em 10) (em 11) (em 12) (em 13) (jm 8).toInt z 2 (sfV (em 3) (em 6) (em 4) (kS (em 3) (em 6) z) 2 z) 1) (fun z : Int => SgM (em 9) (em 10) (em 11) (em 12) (em 13) (jm 8).toInt z 5 (sfV (em 3) (em 6) (em 4) (kS (em 3) (em 6) z) 5 z) 1) (jm 5).toInt) ∧ (LkR (zM (em 3) (em 6) (jm 5).toInt) (nF (jm 5).toInt (em 23) (em 24)) (fMn (jm 5).toInt (em 23)) (bM (em 25)) (bM gl) (bM lt) (sdM (zM (em 3) (em 6) (jm 5).toInt) (em 9) (em 10) (em 11) (em 13) (jm 8).toInt) (jm 22).toInt (jm 5).toInt sn2 rc2 br2) ∧
      ((v2 = 0 ∧ ∃ l9 d9 b9 i9 : Int, FeM (em 3) (em 6) (em 9) (em 10) (em 11) (em 12) (em 13) (jm 8).toInt (em 24 (jm 22).toInt.toNat).toInt x2 l9 d9 b9 i9 ∧ r2.toInt = goV (ByR (zM (em 3) (em 6) (jm 5).toInt) (nF (jm 5).toInt (em 23) (em 24)) (fMn (jm 5).toInt (em 23)) (jm 22).toInt) l9 d9 (bM (em 25))) ∨
       (¬ v2 = 0 ∧ r2.toInt = wyV v2 (takeV ((sn2 x2.toNat).toInt = 1) (x2 = (jm 22).toInt ∨ ChB 30 (nF (jm 5).toInt (em 23) (em 24)) (nF (jm 5).toInt (em 23) (em 24) (jm 22).toInt) x2) (Hd (nF (jm 5).toInt (em 23) (em 24)) (fMn (jm 5).toInt (em 23)) (jm 22).toInt x2) (¬ (((zM (em 3) (em 6) (jm 5).toInt) x2 = 1 ∨ 3 ≤ (zM (em 3) (em 6) (jm 5).toInt) x2) ∧ ¬ (zM (em 3) (em 6) (jm 5).toInt) x2 = 5) ∨ SgM (em 9) (em 10) (em 11) (em 12) (em 13) (jm 8).toInt x2 3 (sfV (em 3) (em 6) (em 4) (kS (em 3) (em 6) x2) 3 x2) 1 ∨ fMn (jm 5).toInt (em 23) x2 = 4) ((rc2 x2.toNat).toInt = 1) (AnB (zM (em 3) (em 6) (jm 5).toInt) (nF (jm 5).toInt (em 23) (em 24)) (jm 22).toInt 30 (nF (jm 5).toInt (em 23) (em 24) x2)) (100 < (wtB (zM (em 3) (em 6) (jm 5).toInt) (em 7) (lsG (em 9) (em 10) (em 11) (em 13) (em 23) (em 24) (jm 8).toInt (jm 22).toInt) (jm 5).toInt.toNat 31 x2.toNat + sumI (fun z => if lsM (em 23) (em 24) 2 (jm 22).toInt z = true then wtB (zM (em 3) (em 6) (jm 5).toInt) (em 7) (lsG (em 9) (em 10) (em 11) (em 13) (em 23) (em 24) (jm 8).toInt (jm 22).toInt) (jm 5).toInt.toNat 31 z else 0) (jm 5).toInt.toNat).toInt)) (iV (¬ (Hd (nF (jm 5).toInt (em 23) (em 24)) (fMn (jm 5).toInt (em 23)) (jm 22).toInt x2)) 11 0) (iV (¬ (Hd (nF (jm 5).toInt (em 23) (em 24)) (fMn (jm 5).toInt (em 23)) (jm 22).toInt x2)) 11 (putV ((sn2 y2.toNat).toInt = 1) (((1 : Int) ≤ 1 ∧ (zM (em 3) (em 6) (jm 5).toInt) y2 = 3) ∨ (¬ (1 : Int) ≤ 1 ∧ (zM (em 3) (em 6) (jm 5).toInt) y2 = 4)) (y2 = x2 ∨ ChB 30 (nF (jm 5).toInt (em 23) (em 24)) (nF (jm 5).toInt (em 23) (em 24) y2) x2) ((1 : Int) ≤ 1 ∧ ¬ bM (em 25) y2) ((rc2 y2.toNat).toInt = 1) (8 ≤ ((cnt (lsM (em 23) (em 24) (if (1 : Int) ≤ 1 then 0 else 1) y2) (jm 5).toInt.toNat : Nat) : Int)))) (iV (¬ (Hd (nF (jm 5).toInt (em 23) (em 24)) (fMn (jm 5).toInt (em 23)) (jm 22).toInt x2)) 11 (putV ((sn2 y2.toNat).toInt = 1) (((1 : Int) ≤ 0 ∧ (zM (em 3) (em 6) (jm 5).toInt) y2 = 3) ∨ (¬ (1 : Int) ≤ 0 ∧ (zM (em 3) (em 6) (jm 5).toInt) y2 = 4)) (y2 = x2 ∨ ChB 30 (nF (jm 5).toInt (em 23) (em 24)) (nF (jm 5).toInt (em 23) (em 24) y2) x2) ((1 : Int) ≤ 0 ∧ ¬ bM (em 25) y2) ((rc2 y2.toNat).toInt = 1) (8 ≤ ((cnt (lsM (em 23) (em 24) (if (1 : Int) ≤ 0 then 0 else 1) y2) (jm 5).toInt.toNat : Nat) : Int)))) (shutV v2 ((sn2 x2.toNat).toInt = 1) ((zM (em 3) (em 6) (jm 5).toInt) x2 = 2 ∨ (zM (em 3) (em 6) (jm 5).toInt) x2 = 3) (bM (em 25) x2) (bM (em 26) x2) ((rc2 x2.toNat).toInt = 1) (if 7 ≤ v2 then keyV (Hd (nF (jm 5).toInt (em 23) (em 24)) (fMn (jm 5).toInt (em 23)) (jm 22).toInt y2) (kyM (em 9) (em 10) (em 11) (em 13) (jm 8).toInt x2 = y2) else 0)) (wearV (Hd (nF (jm 5).toInt (em 23) (em 24)) (fMn (jm 5).toInt (em 23)) (jm 22).toInt x2) (SgM (em 9) (em 10) (em 11) (em 12) (em 13) (jm 8).toInt x2 4 (sfV (em 3) (em 6) (em 4) (kS (em 3) (em 6) x2) 4 x2) 1)) (enterV ((sn2 x2.toNat).toInt = 1) ((zM (em 3) (em 6) (jm 5).toInt) x2 = 3 ∨ (zM (em 3) (em 6) (jm 5).toInt) x2 = 4) (ChB 30 (nF (jm 5).toInt (em 23) (em 24)) (nF (jm 5).toInt (em 23) (em 24) x2) (jm 22).toInt) ((zM (em 3) (em 6) (jm 5).toInt) x2 = 3 ∧ ¬ bM (em 25) x2) ((rc2 x2.toNat).toInt = 1) (nF (jm 5).toInt (em 23) (em 24) (jm 22).toInt = x2)) (leaveV (ByR (zM (em 3) (em 6) (jm 5).toInt) (nF (jm 5).toInt (em 23) (em 24)) (fMn (jm 5).toInt (em 23)) (jm 22).toInt) (fMn (jm 5).toInt (em 23) (jm 22).toInt = 0 ∧ (zM (em 3) (em 6) (jm 5).toInt) (nF (jm 5).toInt (em 23) (em 24) (jm 22).toInt) = 3 ∧ ¬ bM (em 25) (nF (jm 5).toInt (em 23) (em 24) (jm 22).toInt)) (fMn (jm 5).toInt (em 23) (nF (jm 5).toInt (em 23) (em 24) (jm 22).toInt) = 0 ∨ fMn (jm 5).toInt (em 23) (nF (jm 5).toInt (em 23) (em 24) (jm 22).toInt) = 1))))) r2.toInt) : r = r2 := by
  subst ev ex ey ePA eKO eSZ
  obtain ⟨e1, e2, e3, e4, e5, e6, hI⟩ := hSN
  subst e1 e2 e3 e4 e5
  rw [e6] at hI hD hRD
  rw [← eN] at h2 hs
  have eZ := zXM hz
  obtain ⟨hAb, htu, hT⟩ := hT
  refine Aa_e h1 h2 htu h100 ?_ (fun hQ hth hX => ?_)
  · rcases hT with q | q
    · exact Or.inl q
    · exact Or.inr ⟨q.1, by have := q.2.2.1; omega⟩
  · obtain ⟨_, epl, hp, hp5, hSc, _, hLk⟩ := hT.resolve_left (fun q => q.1 hth)
    have hpj := hPJ hth
    have eap : ap = jm 22 := hpj.2.2.1.trans epl
    subst eap
    rw [epl] at hLk hpj
    obtain ⟨hK, hL, hW⟩ := hX
    rw [← eZ] at hL hW
    have hq : ∀ z k, 0 ≤ z → z < N → 2 ≤ k → k ≤ 5 → ((Can ((zX so (em 6) N) z) k ∧ sgX fb (em 12) z k (sfV (em 3) (em 6) st (so ((em 6) z.toNat).toNatClampNeg).toInt k z) = 1) ↔ (Can ((zX so (em 6) N) z) k ∧ SgM (em 9) (em 10) (em 11) (em 12) (em 13) (jm 8).toInt z k (sfV (em 3) (em 6) (em 4) (kS (em 3) (em 6) z) k z) 1)) := fun z k z0 z1 k2 k5 => by
      rw [Sx_e hI hr ⟨z0, by omega⟩ ⟨by omega, k5⟩ (sfV_c (pa := em 3) (ko := em 6) (o := z) ⟨by omega, k5⟩ est ((zX_e ⟨z0, z1⟩).symm.trans (hz z z0 z1)))]
    have hA : ∀ t : Nat, (t : Int) < (jm 8).toInt → (em 9 t).toInt = 5 → (zX so (em 6) N) (em 10 t).toInt = 0 := fun t t1 t2 => by
      have w := hs.2.1 t t1
      have u := hr.1 t
      rw [hz _ (by omega) w.1]
      exact (kS_k hM (by omega) (by omega)).mp (w.2.2.2 t2).1
    have hB : ∀ t : Nat, (t : Int) < (jm 8).toInt → (em 9 t).toInt = 5 → (em 11 t).toInt < N ∧ (kS (em 3) (em 6) (em 11 t).toInt = 0 ∨ kS (em 3) (em 6) (em 11 t).toInt = 2) := fun t t1 t2 => by
      have w := hs.2.1 t t1
      refine ⟨w.2.1 (by omega), ?_⟩
      rcases (w.2.2.2 t2).2 with u | u
      · exact Or.inl ((kS_k hM (by omega) (by omega)).mp u)
      · exact Or.inr ((kS_k hM (by omega) (by omega)).mp u)
    have hin : ∀ z k, (zX so (em 6) N) z = k → 0 ≤ k → 0 ≤ z ∧ z < N := fun z k q1 q2 => by
      by_cases q : 0 ≤ z ∧ z < N
      · exact q
      · unfold zX at q1; rw [if_neg q] at q1; omega
    have eH := Sc_h hSc hAb hN
    have eF := Sc_f hSc hAb hN
    rw [eH, eF] at hLk
    have hsn : ∀ z, 0 ≤ z → z < N → ((sn z.toNat).toInt = 1 ↔ (sn2 z.toNat).toInt = 1) ∧ ((rc z.toNat).toInt = 1 ↔ (rc2 z.toNat).toInt = 1) := fun z z0 z1 => by
      refine Lk_e hLk hL (fun x q => ?_) (fun s x s9 q => ?_) (fun x x0 x1 => ?_) (fun x q => hin x 0 q (by omega)) z0 z1
      · have xr := hin x 3 q (by omega)
        have b := Sc_b hSc xr.1 xr.2
        have k := hK x xr.1 xr.2
        refine ⟨b.1, ?_⟩
        rw [b.2.2 5 (by omega) (by omega)]
        refine (hq x 5 xr.1 xr.2 (by omega) (by omega)).trans ?_
        show _ ↔ (gl x.toNat).toInt = 1
        rw [k.2.1, ← eZ]
        exact ⟨fun u => ⟨q, u.2⟩, fun u => ⟨Or.inr (Or.inr (Or.inr (Or.inr ⟨by omega, q⟩))), u.2⟩⟩
      · exact Sd_e hRD hD hA hN (hin x 2 q (by omega)) q s9
      · have b := Sc_b hSc x0 x1
        have k := hK x x0 x1
        rw [b.2.2 2 (by omega) (by omega)]
        refine (hq x 2 x0 x1 (by omega) (by omega)).trans ?_
        show _ ↔ (lt x.toNat).toInt = 1
        rw [k.1]
        exact ⟨fun u => u.2, fun u => ⟨Or.inr (Or.inl rfl), u⟩⟩
    by_cases q0 : v2 = 0
    · rw [Wy_0 q0]
      obtain ⟨l9, d9, b9, i9, hf, e⟩ := (hW.resolve_right (fun u => u.1 q0)).2
      rw [e]
      unfold IsA at hQ
      exact (Go_e hSc hAb hN hp (hQ.2.2.1 q0) hRD hI hr hD hz hB hf).symm
    · have e := (hW.resolve_left (fun u => q0 u.1)).2
      rw [e]
      obtain ⟨rk, hrk⟩ := hTI (by omega)
      rw [← eN] at hrk
      have hpp : ¬ fMn N (em 23) (jm 22).toInt = -9 := by
        rw [← eF]
        have w := hpj.2.2.2.1
        have u : (jm 22).toNatClampNeg = (jm 22).toInt.toNat := rfl
        rw [u] at w
        unfold fX
        rw [if_pos ⟨hp.1, by omega, w⟩]
        omega
      refine (Wy_t hSc hAb hN hp hp5 hpp hQ q0 hsn hq (fun x0 x1 => ?_) (fun g o z => ?_) hrk hZ5).symm
      · unfold kyV kyM
        rw [IX_kb hI hr x0 (by omega)]
        rfl
      · unfold lsG lsM
        rw [gM_t (by omega), show gA (em 9) (em 10) (em 11) (em 13) (em 24) (jm 8).toInt (jm 22).toInt (z : Int) = (em 24 (z : Int).toNat).toInt from if_neg (by omega), show ((z : Nat) : Int).toNat = z by omega]
/-! what an act that is done tells of itself -/
theorem plV_i {a b : Int} (h : plV a b = 0) : a = 0 ∧ b = 0 := by
  unfold plV at h
  by_cases q : a = 0
  · rw [if_pos q] at h; exact ⟨q, h⟩
  · rw [if_neg q] at h; exact absurd h q
theorem rx_g {v go tk hd sh wr en lv : Int} (h : rxV v go tk hd sh wr en lv = 0) : (v = 1 → tk = 0) ∧ (v = 2 ∨ v = 3 ∨ v = 4 → hd = 0) ∧ (v = 9 → wr = 0) ∧ (v = 10 → en = 0) ∧ (v = 11 → lv = 0) ∧ (v = 0 → go = 0) := by
  unfold rxV at h
  refine ⟨fun q => ?_, fun q => ?_, fun q => ?_, fun q => ?_, fun q => ?_, fun q => ?_⟩
  · rw [if_neg (by omega), if_pos q] at h; exact h
  · rw [if_neg (by omega), if_neg (by omega), if_pos q] at h; exact h
  · rw [if_neg (by omega), if_neg (by omega), if_neg (by omega), if_neg (by omega), if_pos q] at h; exact h
  · rw [if_neg (by omega), if_neg (by omega), if_neg (by omega), if_neg (by omega), if_neg (by omega), if_pos q] at h; exact h
  · rw [if_neg (by omega), if_neg (by omega), if_neg (by omega), if_neg (by omega), if_neg (by omega), if_neg (by omega), if_pos q] at h; exact h
  · rw [if_pos q] at h; exact h
theorem ry_g {v pi po ky : Int} (h : ryV v pi po ky = 0) : v = 4 → po = 0 := fun q => by
  unfold ryV at h
  rw [if_neg (by omega), if_pos q] at h
  exact h
theorem At_g {Q : Prop} {tu th r v l0 d0 sh pi ky : Int} {b0 : Prop} {o0 : Int → Prop} {sn up hd bad rc an ov H gm s2 fit up2 cl rc2 at_ bw cl2 fo s3 fit3 sl3 cl3 rc3 fu3 : Prop} (h : AaR Q tu th (plV (rxV v (goV b0 l0 d0 o0) (takeV sn up hd bad rc an ov) (iV (¬ H) 11 0) sh (wearV H gm) (enterV s2 fit up2 cl rc2 at_) (leaveV bw cl2 fo)) (ryV v pi (putV s3 fit3 sl3 cl3 rc3 fu3) ky)) r) (hr : r = 0) : Q ∧ th = 1 ∧ (v = 1 → ¬ bad) ∧ (v = 2 ∨ v = 3 ∨ v = 4 ∨ v = 9 → H) ∧ (v = 4 → fit3) ∧ (v = 10 → fit) ∧ (v = 11 → fo) ∧ (v = 0 → b0) := by
  unfold AaR at h
  have w : Q ∧ th = 1 ∧ r = plV (rxV v (goV b0 l0 d0 o0) (takeV sn up hd bad rc an ov) (iV (¬ H) 11 0) sh (wearV H gm) (enterV s2 fit up2 cl rc2 at_) (leaveV bw cl2 fo)) (ryV v pi (putV s3 fit3 sl3 cl3 rc3 fu3) ky) := by
    rcases h with h | h | h | h
    · exfalso; have := h.2; omega
    · exfalso; have := h.2.2; omega
    · exfalso; have := h.2.2.2; omega
    · exact ⟨h.1, h.2.2.1, h.2.2.2⟩
  obtain ⟨a, b, c⟩ := w
  have z := plV_i (c.symm.trans hr)
  have x := rx_g z.1
  refine ⟨a, b, fun q => ?_, fun q => ?_, fun q => ?_, fun q => ?_, fun q => ?_, fun q => ?_⟩
  · have t := x.1 q
    unfold takeV at t
    exact (iV_0 (iV_0 (iV_0 (iV_0 t (by decide +kernel)).2 (by decide +kernel)).2 (by decide +kernel)).2 (by decide +kernel)).1
  · by_cases q9 : v = 9
    · have t := x.2.2.1 q9
      unfold wearV at t
      exact Classical.not_not.mp (iV_0 t (by decide +kernel)).1
    · exact Classical.not_not.mp (iV_0 (x.2.1 (by omega)) (by decide +kernel)).1
  · have t := ry_g z.2 q
    unfold putV at t
    exact Classical.not_not.mp (iV_0 (iV_0 t (by decide +kernel)).2 (by decide +kernel)).1
  · have t := x.2.2.2.1 q
    unfold enterV at t
    exact Classical.not_not.mp (iV_0 (iV_0 t (by decide +kernel)).2 (by decide +kernel)).1
  · have t := x.2.2.2.2.1 q
    unfold leaveV at t
    exact Classical.not_not.mp (iV_0 (iV_0 (iV_0 t (by decide +kernel)).2 (by decide +kernel)).2 (by decide +kernel)).1
  · have t := x.2.2.2.2.2 q
    unfold goV at t
    exact Classical.not_not.mp (iV_0 t (by decide +kernel)).1
theorem plH_n {v p ld x y : Int} {f : Int → Int} (h : ¬ v = 0) : plH v f p ld x y = plH v f p 0 x y := by
  unfold plH
  rw [if_neg h, if_neg h]
theorem plH_0 {v p ld x y : Int} {f : Int → Int} (h : v = 0) : plH v f p ld x y = ld := if_pos h
theorem sbI_i {v : Int} {p x : Int32} : (sbI v p x).toInt = if v = 0 ∨ 10 ≤ v then p.toInt else x.toInt := by
  unfold sbI
  by_cases q : v = 0 ∨ 10 ≤ v
  · rw [if_pos q, if_pos q]
  · rw [if_neg q, if_neg q]
theorem TLa_e {N : Int} {Z : Int → Int} {Qf : Int → Int → Prop} {LK LK2 : Prop} {th pl ap tu tu3 ou w w2 x1 y1 : Int32} {v v2 : Int} {ce sb fc ce2 sb2 fc2 ld : Nat → Int32} {p tu2 tu4 : Int32} {F A O L W1 W2 W3 W4 F2 A2 O2 L2 V1 V2 V3 V4 : Nat → Int32} {Rm : Int → Prop} {P9 : Int → Prop}
    (h : TL N Z Qf LK th pl tu ce sb fc p tu2 F A O L W1 W2 W3 W4) (hPJ : PJ th pl ap tu ce sb fc) (h1 : th.toInt = 1) (hce : ∀ o, 0 ≤ (ce o).toInt) (hN : N ≤ 30) (ht : 0 ≤ tu.toInt) (hQ : IsA v w.toInt w2.toInt N) (ev : v2 = v) (ex : x1.toInt = w.toInt) (ey : y1.toInt = w2.toInt)
    (g1 : v = 1 → ¬ (¬ ((Z w.toInt = 1 ∨ 3 ≤ Z w.toInt) ∧ ¬ Z w.toInt = 5) ∨ bT ce 3 w.toInt ∨ fX ce w.toInt = 4)) (g2 : v = 2 ∨ v = 3 ∨ v = 4 ∨ v = 9 → Hd (hF ce) (fX ce) ap.toInt w.toInt) (g4 : v = 4 → ((1 : Int) = 0 ∧ Z w2.toInt = 3) ∨ (¬ (1 : Int) = 0 ∧ Z w2.toInt = 4)) (g10 : v = 10 → Z w.toInt = 3 ∨ Z w.toInt = 4) (g11 : v = 11 → fX ce (hF ce ap.toInt) = 0 ∨ fX ce (hF ce ap.toInt) = 1)
    (ho : OuR v (ce (sbI v ap w).toNatClampNeg) ou (plF v Z (fX ce) (hF ce) ap.toInt w.toInt) (plH v (hF ce) ap.toInt (ld ((hF ce) ap.toInt * 10 + w.toInt).toNat).toInt w.toInt w2.toInt)) (e1 : ce2 = upd ce (sbI v ap w).toNatClampNeg ou) (e2 : sb2 = upd sb tu.toNatClampNeg (sbI v ap w)) (e3 : fc2 = upd fc tu.toNatClampNeg (ce (sbI v ap w).toNatClampNeg)) (e4 : tu3.toInt = tu.toInt + 1) (hk : LK2)
    (ha : AcR v2 F A O L F2 A2 O2 L2 (sbI v2 p x1) x1 (plF v2 Z (fMn N F) (nF N F A) p.toInt x1.toInt) (fun z : Int => (v2 = 0 ∧ P9 z) ∨ (¬ v2 = 0 ∧ z = plH v2 (nF N F A) p.toInt 0 x1.toInt y1.toInt))) (hP9 : v = 0 → ∀ z, P9 z → z = (ld ((nF N F A) p.toInt * 10 + w.toInt).toNat).toInt) (hTI : TI N Rm p.toInt F2 A2) (r1 : RW V1 V2 W1 W2 F A tu2.toInt.toNat 30) (r2 : RW V3 V4 W3 W4 O L tu2.toInt.toNat 30) (e5 : tu4.toInt = tu2.toInt + 1) : TL N Z Qf LK2 th pl tu3 ce2 sb2 fc2 p tu4 F2 A2 O2 L2 V1 V2 V3 V4 := by
  have hT := h.2.2.resolve_left (fun q => q.1 h1)
  have hpj := hPJ h1
  have eap : ap = p := hpj.2.2.1.trans hT.2.1
  have exx : x1 = w := Int32.toInt_inj.mp ex
  subst eap ev exx
  have hSc := hT.2.2.2.2.1
  have eH := Sc_h hSc h.1 hN
  have eF := Sc_f hSc h.1 hN
  rw [eH, eF] at ho g2 g11
  rw [ey] at ha
  have hp := hT.2.2.1
  have hs : 0 ≤ (sbI v2 ap x1).toInt ∧ (sbI v2 ap x1).toInt < N := by
    rw [sbI_i]
    unfold IsA at hQ
    by_cases q : v2 = 0 ∨ 10 ≤ v2
    · rw [if_pos q]; exact hp
    · rw [if_neg q]; exact hQ.2.2.2.1 (by omega)
  have hpp : ¬ fMn N F ap.toInt = -9 := by
    rw [← eF]
    have u : ap.toNatClampNeg = ap.toInt.toNat := rfl
    have w9 := hpj.2.2.2.1
    rw [hT.2.1, u] at w9
    unfold fX
    rw [if_pos ⟨hp.1, by omega, w9⟩]
    omega
  have ha2 := AcR_h (g := plH v2 (nF N F A) ap.toInt (ld ((nF N F A) ap.toInt * 10 + x1.toInt).toNat).toInt x1.toInt w2.toInt) ha (fun z q => by
    rcases q with q | q
    · rw [plH_0 q.1]; exact hP9 q.1 z q.2
    · rw [plH_n q.1]; exact q.2)
  refine TL_a h h1 hce hN ht hs ho e1 e2 e3 e4 hk ha2 (fun q => ?_) (fun q => ?_) r1 r2 e5
  · unfold sbI; rw [if_neg (by omega)]
  · rw [sbI_i]
    refine Gd (Sc_p hSc) hp hT.2.2.2.1 hpp hQ q (fun q0 => ?_) (fun q1 => ?_) (fun q2 => (g2 q2).2) (fun q4 => ?_) g10 g11
    · unfold AcR at ha2
      rcases ha2 with ⟨_, ⟨f9, h9, b, c, d1, d2⟩, _⟩ | ⟨z, _⟩ | ⟨z, _⟩ | ⟨z, _⟩
      · have t := hTI.2.1 ap.toInt hp.1 hp.2
        have es : (sbI v2 ap x1).toNatClampNeg = ap.toInt.toNat := by rw [sbI_p (Or.inl q0)]; rfl
        rw [d1, d2, es, pk_us, pk_us, b] at t
        have c9 : h9.toInt = plH v2 (nF N F A) ap.toInt (ld ((nF N F A) ap.toInt * 10 + x1.toInt).toNat).toInt x1.toInt w2.toInt := c
        rw [plH_0 q0] at c9
        have t2 := t (by unfold plF; rw [if_pos q0]; decide)
        omega
      · exfalso; omega
      · exfalso; omega
      · exfalso; omega
    · exact Classical.not_not.mp (fun u => g1 q1 (Or.inl u))
    · rcases g4 q4 with u | u
      · exact absurd u.1 (by decide +kernel)
      · exact u.2
/-! the sentences fit: what is placed can be -/
def FtS (Z : Int → Int) (F A B : Nat → Int32) (n : Int) : Prop := ∀ s : Nat, (s : Int) < n → (F s).toInt < 5 → ¬ Z (A s).toInt = 2 ∧ ((F s).toInt = 1 → Z (B s).toInt = 4) ∧ (Z (A s).toInt = 5 → (F s).toInt ≤ 1)

