/-- the reasons are alike in every state -/
theorem Rs_e {jm : Nat → Int32} {em : Nat → Nat → Int32} {so ko pa st sz F A B C S pb eb fb kb cb ld dr bw im f1 f2 z : Nat → Int32} {n r : Int32} {nf na nO nL : CeT} {N kn p v x y : Int} (hM : mInv jm em) (hN : N ≤ 30) (eN : N = (jm 5).toInt)
    (hSN : SN F A B C S n pb eb fb kb cb (em 9) (em 10) (em 11) (em 12) (em 13) (jm 8)) (hr : RR F A B C pb eb fb kb) (hD : DR (zX so ko N) F A B S n.toInt N) (hRD : RDS (zX so ko N) F A B C S n.toInt.toNat ld dr bw im f1 f2) (hs : SJ (em 3) (em 6) (em 9) (em 10) (em 11) (em 13) kn (jm 5).toInt (jm 8).toInt)
    (hz : ∀ t, 0 ≤ t → t < N → zX so ko N t = kS (em 3) (em 6) t) (hZ5 : ∀ t, 0 ≤ t → t < N → 0 ≤ zX so ko N t ∧ zX so ko N t ≤ 5) (ePA : pa = em 3) (eKO : ko = em 6) (est : ∀ j : Nat, j < 144 → st j = em 4 j) (eSZ : sz = em 7)
    (hp : 0 ≤ p ∧ p < N) (hp5 : zX so ko N p = 5) (hR : RlX N (zX so ko N) (fun o f : Int => Can ((zX so ko N) o) f ∧ sgX fb C o f (sfV pa ko st (so (ko o.toNat).toNatClampNeg).toInt f o) = 1) z nf na nO nL) (hTI : TI N (fun z => Kd (em 3) (em 6) z 0) p nf na) (hQ : IsA v x y N)
    (hX : WxM (em 3) (em 4) (em 6) (em 7) (em 9) (em 10) (em 11) (em 12) (em 13) N (jm 8).toInt p v x y nf na nO nL r) : r.toInt = 0 ↔ okC (zX so ko N) ld dr f1 f2 sz kb A p N z v x y := by
  subst ePA eKO eSZ
  obtain ⟨e1, e2, e3, e4, e5, e6, hI⟩ := hSN
  subst e1 e2 e3 e4 e5
  rw [e6] at hI hD hRD
  rw [← eN] at hs
  have eZ := zXM hz
  obtain ⟨hSc, hAb, _, _⟩ := hR
  obtain ⟨lt, gls, bx, rm, dd, sn2, rc2, br2, hK, hL, hW⟩ := hX
  rw [← eZ] at hL
  have hq : ∀ z k, 0 ≤ z → z < N → 2 ≤ k → k ≤ 5 → ((Can ((zX so (em 6) N) z) k ∧ sgX fb (em 12) z k (sfV (em 3) (em 6) st (so ((em 6) z.toNat).toNatClampNeg).toInt k z) = 1) ↔ (Can ((zX so (em 6) N) z) k ∧ SgM (em 9) (em 10) (em 11) (em 12) (em 13) (jm 8).toInt z k (sfV (em 3) (em 6) (em 4) (kS (em 3) (em 6) z) k z) 1)) := fun z k z0 z1 k2 k5 => by
    rw [Sx_e hI hr ⟨z0, by omega⟩ ⟨by omega, k5⟩ (sfV_c (pa := em 3) (ko := em 6) (o := z) ⟨by omega, k5⟩ est ((zX_e ⟨z0, z1⟩).symm.trans (hz z z0 z1)))]
  have hA : ∀ t : Nat, (t : Int) < (jm 8).toInt → (em 9 t).toInt = 5 → (zX so (em 6) N) (em 10 t).toInt = 0 := fun t t1 t2 => by
    have w := hs.2.1 t t1
    have u := hr.1 t
    rw [hz _ (by omega) w.1]
    exact (kS_k hM (by omega) (by omega)).mp (w.2.2.2 t2).1
  have hB : ∀ t : Nat, (t : Int) < (jm 8).toInt → (em 9 t).toInt = 5 → (em 11 t).toInt < N ∧ (kS (em 3) (em 6) (em 11 t).toInt = 0 ∨ kS (em 3) (em 6) (em 11 t).toInt = 2) := fun t t1 t2 => by
    have w := hs.2.1 t t1
    refine ⟨w.2.1 (by omega), ?_⟩
    rcases (w.2.2.2 t2).2 with u | u
    · exact Or.inl ((kS_k hM (by omega) (by omega)).mp u)
    · exact Or.inr ((kS_k hM (by omega) (by omega)).mp u)
  have hin : ∀ z k, (zX so (em 6) N) z = k → 0 ≤ k → 0 ≤ z ∧ z < N := fun z k q1 q2 => by
    by_cases q : 0 ≤ z ∧ z < N
    · exact q
    · unfold zX at q1; rw [if_neg q] at q1; omega
  have eH := Sc_h hSc hAb hN
  have eF := Sc_f hSc hAb hN
  have hLk := LkAr (Z := zX so (em 6) N) (f := hF z) (fm := fX z) (op := bT z 0) (gl := bT z 5) (lt := bT z 2) (sd := sD f1 f2) (p := p) (N := N)
  have hL9 := hLk
  generalize snA (SnP (zX so (em 6) N) (hF z) (fX z) (bT z 0) (bT z 5) (bT z 2) (sD f1 f2) p N) = sn at hLk hL9
  generalize snA (RcP (zX so (em 6) N) (hF z) (fX z) (bT z 0) (bT z 5) (bT z 2) (sD f1 f2) p N) = rc at hLk hL9
  generalize pI (BrM (zX so (em 6) N) (hF z) (bT z 0) (bT z 5) (bT z 2) (sD f1 f2) p N) (1 : Int32) 0 = br at hLk hL9
  rw [eH, eF] at hLk
  have hsn : ∀ z, 0 ≤ z → z < N → ((sn z.toNat).toInt = 1 ↔ (sn2 z.toNat).toInt = 1) ∧ ((rc z.toNat).toInt = 1 ↔ (rc2 z.toNat).toInt = 1) := fun z9 z0 z1 => by
    refine Lk_e hLk hL (fun x q => ?_) (fun s x s9 q => ?_) (fun x x0 x1 => ?_) (fun x q => hin x 0 q (by omega)) z0 z1
    · have xr := hin x 3 q (by omega)
      have b := Sc_b hSc xr.1 xr.2
      have k := hK x xr.1 xr.2
      refine ⟨b.1, ?_⟩
      rw [b.2.2 5 (by omega) (by omega)]
      refine (hq x 5 xr.1 xr.2 (by omega) (by omega)).trans ?_
      show _ ↔ (gls x.toNat).toInt = 1
      rw [k.2.1, ← eZ]
      exact ⟨fun u => ⟨q, u.2⟩, fun u => ⟨Or.inr (Or.inr (Or.inr (Or.inr ⟨by omega, q⟩))), u.2⟩⟩
    · exact Sd_e hRD hD hA hN (hin x 2 q (by omega)) q s9
    · have b := Sc_b hSc x0 x1
      have k := hK x x0 x1
      rw [b.2.2 2 (by omega) (by omega)]
      refine (hq x 2 x0 x1 (by omega) (by omega)).trans ?_
      show _ ↔ (lt x.toNat).toInt = 1
      rw [k.1]
      exact ⟨fun u => u.2, fun u => ⟨Or.inr (Or.inl rfl), u⟩⟩
  have main : r.toInt = plV (rxC (zX so (em 6) N) ld dr (em 7) z (fun w => (sn w.toNat).toInt = 1) (fun w => (rc w.toNat).toInt = 1) p N v x) (ryC (zX so (em 6) N) kb (em 10) z (fun w => (sn w.toNat).toInt = 1) (fun w => (rc w.toNat).toInt = 1) p N v x y) := by
    rcases hW with ⟨q0, l9, d9, b9, i9, hf, e⟩ | ⟨q0, e⟩
    · rw [← eZ] at e
      rw [e]
      unfold rxC ryC
      rw [Wy_0 q0]
      exact (Go_e hSc hAb hN hp (hQ.2.2.1 q0) hRD hI hr hD hz hB hf).symm
    · rw [← eZ] at e
      rw [e]
      obtain ⟨rk, hrk⟩ := hTI.2.2.2.1
      have hpp : ¬ fMn N nf p = -9 := by
        rw [fMn_i hp]; exact TI_p hTI
      have p9 : ¬ p = -9 := by omega
      unfold rxC ryC
      refine (Wy_t hSc hAb hN hp hp5 hpp hQ q0 hsn hq (fun x0 x1 => ?_) (fun g o z => ?_) hrk hZ5).symm
      · unfold kyV kyM
        rw [IX_kb hI hr x0 (by omega)]
        rfl
      · unfold lsG lsM
        rw [gM_t p9, show gA (em 9) (em 10) (em 11) (em 13) na (jm 8).toInt p (z : Int) = (na (z : Int).toNat).toInt from if_neg p9, show ((z : Nat) : Int).toNat = z by omega]
  rw [main, plV_w]
  unfold okC rxF ryF
  have hI1 : 1 ≤ v ∧ v ≤ 10 → 0 ≤ x ∧ x < N := hQ.2.2.2.1
  have hI2 : hyB v → 0 ≤ y ∧ y < N := hQ.2.2.2.2
  rw [rxC_c (SN := fun w => (sn w.toNat).toInt = 1) (RC := fun w => (rc w.toNat).toInt = 1) (SN2 := snC (zX so (em 6) N) f1 f2 z p N) (RC2 := rcC (zX so (em 6) N) f1 f2 z p N) (fun q => LkC_i hL9 (hI1 q).1 (hI1 q).2), ryC_c (SN := fun w => (sn w.toNat).toInt = 1) (RC := fun w => (rc w.toNat).toInt = 1) (SN2 := snC (zX so (em 6) N) f1 f2 z p N) (RC2 := rcC (zX so (em 6) N) f1 f2 z p N) (fun q => LkC_i hL9 (hI2 q).1 (hI2 q).2)]
/-- the ends are alike -/
theorem En_e {N p v x y : Int} {Z : Int → Int} {Qf : Int → Int → Prop} {ld dr f1 f2 sz kb as z F A O L F2 A2 O2 L2 : CeT} {pa ko q9 q10 q11 q12 q13 : CeT} {n : Int} {Rm : Int → Prop} (hN : N ≤ 30) (hp : 0 ≤ p ∧ p < N) (hp5 : Z p = 5) (hR : RlX N Z Qf z F A O L) (hT : TI N Rm p F A) (hT2 : TI N Rm p F2 A2) (hQ : IsA v x y N) (hv : v ≤ 11) (eZ : Z = zM pa ko N) (hok : okC Z ld dr f1 f2 sz kb as p N z v x y) (hC : AxM pa ko q9 q10 q11 q12 q13 N n p v x y F A O L F2 A2 O2 L2)
    (hld : v = 0 → ByR Z (nF N F A) (fMn N F) p → ∀ h, (∃ d9 b9 i9 : Int, FeM pa ko q9 q10 q11 q12 q13 n (A p.toNat).toInt x h d9 b9 i9) → h = (ld (nF N F A p * 10 + x).toNat).toInt) : RlX N Z Qf (nxC Z ld p z v x y) F2 A2 O2 L2 := by
  obtain ⟨hSc, hAb, hzr, hb⟩ := hR
  obtain ⟨pi, xi, ep, exx, ha⟩ := hC
  rw [← eZ] at ha
  have eH := Sc_h hSc hAb hN
  have eF := Sc_f hSc hAb hN
  have g := At_g (Q := True) (tu := 0) (th := 1) (r := 0) (v := v) (Or.inr (Or.inr (Or.inr ⟨trivial, by omega, rfl, (plV_w.mpr hok).symm⟩))) rfl
  obtain ⟨_, _, g1, g2, g4, g10, g11, gb⟩ := g
  rw [eH, eF] at g2 g11 gb
  have hpp : ¬ fMn N F p = -9 := by
    rw [fMn_i hp]; exact TI_p hT
  have esb : (sbI v pi xi).toNatClampNeg = sbX v p x := by rw [sbX_e, ep, exx]
  have hs : 0 ≤ (sbI v pi xi).toInt ∧ (sbI v pi xi).toInt < N := by
    rw [sbI_i, ep, exx]
    by_cases q : v = 0 ∨ 10 ≤ v
    · rw [if_pos q]; exact hp
    · rw [if_neg q]; exact hQ.2.2.2.1 (by have := hQ.1; omega)
  have ha2 := AcR_h (g := plH v (nF N F A) p (ld ((nF N F A) p * 10 + x).toNat).toInt x y) ha (fun h q => by
    rcases q with q | q
    · rw [plH_0 q.1]; exact hld q.1 (gb q.1) h q.2
    · rw [plH_n q.1]; exact q.2)
  have hg : v ≤ 4 ∨ (9 ≤ v ∧ v ≤ 11) → PlOk N Z (sbI v pi xi).toInt (plF v Z (fMn N F) (nF N F A) p x) (plH v (nF N F A) p (ld ((nF N F A) p * 10 + x).toNat).toInt x y) := fun q => by
    rw [sbI_i, ep, exx]
    refine Gd (Sc_p hSc) hp hp5 hpp hQ q (fun q0 => ?_) (fun q1 => ?_) (fun q2 => (g2 q2).2) (fun q4 => ?_) g10 g11
    · unfold AcR at ha2
      rcases ha2 with ⟨_, ⟨f9, h9, b, c, d1, d2⟩, _⟩ | ⟨w, _⟩ | ⟨w, _⟩ | ⟨w, _⟩
      · have t := hT2.2.1 p hp.1 hp.2
        have es : (sbI v pi xi).toNatClampNeg = p.toNat := by
          rw [esb]; unfold sbX; rw [if_pos (Or.inl q0)]
        rw [d1, d2, es, pk_us, pk_us, b] at t
        have c9 : h9.toInt = plH v (nF N F A) p (ld ((nF N F A) p * 10 + x).toNat).toInt x y := c
        rw [plH_0 q0] at c9
        have t2 := t (by unfold plF; rw [if_pos q0]; decide)
        omega
      · exfalso; omega
      · exfalso; omega
      · exfalso; omega
    · exact Classical.not_not.mp (fun u => g1 q1 (Or.inl u))
    · rcases g4 q4 with u | u
      · exact absurd u.1 (by decide +kernel)
      · exact u.2
  have hou := Ou_x (v := v) (f := plF v Z (fMn N F) (nF N F A) p x) (g := plH v (nF N F A) p (ld ((nF N F A) p * 10 + x).toNat).toInt x y) (hzr (sbX v p x)) ⟨hQ.1, hv⟩ (fun q => by have w := hg q; unfold PlOk at w; omega)
  have en : nxC Z ld p z v x y = upd z (sbI v pi xi).toNatClampNeg (ouV v (z (sbX v p x)) (plF v Z (fMn N F) (nF N F A) p x) (plH v (nF N F A) p (ld ((nF N F A) p * 10 + x).toNat).toInt x y)) := by
    unfold nxC
    rw [eH, eF, esb]
  rw [en]
  have ho := hou.1
  rw [← esb] at ho
  refine ⟨?_, Abs_u hAb hs.1 hs.2, fun o => ?_, fun o ho9 => ?_⟩
  · have w := Sc_a hSc (fun o => (hzr o).1) hN hs ho ha2 (fun q => by unfold sbI; rw [if_neg (by omega)]) hg
    rw [esb] at w ⊢
    exact w
  · by_cases q : o = (sbI v pi xi).toNatClampNeg
    · rw [q, pk_us]; exact hou.2
    · rw [pk_un q]; exact hzr o
  · have w := hb o ho9
    have b1 : ∀ {b : Int32} {P : Prop}, Sm b P → 0 ≤ b.toInt ∧ b.toInt ≤ 1 := fun {b P} s => by
      rcases s with s | s
      · have := s.1; omega
      · have := s.1; omega
    unfold AcR at ha2
    rcases ha2 with ⟨_, _, k1, k2⟩ | ⟨_, _, _, ⟨b, k0, k1⟩, k2⟩ | ⟨_, _, _, k1, ⟨b, k0, k2⟩⟩ | ⟨_, _, _, k1, k2⟩
    · rw [k1, k2]; exact w
    · rw [k1, k2]
      refine ⟨?_, w.2⟩
      by_cases q : o = xi.toNatClampNeg
      · rw [q, pk_us]; exact b1 k0
      · rw [pk_un q]; exact w.1
    · rw [k1, k2]
      refine ⟨w.1, ?_⟩
      by_cases q : o = xi.toNatClampNeg
      · rw [q, pk_us]; exact b1 k0
      · rw [pk_un q]; exact w.2
    · rw [k1, k2]; exact w
/-! the way back is one -/
theorem anB_c {f g : Nat → Int} {n : Nat} (h : ∀ k : Nat, 0 < k → k < n → g k = f k ∧ 0 ≤ f k ∧ f k < (k : Int)) (s : Nat) (hs : s < n) : ∀ j : Nat, (∀ i : Nat, i < j → 0 < anB f i s) → anB g j s = anB f j s ∧ anB f j s < n := by
  intro j
  induction j with
  | zero => intro _; exact ⟨rfl, hs⟩
  | succ j ih =>
    intro hj
    have w := ih (fun i hi => hj i (by omega))
    have u := h (anB f j s) (hj j (by omega)) w.2
    refine ⟨?_, ?_⟩
    · show (g (anB g j s)).toNat = (f (anB f j s)).toNat
      rw [w.1, u.1]
    · show (f (anB f j s)).toNat < n
      omega
theorem anB_u {f : Nat → Int} {s : Nat} {a b : Nat} (ha : anB f a s = 0) (hb : anB f b s = 0) (ha2 : ∀ j : Nat, j < a → 0 < anB f j s) (hb2 : ∀ j : Nat, j < b → 0 < anB f j s) : a = b := by
  rcases Nat.lt_trichotomy a b with q | q | q
  · have := hb2 a q; omega
  · exact q
  · have := ha2 b q; omega
/-- how long, by which acts: both sides -/
def PlE (pl : Int) (py : CeT) (sm : Int) (sr : CeT) : Prop := pl = sm ∧ (pl = -9 ∨ (0 ≤ pl ∧ pl ≤ 299)) ∧ ∀ j : Nat, (j : Int) < pl → (py j).toInt = (sr (3 * j)).toInt * 1024 + (sr (3 * j + 1)).toInt * 32 + (sr (3 * j + 2)).toInt ∧ 0 ≤ (sr (3 * j)).toInt ∧ 0 ≤ (sr (3 * j + 1)).toInt ∧ (sr (3 * j + 1)).toInt ≤ 31 ∧ 0 ≤ (sr (3 * j + 2)).toInt ∧ (sr (3 * j + 2)).toInt ≤ 31
theorem Pl_e {R : RlT} {N : Int} {t kp pa de py a b d fr ac sr : CeT} {st fd pl st2 : Int32} {B : Acc CeT} {ans sm9 : Int} (hX : RpX t kp pa de st fd B) (hF : FrB B) (hT : TpR pa de fd pl py) (hM : RpM R N a b d fr ac st2 B) (hA : (ans = -9 ∧ sm9 = -9 ∧ B.2.2.2.2 = -9) ∨ (¬ B.2.2.2.2 = -9 ∧ FoM fr ac ans B.2.2.2.2.toNat sm9 sr)) (hac : ∀ j, 0 ≤ (ac j).toInt ∧ (ac j).toInt ≤ 29) : pl.toInt = ans ∧ PlE pl.toInt py sm9 sr := by
  obtain ⟨x1, x2, x3⟩ := hX
  rcases hT with ⟨t1, t2⟩ | ⟨t1, t2, t3, t4, t5, t6⟩
  · rcases hA with ⟨a1, a2, a3⟩ | ⟨a1, _⟩
    · exact ⟨by omega, by omega, Or.inl t2, fun j hj => by omega⟩
    · exact absurd (x2.symm.trans t1) a1
  · rcases hA with ⟨_, _, a3⟩ | ⟨a1, a2, a3, a4, a5, a6⟩
    · exact absurd (x2.trans a3) t1
    · have f2 := hF.2.resolve_left a1
      have ef : fd.toInt.toNat = B.2.2.2.2.toNat := by rw [x2]
      rw [ef] at t4 t5 t6
      generalize hs : B.2.2.2.2.toNat = s at *
      have hsn : s < B.2.2.2.1 := by omega
      have cX : ∀ k : Nat, 0 < k → k < B.2.2.2.1 → paI fr k = paI pa k ∧ 0 ≤ paI pa k ∧ paI pa k < (k : Int) := fun k k0 k1 => by
        have w := hF.1 k k0 k1
        have u := (x3 k k1).2.1
        have q := ((hM.2 k k1).2 k0).1
        show (fr k).toInt = (pa k).toInt ∧ 0 ≤ (pa k).toInt ∧ (pa k).toInt < (k : Int)
        omega
      have cc := fun (j : Nat) (hj : (j : Int) ≤ pl.toInt) => anB_c cX s hsn j (fun i hi => t5 i (by omega))
      have z1 : anB (paI fr) pl.toInt.toNat s = 0 := by rw [(cc _ (by omega)).1]; exact t4
      have e : pl.toInt.toNat = ans.toNat := anB_u z1 a4 (fun j hj => by rw [(cc j (by omega)).1]; exact t5 j (by omega)) (fun j hj => a5 j (by omega))
      have e2 : pl.toInt = ans := by omega
      refine ⟨e2, by omega, Or.inr ⟨t2, t3⟩, fun j hj => ?_⟩
      have p1 := t6 (pl.toInt - 1 - (j : Int)).toNat (by omega)
      rw [show (pl.toInt - 1 - (((pl.toInt - 1 - (j : Int)).toNat : Nat) : Int)).toNat = j by omega] at p1
      have cj := cc (pl.toInt - 1 - (j : Int)).toNat (by omega)
      have pos := t5 (pl.toInt - 1 - (j : Int)).toNat (by omega)
      generalize hk : anB (paI pa) (pl.toInt - 1 - (j : Int)).toNat s = k at *
      have d1 := (x3 k cj.2).2.2
      have m1 := ((hM.2 k cj.2).2 pos).2
      have rr := fun (i : Nat) (hi : i < 3) => a6 (pl.toInt - 1 - (j : Int)).toNat (by omega) i hi
      rw [cj.1, ← e2, show (pl.toInt - 1 - (((pl.toInt - 1 - (j : Int)).toNat : Nat) : Int)).toNat = j by omega] at rr
      have r0 := rr 0 (by omega)
      have r1 := rr 1 (by omega)
      have r2 := rr 2 (by omega)
      rw [show 3 * j + 0 = 3 * j by omega, show 3 * k + 0 = 3 * k by omega] at r0
      rw [r0, r1, r2, p1, d1]
      unfold pkD
      have b0 := hac (3 * k)
      have b1 := hac (3 * k + 1)
      have b2 := hac (3 * k + 2)
      omega
/-- the reference's search goes as the class's does -/
theorem SiM_c {jm : Nat → Int32} {em : Nat → Nat → Int32} {so ko pa st sz F A B C S pb eb fb kb cb ld dr bw im f1 f2 : Nat → Int32} {n : Int32} {N kn p gx gy : Int} (hM : mInv jm em) (hN : N ≤ 30) (eN : N = (jm 5).toInt)
    (hSN : SN F A B C S n pb eb fb kb cb (em 9) (em 10) (em 11) (em 12) (em 13) (jm 8)) (hr : RR F A B C pb eb fb kb) (hD : DR (zX so ko N) F A B S n.toInt N) (hRD : RDS (zX so ko N) F A B C S n.toInt.toNat ld dr bw im f1 f2) (hs : SJ (em 3) (em 6) (em 9) (em 10) (em 11) (em 13) kn (jm 5).toInt (jm 8).toInt)
    (hz : ∀ t, 0 ≤ t → t < N → zX so ko N t = kS (em 3) (em 6) t) (hZ5 : ∀ t, 0 ≤ t → t < N → 0 ≤ zX so ko N t ∧ zX so ko N t ≤ 5) (ePA : pa = em 3) (eKO : ko = em 6) (est : ∀ j : Nat, j < 144 → st j = em 4 j) (eSZ : sz = em 7)
    (hp : 0 ≤ p ∧ p < N) (hp5 : zX so ko N p = 5) (x0 : 0 ≤ gx ∧ gx < N) (y0 : 0 ≤ gy) : SiM (em 3) (em 4) (em 6) (em 7) (em 9) (em 10) (em 11) (em 12) (em 13) N (jm 8).toInt p gx gy (RlX N (zX so ko N) (fun o f : Int => Can ((zX so ko N) o) f ∧ sgX fb C o f (sfV pa ko st (so (ko o.toNat).toNatClampNeg).toInt f o) = 1)) (okC (zX so ko N) ld dr f1 f2 sz kb A p N) (nxC (zX so ko N) ld p) (smC N) (glC gx gy) := by
  refine ⟨fun v x y ht z nf na nO nL r hR hT hX => ?_, fun v x y ht z nf na nO nL F2 A2 O2 L2 hR hT hT2 hok hC => ?_, fun z z2 nf na nO nL F2 A2 O2 L2 h h2 => Rl_s h h2 hN, fun z nf na nO nL hR => Rl_g hR hN x0.1 x0.2 y0, fun z nf na nO nL F2 A2 O2 L2 hR e => Rl_x hR e⟩
  · exact Rs_e hM hN eN hSN hr hD hRD hs hz hZ5 ePA eKO est eSZ hp hp5 hR hT (TrA_a ht) hX
  · have hQ := TrA_a ht
    refine En_e hN hp hp5 hR hT hT2 hQ ht.2.1 (zXM hz) hok hC (fun q0 hb h hf => ?_)
    refine Ld_m hM hN eN hSN hr hD hRD hs hz hR.1 hR.2.1 hp (hQ.2.2.1 q0) rfl ?_ hf
    rw [Sc_h hR.1 hR.2.1 hN, Sc_f hR.1 hR.2.1 hN]
    exact hb
/-- the first state of both searches -/
theorem Rl_0 {N : Int} {Z : Int → Int} {Qf : Int → Int → Prop} {ct ce F A O L : CeT} (h : ScR N Z Qf ce F A O L) (ha : Abs ce N) (hN : N ≤ 30) (ht : ∀ o : Nat, 30 ≤ o → ct o = 255) (hc : ∀ o, 0 ≤ (ce o).toInt ∧ (ce o).toInt ≤ 16383) (hO : ∀ j, 0 ≤ (O j).toInt ∧ (O j).toInt ≤ 1) (hL : ∀ j, 0 ≤ (L j).toInt ∧ (L j).toInt ≤ 1) : RlX N Z Qf (rwX ct ce 0) F A O L := by
  have e : ∀ o : Nat, o < 30 → rwX ct ce 0 o = ce o := fun o ho => by
    rw [rwX_l ho, show 30 * 0 + o = o by omega]
  have e2 : ∀ o : Nat, 30 ≤ o → rwX ct ce 0 o = 255 := fun o ho => by
    rw [rwX_g ho]; exact ht o ho
  have c2 : (255 : Int32).toInt = 255 := by decide
  refine ⟨fun o ho => ?_, fun o ho => ?_, fun o => ?_, fun o _ => ⟨hO o, hL o⟩⟩
  · rw [e o (by omega)]; exact h o ho
  · by_cases q : o < 30
    · rw [e o q]; exact ha o ho
    · rw [e2 o (by omega)]; decide
  · by_cases q : o < 30
    · rw [e o q]; exact hc o
    · rw [e2 o (by omega)]; decide
theorem Sk_a {jm : Nat → Int32} {em : Nat → Nat → Int32} {so ko pa st sz F A B C S pb eb fb kb cb ld dr bw im f1 f2 ce sb fc ct : Nat → Int32} {n th pl0 tu : Int32} {N kn gx gy gx2 gy2 : Int} {LK : Prop} (hM : mInv jm em) (hN : N ≤ 30) (eN : N = (jm 5).toInt)
    (hSN : SN F A B C S n pb eb fb kb cb (em 9) (em 10) (em 11) (em 12) (em 13) (jm 8)) (hr : RR F A B C pb eb fb kb) (hD : DR (zX so ko N) F A B S n.toInt N) (hRD : RDS (zX so ko N) F A B C S n.toInt.toNat ld dr bw im f1 f2) (hs : SJ (em 3) (em 6) (em 9) (em 10) (em 11) (em 13) kn (jm 5).toInt (jm 8).toInt)
    (hz : ∀ t, 0 ≤ t → t < N → zX so ko N t = kS (em 3) (em 6) t) (hZ5 : ∀ t, 0 ≤ t → t < N → 0 ≤ zX so ko N t ∧ zX so ko N t ≤ 5) (ePA : pa = em 3) (eKO : ko = em 6) (est : ∀ j : Nat, j < 144 → st j = em 4 j) (eSZ : sz = em 7)
    (hT : TL N (zX so ko N) (fun o f : Int => Can ((zX so ko N) o) f ∧ sgX fb C o f (sfV pa ko st (so (ko o.toNat).toNatClampNeg).toInt f o) = 1) LK th pl0 tu ce sb fc (jm 22) (jm 27) (em 23) (em 24) (em 25) (em 26) (em 29) (em 30) (em 31) (em 32)) (hth : th.toInt = 1) (htl : ∀ o : Nat, 30 ≤ o → ct o = 255) (hce : ∀ o, 0 ≤ (ce o).toInt ∧ (ce o).toInt ≤ 16383) (x0 : 0 ≤ gx ∧ gx < N) (y0 : 0 ≤ gy) (ex : gx2 = gx) (ey : gy2 = gy)
    {kp par de py a b d fr ac sr : CeT} {stX fd pl stM : Int32} {m m2 : Nat} {ans sm9 : Int} (em2 : m2 = m)
    (hX : RpX (rwX ct ce 0) kp par de stX fd (srB (okC (zX so ko N) ld dr f1 f2 sz kb A pl0.toInt N) (nxC (zX so ko N) ld pl0.toInt) (smC N) (glC gx gy) N m (b0B (glC gx gy) (rwX ct ce 0)))) (hTp : TpR par de fd pl py)
    (hK : SkM (SiM (em 3) (em 4) (em 6) (em 7) (em 9) (em 10) (em 11) (em 12) (em 13) (jm 5).toInt (jm 8).toInt (jm 22).toInt gx2 gy2) (jm 5).toInt (em 23) (em 24) (em 25) (em 26) a b d fr ac stM m2 ans sm9 sr) (hac : ∀ j, 0 ≤ (ac j).toInt ∧ (ac j).toInt ≤ 29) : pl.toInt = ans ∧ PlE pl.toInt py sm9 sr := by
  subst ex ey em2
  have q := hT.2.2.resolve_left (fun w => w.1 hth)
  have epl : pl0 = jm 22 := q.2.1
  have hR0 := Rl_0 (ct := ct) q.2.2.2.2.1 hT.1 hN htl hce (fun j => hM.2 25 j) (fun j => hM.2 26 j)
  have hp := q.2.2.1
  have hp5 := q.2.2.2.1
  rw [epl] at hX
  have hS := SiM_c (gx := gx2) (gy := gy2) hM hN eN hSN hr hD hRD hs hz hZ5 ePA eKO est eSZ hp hp5 x0 y0
  rw [← eN] at hK
  have w := hK _ _ _ _ _ hS _ hR0
  exact Pl_e hX (srB_f b0B_f) hTp w.1 w.2 hac

