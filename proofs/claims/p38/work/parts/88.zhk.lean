/-- a tale's ways up end -/
theorem TL_A {N N2 : Int} {Z : Int → Int} {Qf : Int → Int → Prop} {LK : Prop} {th pl tu : Int32} {pa ko ce sb fc : Nat → Int32} {p tu2 : Int32} {F A O L W1 W2 W3 W4 : Nat → Int32} {tn : Int} (h : TL N Z Qf LK th pl tu ce sb fc p tu2 F A O L W1 W2 W3 W4) (hJ : TJ pa ko F A W1 W2 N2 p.toInt tn) (eN : N = N2) (hN : N ≤ 30) : th.toInt = 1 → Acy (hF ce) := fun h1 => by
  subst eN
  have c := h.2.2.resolve_left (fun q => q.1 h1)
  rw [Sc_h c.2.2.2.2.1 h.1 hN]
  exact (hJ (by have := c.2.2.1; omega)).2.1.2.2.2.1
/-! turns -/
/-! digests are alike -/
theorem Pq_e {F A B C S pb eb fb kb ce F2 A2 B2 C2 S2 : Nat → Int32} {n n2 : Int32} {o : Int} (h : SN F A B C S n pb eb fb kb ce F2 A2 B2 C2 S2 n2) (hr : RR F A B C pb eb fb kb) (o0 : 0 ≤ o) (o1 : o ≤ 29) : fX ce o = pcF F2 A2 S2 F2 n2.toInt o ∧ hF ce o = pcF F2 A2 S2 B2 n2.toInt o := by
  obtain ⟨e1, e2, e3, e4, e5, e6, hI⟩ := h
  have n1 := Int32.toInt_inj.mp e6
  subst e1 e2 e3 e4 e5 n1
  have c5 := hI.2.2.2.2.1 o.toNat (by omega)
  have er : (pb o.toNat).toNatClampNeg = (pb o.toNat).toInt.toNat := rfl
  rw [er] at c5
  have rF := hr.1 (pb o.toNat).toInt.toNat
  unfold fX hF pcF
  rw [IX_pL hI hr o0 o1]
  rcases c5 with ⟨u1, u2⟩ | ⟨u1, u2⟩
  · have q : ¬ (0 ≤ o ∧ o ≤ 29 ∧ ¬ (ce o.toNat).toInt % 256 = 255) := by omega
    rw [if_neg q, if_neg q, if_pos u1, if_pos u1]
    exact ⟨rfl, rfl⟩
  · have p5 := ((hI.1 o.toNat (pb o.toNat).toInt.toNat (by omega)).mpr (by omega)).2.2.1
    have q : 0 ≤ o ∧ o ≤ 29 ∧ ¬ (ce o.toNat).toInt % 256 = 255 := by omega
    have q2 : ¬ (pb o.toNat).toInt = -9 := by omega
    rw [if_pos q, if_pos q, if_neg q2, if_neg q2]
    constructor <;> omega
theorem Dg_e {jm : Nat → Int32} {em : Nat → Nat → Int32} {so ko pa st F A B C S pb eb fb kb cb ld dr bw im f1 f2 ce sb fc sn rc : Nat → Int32} {gl lt bx rm dd sn2 rc2 : Nat → Int32} {sz : Nat → Int32} {n th pl tu br br2 k1 k2 : Int32} {r r2 : Int64} {N kn : Int} (hM : mInv jm em) (hN : N ≤ 30) (eN : N = (jm 5).toInt) (hSN : SN F A B C S n pb eb fb kb cb (em 9) (em 10) (em 11) (em 12) (em 13) (jm 8)) (hr : RR F A B C pb eb fb kb) (hD : DR (zX so ko N) F A B S n.toInt N) (hRD : RDS (zX so ko N) F A B C S n.toInt.toNat ld dr bw im f1 f2) (hs : SJ (em 3) (em 6) (em 9) (em 10) (em 11) (em 13) kn (jm 5).toInt (jm 8).toInt) (hz : ∀ t : Int, 0 ≤ t → t < N → zX so ko N t = kS (em 3) (em 6) t) (ePA : pa = em 3) (eKO : ko = em 6) (est : ∀ j : Nat, j < 144 → st j = em 4 j)
    (hT : TL N (zX so ko N) (fun o f : Int => Can ((zX so ko N) o) f ∧ sgX fb C o f (sfV pa ko st (so (ko o.toNat).toNatClampNeg).toInt f o) = 1) (LkR (zX so ko N) (hF ce) (fX ce) (bT ce 0) (bT ce 5) (bT ce 2) (sD f1 f2) pl.toInt N sn rc br) th pl tu ce sb fc (jm 22) (jm 27) (em 23) (em 24) (em 25) (em 26) (em 29) (em 30) (em 31) (em 32)) (eSZ : sz = em 7) (hk : k1.toInt = k2.toInt) (hk2 : k1.toInt ≤ 24) (hx : r = dgN (dgS F A B C S) n.toInt.toNat (dgN (dgO ko sz (fX cb) (hF cb) (fun o s : Int => nwV s (fX ce o) (hF ce o) (zX so ko N o = 2 ∨ zX so ko N o = 3) (bT ce 0 o) (bT ce 1 o) (sn o.toNat).toInt (rc o.toNat).toInt) (th.toInt = 1)) N.toNat (dgN (dgK pa st) k1.toInt.toNat 17)))
    (hm : H3 (Im (¬ (jm 22).toInt = -9) ((LkK (em 3) (em 6) (jm 5).toInt lt gl bx rm dd (fun z : Int => SgM (em 9) (em 10) (em 11) (em 12) (em 13) (jm 8).toInt z 2 (sfV (em 3) (em 6) (em 4) (kS (em 3) (em 6) z) 2 z) 1) (fun z : Int => SgM (em 9) (em 10) (em 11) (em 12) (em 13) (jm 8).toInt z 5 (sfV (em 3) (em 6) (em 4) (kS (em 3) (em 6) z) 5 z) 1) (jm 5).toInt) ∧ (LkR (zM (em 3) (em 6) (jm 5).toInt) (nF (jm 5).toInt (em 23) (em 24)) (fMn (jm 5).toInt (em 23)) (bM (em 25)) (bM gl) (bM lt) (sdM (zM (em 3) (em 6) (jm 5).toInt) (em 9) (em 10) (em 11) (em 13) (jm 8).toInt) (jm 22).toInt (jm 5).toInt sn2 rc2 br2))) ∧ r2 = dgN (dgS (em 9) (em 10) (em 11) (em 12) (em 13)) (jm 8).toInt.toNat (dgN (dgO (em 6) (em 7) (pcF (em 9) (em 10) (em 13) (em 9) (jm 8).toInt) (pcF (em 9) (em 10) (em 13) (em 11) (jm 8).toInt) (fun o s : Int => nwV s (em 23 o.toNat).toInt (em 24 o.toNat).toInt ((zM (em 3) (em 6) (jm 5).toInt) o = 2 ∨ (zM (em 3) (em 6) (jm 5).toInt) o = 3) ((bM (em 25)) o) ((bM (em 26)) o) (sn2 o.toNat).toInt (rc2 o.toNat).toInt) (¬ (jm 22).toInt = -9)) (jm 5).toInt.toNat (dgN (dgK (em 3) (em 4)) k2.toInt.toNat 17))) : r = r2 := by
  obtain ⟨hJ, hm⟩ := hm
  have hi := TL_i hT
  have e1 : dgN (dgK pa st) k1.toInt.toNat 17 = dgN (dgK (em 3) (em 4)) k2.toInt.toNat 17 := by
    rw [← hk]
    refine dgN_c _ (fun k hk g => ?_)
    unfold dgK
    rw [ePA]
    refine dgN_c _ (fun f hf g => ?_)
    unfold dgF
    rw [est (6 * k + f) (by omega)]
  have e2 : ∀ (T : Int → Int → Int) (T2 : Int → Int → Int), (th.toInt = 1 → ∀ o s : Int, 0 ≤ o → o < N → 0 ≤ s → s ≤ 5 → T o s = T2 o s) → ∀ h : Int64, dgN (dgO ko sz (fX cb) (hF cb) T (th.toInt = 1)) N.toNat h = dgN (dgO (em 6) (em 7) (pcF (em 9) (em 10) (em 13) (em 9) (jm 8).toInt) (pcF (em 9) (em 10) (em 13) (em 11) (jm 8).toInt) T2 (¬ (jm 22).toInt = -9)) (jm 5).toInt.toNat h := fun T T2 hTT h => by
    rw [← eN]
    refine dgN_c _ (fun o ho g => ?_)
    unfold dgO
    have w := Pq_e hSN hr (o := (o : Int)) (by omega) (by omega)
    have eB : dgB ko sz (fX cb) (hF cb) o g = dgB (em 6) (em 7) (pcF (em 9) (em 10) (em 13) (em 9) (jm 8).toInt) (pcF (em 9) (em 10) (em 13) (em 11) (jm 8).toInt) o g := by
      unfold dgB
      rw [eKO, eSZ, w.1, w.2]
    rw [eB]
    by_cases q : th.toInt = 1
    · rw [iV_y q, iV_y (show ¬ (jm 22).toInt = -9 by omega)]
      refine dgN_c _ (fun s hs g => ?_)
      unfold dgT
      rw [hTT q (o : Int) (s : Int) (by omega) (by omega) (by omega) (by have : (6 : Int).toNat = 6 := rfl; omega)]
    · rw [iV_n q, iV_n (show ¬ ¬ (jm 22).toInt = -9 by omega)]
      exact (dgN_0 rfl).symm.trans (dgN_0 rfl)
  have e3 : ∀ h : Int64, dgN (dgS F A B C S) n.toInt.toNat h = dgN (dgS (em 9) (em 10) (em 11) (em 12) (em 13)) (jm 8).toInt.toNat h := fun h => by
    rw [hSN.1, hSN.2.1, hSN.2.2.1, hSN.2.2.2.1, hSN.2.2.2.2.1, hSN.2.2.2.2.2.1]
  rw [hx, hm, e3, e1]
  refine congrArg _ (e2 _ _ (fun q o s o0 o1 s0 s1 => ?_) _)
  obtain ⟨hK, hL⟩ := hJ (by omega)
  exact Tw_e (s := s) (o := o) hM hN eN hSN hr hD hRD hs hz ePA eKO est hT q hK hL ⟨o0, o1⟩ (Or.inl ⟨s1, rfl⟩) (Or.inl ⟨s1, rfl⟩)
def LI (i : Nat → Int32) (c : Nat → Nat → Int32) (jm : Nat → Int32) (em : Nat → Nat → Int32) : Prop := xInv i c ∧ xFl (c 113) (c 115) ∧ PJ (i 146) (i 147) (i 156) (i 148) (c 150) (c 144) (c 145) ∧ (i 141).toInt = 0 ∧ mInv jm em ∧ SJ (em 3) (em 6) (em 9) (em 10) (em 11) (em 13) (jm 2).toInt (jm 5).toInt (jm 8).toInt ∧ TJ (em 3) (em 6) (em 23) (em 24) (em 29) (em 30) (jm 5).toInt (jm 22).toInt (jm 27).toInt ∧ LRel (i 110) (i 111) (i 165) (c 107) (jm 2) (jm 5) (jm 64) (em 4) ∧ (c 105) = (em 3) ∧ (c 108) = (em 6) ∧ SoR (c 105) (c 106) (i 110) ∧ SN (c 113) (c 114) (c 115) (c 116) (c 117) (i 124) (c 118) (c 119) (c 120) (c 121) (c 127) (em 9) (em 10) (em 11) (em 12) (em 13) (jm 8) ∧ DR (zX (c 106) (c 108) (i 111).toInt) (c 113) (c 114) (c 115) (c 117) (i 124).toInt (i 111).toInt ∧ RDS (zX (c 106) (c 108) (i 111).toInt) (c 113) (c 114) (c 115) (c 116) (c 117) (i 124).toInt.toNat (c 129) (c 130) (c 131) (c 132) (c 133) (c 134) ∧ TL (i 111).toInt (zX (c 106) (c 108) (i 111).toInt) (fun o f : Int => Can ((zX (c 106) (c 108) (i 111).toInt) o) f ∧ sgX (c 120) (c 116) o f (sfV (c 105) (c 108) (c 107) (c 106 (c 108 o.toNat).toNatClampNeg).toInt f o) = 1) (LkR (zX (c 106) (c 108) (i 111).toInt) (hF (c 150)) (fX (c 150)) (bT (c 150) 0) (bT (c 150) 5) (bT (c 150) 2) (sD (c 133) (c 134)) (i 147).toInt (i 111).toInt (c 152) (c 153) (i 154)) (i 146) (i 147) (i 148) (c 150) (c 144) (c 145) (jm 22) (jm 27) (em 23) (em 24) (em 25) (em 26) (em 29) (em 30) (em 31) (em 32) ∧ FtS (zX (c 106) (c 108) (i 111).toInt) (c 113) (c 114) (c 115) (i 124).toInt ∧ (c 109) = (em 7)
def LK (p : Program) (l : Launch) (e : Env) (s : State) (m : MethodId) (below : List Frame) (meth : Method) (cd : Code) (b : Nat) (D : va_G) (sk : Value) (a : Nat → Nat) (t : Nat → ClassId) (Z : va_W) (o : Nat) (am : Nat → Nat) (tm : Nat → ClassId) (x3 : Int32) (cells slots : Nat) : Prop := ∀ (i : Nat → Int32) (q : Int64) (c : Nat → Nat → Int32) (d : Nat → Nat → Int64) (jm : Nat → Int32) (qm : Int64) (em : Nat → Nat → Int32) (dm : Nat → Nat → Int64) (H : Heap) (locs : List Loc) (ls : Array Slot), LI i c jm em → va_P D vwCl (xwT sk a t i q c d ++ (Z ++ mW o am tm jm qm em dm)) H → va_D (fun q : Nat => s.heap.size ≤ q) (xwT sk a t i q c d ++ (Z ++ mW o am tm jm qm em dm)) → va_S (fun q : Nat => s.heap.size ≤ q) s.heap H locs → lv_has ls 4 [(3, .int x3), (2, .ref o), (1, .ref (a 100)), (0, .ref b)] → W p l e room_1 s m #[Value.ref b] below meth cd H locs cells slots (lw_Z below #[Value.ref b] s) (F0 m 1462 ls [])
/-- where a seeker is: its cells may have changed -/
def LKS (p : Program) (l : Launch) (e : Env) (s : State) (m : MethodId) (below : List Frame) (meth : Method) (cd : Code) (b : Nat) (D : va_G) (az : Nat → Nat) (tz : Nat → ClassId) (a : Nat → Nat) (t : Nat → ClassId) (o : Nat) (am : Nat → Nat) (tm : Nat → ClassId) (x3 : Int32) (cells slots : Nat) : Prop := ∀ (i : Nat → Int32) (q : Int64) (c : Nat → Nat → Int32) (d : Nat → Nat → Int64) (iz : Nat → Int32) (cz : Nat → Nat → Int32) (dz : Nat → Nat → Int64) (jm : Nat → Int32) (qm : Int64) (em : Nat → Nat → Int32) (dm : Nat → Nat → Int64) (H : Heap) (locs : List Loc) (ls : Array Slot), LI i c jm em → xInv iz cz → va_P D vwCl (xwT (.ref (az 166)) a t i q c d ++ (xwZ .null (fun k => if k < 166 then a k else az k) tz iz 0 cz dz ++ mW o am tm jm qm em dm)) H → va_D (fun q : Nat => s.heap.size ≤ q) (xwT (.ref (az 166)) a t i q c d ++ (xwZ .null (fun k => if k < 166 then a k else az k) tz iz 0 cz dz ++ mW o am tm jm qm em dm)) → va_S (fun q : Nat => s.heap.size ≤ q) s.heap H locs → lv_has ls 4 [(3, .int x3), (2, .ref o), (1, .ref (a 100)), (0, .ref b)] → W p l e room_1 s m #[Value.ref b] below meth cd H locs cells slots (lw_Z below #[Value.ref b] s) (F0 m 1462 ls [])
theorem xInv_m {i iz : Nat → Int32} {c cz : Nat → Nat → Int32} (hI : xInv i c) (hz : xInv iz cz) : xInv (fun k => if k < 166 then i k else iz k) (fun k => if k < 166 then c k else cz k) := by
  refine ⟨fun k => ?_, fun k j => ?_⟩
  · by_cases h : k < 166
    · show xR k (if k < 166 then i k else iz k).toInt
      rw [if_pos h]; exact hI.1 k
    · show xR k (if k < 166 then i k else iz k).toInt
      rw [if_neg h]; exact hz.1 k
  · by_cases h : k < 166
    · show xE k j ((if k < 166 then c k else cz k) j).toInt
      rw [if_pos h]; exact hI.2 k j
    · show xE k j ((if k < 166 then c k else cz k) j).toInt
      rw [if_neg h]; exact hz.2 k j


