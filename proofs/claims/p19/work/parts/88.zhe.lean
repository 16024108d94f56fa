theorem SB_of {jm : Nat → Int32} {em : Nat → Nat → Int32} {F A B C S pb eb fb kb ce : Nat → Int32} {n : Int32} {kn N N2 : Int} (hM : mInv jm em) (h : SN F A B C S n pb eb fb kb ce (em 9) (em 10) (em 11) (em 12) (em 13) (jm 8)) (hr : RR F A B C pb eb fb kb) (hs : SJ (em 3) (em 6) (em 9) (em 10) (em 11) (em 13) kn N2 (jm 8).toInt) (eN : N = N2) : SB F B n.toInt N := fun s h1 h5 => by
  have R := hr.1 s
  rw [h.2.2.2.2.2.1] at h1
  rw [h.1] at h5
  have q := hB_of hM hs s h1 h5
  rw [← h.2.2.1] at q
  omega
theorem zX_e {so ko : Nat → Int32} {N b : Int} (h : 0 ≤ b ∧ b < N) : zX so ko N b = (so (ko b.toNat).toNatClampNeg).toInt := if_pos h
theorem Sg_e {F A B C S pb eb fb kb ce : Nat → Int32} {n o f v r r2 : Int} (h : IX F A B C S n pb eb fb kb ce) (hr : RR F A B C pb eb fb kb) (ho : 0 ≤ o ∧ o ≤ 29) (hf : 0 ≤ f ∧ f ≤ 5) (h1 : SgX fb C o f v r) (h2 : SgM F A B C S n o f v r2) : r = r2 := by
  have y1 := Sy_e (v := 1) h hr ho hf
  have y0 := Sy_e (v := 0) h hr ho hf
  rw [← fsF_x] at y1 y0
  unfold SyX at y1 y0
  unfold SgX at h1
  unfold SgM at h2
  have e : (fb (o * 6 + f).toNat).toNatClampNeg = (fb (o * 6 + f).toNat).toInt.toNat := rfl
  rcases Ix_at h.2.2.1 (k := (o * 6 + f).toNat) (by omega) (hr.2.1 _).2.2.1 with ⟨a, b⟩ | ⟨a, b, d⟩
  · omega
  · have v6 := h.2.2.2.2.2 _ b.1 b.2.2.1
    have rC := hr.1 (fb (o * 6 + f).toNat).toNatClampNeg
    omega
/-! both sides walk alike -/
theorem feL_r {jm : Nat → Int32} {em : Nat → Nat → Int32} {kn N n r d : Int} (hM : mInv jm em) (hs : SJ (em 3) (em 6) (em 9) (em 10) (em 11) (em 13) kn N n) (h : ¬ feL (em 3) (em 6) (em 9) (em 10) (em 11) (em 12) (em 13) n r d = -9) : 0 ≤ feL (em 3) (em 6) (em 9) (em 10) (em 11) (em 12) (em 13) n r d ∧ feL (em 3) (em 6) (em 9) (em 10) (em 11) (em 12) (em 13) n r d < N ∧ kS (em 3) (em 6) (feL (em 3) (em 6) (em 9) (em 10) (em 11) (em 12) (em 13) n r d) = 0 := by
  have hA : ∀ s : Nat, (s : Int) < n → (em 9 s).toInt = 5 → 0 ≤ (em 10 s).toInt ∧ (em 10 s).toInt < N ∧ kS (em 3) (em 6) (em 10 s).toInt = 0 := fun s h1 h5 => by
    have q := hs.2.1 s h1
    have e0 := kS_e (k := 0) (K6_of hM) (Kd_tot hM (em 10 s).toInt) (by omega)
    have := e0.mp (q.2.2.2 h5).1
    exact ⟨mI_le hM s, q.1, by omega⟩
  have hB := hB_of hM hs
  unfold feL at h ⊢
  by_cases q : lsF (bP (em 9) (em 10) (em 12) (em 13) r d) n.toNat = -9
  · rw [if_pos q] at h ⊢
    by_cases w : fsF (qP (em 9) (em 11) (em 12) (em 13) r (opp d)) n.toNat = -9
    · rw [if_pos w] at h; exact absurd rfl h
    · rw [if_neg w] at h ⊢
      have z := fsF_q w
      exact hA _ z.1 z.2.2.1
  · rw [if_neg q] at h ⊢
    have z := lsF_r q
    by_cases w : kS (em 3) (em 6) (em 11 (lsF (bP (em 9) (em 10) (em 12) (em 13) r d) n.toNat).toNat).toInt = 2
    · rw [if_pos w] at h ⊢
      unfold oS at h ⊢
      by_cases u : fsF (oP (em 9) (em 10) (em 11) (em 13) (em 11 (lsF (bP (em 9) (em 10) (em 12) (em 13) r d) n.toNat).toNat).toInt r) n.toNat = -9
      · rw [if_pos u] at h; exact absurd rfl h
      · rw [if_neg u] at h ⊢
        have y := fsF_q u
        exact hA _ y.1 y.2.2.1
    · rw [if_neg w] at h ⊢
      have y := hB _ z.1 z.2.2.1
      exact ⟨(mI_mi hM _).1, y.1, y.2.resolve_right w⟩
/-- one exit of a room, both sides -/
theorem Wg_e {jm : Nat → Int32} {em : Nat → Nat → Int32} {ld dr bw im : Nat → Int32} {kn N n o r : Int} {sv sv2 : Int → Int} {d : Nat} (hM : mInv jm em) (hs : SJ (em 3) (em 6) (em 9) (em 10) (em 11) (em 13) kn N n) (hF : FeM (em 3) (em 6) (em 9) (em 10) (em 11) (em 12) (em 13) n r (d : Int) (ld (r * 10 + (d : Int)).toNat).toInt (dr (r * 10 + (d : Int)).toNat).toInt (bw (r * 10 + (d : Int)).toNat).toInt (im (r * 10 + (d : Int)).toNat).toInt) (hv : ∀ x, 0 ≤ x → x < N → sv x = sv2 x) : gX ld dr o sv r d = wM (em 3) (em 6) (em 9) (em 10) (em 11) (em 12) (em 13) n o sv2 r d ∧ (gX ld dr o sv r d = -9 ∨ (0 ≤ gX ld dr o sv r d ∧ gX ld dr o sv r d < N ∧ kS (em 3) (em 6) (gX ld dr o sv r d) = 0)) := by
  obtain ⟨e1, e2, _⟩ := fe_e hF
  have hB := hB_of hM hs
  have dN : feD (em 3) (em 6) (em 9) (em 10) (em 11) (em 12) (em 13) n r (d : Int) = -9 ∨ (0 ≤ feD (em 3) (em 6) (em 9) (em 10) (em 11) (em 12) (em 13) n r (d : Int) ∧ feD (em 3) (em 6) (em 9) (em 10) (em 11) (em 12) (em 13) n r (d : Int) < N) := by
    unfold feD
    by_cases q : lsF (bP (em 9) (em 10) (em 12) (em 13) r (d : Int)) n.toNat = -9
    · rw [if_pos q]; exact Or.inl rfl
    · rw [if_neg q]
      have z := lsF_r q
      by_cases w : kS (em 3) (em 6) (em 11 (lsF (bP (em 9) (em 10) (em 12) (em 13) r (d : Int)) n.toNat).toNat).toInt = 2
      · rw [if_pos w]; exact Or.inr ⟨(mI_mi hM _).1, (hB _ z.1 z.2.2.1).1⟩
      · rw [if_neg w]; exact Or.inl rfl
  have E : gX ld dr o sv r d = wM (em 3) (em 6) (em 9) (em 10) (em 11) (em 12) (em 13) n o sv2 r d := by
    unfold gX
    rw [e1, e2]
    by_cases q : ¬ feL (em 3) (em 6) (em 9) (em 10) (em 11) (em 12) (em 13) n r (d : Int) = -9 ∧ (o = 0 ∨ feD (em 3) (em 6) (em 9) (em 10) (em 11) (em 12) (em 13) n r (d : Int) = -9 ∨ sv (feD (em 3) (em 6) (em 9) (em 10) (em 11) (em 12) (em 13) n r (d : Int)) = 1)
    · rw [if_pos q]
      refine wM_y ⟨q.1, ?_⟩
      rcases q.2 with w | w | w
      · exact Or.inl w
      · exact Or.inr (Or.inl w)
      · rcases dN with u | u
        · exact Or.inr (Or.inl u)
        · exact Or.inr (Or.inr (by rw [← hv _ u.1 u.2]; exact w))
    · rw [if_neg q]
      refine (wM_n (fun z => q ⟨z.1, ?_⟩)).symm
      rcases z.2 with w | w | w
      · exact Or.inl w
      · exact Or.inr (Or.inl w)
      · rcases dN with u | u
        · exact Or.inr (Or.inl u)
        · exact Or.inr (Or.inr (by rw [hv _ u.1 u.2]; exact w))
  refine ⟨E, ?_⟩
  rw [E]
  rcases wM_c (pa := em 3) (ko := em 6) (F := em 9) (A := em 10) (B := em 11) (C := em 12) (S := em 13) (n := n) (o := o) (sv := sv2) (r := r) (d := d) with q | q
  · exact Or.inl q
  · by_cases z : feL (em 3) (em 6) (em 9) (em 10) (em 11) (em 12) (em 13) n r (d : Int) = -9
    · exact Or.inl (by rw [q, z])
    · rw [q]; exact Or.inr (feL_r hM hs z)
theorem Wy_e {N N2 a a2 b b2 sa sb sa2 sb2 : Int} {v v2 : Int32} {P P2 : Int → Prop} (eN : N = N2) (ea : a2 = a) (eb : b2 = b) (es : 0 ≤ a ∧ a < N → sa = sa2) (et : 0 ≤ b ∧ b < N → sb = sb2) (h1 : WyR N a b sa sb v.toInt P) (h2 : WyR N2 a2 b2 sa2 sb2 v2.toInt P2) (hu : 0 ≤ a ∧ a < N → 0 ≤ b ∧ b < N → sa = 0 → sb = 0 → ∀ x y, P x → P2 y → x = y) : v = v2 := by
  subst eN ea eb
  apply Int32.toInt_inj.mp
  rcases h1 with ⟨p, e⟩ | ⟨p, q, e⟩ | ⟨p, q, e⟩
  · rcases h2 with ⟨p2, e2⟩ | ⟨p2, q2, e2⟩ | ⟨p2, q2, e2⟩
    · omega
    · exact absurd p2 p
    · exact absurd p2 p
  · have z1 := es ⟨p.1, p.2.1⟩
    have z2 := et ⟨p.2.2.1, p.2.2.2⟩
    rcases h2 with ⟨p2, e2⟩ | ⟨p2, q2, e2⟩ | ⟨p2, q2, e2⟩
    · exact absurd p p2
    · omega
    · exact absurd ⟨by omega, by omega⟩ q
  · have z1 := es ⟨p.1, p.2.1⟩
    have z2 := et ⟨p.2.2.1, p.2.2.2⟩
    rcases h2 with ⟨p2, e2⟩ | ⟨p2, q2, e2⟩ | ⟨p2, q2, e2⟩
    · exact absurd p p2
    · exact absurd ⟨by omega, by omega⟩ q2
    · exact hu ⟨p.1, p.2.1⟩ ⟨p.2.2.1, p.2.2.2⟩ q.1 q.2 _ _ e e2
theorem DoN_of {Z : Int → Int} {F A B C S ld dr bw im f1 f2 : Nat → Int32} {n N : Int} (h : RDS Z F A B C S n.toNat ld dr bw im f1 f2) (hB : SB F B n N) : DoN dr N := by
  obtain ⟨b1, l1, l2, ⟨h1, h2⟩, h3, h4⟩ := h
  intro k hk
  obtain ⟨a1, a2, ⟨q, a3, a4⟩⟩ := h1 k hk
  rcases a3 with ⟨w, _⟩ | ⟨s, w1, w2, w3, _⟩
  · rw [w, vI_n] at a4; exact Or.inl a4
  · rw [w1, vI_y] at a4
    have := hB s (by omega) w3.1.2.1
    omega
theorem Td_b {g1 g2 g3 : Int → Nat → Int} {a a2 b b2 x y : Int} {R : Int → Prop} {m : Nat} (hm : m = 300) (ea : a2 = a) (eb : b2 = b) (eg : g3 = g2) (ha : R a) (hR : ∀ r, R r → 0 ≤ r ∧ r ≤ 29) (h : ∀ r, R r → ∀ d, d < 10 → g1 r d = g2 r d ∧ (g1 r d = -9 ∨ R (g1 r d))) (p1 : x = bfF g1 a m b) (p2 : TdM g3 a2 b2 m y) : x = y := by
  subst ea eb eg
  rw [p1]
  exact Td_e hm ha hR h p2
def LI (i : Nat → Int32) (c : Nat → Nat → Int32) (jm : Nat → Int32) (em : Nat → Nat → Int32) : Prop := xInv i c ∧ xFl (c 113) (c 115) ∧ PJ (i 146) (i 147) (i 156) (i 148) (c 150) (c 144) (c 145) ∧ (i 141).toInt = 0 ∧ mInv jm em ∧ SJ (em 3) (em 6) (em 9) (em 10) (em 11) (em 13) (jm 2).toInt (jm 5).toInt (jm 8).toInt ∧ TJ (em 3) (em 6) (em 23) (em 24) (em 29) (em 30) (jm 5).toInt (jm 22).toInt (jm 27).toInt ∧ LRel (i 110) (i 111) (i 165) (c 107) (jm 2) (jm 5) (jm 64) (em 4) ∧ (c 105) = (em 3) ∧ (c 108) = (em 6) ∧ SoR (c 105) (c 106) (i 110) ∧ SN (c 113) (c 114) (c 115) (c 116) (c 117) (i 124) (c 118) (c 119) (c 120) (c 121) (c 127) (em 9) (em 10) (em 11) (em 12) (em 13) (jm 8) ∧ DR (zX (c 106) (c 108) (i 111).toInt) (c 113) (c 114) (c 115) (c 117) (i 124).toInt (i 111).toInt ∧ RDS (zX (c 106) (c 108) (i 111).toInt) (c 113) (c 114) (c 115) (c 116) (c 117) (i 124).toInt.toNat (c 129) (c 130) (c 131) (c 132) (c 133) (c 134)
def LK (p : Program) (l : Launch) (e : Env) (s : State) (m : MethodId) (below : List Frame) (meth : Method) (cd : Code) (b : Nat) (D : va_G) (sk : Value) (a : Nat → Nat) (t : Nat → ClassId) (Z : va_W) (o : Nat) (am : Nat → Nat) (tm : Nat → ClassId) (x3 : Int32) (cells slots : Nat) : Prop := ∀ (i : Nat → Int32) (q : Int64) (c : Nat → Nat → Int32) (d : Nat → Nat → Int64) (jm : Nat → Int32) (qm : Int64) (em : Nat → Nat → Int32) (dm : Nat → Nat → Int64) (H : Heap) (locs : List Loc) (ls : Array Slot), LI i c jm em → va_P D vwCl (xwT sk a t i q c d ++ (Z ++ mW o am tm jm qm em dm)) H → va_D (fun q : Nat => s.heap.size ≤ q) (xwT sk a t i q c d ++ (Z ++ mW o am tm jm qm em dm)) → va_S (fun q : Nat => s.heap.size ≤ q) s.heap H locs → lv_has ls 4 [(3, .int x3), (2, .ref o), (1, .ref (a 100)), (0, .ref b)] → W p l e room_1 s m #[Value.ref b] below meth cd H locs cells slots (lw_Z below #[Value.ref b] s) (F0 m 1461 ls [])
/-- where a seeker is: its cells may have changed -/
def LKS (p : Program) (l : Launch) (e : Env) (s : State) (m : MethodId) (below : List Frame) (meth : Method) (cd : Code) (b : Nat) (D : va_G) (az : Nat → Nat) (tz : Nat → ClassId) (a : Nat → Nat) (t : Nat → ClassId) (o : Nat) (am : Nat → Nat) (tm : Nat → ClassId) (x3 : Int32) (cells slots : Nat) : Prop := ∀ (i : Nat → Int32) (q : Int64) (c : Nat → Nat → Int32) (d : Nat → Nat → Int64) (iz : Nat → Int32) (cz : Nat → Nat → Int32) (dz : Nat → Nat → Int64) (jm : Nat → Int32) (qm : Int64) (em : Nat → Nat → Int32) (dm : Nat → Nat → Int64) (H : Heap) (locs : List Loc) (ls : Array Slot), LI i c jm em → xInv iz cz → va_P D vwCl (xwT (.ref (az 166)) a t i q c d ++ (xwZ .null (fun k => if k < 166 then a k else az k) tz iz 0 cz dz ++ mW o am tm jm qm em dm)) H → va_D (fun q : Nat => s.heap.size ≤ q) (xwT (.ref (az 166)) a t i q c d ++ (xwZ .null (fun k => if k < 166 then a k else az k) tz iz 0 cz dz ++ mW o am tm jm qm em dm)) → va_S (fun q : Nat => s.heap.size ≤ q) s.heap H locs → lv_has ls 4 [(3, .int x3), (2, .ref o), (1, .ref (a 100)), (0, .ref b)] → W p l e room_1 s m #[Value.ref b] below meth cd H locs cells slots (lw_Z below #[Value.ref b] s) (F0 m 1461 ls [])
theorem xInv_m {i iz : Nat → Int32} {c cz : Nat → Nat → Int32} (hI : xInv i c) (hz : xInv iz cz) : xInv (fun k => if k < 166 then i k else iz k) (fun k => if k < 166 then c k else cz k) := by
  refine ⟨fun k => ?_, fun k j => ?_⟩
  · by_cases h : k < 166
    · show xR k (if k < 166 then i k else iz k).toInt
      rw [if_pos h]; exact hI.1 k
    · show xR k (if k < 166 then i k else iz k).toInt
      rw [if_neg h]; exact hz.1 k
  · by_cases h : k < 166
    · show xE k j ((if k < 166 then c k else cz k) j).toInt
      rw [if_pos h]; exact hI.2 k j
    · show xE k j ((if k < 166 then c k else cz k) j).toInt
      rw [if_neg h]; exact hz.2 k j


