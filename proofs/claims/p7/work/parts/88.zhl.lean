theorem Sh_e {N N2 : Int} {Z Z2 : Int → Int} {ce sz sz2 fo le mi sa F A : Nat → Int32} {n p a b a2 b2 : Int} {r r2 : Int32} (hP : PlR N Z ce (gM fo le sa F n p) (gA fo le mi sa A n p)) (hN : N ≤ 30) (eN : N = N2) (eZ : Z = Z2) (eS : sz = sz2) (ea : a2 = a) (eb : b2 = b) (hs : ∀ x : Nat, x < N.toNat → 0 ≤ (sz x).toInt ∧ (sz x).toInt ≤ 99)
    (hx : ShR (0 ≤ a ∧ a < N ∧ 0 ≤ b ∧ b < N) (Z a = 0) ((wtB Z sz (lsP ce) N.toNat 31 a.toNat).toInt < 0 ∨ (sumI (fun x => if hF ce (x : Int) = b then wtB Z sz (lsP ce) N.toNat 31 x else 0) N.toNat).toInt ≤ 0) r.toInt)
    (hm : ShR (0 ≤ a2 ∧ a2 < N2 ∧ 0 ≤ b2 ∧ b2 < N2) (Z2 a2 = 0) ((Z2 a2 = 2 ∧ (sz2 a2.toNat).toInt = 0) ∨ (sumL (fun x => if ¬ gM fo le sa F n p (x : Int) = -9 ∧ gA fo le mi sa A n p (x : Int) = b2 then (wtB Z2 sz2 (lsG fo le mi sa F A n p) N2.toNat 31) x else 0) N2.toNat).toInt = 0) r2.toInt) : r = r2 := by
  subst eN eZ eS ea eb
  refine ShR_e hx hm Iff.rfl (fun _ => Iff.rfl) (fun hp _ => ?_)
  have w := Wt_s hP hN hs hp.1 hp.2.1
  have v := Wt_a hP hN hs hp.2.2.1
  rw [w, v.2]
  have v1 := v.1
  constructor
  · rintro (h | h)
    · exact Or.inl h
    · exact Or.inr (by omega)
  · rintro (h | h)
    · exact Or.inl h
    · exact Or.inr (by omega)
theorem Bu_e {N N2 : Int} {Z Z2 gm ga : Int → Int} {ce sz sz2 : Nat → Int32} {a a2 : Int} {r r2 : Int32} (hP : PlR N Z ce gm ga) (hN : N ≤ 30) (eN : N = N2) (eZ : Z = Z2) (eS : sz = sz2) (ea : a2 = a) (hs : ∀ x : Nat, x < N.toNat → 0 ≤ (sz x).toInt ∧ (sz x).toInt ≤ 99)
    (hx : ShR (0 ≤ a ∧ a < N) (Z a = 0) ((wtB Z sz (lsP ce) N.toNat 31 a.toNat).toInt < 0) r.toInt) (hm : ShR (0 ≤ a2 ∧ a2 < N2) (Z2 a2 = 0) (Z2 a2 = 2 ∧ (sz2 a2.toNat).toInt = 0) r2.toInt) : r = r2 := by
  subst eN eZ eS ea
  exact ShR_e hx hm Iff.rfl (fun _ => Iff.rfl) (fun hp _ => Wt_s hP hN hs hp.1 hp.2)
def LN (ls ll hl lo lm : Nat → Int32) : Prop := ∀ w : Nat, w < 30 → ((ls w).toInt = -9 ∧ (hl w).toInt = 0) ∨ (0 ≤ (ls w).toInt ∧ (hl w).toInt = 1 ∧ (lo w).toInt = (ls w).toInt ∧ (lm w).toInt = (ll w).toInt)
theorem LN_u {ls ll hl lo lm ls2 ll2 hl2 lo2 lm2 : Nat → Int32} {w s1 n1 v s2 n2 : Int32} {ob ob2 : Int} (h : LN ls ll hl lo lm) (h1 : LU ls ll ls2 ll2 w s1 n1 ob) (h2 : LV hl lo lm hl2 lo2 lm2 v s2 n2 ob2) (hob : ob = ob2) (hv : v.toInt = w.toInt) (hs : s2.toInt = s1.toInt) (hn : n2.toInt = n1.toInt) : LN ls2 ll2 hl2 lo2 lm2 := by
  unfold LU LB at h1
  unfold LV LB at h2
  rcases h1 with ⟨c1, e1, e2⟩ | ⟨c1, e1, e2⟩ <;> rcases h2 with ⟨c2, g1, g2, g3⟩ | ⟨c2, g1, g2, g3⟩
  · rw [e1, e2, g1, g2, g3]; exact h
  · exfalso; omega
  · exfalso; omega
  · intro j hj
    have ew : v.toNatClampNeg = w.toNatClampNeg := cl_e hv
    rw [e1, e2, g1, g2, g3, ew]
    by_cases q : j = w.toNatClampNeg
    · subst q
      rw [pk_us, pk_us, pk_us, pk_us, pk_us]
      exact Or.inr ⟨by omega, by decide, by omega, by omega⟩
    · rw [pk_un q, pk_un q, pk_un q, pk_un q, pk_un q]; exact h j hj
theorem LN_at {ls ll hl lo lm : Nat → Int32} {w v : Int32} (h : LN ls ll hl lo lm) (h0 : 0 ≤ w.toInt) (h1 : w.toInt < 30) (hv : v.toInt = w.toInt) : ((ls w.toNatClampNeg).toInt = -9 ∧ (hl v.toNatClampNeg).toInt = 0) ∨ (0 ≤ (ls w.toNatClampNeg).toInt ∧ (hl v.toNatClampNeg).toInt = 1 ∧ (lo v.toNatClampNeg).toInt = (ls w.toNatClampNeg).toInt ∧ (lm v.toNatClampNeg).toInt = (ll w.toNatClampNeg).toInt) := by
  rw [cl_e hv]
  exact h _ (by show w.toInt.toNat < 30; omega)
/-! what is told last, alike -/
theorem QbR_e {r r2 : Int32} {Q q v Q2 q2 v2 : Int64} (e : r = r2) (eq : q = q2) (h : QbR r.toInt Q q v) (h2 : QbR r2.toInt Q2 q2 v2) (ev : r2.toInt = 1 → v = v2) : Q = Q2 := by
  subst e eq
  rcases h with h | h
  · rcases h2 with h2 | h2
    · rw [h.2, h2.2]; exact ev h2.1
    · exact absurd h.1 h2.1
  · rcases h2 with h2 | h2
    · exact absurd h2.1 h.1
    · rw [h.2, h2.2]
theorem PuR_e {r r2 : Int32} {D d D2 d2 : Nat → Int64} {k k2 : Nat} {v v2 : Int64} (e : r = r2) (ed : d = d2) (h : PuR r.toInt D d k v) (h2 : PuR r2.toInt D2 d2 k2 v2) (ek : k = k2) (ev : v = v2) : D = D2 := by
  subst e ed ek ev
  rcases h with h | h
  · rcases h2 with h2 | h2
    · rw [h.2, h2.2]
    · exact absurd h.1 h2.1
  · rcases h2 with h2 | h2
    · exact absurd h2.1 h.1
    · rw [h.2, h2.2]
theorem CpR_e {r r2 : Int32} {D d D2 d2 : Nat → Int64} {s1 p1 n1 s2 p2 n2 : Nat} (e : r = r2) (ed : d = d2) (h : CpR r.toInt D d s1 p1 n1) (h2 : CpR r2.toInt D2 d2 s2 p2 n2) (es : s1 = s2) (ep : p1 = p2) (en : n1 = n2) : D = D2 := by
  subst e ed es ep en
  rcases h with h | h
  · rcases h2 with h2 | h2
    · rw [h.2, h2.2]
    · exact absurd h.1 h2.1
  · rcases h2 with h2 | h2
    · exact absurd h2.1 h.1
    · rw [h.2, h2.2]
theorem LzR_e {B B2 : Prop} {f g f2 g2 : Nat → Int64} {w w2 : Int} (ef : f = f2) (h : LzR B f g w) (h2 : LzR B2 f2 g2 w2) (eB : B ↔ B2) (ew : w2 = w) : g = g2 := by
  subst ef ew
  rcases h with h | h
  · rcases h2 with h2 | h2
    · rw [h.2, h2.2]
    · exact absurd (eB.mp h.1) h2.1
  · rcases h2 with h2 | h2
    · exact absurd (eB.mpr h2.1) h.1
    · funext j; rw [h.2 j, h2.2 j]
/-- a bulk, told by both -/
theorem Bv_e {N N2 : Int} {Z Z2 : Int → Int} {ce sz sz2 fo le mi sa F A : Nat → Int32} {n p a a2 : Int} (hP : PlR N Z ce (gM fo le sa F n p) (gA fo le mi sa A n p)) (eN : N = N2) (eZ : Z = Z2) (eS : sz = sz2) (ea : a2 = a) (h0 : 0 ≤ a2) (hq : ¬ (Z2 a2 = 2 ∧ (sz2 a2.toNat).toInt = 0)) : wtB Z sz (lsP ce) N.toNat 31 a.toNat = mB (Z2 a2) (drV (sz2 a2.toNat)) (wtB Z2 sz2 (lsG fo le mi sa F A n p) N2.toNat 31 a2.toNat) := by
  subst eN eZ eS ea
  have e : ((a2.toNat : Nat) : Int) = a2 := by omega
  by_cases q : Z a2 = 2
  · have q0 : ¬ (sz a2.toNat).toInt = 0 := fun h => hq ⟨q, h⟩
    rw [show mB (Z a2) (drV (sz a2.toNat)) (wtB Z sz (lsG fo le mi sa F A n p) N.toNat 31 a2.toNat) = drV (sz a2.toNat) from if_pos q, wtB_d (k := 30) (by rw [e]; exact q) q0]
    unfold drV
    rw [if_neg q0]
  · rw [show mB (Z a2) (drV (sz a2.toNat)) (wtB Z sz (lsG fo le mi sa F A n p) N.toNat 31 a2.toNat) = wtB Z sz (lsG fo le mi sa F A n p) N.toNat 31 a2.toNat from if_neg q]
    exact Wt_c hP 31 a2.toNat
theorem Bq_e {N N2 : Int} {Z Z2 : Int → Int} {ce sz sz2 fo le mi sa F A : Nat → Int32} {n p a a2 : Int} {r r2 : Int32} {Q q Q2 q2 : Int64} (hP : PlR N Z ce (gM fo le sa F n p) (gA fo le mi sa A n p)) (hN : N ≤ 30) (eN : N = N2) (eZ : Z = Z2) (eS : sz = sz2) (ea : a2 = a) (eq : q = q2) (hs : ∀ x : Nat, x < N.toNat → 0 ≤ (sz x).toInt ∧ (sz x).toInt ≤ 99)
    (hx : ShR (0 ≤ a ∧ a < N) (Z a = 0) ((wtB Z sz (lsP ce) N.toNat 31 a.toNat).toInt < 0) r.toInt) (hm : ShR (0 ≤ a2 ∧ a2 < N2) (Z2 a2 = 0) (Z2 a2 = 2 ∧ (sz2 a2.toNat).toInt = 0) r2.toInt)
    (h : QbR r.toInt Q q (wtB Z sz (lsP ce) N.toNat 31 a.toNat).toInt64) (h2 : QbR r2.toInt Q2 q2 (mB (Z2 a2) (drV (sz2 a2.toNat)) (wtB Z2 sz2 (lsG fo le mi sa F A n p) N2.toNat 31 a2.toNat)).toInt64) : Q = Q2 := by
  refine QbR_e (Bu_e hP hN eN eZ eS ea hs hx hm) eq h h2 (fun h1 => ?_)
  have g : 0 ≤ a2 ∧ ¬ (Z2 a2 = 2 ∧ (sz2 a2.toNat).toInt = 0) := by
    rcases hm with hm | hm | hm | hm
    · exfalso; omega
    · exfalso; omega
    · exfalso; omega
    · exact ⟨hm.1.1, hm.2.2.1⟩
  rw [Bv_e hP eN eZ eS ea g.1 g.2]
theorem Sq_e {N N2 : Int} {Z Z2 : Int → Int} {ce sz sz2 fo le mi sa F A : Nat → Int32} {n p a b a2 b2 : Int} {r r2 : Int32} {Q q Q2 q2 : Int64} (hP : PlR N Z ce (gM fo le sa F n p) (gA fo le mi sa A n p)) (hN : N ≤ 30) (eN : N = N2) (eZ : Z = Z2) (eS : sz = sz2) (ea : a2 = a) (eb : b2 = b) (eq : q = q2) (hs : ∀ x : Nat, x < N.toNat → 0 ≤ (sz x).toInt ∧ (sz x).toInt ≤ 99)
    (hx : ShR (0 ≤ a ∧ a < N ∧ 0 ≤ b ∧ b < N) (Z a = 0) ((wtB Z sz (lsP ce) N.toNat 31 a.toNat).toInt < 0 ∨ (sumI (fun x => if hF ce (x : Int) = b then wtB Z sz (lsP ce) N.toNat 31 x else 0) N.toNat).toInt ≤ 0) r.toInt)
    (hm : ShR (0 ≤ a2 ∧ a2 < N2 ∧ 0 ≤ b2 ∧ b2 < N2) (Z2 a2 = 0) ((Z2 a2 = 2 ∧ (sz2 a2.toNat).toInt = 0) ∨ (sumL (fun x => if ¬ gM fo le sa F n p (x : Int) = -9 ∧ gA fo le mi sa A n p (x : Int) = b2 then (wtB Z2 sz2 (lsG fo le mi sa F A n p) N2.toNat 31) x else 0) N2.toNat).toInt = 0) r2.toInt)
    (h : QbR r.toInt Q q (shQ (wtB Z sz (lsP ce) N.toNat 31 a.toNat) (sumI (fun x => if hF ce (x : Int) = b then wtB Z sz (lsP ce) N.toNat 31 x else 0) N.toNat)))
    (h2 : QbR r2.toInt Q2 q2 (shL (mB (Z2 a2) (drV (sz2 a2.toNat)) (wtB Z2 sz2 (lsG fo le mi sa F A n p) N2.toNat 31 a2.toNat)) (sumL (fun x => if ¬ gM fo le sa F n p (x : Int) = -9 ∧ gA fo le mi sa A n p (x : Int) = b2 then (wtB Z2 sz2 (lsG fo le mi sa F A n p) N2.toNat 31) x else 0) N2.toNat))) : Q = Q2 := by
  refine QbR_e (Sh_e hP hN eN eZ eS ea eb hs hx hm) eq h h2 (fun h1 => ?_)
  have g : 0 ≤ a2 ∧ 0 ≤ b2 ∧ ¬ (Z2 a2 = 2 ∧ (sz2 a2.toNat).toInt = 0) := by
    rcases hm with hm | hm | hm | hm
    · exfalso; omega
    · exfalso; omega
    · exfalso; omega
    · exact ⟨hm.1.1, hm.1.2.2.1, fun w => hm.2.2.1 (Or.inl w)⟩
  rw [Bv_e hP eN eZ eS ea g.1 g.2.2]
  subst eN eZ eS ea eb
  have v := (Wt_a hP hN hs g.2.1).2
  unfold shQ shL
  rw [show (sumL (fun x => if ¬ gM fo le sa F n p (x : Int) = -9 ∧ gA fo le mi sa A n p (x : Int) = b2 then (wtB Z sz (lsG fo le mi sa F A n p) N.toNat 31) x else 0) N.toNat) = (sumI (fun x => if hF ce (x : Int) = b2 then wtB Z sz (lsP ce) N.toNat 31 x else 0) N.toNat).toInt64 from Int64.toInt_inj.mp (v.trans (Int32.toInt_toInt64 _).symm)]
def LI (i : Nat → Int32) (c : Nat → Nat → Int32) (jm : Nat → Int32) (em : Nat → Nat → Int32) (q : Int64) (d : Nat → Nat → Int64) (qm : Int64) (dm : Nat → Nat → Int64) : Prop := xInv i c ∧ xFl (c 113) (c 115) ∧ PJ (i 146) (i 147) (i 156) (i 148) (c 150) (c 144) (c 145) ∧ (i 141).toInt = 0 ∧ mInv jm em ∧ SJ (em 3) (em 6) (em 9) (em 10) (em 11) (em 13) (jm 2).toInt (jm 5).toInt (jm 8).toInt ∧ TJ (em 3) (em 6) (em 23) (em 24) (em 29) (em 30) (jm 5).toInt (jm 22).toInt (jm 27).toInt ∧ LRel (i 110) (i 111) (i 165) (c 107) (jm 2) (jm 5) (jm 64) (em 4) ∧ (c 105) = (em 3) ∧ (c 108) = (em 6) ∧ SoR (c 105) (c 106) (i 110) ∧ SN (c 113) (c 114) (c 115) (c 116) (c 117) (i 124) (c 118) (c 119) (c 120) (c 121) (c 127) (em 9) (em 10) (em 11) (em 12) (em 13) (jm 8) ∧ DR (zX (c 106) (c 108) (i 111).toInt) (c 113) (c 114) (c 115) (c 117) (i 124).toInt (i 111).toInt ∧ RDS (zX (c 106) (c 108) (i 111).toInt) (c 113) (c 114) (c 115) (c 116) (c 117) (i 124).toInt.toNat (c 129) (c 130) (c 131) (c 132) (c 133) (c 134) ∧ TL (i 111).toInt (zX (c 106) (c 108) (i 111).toInt) (fun o f : Int => Can ((zX (c 106) (c 108) (i 111).toInt) o) f ∧ sgX (c 120) (c 116) o f (sfV (c 105) (c 108) (c 107) (c 106 (c 108 o.toNat).toNatClampNeg).toInt f o) = 1) (LkR (zX (c 106) (c 108) (i 111).toInt) (hF (c 150)) (fX (c 150)) (bT (c 150) 0) (bT (c 150) 5) (bT (c 150) 2) (sD (c 133) (c 134)) (i 147).toInt (i 111).toInt (c 152) (c 153) (i 154)) (i 146) (i 147) (i 148) (c 150) (c 144) (c 145) (jm 22) (jm 27) (em 23) (em 24) (em 25) (em 26) (em 29) (em 30) (em 31) (em 32) ∧ FtS (zX (c 106) (c 108) (i 111).toInt) (c 113) (c 114) (c 115) (i 124).toInt ∧ (c 109) = (em 7) ∧ LN (c 158) (c 159) (em 63) (em 60) (em 61) ∧ (q = qm ∧ (d 160) = (dm 62))
def LK (p : Program) (l : Launch) (e : Env) (s : State) (m : MethodId) (below : List Frame) (meth : Method) (cd : Code) (b : Nat) (D : va_G) (sk : Value) (a : Nat → Nat) (t : Nat → ClassId) (Z : va_W) (o : Nat) (am : Nat → Nat) (tm : Nat → ClassId) (x3 : Int32) (cells slots : Nat) : Prop := ∀ (i : Nat → Int32) (q : Int64) (c : Nat → Nat → Int32) (d : Nat → Nat → Int64) (jm : Nat → Int32) (qm : Int64) (em : Nat → Nat → Int32) (dm : Nat → Nat → Int64) (H : Heap) (locs : List Loc) (ls : Array Slot), LI i c jm em q d qm dm → va_P D vwCl (xwT sk a t i q c d ++ (Z ++ mW o am tm jm qm em dm)) H → va_D (fun q : Nat => s.heap.size ≤ q) (xwT sk a t i q c d ++ (Z ++ mW o am tm jm qm em dm)) → va_S (fun q : Nat => s.heap.size ≤ q) s.heap H locs → lv_has ls 4 [(3, .int x3), (2, .ref o), (1, .ref (a 100)), (0, .ref b)] → W p l e room_1 s m #[Value.ref b] below meth cd H locs cells slots (lw_Z below #[Value.ref b] s) (F0 m 1462 ls [])
/-- where a seeker is: its cells may have changed -/
def LKS (p : Program) (l : Launch) (e : Env) (s : State) (m : MethodId) (below : List Frame) (meth : Method) (cd : Code) (b : Nat) (D : va_G) (az : Nat → Nat) (tz : Nat → ClassId) (a : Nat → Nat) (t : Nat → ClassId) (o : Nat) (am : Nat → Nat) (tm : Nat → ClassId) (x3 : Int32) (cells slots : Nat) : Prop := ∀ (i : Nat → Int32) (q : Int64) (c : Nat → Nat → Int32) (d : Nat → Nat → Int64) (iz : Nat → Int32) (cz : Nat → Nat → Int32) (dz : Nat → Nat → Int64) (jm : Nat → Int32) (qm : Int64) (em : Nat → Nat → Int32) (dm : Nat → Nat → Int64) (H : Heap) (locs : List Loc) (ls : Array Slot), LI i c jm em q d qm dm → xInv iz cz → va_P D vwCl (xwT (.ref (az 166)) a t i q c d ++ (xwZ .null (fun k => if k < 166 then a k else az k) tz iz 0 cz dz ++ mW o am tm jm qm em dm)) H → va_D (fun q : Nat => s.heap.size ≤ q) (xwT (.ref (az 166)) a t i q c d ++ (xwZ .null (fun k => if k < 166 then a k else az k) tz iz 0 cz dz ++ mW o am tm jm qm em dm)) → va_S (fun q : Nat => s.heap.size ≤ q) s.heap H locs → lv_has ls 4 [(3, .int x3), (2, .ref o), (1, .ref (a 100)), (0, .ref b)] → W p l e room_1 s m #[Value.ref b] below meth cd H locs cells slots (lw_Z below #[Value.ref b] s) (F0 m 1462 ls [])
theorem xInv_m {i iz : Nat → Int32} {c cz : Nat → Nat → Int32} (hI : xInv i c) (hz : xInv iz cz) : xInv (fun k => if k < 166 then i k else iz k) (fun k => if k < 166 then c k else cz k) := by
  refine ⟨fun k => ?_, fun k j => ?_⟩
  · by_cases h : k < 166
    · show xR k (if k < 166 then i k else iz k).toInt
      rw [if_pos h]; exact hI.1 k
    · show xR k (if k < 166 then i k else iz k).toInt
      rw [if_neg h]; exact hz.1 k
  · by_cases h : k < 166
    · show xE k j ((if k < 166 then c k else cz k) j).toInt
      rw [if_pos h]; exact hI.2 k j
    · show xE k j ((if k < 166 then c k else cz k) j).toInt
      rw [if_neg h]; exact hz.2 k j


