/-! turns -/
def DdR (tu : Int) (dd tr : Nat → Int32) : Prop := ∀ j : Nat, (j : Int) < tu → (dd j).toInt = (tr (3 * j)).toInt * 1024 + (tr (3 * j + 1)).toInt * 32 + (tr (3 * j + 2)).toInt ∧ 0 ≤ (tr (3 * j)).toInt ∧ 0 ≤ (tr (3 * j + 1)).toInt ∧ (tr (3 * j + 1)).toInt ≤ 31 ∧ 0 ≤ (tr (3 * j + 2)).toInt ∧ (tr (3 * j + 2)).toInt ≤ 31
theorem DdR_0 {tu : Int} {dd tr : Nat → Int32} (h : tu = 0) : DdR tu dd tr := fun j hj => by omega
theorem DdR_l {tu tu2 : Int} {dd tr : Nat → Int32} (h : DdR tu dd tr) (e : tu2 ≤ tu) : DdR tu2 dd tr := fun j hj => h j (by omega)
theorem DdR_a {dd dd2 tr tr2 : Nat → Int32} {tu tu3 tv : Int32} {v x y v2 x2 y2 N : Int} (h : DdR tu.toInt dd tr) (ht : 0 ≤ tu.toInt) (et : tu.toInt = tv.toInt) (ev : v2 = v) (ex : x2 = x) (ey : y2 = y) (hA : IsA v x y N) (hN : N ≤ 30) (h1 : DdX v x y tu dd dd2) (h2 : TrX v2 x2 y2 tv.toInt tr tr2) (e3 : tu3.toInt = tu.toInt + 1) : DdR tu3.toInt dd2 tr2 := by
  subst ev ex ey
  obtain ⟨e, a1, a2⟩ := h1
  obtain ⟨a, b, e9, b1, b2, b3, b4⟩ := h2
  unfold IsA at hA
  obtain ⟨i1, i2, i3, i4, i5⟩ := hA
  have hx : 0 ≤ iV (v2 ≤ 10) x2 0 ∧ iV (v2 ≤ 10) x2 0 ≤ 31 := by
    by_cases q : v2 ≤ 10
    · rw [iV_y q]
      by_cases q0 : v2 = 0
      · have := i3 q0; omega
      · have := i4 (by omega); omega
    · rw [iV_n q]; omega
  have hy : 0 ≤ iV (hyQ v2) y2 0 ∧ iV (hyQ v2) y2 0 ≤ 31 := by
    by_cases q : hyQ v2
    · rw [iV_y q]; have := i5 q; omega
    · rw [iV_n q]; omega
  have et2 : tu.toNatClampNeg = tu.toInt.toNat := rfl
  intro j hj
  rw [a2, b4]
  by_cases q : (j : Int) = tu.toInt
  · rw [show j = tu.toNatClampNeg by omega, pk_us, a1]
    rw [pk_un (show ¬ 3 * tu.toNatClampNeg = (3 * tv.toInt + 2).toNat by omega), pk_un (show ¬ 3 * tu.toNatClampNeg = (3 * tv.toInt + 1).toNat by omega), show 3 * tu.toNatClampNeg = (3 * tv.toInt).toNat by omega, pk_us]
    rw [show (3 * tv.toInt).toNat + 1 = (3 * tv.toInt + 1).toNat by omega, pk_un (show ¬ (3 * tv.toInt + 1).toNat = (3 * tv.toInt + 2).toNat by omega), pk_us]
    rw [show (3 * tv.toInt).toNat + 2 = (3 * tv.toInt + 2).toNat by omega, pk_us]
    rw [b1, b2, b3]
    unfold ddV
    omega
  · rw [pk_un (show ¬ j = tu.toNatClampNeg by omega)]
    rw [pk_un (show ¬ 3 * j = (3 * tv.toInt + 2).toNat by omega), pk_un (show ¬ 3 * j = (3 * tv.toInt + 1).toNat by omega), pk_un (show ¬ 3 * j = (3 * tv.toInt).toNat by omega)]
    rw [pk_un (show ¬ 3 * j + 1 = (3 * tv.toInt + 2).toNat by omega), pk_un (show ¬ 3 * j + 1 = (3 * tv.toInt + 1).toNat by omega), pk_un (show ¬ 3 * j + 1 = (3 * tv.toInt).toNat by omega)]
    rw [pk_un (show ¬ 3 * j + 2 = (3 * tv.toInt + 2).toNat by omega), pk_un (show ¬ 3 * j + 2 = (3 * tv.toInt + 1).toNat by omega), pk_un (show ¬ 3 * j + 2 = (3 * tv.toInt).toNat by omega)]
    exact h j (by omega)
theorem Tu_e {th tu p tu2 r r2 : Int32} {dd tr : Nat → Int32} {w s w2 s2 : Int} (hi : ((th.toInt = 1 ∧ ¬ p.toInt = -9) ∨ (¬ th.toInt = 1 ∧ p.toInt = -9)) ∧ tu.toInt = tu2.toInt) (hD : DdR tu.toInt dd tr) (ew : w2 = w) (es : s2 = s)
    (hx : (¬ (0 ≤ s ∧ s ≤ 2 ∧ 0 ≤ w) ∧ r.toInt = -1) ∨ ((0 ≤ s ∧ s ≤ 2 ∧ 0 ≤ w) ∧ ¬ th.toInt = 1 ∧ r.toInt = -5) ∨ ((0 ≤ s ∧ s ≤ 2 ∧ 0 ≤ w) ∧ th.toInt = 1 ∧ tu.toInt ≤ w ∧ r.toInt = -1) ∨ ((0 ≤ s ∧ s ≤ 2 ∧ 0 ≤ w) ∧ th.toInt = 1 ∧ w < tu.toInt ∧ r.toInt = dpV s (dd w.toNat).toInt))
    (hm : (¬ (0 ≤ s2 ∧ s2 ≤ 2 ∧ 0 ≤ w2) ∧ r2.toInt = -1) ∨ ((0 ≤ s2 ∧ s2 ≤ 2 ∧ 0 ≤ w2) ∧ p.toInt = -9 ∧ r2.toInt = -5) ∨ ((0 ≤ s2 ∧ s2 ≤ 2 ∧ 0 ≤ w2) ∧ ¬ p.toInt = -9 ∧ tu2.toInt ≤ w2 ∧ r2.toInt = -1) ∨ ((0 ≤ s2 ∧ s2 ≤ 2 ∧ 0 ≤ w2) ∧ ¬ p.toInt = -9 ∧ w2 < tu2.toInt ∧ r2.toInt = (tr (3 * w2 + s2).toNat).toInt)) : r = r2 := by
  apply Int32.toInt_inj.mp
  subst ew es
  rcases hx with ⟨a, b⟩ | ⟨a, a2, b⟩ | ⟨a, a2, a3, b⟩ | ⟨a, a2, a3, b⟩
  · rcases hm with h | h | h | h
    · omega
    all_goals (exfalso; omega)
  · rcases hm with h | h | h | h
    · exfalso; omega
    · omega
    all_goals (exfalso; omega)
  · rcases hm with h | h | h | h
    · exfalso; omega
    · exfalso; omega
    · omega
    · exfalso; omega
  · rcases hm with h | h | h | ⟨h1, h2, h3, h4⟩
    · exfalso; omega
    · exfalso; omega
    · exfalso; omega
    · have d := hD w2.toNat (by omega)
      rw [b, h4]
      unfold dpV
      by_cases q0 : s2 = 0
      · rw [if_pos q0, show (3 * w2 + s2).toNat = 3 * w2.toNat by omega]; omega
      · rw [if_neg q0]
        by_cases q1 : s2 = 1
        · rw [if_pos q1, show (3 * w2 + s2).toNat = 3 * w2.toNat + 1 by omega]; omega
        · rw [if_neg q1, show (3 * w2 + s2).toNat = 3 * w2.toNat + 2 by omega]; omega
theorem DdR_p {tu : Int} {dd tr : Nat → Int32} (h : DdR tu dd tr) : ∀ j : Nat, (j : Int) < tu → 0 ≤ (dd j).toInt := fun j hj => by
  have := h j hj
  omega
theorem DdR_r {Q Q2 : Prop} {dd dd2 tr tr2 : Nat → Int32} {tu tu3 tv : Int32} {v x y v2 x2 y2 N : Int} (h : DdR tu.toInt dd tr) (ht : 0 ≤ tu.toInt) (et : tu.toInt = tv.toInt) (ev : v2 = v) (ex : x2 = x) (ey : y2 = y) (hA : Q → IsA v x y N) (hN : N ≤ 30) (eQ : Q ↔ Q2) (h1 : AsR Q (DdX v x y tu dd dd2) (dd2 = dd)) (h2 : AsR Q2 (TrX v2 x2 y2 tv.toInt tr tr2) (tr2 = tr)) (h3 : (Q → tu3.toInt = tu.toInt + 1) ∧ (¬ Q → tu3 = tu)) : DdR tu3.toInt dd2 tr2 := by
  rcases h1 with ⟨q, a⟩ | ⟨q, a⟩
  · rcases h2 with ⟨_, b⟩ | ⟨q2, _⟩
    · rw [a, b, h3.2 q]; exact h
    · exact absurd (eQ.mpr q2) q
  · rcases h2 with ⟨q2, _⟩ | ⟨_, b⟩
    · exact absurd (eQ.mp q) q2
    · exact DdR_a h ht et ev ex ey (hA q) hN a b (h3.1 q)
theorem Dd_q {th tu p tu2 r r2 : Int32} {v x y v2 x2 y2 N N2 pl : Int} (hi : ((th.toInt = 1 ∧ ¬ p.toInt = -9 ∧ pl = p.toInt) ∨ (¬ th.toInt = 1 ∧ p.toInt = -9)) ∧ tu.toInt = tu2.toInt) (ht : tu.toInt ≤ 100) (eN : N = N2) (ev : v2 = v) (ex : x2 = x) (ey : y2 = y) (er : r = r2) : (IsA v x y N ∧ tu.toInt ≤ 99 ∧ th.toInt = 1 ∧ r.toInt = 0) ↔ (IsA v2 x2 y2 N2 ∧ ¬ p.toInt = -9 ∧ ¬ tu2.toInt = 100 ∧ r2.toInt = 0) := by
  subst eN ev ex ey er
  constructor
  · rintro ⟨a, b, c, d⟩; exact ⟨a, by omega, by omega, d⟩
  · rintro ⟨a, b, c, d⟩; exact ⟨a, by omega, by omega, d⟩
theorem DdR_n {Q : Prop} {th tu th2 tu3 : Int32} {dd tr : Nat → Int32} (h : DdR tu.toInt dd tr) (e : EnW Q th tu th2 tu3) (ht : 0 ≤ tu.toInt) : DdR tu3.toInt dd tr := by
  rcases e with e | e
  · rw [e.2.2]; exact h
  · exact DdR_0 e.2.2
def LI (i : Nat → Int32) (c : Nat → Nat → Int32) (jm : Nat → Int32) (em : Nat → Nat → Int32) : Prop := xInv i c ∧ xFl (c 113) (c 115) ∧ PJ (i 146) (i 147) (i 156) (i 148) (c 150) (c 144) (c 145) ∧ (i 141).toInt = 0 ∧ mInv jm em ∧ SJ (em 3) (em 6) (em 9) (em 10) (em 11) (em 13) (jm 2).toInt (jm 5).toInt (jm 8).toInt ∧ TJ (em 3) (em 6) (em 23) (em 24) (em 29) (em 30) (jm 5).toInt (jm 22).toInt (jm 27).toInt ∧ LRel (i 110) (i 111) (i 165) (c 107) (jm 2) (jm 5) (jm 64) (em 4) ∧ (c 105) = (em 3) ∧ (c 108) = (em 6) ∧ SoR (c 105) (c 106) (i 110) ∧ SN (c 113) (c 114) (c 115) (c 116) (c 117) (i 124) (c 118) (c 119) (c 120) (c 121) (c 127) (em 9) (em 10) (em 11) (em 12) (em 13) (jm 8) ∧ DR (zX (c 106) (c 108) (i 111).toInt) (c 113) (c 114) (c 115) (c 117) (i 124).toInt (i 111).toInt ∧ RDS (zX (c 106) (c 108) (i 111).toInt) (c 113) (c 114) (c 115) (c 116) (c 117) (i 124).toInt.toNat (c 129) (c 130) (c 131) (c 132) (c 133) (c 134) ∧ TL (i 111).toInt (zX (c 106) (c 108) (i 111).toInt) (fun o f : Int => Can ((zX (c 106) (c 108) (i 111).toInt) o) f ∧ sgX (c 120) (c 116) o f (sfV (c 105) (c 108) (c 107) (c 106 (c 108 o.toNat).toNatClampNeg).toInt f o) = 1) (LkR (zX (c 106) (c 108) (i 111).toInt) (hF (c 150)) (fX (c 150)) (bT (c 150) 0) (bT (c 150) 5) (bT (c 150) 2) (sD (c 133) (c 134)) (i 147).toInt (i 111).toInt (c 152) (c 153) (i 154)) (i 146) (i 147) (i 148) (c 150) (c 144) (c 145) (jm 22) (jm 27) (em 23) (em 24) (em 25) (em 26) (em 29) (em 30) (em 31) (em 32) ∧ FtS (zX (c 106) (c 108) (i 111).toInt) (c 113) (c 114) (c 115) (i 124).toInt ∧ (c 109) = (em 7) ∧ DdR (i 148).toInt (c 143) (em 28)
def LK (p : Program) (l : Launch) (e : Env) (s : State) (m : MethodId) (below : List Frame) (meth : Method) (cd : Code) (b : Nat) (D : va_G) (sk : Value) (a : Nat → Nat) (t : Nat → ClassId) (Z : va_W) (o : Nat) (am : Nat → Nat) (tm : Nat → ClassId) (x3 : Int32) (cells slots : Nat) : Prop := ∀ (i : Nat → Int32) (q : Int64) (c : Nat → Nat → Int32) (d : Nat → Nat → Int64) (jm : Nat → Int32) (qm : Int64) (em : Nat → Nat → Int32) (dm : Nat → Nat → Int64) (H : Heap) (locs : List Loc) (ls : Array Slot), LI i c jm em → va_P D vwCl (xwT sk a t i q c d ++ (Z ++ mW o am tm jm qm em dm)) H → va_D (fun q : Nat => s.heap.size ≤ q) (xwT sk a t i q c d ++ (Z ++ mW o am tm jm qm em dm)) → va_S (fun q : Nat => s.heap.size ≤ q) s.heap H locs → lv_has ls 4 [(3, .int x3), (2, .ref o), (1, .ref (a 100)), (0, .ref b)] → W p l e room_1 s m #[Value.ref b] below meth cd H locs cells slots (lw_Z below #[Value.ref b] s) (F0 m 1461 ls [])
/-- where a seeker is: its cells may have changed -/
def LKS (p : Program) (l : Launch) (e : Env) (s : State) (m : MethodId) (below : List Frame) (meth : Method) (cd : Code) (b : Nat) (D : va_G) (az : Nat → Nat) (tz : Nat → ClassId) (a : Nat → Nat) (t : Nat → ClassId) (o : Nat) (am : Nat → Nat) (tm : Nat → ClassId) (x3 : Int32) (cells slots : Nat) : Prop := ∀ (i : Nat → Int32) (q : Int64) (c : Nat → Nat → Int32) (d : Nat → Nat → Int64) (iz : Nat → Int32) (cz : Nat → Nat → Int32) (dz : Nat → Nat → Int64) (jm : Nat → Int32) (qm : Int64) (em : Nat → Nat → Int32) (dm : Nat → Nat → Int64) (H : Heap) (locs : List Loc) (ls : Array Slot), LI i c jm em → xInv iz cz → va_P D vwCl (xwT (.ref (az 166)) a t i q c d ++ (xwZ .null (fun k => if k < 166 then a k else az k) tz iz 0 cz dz ++ mW o am tm jm qm em dm)) H → va_D (fun q : Nat => s.heap.size ≤ q) (xwT (.ref (az 166)) a t i q c d ++ (xwZ .null (fun k => if k < 166 then a k else az k) tz iz 0 cz dz ++ mW o am tm jm qm em dm)) → va_S (fun q : Nat => s.heap.size ≤ q) s.heap H locs → lv_has ls 4 [(3, .int x3), (2, .ref o), (1, .ref (a 100)), (0, .ref b)] → W p l e room_1 s m #[Value.ref b] below meth cd H locs cells slots (lw_Z below #[Value.ref b] s) (F0 m 1461 ls [])
theorem xInv_m {i iz : Nat → Int32} {c cz : Nat → Nat → Int32} (hI : xInv i c) (hz : xInv iz cz) : xInv (fun k => if k < 166 then i k else iz k) (fun k => if k < 166 then c k else cz k) := by
  refine ⟨fun k => ?_, fun k j => ?_⟩
  · by_cases h : k < 166
    · show xR k (if k < 166 then i k else iz k).toInt
      rw [if_pos h]; exact hI.1 k
    · show xR k (if k < 166 then i k else iz k).toInt
      rw [if_neg h]; exact hz.1 k
  · by_cases h : k < 166
    · show xE k j ((if k < 166 then c k else cz k) j).toInt
      rw [if_pos h]; exact hI.2 k j
    · show xE k j ((if k < 166 then c k else cz k) j).toInt
      rw [if_neg h]; exact hz.2 k j


