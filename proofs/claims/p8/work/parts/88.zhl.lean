theorem trB_c {Z : Int → Int} {ls ls2 : Int → Int → Nat → Bool} {N : Nat} (h : ∀ (g o : Int) (x : Nat), (g = 0 ∨ g = 1) → 0 ≤ o → x < N → (ls g o x = true ↔ ls2 g o x = true)) : ∀ (k x : Nat) (s : Int32 × (Nat → Int32)), trB Z ls N k x s = trB Z ls2 N k x s := by
  intro k
  induction k with
  | zero => intro x s; rfl
  | succ k ih =>
    intro x s
    have e : ∀ g : Int, (g = 0 ∨ g = 1) → ∀ s, gS (fun y a => if ls g (x : Int) y = true then trB Z ls N k y a else a) N s = gS (fun y a => if ls2 g (x : Int) y = true then trB Z ls2 N k y a else a) N s := fun g hg => gS_c N (fun y hy a => by
      show (if ls g (x : Int) y = true then trB Z ls N k y a else a) = (if ls2 g (x : Int) y = true then trB Z ls2 N k y a else a)
      have w := h g (x : Int) y hg (by omega) hy
      by_cases q : ls g (x : Int) y = true
      · rw [if_pos q, if_pos (w.mp q)]; exact ih y a
      · rw [if_neg q, if_neg (fun z => q (w.mpr z))])
    show (if _ then _ else _) = (if _ then _ else _)
    by_cases q3 : Z (x : Int) = 3
    · rw [if_pos q3, if_pos q3]; exact e 0 (Or.inl rfl) _
    · rw [if_neg q3, if_neg q3]
      by_cases q4 : Z (x : Int) = 4
      · rw [if_pos q4, if_pos q4]; exact e 1 (Or.inr rfl) _
      · rw [if_neg q4, if_neg q4]
theorem TrW_e {N N2 a a2 n p : Int} {Z Z2 : Int → Int} {ce fo le mi sa F A : Nat → Int32} {d d2 e e2 : Int32} {t t2 u u2 : Nat → Int32} (hP : PlR N Z ce (gM fo le sa F n p) (gA fo le mi sa A n p)) (eN : N = N2) (eZ : Z = Z2) (ea : a2 = a) (h : (d, t) = (d2, t2)) (h1 : TrW (0 ≤ a ∧ a < N) (Z a = 0) (d, t) (0, t) (trB Z (lsP ce) N.toNat 31 a.toNat (0, t)) (e, u)) (h2 : TrW (0 ≤ a2 ∧ a2 < N2) (Z2 a2 = 0) (d2, t2) (0, t2) ((trB Z2 (lsG fo le mi sa F A n p) N2.toNat 31) a2.toNat (0, t2)) (e2, u2)) : (e, u) = (e2, u2) := by
  subst eN eZ ea
  obtain ⟨rfl, rfl⟩ := Prod.mk.inj h
  have c := trB_c (Z := Z) (ls := lsP ce) (ls2 := lsG fo le mi sa F A n p) (N := N.toNat) (fun g o x hg _ hx => by rw [PlR_l hP hg (by omega)]; unfold lsG; rw [decide_eq_true_iff]) 31 a2.toNat (0, t)
  rcases h1 with ⟨x, y⟩ | ⟨x, x2, y⟩ | ⟨x, x2, y⟩
  · rcases h2 with ⟨_, v⟩ | ⟨w, _⟩ | ⟨w, _⟩
    · rw [y, v]
    all_goals exact absurd w x
  · rcases h2 with ⟨w, _⟩ | ⟨_, _, v⟩ | ⟨_, w, _⟩
    · exact absurd x w
    · rw [y, v]
    · exact absurd x2 w
  · rcases h2 with ⟨w, _⟩ | ⟨_, w, _⟩ | ⟨_, _, v⟩
    · exact absurd x w
    · exact absurd w x2
    · rw [y, v, c]
theorem Tc_e {d d2 r r2 : Int32} {t t2 : Nat → Int32} {w w2 : Int} (h : (d, t) = (d2, t2)) (ew : w2 = w) (h1 : (0 ≤ w ∧ w < d.toInt ∧ r.toInt = (t w.toNat).toInt) ∨ (¬ (0 ≤ w ∧ w < d.toInt) ∧ r.toInt = -9)) (h2 : (0 ≤ w2 ∧ w2 < d2.toInt ∧ r2.toInt = (t2 w2.toNat).toInt) ∨ (¬ (0 ≤ w2 ∧ w2 < d2.toInt) ∧ r2.toInt = -9)) : r = r2 := by
  subst ew
  obtain ⟨rfl, rfl⟩ := Prod.mk.inj h
  apply Int32.toInt_inj.mp
  omega
def LI (i : Nat → Int32) (c : Nat → Nat → Int32) (jm : Nat → Int32) (em : Nat → Nat → Int32) : Prop := xInv i c ∧ xFl (c 113) (c 115) ∧ PJ (i 146) (i 147) (i 156) (i 148) (c 150) (c 144) (c 145) ∧ (i 141).toInt = 0 ∧ mInv jm em ∧ SJ (em 3) (em 6) (em 9) (em 10) (em 11) (em 13) (jm 2).toInt (jm 5).toInt (jm 8).toInt ∧ TJ (em 3) (em 6) (em 23) (em 24) (em 29) (em 30) (jm 5).toInt (jm 22).toInt (jm 27).toInt ∧ LRel (i 110) (i 111) (i 165) (c 107) (jm 2) (jm 5) (jm 64) (em 4) ∧ (c 105) = (em 3) ∧ (c 108) = (em 6) ∧ SoR (c 105) (c 106) (i 110) ∧ SN (c 113) (c 114) (c 115) (c 116) (c 117) (i 124) (c 118) (c 119) (c 120) (c 121) (c 127) (em 9) (em 10) (em 11) (em 12) (em 13) (jm 8) ∧ DR (zX (c 106) (c 108) (i 111).toInt) (c 113) (c 114) (c 115) (c 117) (i 124).toInt (i 111).toInt ∧ RDS (zX (c 106) (c 108) (i 111).toInt) (c 113) (c 114) (c 115) (c 116) (c 117) (i 124).toInt.toNat (c 129) (c 130) (c 131) (c 132) (c 133) (c 134) ∧ TL (i 111).toInt (zX (c 106) (c 108) (i 111).toInt) (fun o f : Int => Can ((zX (c 106) (c 108) (i 111).toInt) o) f ∧ sgX (c 120) (c 116) o f (sfV (c 105) (c 108) (c 107) (c 106 (c 108 o.toNat).toNatClampNeg).toInt f o) = 1) (LkR (zX (c 106) (c 108) (i 111).toInt) (hF (c 150)) (fX (c 150)) (bT (c 150) 0) (bT (c 150) 5) (bT (c 150) 2) (sD (c 133) (c 134)) (i 147).toInt (i 111).toInt (c 152) (c 153) (i 154)) (i 146) (i 147) (i 148) (c 150) (c 144) (c 145) (jm 22) (jm 27) (em 23) (em 24) (em 25) (em 26) (em 29) (em 30) (em 31) (em 32) ∧ FtS (zX (c 106) (c 108) (i 111).toInt) (c 113) (c 114) (c 115) (i 124).toInt ∧ (c 109) = (em 7) ∧ ((i 140), (c 139)) = ((jm 35), (em 34)) ∧ (jm 33).toInt = 0
def LK (p : Program) (l : Launch) (e : Env) (s : State) (m : MethodId) (below : List Frame) (meth : Method) (cd : Code) (b : Nat) (D : va_G) (sk : Value) (a : Nat → Nat) (t : Nat → ClassId) (Z : va_W) (o : Nat) (am : Nat → Nat) (tm : Nat → ClassId) (x3 : Int32) (cells slots : Nat) : Prop := ∀ (i : Nat → Int32) (q : Int64) (c : Nat → Nat → Int32) (d : Nat → Nat → Int64) (jm : Nat → Int32) (qm : Int64) (em : Nat → Nat → Int32) (dm : Nat → Nat → Int64) (H : Heap) (locs : List Loc) (ls : Array Slot), LI i c jm em → va_P D vwCl (xwT sk a t i q c d ++ (Z ++ mW o am tm jm qm em dm)) H → va_D (fun q : Nat => s.heap.size ≤ q) (xwT sk a t i q c d ++ (Z ++ mW o am tm jm qm em dm)) → va_S (fun q : Nat => s.heap.size ≤ q) s.heap H locs → lv_has ls 4 [(3, .int x3), (2, .ref o), (1, .ref (a 100)), (0, .ref b)] → W p l e room_1 s m #[Value.ref b] below meth cd H locs cells slots (lw_Z below #[Value.ref b] s) (F0 m 1461 ls [])
/-- where a seeker is: its cells may have changed -/
def LKS (p : Program) (l : Launch) (e : Env) (s : State) (m : MethodId) (below : List Frame) (meth : Method) (cd : Code) (b : Nat) (D : va_G) (az : Nat → Nat) (tz : Nat → ClassId) (a : Nat → Nat) (t : Nat → ClassId) (o : Nat) (am : Nat → Nat) (tm : Nat → ClassId) (x3 : Int32) (cells slots : Nat) : Prop := ∀ (i : Nat → Int32) (q : Int64) (c : Nat → Nat → Int32) (d : Nat → Nat → Int64) (iz : Nat → Int32) (cz : Nat → Nat → Int32) (dz : Nat → Nat → Int64) (jm : Nat → Int32) (qm : Int64) (em : Nat → Nat → Int32) (dm : Nat → Nat → Int64) (H : Heap) (locs : List Loc) (ls : Array Slot), LI i c jm em → xInv iz cz → va_P D vwCl (xwT (.ref (az 166)) a t i q c d ++ (xwZ .null (fun k => if k < 166 then a k else az k) tz iz 0 cz dz ++ mW o am tm jm qm em dm)) H → va_D (fun q : Nat => s.heap.size ≤ q) (xwT (.ref (az 166)) a t i q c d ++ (xwZ .null (fun k => if k < 166 then a k else az k) tz iz 0 cz dz ++ mW o am tm jm qm em dm)) → va_S (fun q : Nat => s.heap.size ≤ q) s.heap H locs → lv_has ls 4 [(3, .int x3), (2, .ref o), (1, .ref (a 100)), (0, .ref b)] → W p l e room_1 s m #[Value.ref b] below meth cd H locs cells slots (lw_Z below #[Value.ref b] s) (F0 m 1461 ls [])
theorem xInv_m {i iz : Nat → Int32} {c cz : Nat → Nat → Int32} (hI : xInv i c) (hz : xInv iz cz) : xInv (fun k => if k < 166 then i k else iz k) (fun k => if k < 166 then c k else cz k) := by
  refine ⟨fun k => ?_, fun k j => ?_⟩
  · by_cases h : k < 166
    · show xR k (if k < 166 then i k else iz k).toInt
      rw [if_pos h]; exact hI.1 k
    · show xR k (if k < 166 then i k else iz k).toInt
      rw [if_neg h]; exact hz.1 k
  · by_cases h : k < 166
    · show xE k j ((if k < 166 then c k else cz k) j).toInt
      rw [if_pos h]; exact hI.2 k j
    · show xE k j ((if k < 166 then c k else cz k) j).toInt
      rw [if_neg h]; exact hz.2 k j


