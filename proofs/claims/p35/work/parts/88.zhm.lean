theorem TL_th {N : Int} {Z : Int → Int} {Qf : Int → Int → Prop} {LK : Prop} {th pl tu : Int32} {ce sb fc : Nat → Int32} {p tu2 : Int32} {F A O L W1 W2 W3 W4 : Nat → Int32} (h : TL N Z Qf LK th pl tu ce sb fc p tu2 F A O L W1 W2 W3 W4) : th.toInt = 1 ↔ ¬ p.toInt = -9 := by
  rcases h.2.2 with q | q
  · exact ⟨fun w => absurd w q.1, fun w => absurd q.2.1 w⟩
  · exact ⟨fun _ => by have := q.2.2.1; omega, fun _ => q.1⟩
theorem TL_pn {N : Int} {Z : Int → Int} {Qf : Int → Int → Prop} {LK : Prop} {th pl tu : Int32} {ce sb fc : Nat → Int32} {p tu2 : Int32} {F A O L W1 W2 W3 W4 : Nat → Int32} (h : TL N Z Qf LK th pl tu ce sb fc p tu2 F A O L W1 W2 W3 W4) : th.toInt = 1 → pl.toInt < N := fun w => by
  have q := h.2.2.resolve_left (fun u => u.1 w)
  rw [q.2.1]; exact q.2.2.1.2
theorem SkP_e {P Q T S X Q2 T2 S2 X2 : Prop} {r r2 : Int} (h : SkX Q T r S X) (h2 : SkX Q2 T2 r2 S2 X2) (eq : Q ↔ Q2) (et : T ↔ T2) (e : Q → T → X → X2 → P) (s : S → S2 → P) : P := by
  rcases h with ⟨a, _, b⟩ | ⟨a, b, _, c⟩ | ⟨a, b, c⟩
  · rcases h2 with ⟨_, _, f⟩ | ⟨d, _⟩ | ⟨d, _⟩
    · exact s b f
    · exact absurd (eq.mpr d) a
    · exact absurd (eq.mpr d) a
  · rcases h2 with ⟨d, _⟩ | ⟨_, _, _, f⟩ | ⟨_, f, _⟩
    · exact absurd (eq.mp a) d
    · exact s c f
    · exact absurd (et.mpr f) b
  · rcases h2 with ⟨d, _⟩ | ⟨_, f, _⟩ | ⟨_, _, f⟩
    · exact absurd (eq.mp a) d
    · exact absurd (et.mp b) f
    · exact e a b c f
theorem SkX_n {Q T S Q2 T2 S2 X2 : Prop} {r r2 : Int} (h : SkX Q T r S False) (h2 : SkX Q2 T2 r2 S2 X2) (eq : Q ↔ Q2) (et : T ↔ T2) : S2 := by
  rcases h2 with ⟨_, _, f⟩ | ⟨_, _, _, f⟩ | ⟨d, f, _⟩
  · exact f
  · exact f
  · rcases h with ⟨a, _⟩ | ⟨_, b, _⟩ | ⟨_, _, c⟩
    · exact absurd (eq.mpr d) a
    · exact absurd (et.mpr f) b
    · exact c.elim
theorem SkX_3 {Q T S X : Prop} {r : Int} (h : SkX Q T r S X) (q : Q) (t : T) : X := by
  rcases h with ⟨a, _⟩ | ⟨_, b, _⟩ | ⟨_, _, c⟩
  · exact absurd q a
  · exact absurd t b
  · exact c
theorem TL_6 {N : Int} {Z : Int → Int} {Qf : Int → Int → Prop} {LK : Prop} {th pl tu : Int32} {ce sb fc : Nat → Int32} {p tu2 : Int32} {F A O L W1 W2 W3 W4 : Nat → Int32} (h : TL N Z Qf LK th pl tu ce sb fc p tu2 F A O L W1 W2 W3 W4) : (th.toInt = 1 ∧ pl.toInt = p.toInt) ∨ (¬ th.toInt = 1 ∧ p.toInt = -9) := by
  rcases h.2.2 with q | q
  · exact Or.inr ⟨q.1, q.2.1⟩
  · exact Or.inl ⟨q.1, congrArg Int32.toInt q.2.1⟩
theorem Co_e {w w2 a0 a1 a2 a3 a4 a5 b0 b1 b2 b3 b4 b5 th pl p P P2 : Int} {r r2 : Int32} (ew : w2 = w) (e0 : a0 = b0) (e1 : a1 = b1) (e2 : a2 = b2) (e3 : a3 = b3) (e4 : a4 = b4) (e5 : a5 = b5) (e6 : (th = 1 ∧ pl = p) ∨ (¬ th = 1 ∧ p = -9)) (e7 : P = P2)
    (h1 : (w = 0 ∧ r.toInt = a0) ∨ (w = 1 ∧ r.toInt = a1) ∨ (w = 2 ∧ r.toInt = a2) ∨ (w = 3 ∧ r.toInt = a3) ∨ (w = 4 ∧ r.toInt = a4) ∨ (w = 5 ∧ r.toInt = a5) ∨ (w = 6 ∧ ((th = 1 ∧ r.toInt = pl) ∨ (¬ th = 1 ∧ r.toInt = -9))) ∨ (w = 7 ∧ r.toInt = P) ∨ (¬ (0 ≤ w ∧ w ≤ 7) ∧ r.toInt = -1))
    (h2 : (w2 = 0 ∧ r2.toInt = b0) ∨ (w2 = 1 ∧ r2.toInt = b1) ∨ (w2 = 2 ∧ r2.toInt = b2) ∨ (w2 = 3 ∧ r2.toInt = b3) ∨ (w2 = 4 ∧ r2.toInt = b4) ∨ (w2 = 5 ∧ r2.toInt = b5) ∨ (w2 = 6 ∧ r2.toInt = p) ∨ (w2 = 7 ∧ r2.toInt = P2) ∨ (¬ (0 ≤ w2 ∧ w2 ≤ 7) ∧ r2.toInt = -1)) : r = r2 := by
  subst ew e0 e1 e2 e3 e4 e5 e7
  apply Int32.toInt_inj.mp
  rcases h1 with h | h | h | h | h | h | h | h | h
  all_goals (rcases h2 with g | g | g | g | g | g | g | g | g)
  all_goals (first | omega | (exfalso; omega))
def LI (i : Nat → Int32) (c : Nat → Nat → Int32) (jm : Nat → Int32) (em : Nat → Nat → Int32) (g7 : Int32) (g6 : Nat → Int32) : Prop := xInv i c ∧ xFl (c 113) (c 115) ∧ PJ (i 146) (i 147) (i 156) (i 148) (c 150) (c 144) (c 145) ∧ (i 141).toInt = 0 ∧ mInv jm em ∧ SJ (em 3) (em 6) (em 9) (em 10) (em 11) (em 13) (jm 2).toInt (jm 5).toInt (jm 8).toInt ∧ TJ (em 3) (em 6) (em 23) (em 24) (em 29) (em 30) (jm 5).toInt (jm 22).toInt (jm 27).toInt ∧ LRel (i 110) (i 111) (i 165) (c 107) (jm 2) (jm 5) (jm 64) (em 4) ∧ (c 105) = (em 3) ∧ (c 108) = (em 6) ∧ SoR (c 105) (c 106) (i 110) ∧ SN (c 113) (c 114) (c 115) (c 116) (c 117) (i 124) (c 118) (c 119) (c 120) (c 121) (c 127) (em 9) (em 10) (em 11) (em 12) (em 13) (jm 8) ∧ DR (zX (c 106) (c 108) (i 111).toInt) (c 113) (c 114) (c 115) (c 117) (i 124).toInt (i 111).toInt ∧ RDS (zX (c 106) (c 108) (i 111).toInt) (c 113) (c 114) (c 115) (c 116) (c 117) (i 124).toInt.toNat (c 129) (c 130) (c 131) (c 132) (c 133) (c 134) ∧ TL (i 111).toInt (zX (c 106) (c 108) (i 111).toInt) (fun o f : Int => Can ((zX (c 106) (c 108) (i 111).toInt) o) f ∧ sgX (c 120) (c 116) o f (sfV (c 105) (c 108) (c 107) (c 106 (c 108 o.toNat).toNatClampNeg).toInt f o) = 1) (LkR (zX (c 106) (c 108) (i 111).toInt) (hF (c 150)) (fX (c 150)) (bT (c 150) 0) (bT (c 150) 5) (bT (c 150) 2) (sD (c 133) (c 134)) (i 147).toInt (i 111).toInt (c 152) (c 153) (i 154)) (i 146) (i 147) (i 148) (c 150) (c 144) (c 145) (jm 22) (jm 27) (em 23) (em 24) (em 25) (em 26) (em 29) (em 30) (em 31) (em 32) ∧ FtS (zX (c 106) (c 108) (i 111).toInt) (c 113) (c 114) (c 115) (i 124).toInt ∧ (c 109) = (em 7) ∧ (jm 57) = g7 ∧ (em 56) = g6 ∧ CtS (c 117) (i 124) (i 125)
def SkL (iz : Nat → Int32) (cz : Nat → Nat → Int32) (g7 : Int32) (g6 : Nat → Int32) : Prop := (∀ o9 : Nat, 30 ≤ o9 → cz 179 o9 = 255) ∧ PlE (iz 173).toInt (cz 172) g7.toInt g6
def LK (g7 : Int32) (g6 : Nat → Int32) (p : Program) (l : Launch) (e : Env) (s : State) (m : MethodId) (below : List Frame) (meth : Method) (cd : Code) (b : Nat) (D : va_G) (sk : Value) (a : Nat → Nat) (t : Nat → ClassId) (Z : va_W) (o : Nat) (am : Nat → Nat) (tm : Nat → ClassId) (x3 : Int32) (cells slots : Nat) : Prop := ∀ (i : Nat → Int32) (q : Int64) (c : Nat → Nat → Int32) (d : Nat → Nat → Int64) (jm : Nat → Int32) (qm : Int64) (em : Nat → Nat → Int32) (dm : Nat → Nat → Int64) (H : Heap) (locs : List Loc) (ls : Array Slot), LI i c jm em g7 g6 → va_P D vwCl (xwT sk a t i q c d ++ (Z ++ mW o am tm jm qm em dm)) H → va_D (fun q : Nat => s.heap.size ≤ q) (xwT sk a t i q c d ++ (Z ++ mW o am tm jm qm em dm)) → va_S (fun q : Nat => s.heap.size ≤ q) s.heap H locs → lv_has ls 4 [(3, .int x3), (2, .ref o), (1, .ref (a 100)), (0, .ref b)] → W p l e room_1 s m #[Value.ref b] below meth cd H locs cells slots (lw_Z below #[Value.ref b] s) (F0 m 1461 ls [])
/-- where a seeker is: its cells may have changed -/
def LKS (p : Program) (l : Launch) (e : Env) (s : State) (m : MethodId) (below : List Frame) (meth : Method) (cd : Code) (b : Nat) (D : va_G) (az : Nat → Nat) (tz : Nat → ClassId) (a : Nat → Nat) (t : Nat → ClassId) (o : Nat) (am : Nat → Nat) (tm : Nat → ClassId) (x3 : Int32) (cells slots : Nat) : Prop := ∀ (i : Nat → Int32) (q : Int64) (c : Nat → Nat → Int32) (d : Nat → Nat → Int64) (iz : Nat → Int32) (cz : Nat → Nat → Int32) (dz : Nat → Nat → Int64) (jm : Nat → Int32) (qm : Int64) (em : Nat → Nat → Int32) (dm : Nat → Nat → Int64) (g7 : Int32) (g6 : Nat → Int32) (H : Heap) (locs : List Loc) (ls : Array Slot), LI i c jm em g7 g6 → xInv iz cz → SkL iz cz g7 g6 → va_P D vwCl (xwT (.ref (az 166)) a t i q c d ++ (xwZ .null (fun k => if k < 166 then a k else az k) tz iz 0 cz dz ++ mW o am tm jm qm em dm)) H → va_D (fun q : Nat => s.heap.size ≤ q) (xwT (.ref (az 166)) a t i q c d ++ (xwZ .null (fun k => if k < 166 then a k else az k) tz iz 0 cz dz ++ mW o am tm jm qm em dm)) → va_S (fun q : Nat => s.heap.size ≤ q) s.heap H locs → lv_has ls 4 [(3, .int x3), (2, .ref o), (1, .ref (a 100)), (0, .ref b)] → W p l e room_1 s m #[Value.ref b] below meth cd H locs cells slots (lw_Z below #[Value.ref b] s) (F0 m 1461 ls [])
theorem xInv_m {i iz : Nat → Int32} {c cz : Nat → Nat → Int32} (hI : xInv i c) (hz : xInv iz cz) : xInv (fun k => if k < 166 then i k else iz k) (fun k => if k < 166 then c k else cz k) := by
  refine ⟨fun k => ?_, fun k j => ?_⟩
  · by_cases h : k < 166
    · show xR k (if k < 166 then i k else iz k).toInt
      rw [if_pos h]; exact hI.1 k
    · show xR k (if k < 166 then i k else iz k).toInt
      rw [if_neg h]; exact hz.1 k
  · by_cases h : k < 166
    · show xE k j ((if k < 166 then c k else cz k) j).toInt
      rw [if_pos h]; exact hI.2 k j
    · show xE k j ((if k < 166 then c k else cz k) j).toInt
      rw [if_neg h]; exact hz.2 k j


