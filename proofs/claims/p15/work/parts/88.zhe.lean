theorem SB_of {jm : Nat → Int32} {em : Nat → Nat → Int32} {F A B C S pb eb fb kb ce : Nat → Int32} {n : Int32} {kn N N2 : Int} (hM : mInv jm em) (h : SN F A B C S n pb eb fb kb ce (em 9) (em 10) (em 11) (em 12) (em 13) (jm 8)) (hr : RR F A B C pb eb fb kb) (hs : SJ (em 3) (em 6) (em 9) (em 10) (em 11) (em 13) kn N2 (jm 8).toInt) (eN : N = N2) : SB F B n.toInt N := fun s h1 h5 => by
  have R := hr.1 s
  rw [h.2.2.2.2.2.1] at h1
  rw [h.1] at h5
  have q := hB_of hM hs s h1 h5
  rw [← h.2.2.1] at q
  omega
theorem zX_e {so ko : Nat → Int32} {N b : Int} (h : 0 ≤ b ∧ b < N) : zX so ko N b = (so (ko b.toNat).toNatClampNeg).toInt := if_pos h
def LI (i : Nat → Int32) (c : Nat → Nat → Int32) (jm : Nat → Int32) (em : Nat → Nat → Int32) : Prop := xInv i c ∧ xFl (c 113) (c 115) ∧ PJ (i 146) (i 147) (i 156) (i 148) (c 150) (c 144) (c 145) ∧ (i 141).toInt = 0 ∧ mInv jm em ∧ SJ (em 3) (em 6) (em 9) (em 10) (em 11) (em 13) (jm 2).toInt (jm 5).toInt (jm 8).toInt ∧ TJ (em 3) (em 6) (em 23) (em 24) (em 29) (em 30) (jm 5).toInt (jm 22).toInt (jm 27).toInt ∧ LRel (i 110) (i 111) (i 165) (c 107) (jm 2) (jm 5) (jm 64) (em 4) ∧ (c 105) = (em 3) ∧ (c 108) = (em 6) ∧ SoR (c 105) (c 106) (i 110) ∧ SN (c 113) (c 114) (c 115) (c 116) (c 117) (i 124) (c 118) (c 119) (c 120) (c 121) (c 127) (em 9) (em 10) (em 11) (em 12) (em 13) (jm 8) ∧ DR (zX (c 106) (c 108) (i 111).toInt) (c 113) (c 114) (c 115) (c 117) (i 124).toInt (i 111).toInt ∧ RDS (zX (c 106) (c 108) (i 111).toInt) (c 113) (c 114) (c 115) (c 116) (c 117) (i 124).toInt.toNat (c 129) (c 130) (c 131) (c 132) (c 133) (c 134)
def LK (p : Program) (l : Launch) (e : Env) (s : State) (m : MethodId) (below : List Frame) (meth : Method) (cd : Code) (b : Nat) (D : va_G) (sk : Value) (a : Nat → Nat) (t : Nat → ClassId) (Z : va_W) (o : Nat) (am : Nat → Nat) (tm : Nat → ClassId) (x3 : Int32) (cells slots : Nat) : Prop := ∀ (i : Nat → Int32) (q : Int64) (c : Nat → Nat → Int32) (d : Nat → Nat → Int64) (jm : Nat → Int32) (qm : Int64) (em : Nat → Nat → Int32) (dm : Nat → Nat → Int64) (H : Heap) (locs : List Loc) (ls : Array Slot), LI i c jm em → va_P D vwCl (xwT sk a t i q c d ++ (Z ++ mW o am tm jm qm em dm)) H → va_D (fun q : Nat => s.heap.size ≤ q) (xwT sk a t i q c d ++ (Z ++ mW o am tm jm qm em dm)) → va_S (fun q : Nat => s.heap.size ≤ q) s.heap H locs → lv_has ls 4 [(3, .int x3), (2, .ref o), (1, .ref (a 100)), (0, .ref b)] → W p l e room_1 s m #[Value.ref b] below meth cd H locs cells slots (lw_Z below #[Value.ref b] s) (F0 m 1461 ls [])
/-- where a seeker is: its cells may have changed -/
def LKS (p : Program) (l : Launch) (e : Env) (s : State) (m : MethodId) (below : List Frame) (meth : Method) (cd : Code) (b : Nat) (D : va_G) (az : Nat → Nat) (tz : Nat → ClassId) (a : Nat → Nat) (t : Nat → ClassId) (o : Nat) (am : Nat → Nat) (tm : Nat → ClassId) (x3 : Int32) (cells slots : Nat) : Prop := ∀ (i : Nat → Int32) (q : Int64) (c : Nat → Nat → Int32) (d : Nat → Nat → Int64) (iz : Nat → Int32) (cz : Nat → Nat → Int32) (dz : Nat → Nat → Int64) (jm : Nat → Int32) (qm : Int64) (em : Nat → Nat → Int32) (dm : Nat → Nat → Int64) (H : Heap) (locs : List Loc) (ls : Array Slot), LI i c jm em → xInv iz cz → va_P D vwCl (xwT (.ref (az 166)) a t i q c d ++ (xwZ .null (fun k => if k < 166 then a k else az k) tz iz 0 cz dz ++ mW o am tm jm qm em dm)) H → va_D (fun q : Nat => s.heap.size ≤ q) (xwT (.ref (az 166)) a t i q c d ++ (xwZ .null (fun k => if k < 166 then a k else az k) tz iz 0 cz dz ++ mW o am tm jm qm em dm)) → va_S (fun q : Nat => s.heap.size ≤ q) s.heap H locs → lv_has ls 4 [(3, .int x3), (2, .ref o), (1, .ref (a 100)), (0, .ref b)] → W p l e room_1 s m #[Value.ref b] below meth cd H locs cells slots (lw_Z below #[Value.ref b] s) (F0 m 1461 ls [])
theorem xInv_m {i iz : Nat → Int32} {c cz : Nat → Nat → Int32} (hI : xInv i c) (hz : xInv iz cz) : xInv (fun k => if k < 166 then i k else iz k) (fun k => if k < 166 then c k else cz k) := by
  refine ⟨fun k => ?_, fun k j => ?_⟩
  · by_cases h : k < 166
    · show xR k (if k < 166 then i k else iz k).toInt
      rw [if_pos h]; exact hI.1 k
    · show xR k (if k < 166 then i k else iz k).toInt
      rw [if_neg h]; exact hz.1 k
  · by_cases h : k < 166
    · show xE k j ((if k < 166 then c k else cz k) j).toInt
      rw [if_pos h]; exact hI.2 k j
    · show xE k j ((if k < 166 then c k else cz k) j).toInt
      rw [if_neg h]; exact hz.2 k j


