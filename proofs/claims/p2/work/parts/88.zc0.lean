set_option maxHeartbeats 4000000 in
set_option maxRecDepth 100000 in
theorem law_kind {p : Program} {l : Launch} {e : Env} {s : State} {m : MethodId} {below : List Frame} {meth : Method} {cd : Code} {b L : Nat} {xs : Nat → Int32} {D : va_G} {a : Nat → Nat} {t : Nat → ClassId} {o : Nat} {am : Nat → Nat} {tm : Nat → ClassId} {x3 : Int32} {cells slots : Nat} {sk : Value} {Z : va_W} (hx : p.tables.exec = Jvm.exec) (hb : cd.code = cL_law) (hml : cd.maxLocals = 4) (hown : s.vm.findClass RL = some m.cls) (hts : ∀ w ∈ wm_law, w.before #[Value.ref b] s = true) (hX : va_X b L xs s s.heap) (hbl : b < s.heap.size) (hL : L ≤ 3584) (hN : xN s) (hZ : xZ (a 186) s s.heap) (hKT : va_K D vwCl (xtT t) s) (hKM : va_K D vwCl (mT tm) s) (hcs : cells ≤ 600000 ∧ slots ≤ 7302249) (hx3 : 0 ≤ x3.toInt ∧ x3.toInt + 7 ≤ (L : Int)) (kk : LK p l e s m below meth cd b D sk a t Z o am tm x3 cells slots) (i : Nat → Int32) (q : Int64) (c : Nat → Nat → Int32) (d : Nat → Nat → Int64) (jm : Nat → Int32) (qm : Int64) (em : Nat → Nat → Int32) (dm : Nat → Nat → Int64) (H : Heap) (locs : List Loc) (ls : Array Slot) (hLI : LI i c jm em) (hP : va_P D vwCl (xwT sk a t i q c d ++ (Z ++ mW o am tm jm qm em dm)) H) (hD : va_D (fun q : Nat => s.heap.size ≤ q) (xwT sk a t i q c d ++ (Z ++ mW o am tm jm qm em dm))) (hS : va_S (fun q : Nat => s.heap.size ≤ q) s.heap H locs) (hl : lv_has ls 4 [(3, .int x3), (2, .ref o), (1, .ref (a 100)), (0, .ref b)]) : W p l e room_1 s m #[Value.ref b] below meth cd H locs cells slots (lw_Z below #[Value.ref b] s) (F0 m 196 ls []) := by
  have hbA : ¬ (fun q : Nat => s.heap.size ≤ q) b := Nat.not_le.mpr hbl
  have hA : ∀ q : Nat, s.heap.size ≤ q → (fun q : Nat => s.heap.size ≤ q) q := fun _ h => h
  obtain ⟨hI, hs_F, hs_P, htr, hM, hs_S, hs_J, hR⟩ := hLI
  refine lv_aload_n hx hb dL_law_196 rfl (lv_at hl 2 rfl) ?_
  refine lv_aload_n hx hb dL_law_197 rfl (lv_at hl 3 rfl) ?_
  refine lv_iload_n hx hb dL_law_198 rfl (lv_at hl 0 rfl) ?_
  refine lv_iconst (v := 1) hx hb dL_law_199 (by decide) ?_
  refine lv_iadd hx hb dL_law_200 ?_
  refine lv_topi (fun x1 ex1 => ?_)
  have tx1 := ti_add (a := x3.toInt) (b := 1) ex1 rfl (by decide) (by omega) (by omega)
  refine va_sld hx hb hX hbl hbA hS (vp_in_iff.mpr (by have h9 : x1.toInt = (x3.toInt + 1) := tx1; omega)) dL_law_201 ?_
  refine lv_topi (fun x2 ex2 => ?_)
  refine lc_i (wr := (Z ++ mW o am tm jm qm em dm)) (va_runV (As := [.int x2]) (rest := []) ⟨hx, hb, hml, hown, hts⟩ (x_X11_kind_e l D H.size sk a t i q c d x2 hI ) (cwV 1 hts gm_law_X11_kind_e_13 rfl rfl rfl (by decide +kernel) ⟨Nat.le_of_ble_eq_true rfl, Nat.le_of_ble_eq_true rfl⟩) (yB_V hN (xZ_k hZ hS hA) (xZ_n hZ (vD_l hD)) hKT (vP_l hP) (vD_l hD) (ci := 11) (q0 := 0) rfl rfl) rfl rfl hl.1 rfl (lv_room (Nat.le_of_ble_eq_true rfl)) dL_law_202 hcs) hS hA hP hD (fun r3 u3 H locs hw3 _ hP hD hS => ?_)
  obtain ⟨i3, q3, c3, d3⟩ := u3
  have hw3 : True ∧ xInv i3 c3 ∧ (∀ k, k ∉ ([110] : List Nat) → i3 k = i k) ∧ (∀ k, k ∉ ([105, 106] : List Nat) → c3 k = c k) ∧ ((¬ (0 ≤ x2.toInt ∧ x2.toInt < (i 110).toInt) ∧ r3.toInt = -1 ∧ (i3 110).toInt = (i 110).toInt) ∨ (0 ≤ x2.toInt ∧ x2.toInt < (i 110).toInt ∧ 24 ≤ (i 110).toInt ∧ r3.toInt = -2 ∧ (i3 110).toInt = (i 110).toInt) ∨ (0 ≤ x2.toInt ∧ x2.toInt < (i 110).toInt ∧ (i 110).toInt ≤ 23 ∧ r3.toInt = (i 110).toInt ∧ (i3 110).toInt = (i 110).toInt + 1)) := hw3
  obtain ⟨hw3, hI, hei3, hec3, hxp3_0⟩ := hw3
  have hP : va_P D vwCl (xwT sk a t i3 q3 c3 d3 ++ (Z ++ mW o am tm jm qm em dm)) H := hP
  have hD : va_D (fun q : Nat => s.heap.size ≤ q) (xwT sk a t i3 q3 c3 d3 ++ (Z ++ mW o am tm jm qm em dm)) := hD
  refine lv_aload_n hx hb dL_law_205 rfl (lv_at hl 1 rfl) ?_
  refine lv_aload_n hx hb dL_law_206 rfl (lv_at hl 3 rfl) ?_
  refine lv_iload_n hx hb dL_law_207 rfl (lv_at hl 0 rfl) ?_
  refine lv_iconst (v := 1) hx hb dL_law_208 (by decide) ?_
  refine lv_iadd hx hb dL_law_209 ?_
  refine lv_topi (fun x4 ex4 => ?_)
  have tx4 := ti_add (a := x3.toInt) (b := 1) ex4 rfl (by decide) (by omega) (by omega)
  refine va_sld hx hb hX hbl hbA hS (vp_in_iff.mpr (by have h9 : x4.toInt = (x3.toInt + 1) := tx4; omega)) dL_law_210 ?_
  refine lv_topi (fun x5 ex5 => ?_)
  have hP : va_P D vwCl ((xwT sk a t i3 q3 c3 d3 ++ Z) ++ mW o am tm jm qm em dm) H := by rw [List.append_assoc]; exact hP
  have hD : va_D (fun q : Nat => s.heap.size ≤ q) ((xwT sk a t i3 q3 c3 d3 ++ Z) ++ mW o am tm jm qm em dm) := by rw [List.append_assoc]; exact hD
  refine rc_i (wr := (xwT sk a t i3 q3 c3 d3 ++ Z)) (va_runV (As := [.int x5]) (rest := [.int r3]) ⟨hx, hb, hml, hown, hts⟩ (s_X12_kind_e l D H.size o am tm jm qm em dm x5 hM hs_S hs_J) (cwV 1 hts gm_law_X12_kind_17 rfl rfl rfl (by decide +kernel) ⟨Nat.le_of_ble_eq_true rfl, Nat.le_of_ble_eq_true rfl⟩) (pB_V hKM (vP_r hP) (vD_r hD) (ci := 12) (q0 := 0) rfl rfl) rfl rfl hl.1 rfl (lv_room (Nat.le_of_ble_eq_true rfl)) dL_law_211 hcs) hS hA hP hD (fun r6 u6 H locs hw6 hP hD hS => ?_)
  obtain ⟨i6, q6, c6, d6⟩ := u6
  have hw6 : True ∧ mInv i6 c6 ∧ (∀ k, k ∉ ([2] : List Nat) → i6 k = jm k) ∧ (∀ k, k ∉ ([3] : List Nat) → c6 k = em k) ∧ (SJ (c6 3) (c6 6) (c6 9) (c6 10) (c6 11) (c6 13) (i6 2).toInt (i6 5).toInt (i6 8).toInt) ∧ (TJ (c6 3) (c6 6) (c6 23) (c6 24) (c6 29) (c6 30) (i6 5).toInt (i6 22).toInt (i6 27).toInt) ∧ ((¬ (0 ≤ x5.toInt ∧ x5.toInt < (jm 2).toInt) ∧ r6.toInt = -1 ∧ (i6 2).toInt = (jm 2).toInt) ∨ (0 ≤ x5.toInt ∧ x5.toInt < (jm 2).toInt ∧ 24 ≤ (jm 2).toInt ∧ r6.toInt = -2 ∧ (i6 2).toInt = (jm 2).toInt) ∨ (0 ≤ x5.toInt ∧ x5.toInt < (jm 2).toInt ∧ (jm 2).toInt ≤ 23 ∧ r6.toInt = (jm 2).toInt ∧ (i6 2).toInt = (jm 2).toInt + 1)) := hw6
  obtain ⟨hw6, hM, hei6, hec6, hxp6_0, hxp6_1, hxp6_2⟩ := hw6
  have hP : va_P D vwCl (xwT sk a t i3 q3 c3 d3 ++ (Z ++ mW o am tm i6 q6 c6 d6)) H := by rw [← List.append_assoc]; exact hP
  have hD : va_D (fun q : Nat => s.heap.size ≤ q) (xwT sk a t i3 q3 c3 d3 ++ (Z ++ mW o am tm i6 q6 c6 d6)) := by rw [← List.append_assoc]; exact hD
  refine lv_icmp_eq (tgt := 1461) hx hb dL_law_214 (by decide) (fun _ => ?_) (fun q9 => absurd (Int32.toInt_inj.mp (by have h1 := hxp3_0; have h2 := hxp6_2; have h3 := hR; omega)) q9)
  exact kk i3 q3 c3 d3 i6 q6 c6 d6 _ _ _ ⟨hI, (by rw [show c3 113 = c 113 from hec3 113 (by decide), show c3 115 = c 115 from hec3 115 (by decide)]; exact hs_F), (by rw [show i3 146 = i 146 from hei3 146 (by decide), show i3 147 = i 147 from hei3 147 (by decide), show i3 148 = i 148 from hei3 148 (by decide), show i3 156 = i 156 from hei3 156 (by decide), show c3 144 = c 144 from hec3 144 (by decide), show c3 145 = c 145 from hec3 145 (by decide), show c3 150 = c 150 from hec3 150 (by decide)]; exact hs_P), (by rw [show i3 141 = i 141 from hei3 141 (by decide)]; exact htr), hM, hxp6_0, hxp6_1, (by have h1 := hxp3_0; have h2 := hxp6_2; have h3 := hR; omega)⟩ hP hD hS (lv_sub hl [0, 1, 2, 3] rfl)

set_option maxHeartbeats 4000000 in
set_option maxRecDepth 100000 in
theorem law_standard {p : Program} {l : Launch} {e : Env} {s : State} {m : MethodId} {below : List Frame} {meth : Method} {cd : Code} {b L : Nat} {xs : Nat → Int32} {D : va_G} {a : Nat → Nat} {t : Nat → ClassId} {o : Nat} {am : Nat → Nat} {tm : Nat → ClassId} {x3 : Int32} {cells slots : Nat} {sk : Value} {Z : va_W} (hx : p.tables.exec = Jvm.exec) (hb : cd.code = cL_law) (hml : cd.maxLocals = 4) (hown : s.vm.findClass RL = some m.cls) (hts : ∀ w ∈ wm_law, w.before #[Value.ref b] s = true) (hX : va_X b L xs s s.heap) (hbl : b < s.heap.size) (hL : L ≤ 3584) (hN : xN s) (hZ : xZ (a 186) s s.heap) (hKT : va_K D vwCl (xtT t) s) (hKM : va_K D vwCl (mT tm) s) (hcs : cells ≤ 600000 ∧ slots ≤ 7302249) (hx3 : 0 ≤ x3.toInt ∧ x3.toInt + 7 ≤ (L : Int)) (kk : LK p l e s m below meth cd b D sk a t Z o am tm x3 cells slots) (i : Nat → Int32) (q : Int64) (c : Nat → Nat → Int32) (d : Nat → Nat → Int64) (jm : Nat → Int32) (qm : Int64) (em : Nat → Nat → Int32) (dm : Nat → Nat → Int64) (H : Heap) (locs : List Loc) (ls : Array Slot) (hLI : LI i c jm em) (hP : va_P D vwCl (xwT sk a t i q c d ++ (Z ++ mW o am tm jm qm em dm)) H) (hD : va_D (fun q : Nat => s.heap.size ≤ q) (xwT sk a t i q c d ++ (Z ++ mW o am tm jm qm em dm))) (hS : va_S (fun q : Nat => s.heap.size ≤ q) s.heap H locs) (hl : lv_has ls 4 [(3, .int x3), (2, .ref o), (1, .ref (a 100)), (0, .ref b)]) : W p l e room_1 s m #[Value.ref b] below meth cd H locs cells slots (lw_Z below #[Value.ref b] s) (F0 m 219 ls []) := by
  have hbA : ¬ (fun q : Nat => s.heap.size ≤ q) b := Nat.not_le.mpr hbl
  have hA : ∀ q : Nat, s.heap.size ≤ q → (fun q : Nat => s.heap.size ≤ q) q := fun _ h => h
  obtain ⟨hI, hs_F, hs_P, htr, hM, hs_S, hs_J, hR⟩ := hLI
  refine lv_aload_n hx hb dL_law_219 rfl (lv_at hl 2 rfl) ?_
  refine lv_aload_n hx hb dL_law_220 rfl (lv_at hl 3 rfl) ?_
  refine lv_iload_n hx hb dL_law_221 rfl (lv_at hl 0 rfl) ?_
  refine lv_iconst (v := 1) hx hb dL_law_222 (by decide) ?_
  refine lv_iadd hx hb dL_law_223 ?_
  refine lv_topi (fun x1 ex1 => ?_)
  have tx1 := ti_add (a := x3.toInt) (b := 1) ex1 rfl (by decide) (by omega) (by omega)
  refine va_sld hx hb hX hbl hbA hS (vp_in_iff.mpr (by have h9 : x1.toInt = (x3.toInt + 1) := tx1; omega)) dL_law_224 ?_
  refine lv_topi (fun x2 ex2 => ?_)
  refine lv_aload_n hx hb dL_law_225 rfl (lv_at hl 3 rfl) ?_
  refine lv_iload_n hx hb dL_law_226 rfl (lv_at hl 0 rfl) ?_
  refine lv_iconst (v := 2) hx hb dL_law_227 (by decide) ?_
  refine lv_iadd hx hb dL_law_228 ?_
  refine lv_topi (fun x3 ex3 => ?_)
  have tx3 := ti_add (a := x3.toInt) (b := 2) ex3 rfl (by decide) (by omega) (by omega)
  refine va_sld hx hb hX hbl hbA hS (vp_in_iff.mpr (by have h9 : x3.toInt = (x3.toInt + 2) := tx3; omega)) dL_law_229 ?_
  refine lv_topi (fun x4 ex4 => ?_)
  refine lv_aload_n hx hb dL_law_230 rfl (lv_at hl 3 rfl) ?_
  refine lv_iload_n hx hb dL_law_231 rfl (lv_at hl 0 rfl) ?_
  refine lv_iconst (v := 3) hx hb dL_law_232 (by decide) ?_
  refine lv_iadd hx hb dL_law_233 ?_
  refine lv_topi (fun x5 ex5 => ?_)
  have tx5 := ti_add (a := x3.toInt) (b := 3) ex5 rfl (by decide) (by omega) (by omega)
  refine va_sld hx hb hX hbl hbA hS (vp_in_iff.mpr (by have h9 : x5.toInt = (x3.toInt + 3) := tx5; omega)) dL_law_234 ?_
  refine lv_topi (fun x6 ex6 => ?_)
  refine lc_i (wr := (Z ++ mW o am tm jm qm em dm)) (va_runV (As := [.int x2, .int x4, .int x6]) (rest := []) ⟨hx, hb, hml, hown, hts⟩ (x_X11_standard l D H.size sk a t i q c d x2 x4 x6 hI ) (cwV 3 hts gm_law_X11_standard_18 rfl rfl rfl (by decide +kernel) ⟨Nat.le_of_ble_eq_true rfl, Nat.le_of_ble_eq_true rfl⟩) (yB_V hN (xZ_k hZ hS hA) (xZ_n hZ (vD_l hD)) hKT (vP_l hP) (vD_l hD) (ci := 11) (q0 := 0) rfl rfl) rfl rfl hl.1 rfl (lv_room (Nat.le_of_ble_eq_true rfl)) dL_law_235 hcs) hS hA hP hD (fun r7 u7 H locs hw7 _ hP hD hS => ?_)
  obtain ⟨i7, q7, c7, d7⟩ := u7
  have hw7 : True ∧ xInv i7 c7 ∧ (∀ k, k ∉ ([146, 148] : List Nat) → i7 k = i k) ∧ (∀ k, k ∉ ([107] : List Nat) → c7 k = c k) ∧ (xEn (i 146) (i 148) (i7 146) (i7 148)) := hw7
  obtain ⟨hw7, hI, hei7, hec7, hxp7_0⟩ := hw7
  have hP : va_P D vwCl (xwT sk a t i7 q7 c7 d7 ++ (Z ++ mW o am tm jm qm em dm)) H := hP
  have hD : va_D (fun q : Nat => s.heap.size ≤ q) (xwT sk a t i7 q7 c7 d7 ++ (Z ++ mW o am tm jm qm em dm)) := hD
  refine lv_pop hx hb dL_law_238 rfl ?_
  refine lv_aload_n hx hb dL_law_239 rfl (lv_at hl 1 rfl) ?_
  refine lv_aload_n hx hb dL_law_240 rfl (lv_at hl 3 rfl) ?_
  refine lv_iload_n hx hb dL_law_241 rfl (lv_at hl 0 rfl) ?_
  refine lv_iconst (v := 1) hx hb dL_law_242 (by decide) ?_
  refine lv_iadd hx hb dL_law_243 ?_
  refine lv_topi (fun x8 ex8 => ?_)
  have tx8 := ti_add (a := x3.toInt) (b := 1) ex8 rfl (by decide) (by omega) (by omega)
  refine va_sld hx hb hX hbl hbA hS (vp_in_iff.mpr (by have h9 : x8.toInt = (x3.toInt + 1) := tx8; omega)) dL_law_244 ?_
  refine lv_topi (fun x9 ex9 => ?_)
  refine lv_aload_n hx hb dL_law_245 rfl (lv_at hl 3 rfl) ?_
  refine lv_iload_n hx hb dL_law_246 rfl (lv_at hl 0 rfl) ?_
  refine lv_iconst (v := 2) hx hb dL_law_247 (by decide) ?_
  refine lv_iadd hx hb dL_law_248 ?_
  refine lv_topi (fun x10 ex10 => ?_)
  have tx10 := ti_add (a := x3.toInt) (b := 2) ex10 rfl (by decide) (by omega) (by omega)
  refine va_sld hx hb hX hbl hbA hS (vp_in_iff.mpr (by have h9 : x10.toInt = (x3.toInt + 2) := tx10; omega)) dL_law_249 ?_
  refine lv_topi (fun x11 ex11 => ?_)
  refine lv_aload_n hx hb dL_law_250 rfl (lv_at hl 3 rfl) ?_
  refine lv_iload_n hx hb dL_law_251 rfl (lv_at hl 0 rfl) ?_
  refine lv_iconst (v := 3) hx hb dL_law_252 (by decide) ?_
  refine lv_iadd hx hb dL_law_253 ?_
  refine lv_topi (fun x12 ex12 => ?_)
  have tx12 := ti_add (a := x3.toInt) (b := 3) ex12 rfl (by decide) (by omega) (by omega)
  refine va_sld hx hb hX hbl hbA hS (vp_in_iff.mpr (by have h9 : x12.toInt = (x3.toInt + 3) := tx12; omega)) dL_law_254 ?_
  refine lv_topi (fun x13 ex13 => ?_)
  have hP : va_P D vwCl ((xwT sk a t i7 q7 c7 d7 ++ Z) ++ mW o am tm jm qm em dm) H := by rw [List.append_assoc]; exact hP
  have hD : va_D (fun q : Nat => s.heap.size ≤ q) ((xwT sk a t i7 q7 c7 d7 ++ Z) ++ mW o am tm jm qm em dm) := by rw [List.append_assoc]; exact hD
  refine rc_i (wr := (xwT sk a t i7 q7 c7 d7 ++ Z)) (va_runV (As := [.int x9, .int x11, .int x13]) (rest := []) ⟨hx, hb, hml, hown, hts⟩ (s_X12_standard l D H.size o am tm jm qm em dm x9 x11 x13 hM hs_S hs_J) (cwV 3 hts gm_law_X12_standard_22 rfl rfl rfl (by decide +kernel) ⟨Nat.le_of_ble_eq_true rfl, Nat.le_of_ble_eq_true rfl⟩) (pB_V hKM (vP_r hP) (vD_r hD) (ci := 12) (q0 := 0) rfl rfl) rfl rfl hl.1 rfl (lv_room (Nat.le_of_ble_eq_true rfl)) dL_law_255 hcs) hS hA hP hD (fun r14 u14 H locs hw14 hP hD hS => ?_)
  obtain ⟨i14, q14, c14, d14⟩ := u14
  have hw14 : True ∧ mInv i14 c14 ∧ (∀ k, k ∉ ([22, 27] : List Nat) → i14 k = jm k) ∧ (∀ k, k ∉ ([4] : List Nat) → c14 k = em k) ∧ (SJ (c14 3) (c14 6) (c14 9) (c14 10) (c14 11) (c14 13) (i14 2).toInt (i14 5).toInt (i14 8).toInt) ∧ (TJ (c14 3) (c14 6) (c14 23) (c14 24) (c14 29) (c14 30) (i14 5).toInt (i14 22).toInt (i14 27).toInt) := hw14
  obtain ⟨hw14, hM, hei14, hec14, hxp14_0, hxp14_1⟩ := hw14
  have hP : va_P D vwCl (xwT sk a t i7 q7 c7 d7 ++ (Z ++ mW o am tm i14 q14 c14 d14)) H := by rw [← List.append_assoc]; exact hP
  have hD : va_D (fun q : Nat => s.heap.size ≤ q) (xwT sk a t i7 q7 c7 d7 ++ (Z ++ mW o am tm i14 q14 c14 d14)) := by rw [← List.append_assoc]; exact hD
  refine lv_pop hx hb dL_law_258 rfl ?_
  refine lv_goto (tgt := 1461) hx hb dL_law_259 (by decide) ?_
  exact kk i7 q7 c7 d7 i14 q14 c14 d14 _ _ _ ⟨hI, (by rw [show c7 113 = c 113 from hec7 113 (by decide), show c7 115 = c 115 from hec7 115 (by decide)]; exact hs_F), (by rw [show i7 147 = i 147 from hei7 147 (by decide), show i7 156 = i 156 from hei7 156 (by decide), show c7 150 = c 150 from hec7 150 (by decide), show c7 144 = c 144 from hec7 144 (by decide), show c7 145 = c 145 from hec7 145 (by decide)]; exact PJ_en hs_P hxp7_0), (by rw [show i7 141 = i 141 from hei7 141 (by decide)]; exact htr), hM, hxp14_0, hxp14_1, (by rw [show i7 110 = i 110 from hei7 110 (by decide), show i14 2 = jm 2 from hei14 2 (by decide)]; exact hR)⟩ hP hD hS (lv_sub hl [0, 1, 2, 3] rfl)

set_option maxHeartbeats 4000000 in
set_option maxRecDepth 100000 in
theorem law_make {p : Program} {l : Launch} {e : Env} {s : State} {m : MethodId} {below : List Frame} {meth : Method} {cd : Code} {b L : Nat} {xs : Nat → Int32} {D : va_G} {a : Nat → Nat} {t : Nat → ClassId} {o : Nat} {am : Nat → Nat} {tm : Nat → ClassId} {x3 : Int32} {cells slots : Nat} {sk : Value} {Z : va_W} (hx : p.tables.exec = Jvm.exec) (hb : cd.code = cL_law) (hml : cd.maxLocals = 4) (hown : s.vm.findClass RL = some m.cls) (hts : ∀ w ∈ wm_law, w.before #[Value.ref b] s = true) (hX : va_X b L xs s s.heap) (hbl : b < s.heap.size) (hL : L ≤ 3584) (hN : xN s) (hZ : xZ (a 186) s s.heap) (hKT : va_K D vwCl (xtT t) s) (hKM : va_K D vwCl (mT tm) s) (hcs : cells ≤ 600000 ∧ slots ≤ 7302249) (hx3 : 0 ≤ x3.toInt ∧ x3.toInt + 7 ≤ (L : Int)) (kk : LK p l e s m below meth cd b D sk a t Z o am tm x3 cells slots) (i : Nat → Int32) (q : Int64) (c : Nat → Nat → Int32) (d : Nat → Nat → Int64) (jm : Nat → Int32) (qm : Int64) (em : Nat → Nat → Int32) (dm : Nat → Nat → Int64) (H : Heap) (locs : List Loc) (ls : Array Slot) (hLI : LI i c jm em) (hP : va_P D vwCl (xwT sk a t i q c d ++ (Z ++ mW o am tm jm qm em dm)) H) (hD : va_D (fun q : Nat => s.heap.size ≤ q) (xwT sk a t i q c d ++ (Z ++ mW o am tm jm qm em dm))) (hS : va_S (fun q : Nat => s.heap.size ≤ q) s.heap H locs) (hl : lv_has ls 4 [(3, .int x3), (2, .ref o), (1, .ref (a 100)), (0, .ref b)]) : W p l e room_1 s m #[Value.ref b] below meth cd H locs cells slots (lw_Z below #[Value.ref b] s) (F0 m 262 ls []) := by
  have hbA : ¬ (fun q : Nat => s.heap.size ≤ q) b := Nat.not_le.mpr hbl
  have hA : ∀ q : Nat, s.heap.size ≤ q → (fun q : Nat => s.heap.size ≤ q) q := fun _ h => h
  obtain ⟨hI, hs_F, hs_P, htr, hM, hs_S, hs_J, hR⟩ := hLI
  refine lv_aload_n hx hb dL_law_262 rfl (lv_at hl 2 rfl) ?_
  refine lv_aload_n hx hb dL_law_263 rfl (lv_at hl 3 rfl) ?_
  refine lv_iload_n hx hb dL_law_264 rfl (lv_at hl 0 rfl) ?_
  refine lv_iconst (v := 1) hx hb dL_law_265 (by decide) ?_
  refine lv_iadd hx hb dL_law_266 ?_
  refine lv_topi (fun x1 ex1 => ?_)
  have tx1 := ti_add (a := x3.toInt) (b := 1) ex1 rfl (by decide) (by omega) (by omega)
  refine va_sld hx hb hX hbl hbA hS (vp_in_iff.mpr (by have h9 : x1.toInt = (x3.toInt + 1) := tx1; omega)) dL_law_267 ?_
  refine lv_topi (fun x2 ex2 => ?_)
  refine lv_aload_n hx hb dL_law_268 rfl (lv_at hl 3 rfl) ?_
  refine lv_iload_n hx hb dL_law_269 rfl (lv_at hl 0 rfl) ?_
  refine lv_iconst (v := 2) hx hb dL_law_270 (by decide) ?_
  refine lv_iadd hx hb dL_law_271 ?_
  refine lv_topi (fun x3 ex3 => ?_)
  have tx3 := ti_add (a := x3.toInt) (b := 2) ex3 rfl (by decide) (by omega) (by omega)
  refine va_sld hx hb hX hbl hbA hS (vp_in_iff.mpr (by have h9 : x3.toInt = (x3.toInt + 2) := tx3; omega)) dL_law_272 ?_
  refine lv_topi (fun x4 ex4 => ?_)
  refine lc_i (wr := (Z ++ mW o am tm jm qm em dm)) (va_runV (As := [.int x2, .int x4]) (rest := []) ⟨hx, hb, hml, hown, hts⟩ (x_X11_make l D H.size sk a t i q c d x2 x4 hI ) (cwV 2 hts gm_law_X11_make_23 rfl rfl rfl (by decide +kernel) ⟨Nat.le_of_ble_eq_true rfl, Nat.le_of_ble_eq_true rfl⟩) (yB_V hN (xZ_k hZ hS hA) (xZ_n hZ (vD_l hD)) hKT (vP_l hP) (vD_l hD) (ci := 11) (q0 := 0) rfl rfl) rfl rfl hl.1 rfl (lv_room (Nat.le_of_ble_eq_true rfl)) dL_law_273 hcs) hS hA hP hD (fun r5 u5 H locs hw5 _ hP hD hS => ?_)
  obtain ⟨i5, q5, c5, d5⟩ := u5
  have hw5 : True ∧ xInv i5 c5 ∧ (∀ k, k ∉ ([111, 146, 148] : List Nat) → i5 k = i k) ∧ (∀ k, k ∉ ([108, 109] : List Nat) → c5 k = c k) ∧ (xEn (i 146) (i 148) (i5 146) (i5 148)) := hw5
  obtain ⟨hw5, hI, hei5, hec5, hxp5_0⟩ := hw5
  have hP : va_P D vwCl (xwT sk a t i5 q5 c5 d5 ++ (Z ++ mW o am tm jm qm em dm)) H := hP
  have hD : va_D (fun q : Nat => s.heap.size ≤ q) (xwT sk a t i5 q5 c5 d5 ++ (Z ++ mW o am tm jm qm em dm)) := hD
  refine lv_pop hx hb dL_law_276 rfl ?_
  refine lv_aload_n hx hb dL_law_277 rfl (lv_at hl 1 rfl) ?_
  refine lv_aload_n hx hb dL_law_278 rfl (lv_at hl 3 rfl) ?_
  refine lv_iload_n hx hb dL_law_279 rfl (lv_at hl 0 rfl) ?_
  refine lv_iconst (v := 1) hx hb dL_law_280 (by decide) ?_
  refine lv_iadd hx hb dL_law_281 ?_
  refine lv_topi (fun x6 ex6 => ?_)
  have tx6 := ti_add (a := x3.toInt) (b := 1) ex6 rfl (by decide) (by omega) (by omega)
  refine va_sld hx hb hX hbl hbA hS (vp_in_iff.mpr (by have h9 : x6.toInt = (x3.toInt + 1) := tx6; omega)) dL_law_282 ?_
  refine lv_topi (fun x7 ex7 => ?_)
  refine lv_aload_n hx hb dL_law_283 rfl (lv_at hl 3 rfl) ?_
  refine lv_iload_n hx hb dL_law_284 rfl (lv_at hl 0 rfl) ?_
  refine lv_iconst (v := 2) hx hb dL_law_285 (by decide) ?_
  refine lv_iadd hx hb dL_law_286 ?_
  refine lv_topi (fun x8 ex8 => ?_)
  have tx8 := ti_add (a := x3.toInt) (b := 2) ex8 rfl (by decide) (by omega) (by omega)
  refine va_sld hx hb hX hbl hbA hS (vp_in_iff.mpr (by have h9 : x8.toInt = (x3.toInt + 2) := tx8; omega)) dL_law_287 ?_
  refine lv_topi (fun x9 ex9 => ?_)
  have hP : va_P D vwCl ((xwT sk a t i5 q5 c5 d5 ++ Z) ++ mW o am tm jm qm em dm) H := by rw [List.append_assoc]; exact hP
  have hD : va_D (fun q : Nat => s.heap.size ≤ q) ((xwT sk a t i5 q5 c5 d5 ++ Z) ++ mW o am tm jm qm em dm) := by rw [List.append_assoc]; exact hD
  refine rc_i (wr := (xwT sk a t i5 q5 c5 d5 ++ Z)) (va_runV (As := [.int x7, .int x9]) (rest := []) ⟨hx, hb, hml, hown, hts⟩ (s_X12_make l D H.size o am tm jm qm em dm x7 x9 hM hs_S hs_J) (cwV 2 hts gm_law_X12_make_27 rfl rfl rfl (by decide +kernel) ⟨Nat.le_of_ble_eq_true rfl, Nat.le_of_ble_eq_true rfl⟩) (pB_V hKM (vP_r hP) (vD_r hD) (ci := 12) (q0 := 0) rfl rfl) rfl rfl hl.1 rfl (lv_room (Nat.le_of_ble_eq_true rfl)) dL_law_288 hcs) hS hA hP hD (fun r10 u10 H locs hw10 hP hD hS => ?_)
  obtain ⟨i10, q10, c10, d10⟩ := u10
  have hw10 : True ∧ mInv i10 c10 ∧ (∀ k, k ∉ ([5, 22, 27] : List Nat) → i10 k = jm k) ∧ (∀ k, k ∉ ([6, 7] : List Nat) → c10 k = em k) ∧ (SJ (c10 3) (c10 6) (c10 9) (c10 10) (c10 11) (c10 13) (i10 2).toInt (i10 5).toInt (i10 8).toInt) ∧ (TJ (c10 3) (c10 6) (c10 23) (c10 24) (c10 29) (c10 30) (i10 5).toInt (i10 22).toInt (i10 27).toInt) := hw10
  obtain ⟨hw10, hM, hei10, hec10, hxp10_0, hxp10_1⟩ := hw10
  have hP : va_P D vwCl (xwT sk a t i5 q5 c5 d5 ++ (Z ++ mW o am tm i10 q10 c10 d10)) H := by rw [← List.append_assoc]; exact hP
  have hD : va_D (fun q : Nat => s.heap.size ≤ q) (xwT sk a t i5 q5 c5 d5 ++ (Z ++ mW o am tm i10 q10 c10 d10)) := by rw [← List.append_assoc]; exact hD
  refine lv_pop hx hb dL_law_291 rfl ?_
  refine lv_goto (tgt := 1461) hx hb dL_law_292 (by decide) ?_
  exact kk i5 q5 c5 d5 i10 q10 c10 d10 _ _ _ ⟨hI, (by rw [show c5 113 = c 113 from hec5 113 (by decide), show c5 115 = c 115 from hec5 115 (by decide)]; exact hs_F), (by rw [show i5 147 = i 147 from hei5 147 (by decide), show i5 156 = i 156 from hei5 156 (by decide), show c5 150 = c 150 from hec5 150 (by decide), show c5 144 = c 144 from hec5 144 (by decide), show c5 145 = c 145 from hec5 145 (by decide)]; exact PJ_en hs_P hxp5_0), (by rw [show i5 141 = i 141 from hei5 141 (by decide)]; exact htr), hM, hxp10_0, hxp10_1, (by rw [show i5 110 = i 110 from hei5 110 (by decide), show i10 2 = jm 2 from hei10 2 (by decide)]; exact hR)⟩ hP hD hS (lv_sub hl [0, 1, 2, 3] rfl)

set_option maxHeartbeats 4000000 in
set_option maxRecDepth 100000 in
theorem law_is {p : Program} {l : Launch} {e : Env} {s : State} {m : MethodId} {below : List Frame} {meth : Method} {cd : Code} {b L : Nat} {xs : Nat → Int32} {D : va_G} {a : Nat → Nat} {t : Nat → ClassId} {o : Nat} {am : Nat → Nat} {tm : Nat → ClassId} {x3 : Int32} {cells slots : Nat} {sk : Value} {Z : va_W} (hx : p.tables.exec = Jvm.exec) (hb : cd.code = cL_law) (hml : cd.maxLocals = 4) (hown : s.vm.findClass RL = some m.cls) (hts : ∀ w ∈ wm_law, w.before #[Value.ref b] s = true) (hX : va_X b L xs s s.heap) (hbl : b < s.heap.size) (hL : L ≤ 3584) (hN : xN s) (hZ : xZ (a 186) s s.heap) (hKT : va_K D vwCl (xtT t) s) (hKM : va_K D vwCl (mT tm) s) (hcs : cells ≤ 600000 ∧ slots ≤ 7302249) (hx3 : 0 ≤ x3.toInt ∧ x3.toInt + 7 ≤ (L : Int)) (kk : LK p l e s m below meth cd b D sk a t Z o am tm x3 cells slots) (i : Nat → Int32) (q : Int64) (c : Nat → Nat → Int32) (d : Nat → Nat → Int64) (jm : Nat → Int32) (qm : Int64) (em : Nat → Nat → Int32) (dm : Nat → Nat → Int64) (H : Heap) (locs : List Loc) (ls : Array Slot) (hLI : LI i c jm em) (hP : va_P D vwCl (xwT sk a t i q c d ++ (Z ++ mW o am tm jm qm em dm)) H) (hD : va_D (fun q : Nat => s.heap.size ≤ q) (xwT sk a t i q c d ++ (Z ++ mW o am tm jm qm em dm))) (hS : va_S (fun q : Nat => s.heap.size ≤ q) s.heap H locs) (hl : lv_has ls 4 [(3, .int x3), (2, .ref o), (1, .ref (a 100)), (0, .ref b)]) : W p l e room_1 s m #[Value.ref b] below meth cd H locs cells slots (lw_Z below #[Value.ref b] s) (F0 m 295 ls []) := by
  have hbA : ¬ (fun q : Nat => s.heap.size ≤ q) b := Nat.not_le.mpr hbl
  have hA : ∀ q : Nat, s.heap.size ≤ q → (fun q : Nat => s.heap.size ≤ q) q := fun _ h => h
  obtain ⟨hI, hs_F, hs_P, htr, hM, hs_S, hs_J, hR⟩ := hLI
  refine lv_aload_n hx hb dL_law_295 rfl (lv_at hl 2 rfl) ?_
  refine lv_aload_n hx hb dL_law_296 rfl (lv_at hl 3 rfl) ?_
  refine lv_iload_n hx hb dL_law_297 rfl (lv_at hl 0 rfl) ?_
  refine lv_iconst (v := 1) hx hb dL_law_298 (by decide) ?_
  refine lv_iadd hx hb dL_law_299 ?_
  refine lv_topi (fun x1 ex1 => ?_)
  have tx1 := ti_add (a := x3.toInt) (b := 1) ex1 rfl (by decide) (by omega) (by omega)
  refine va_sld hx hb hX hbl hbA hS (vp_in_iff.mpr (by have h9 : x1.toInt = (x3.toInt + 1) := tx1; omega)) dL_law_300 ?_
  refine lv_topi (fun x2 ex2 => ?_)
  refine lv_aload_n hx hb dL_law_301 rfl (lv_at hl 3 rfl) ?_
  refine lv_iload_n hx hb dL_law_302 rfl (lv_at hl 0 rfl) ?_
  refine lv_iconst (v := 2) hx hb dL_law_303 (by decide) ?_
  refine lv_iadd hx hb dL_law_304 ?_
  refine lv_topi (fun x3 ex3 => ?_)
  have tx3 := ti_add (a := x3.toInt) (b := 2) ex3 rfl (by decide) (by omega) (by omega)
  refine va_sld hx hb hX hbl hbA hS (vp_in_iff.mpr (by have h9 : x3.toInt = (x3.toInt + 2) := tx3; omega)) dL_law_305 ?_
  refine lv_topi (fun x4 ex4 => ?_)
  refine ro_calli (va_runV (As := [.int x2, .int x4]) (rest := []) ⟨hx, hb, hml, hown, hts⟩ (x_X11_is l D H.size sk a t i q c d x2 x4 hI ) (cwV 2 hts gm_law_X11_is_28 rfl rfl rfl (by decide +kernel) ⟨Nat.le_of_ble_eq_true rfl, Nat.le_of_ble_eq_true rfl⟩) (yA_V hN (xZ_k hZ hS hA) hKT (vP_l hP) (ci := 11) (q0 := 0) rfl rfl) rfl rfl hl.1 rfl (lv_room (Nat.le_of_ble_eq_true rfl)) dL_law_306 hcs) hS hA hP (fun r5 u5 H locs hw5 hP hS => ?_)
  refine lv_pop hx hb dL_law_309 rfl ?_
  refine lv_aload_n hx hb dL_law_310 rfl (lv_at hl 1 rfl) ?_
  refine lv_aload_n hx hb dL_law_311 rfl (lv_at hl 3 rfl) ?_
  refine lv_iload_n hx hb dL_law_312 rfl (lv_at hl 0 rfl) ?_
  refine lv_iconst (v := 1) hx hb dL_law_313 (by decide) ?_
  refine lv_iadd hx hb dL_law_314 ?_
  refine lv_topi (fun x6 ex6 => ?_)
  have tx6 := ti_add (a := x3.toInt) (b := 1) ex6 rfl (by decide) (by omega) (by omega)
  refine va_sld hx hb hX hbl hbA hS (vp_in_iff.mpr (by have h9 : x6.toInt = (x3.toInt + 1) := tx6; omega)) dL_law_315 ?_
  refine lv_topi (fun x7 ex7 => ?_)
  refine lv_aload_n hx hb dL_law_316 rfl (lv_at hl 3 rfl) ?_
  refine lv_iload_n hx hb dL_law_317 rfl (lv_at hl 0 rfl) ?_
  refine lv_iconst (v := 2) hx hb dL_law_318 (by decide) ?_
  refine lv_iadd hx hb dL_law_319 ?_
  refine lv_topi (fun x8 ex8 => ?_)
  have tx8 := ti_add (a := x3.toInt) (b := 2) ex8 rfl (by decide) (by omega) (by omega)
  refine va_sld hx hb hX hbl hbA hS (vp_in_iff.mpr (by have h9 : x8.toInt = (x3.toInt + 2) := tx8; omega)) dL_law_320 ?_
  refine lv_topi (fun x9 ex9 => ?_)
  have hP : va_P D vwCl ((xwT sk a t i q c d ++ Z) ++ mW o am tm jm qm em dm) H := by rw [List.append_assoc]; exact hP
  have hD : va_D (fun q : Nat => s.heap.size ≤ q) ((xwT sk a t i q c d ++ Z) ++ mW o am tm jm qm em dm) := by rw [List.append_assoc]; exact hD
  refine ro_calli (va_runV (As := [.int x7, .int x9]) (rest := []) ⟨hx, hb, hml, hown, hts⟩ (s_X12_is l D H.size o am tm jm qm em dm x7 x9 hM ) (cwV 2 hts gm_law_X12_is_31 rfl rfl rfl (by decide +kernel) ⟨Nat.le_of_ble_eq_true rfl, Nat.le_of_ble_eq_true rfl⟩) (pA_V hKM (vP_r hP) (ci := 12) (q0 := 0) rfl rfl) rfl rfl hl.1 rfl (lv_room (Nat.le_of_ble_eq_true rfl)) dL_law_321 hcs) hS hA hP (fun r10 u10 H locs hw10 hP hS => ?_)
  have hP : va_P D vwCl (xwT sk a t i q c d ++ (Z ++ mW o am tm jm qm em dm)) H := by rw [← List.append_assoc]; exact hP
  have hD : va_D (fun q : Nat => s.heap.size ≤ q) (xwT sk a t i q c d ++ (Z ++ mW o am tm jm qm em dm)) := by rw [← List.append_assoc]; exact hD
  refine lv_pop hx hb dL_law_324 rfl ?_
  refine lv_goto (tgt := 1461) hx hb dL_law_325 (by decide) ?_
  exact kk i q c d jm qm em dm _ _ _ ⟨hI, hs_F, hs_P, htr, hM, hs_S, hs_J, hR⟩ hP hD hS (lv_sub hl [0, 1, 2, 3] rfl)

set_option maxHeartbeats 4000000 in
set_option maxRecDepth 100000 in
theorem law_bulk {p : Program} {l : Launch} {e : Env} {s : State} {m : MethodId} {below : List Frame} {meth : Method} {cd : Code} {b L : Nat} {xs : Nat → Int32} {D : va_G} {a : Nat → Nat} {t : Nat → ClassId} {o : Nat} {am : Nat → Nat} {tm : Nat → ClassId} {x3 : Int32} {cells slots : Nat} {sk : Value} {Z : va_W} (hx : p.tables.exec = Jvm.exec) (hb : cd.code = cL_law) (hml : cd.maxLocals = 4) (hown : s.vm.findClass RL = some m.cls) (hts : ∀ w ∈ wm_law, w.before #[Value.ref b] s = true) (hX : va_X b L xs s s.heap) (hbl : b < s.heap.size) (hL : L ≤ 3584) (hN : xN s) (hZ : xZ (a 186) s s.heap) (hKT : va_K D vwCl (xtT t) s) (hKM : va_K D vwCl (mT tm) s) (hcs : cells ≤ 600000 ∧ slots ≤ 7302249) (hx3 : 0 ≤ x3.toInt ∧ x3.toInt + 7 ≤ (L : Int)) (kk : LK p l e s m below meth cd b D sk a t Z o am tm x3 cells slots) (i : Nat → Int32) (q : Int64) (c : Nat → Nat → Int32) (d : Nat → Nat → Int64) (jm : Nat → Int32) (qm : Int64) (em : Nat → Nat → Int32) (dm : Nat → Nat → Int64) (H : Heap) (locs : List Loc) (ls : Array Slot) (hLI : LI i c jm em) (hP : va_P D vwCl (xwT sk a t i q c d ++ (Z ++ mW o am tm jm qm em dm)) H) (hD : va_D (fun q : Nat => s.heap.size ≤ q) (xwT sk a t i q c d ++ (Z ++ mW o am tm jm qm em dm))) (hS : va_S (fun q : Nat => s.heap.size ≤ q) s.heap H locs) (hl : lv_has ls 4 [(3, .int x3), (2, .ref o), (1, .ref (a 100)), (0, .ref b)]) : W p l e room_1 s m #[Value.ref b] below meth cd H locs cells slots (lw_Z below #[Value.ref b] s) (F0 m 328 ls []) := by
  have hbA : ¬ (fun q : Nat => s.heap.size ≤ q) b := Nat.not_le.mpr hbl
  have hA : ∀ q : Nat, s.heap.size ≤ q → (fun q : Nat => s.heap.size ≤ q) q := fun _ h => h
  obtain ⟨hI, hs_F, hs_P, htr, hM, hs_S, hs_J, hR⟩ := hLI
  refine lv_aload_n hx hb dL_law_328 rfl (lv_at hl 2 rfl) ?_
  refine lv_aload_n hx hb dL_law_329 rfl (lv_at hl 3 rfl) ?_
  refine lv_iload_n hx hb dL_law_330 rfl (lv_at hl 0 rfl) ?_
  refine lv_iconst (v := 1) hx hb dL_law_331 (by decide) ?_
  refine lv_iadd hx hb dL_law_332 ?_
  refine lv_topi (fun x1 ex1 => ?_)
  have tx1 := ti_add (a := x3.toInt) (b := 1) ex1 rfl (by decide) (by omega) (by omega)
  refine va_sld hx hb hX hbl hbA hS (vp_in_iff.mpr (by have h9 : x1.toInt = (x3.toInt + 1) := tx1; omega)) dL_law_333 ?_
  refine lv_topi (fun x2 ex2 => ?_)
  refine lc_i (wr := (Z ++ mW o am tm jm qm em dm)) (va_runV (As := [.int x2]) (rest := []) ⟨hx, hb, hml, hown, hts⟩ (x_X11_bulk l D H.size sk a t i q c d x2 hI htr) (cwV 1 hts gm_law_X11_bulk_32 rfl rfl rfl (by decide +kernel) ⟨Nat.le_of_ble_eq_true rfl, Nat.le_of_ble_eq_true rfl⟩) (yB_V hN (xZ_k hZ hS hA) (xZ_n hZ (vD_l hD)) hKT (vP_l hP) (vD_l hD) (ci := 11) (q0 := 0) rfl rfl) rfl rfl hl.1 rfl (lv_room (Nat.le_of_ble_eq_true rfl)) dL_law_334 hcs) hS hA hP hD (fun r3 u3 H locs hw3 _ hP hD hS => ?_)
  obtain ⟨i3, q3, c3, d3⟩ := u3
  have hw3 : True ∧ xInv i3 c3 ∧ (∀ k, k ∉ ([102, 140, 141] : List Nat) → i3 k = i k) ∧ (∀ k, k ∉ ([101, 139] : List Nat) → c3 k = c k) ∧ ((i3 141).toInt = 0) := hw3
  obtain ⟨hw3, hI, hei3, hec3, hxp3_0⟩ := hw3
  have hP : va_P D vwCl (xwT sk a t i3 q3 c3 d3 ++ (Z ++ mW o am tm jm qm em dm)) H := hP
  have hD : va_D (fun q : Nat => s.heap.size ≤ q) (xwT sk a t i3 q3 c3 d3 ++ (Z ++ mW o am tm jm qm em dm)) := hD
  refine lv_pop hx hb dL_law_337 rfl ?_
  refine lv_aload_n hx hb dL_law_338 rfl (lv_at hl 1 rfl) ?_
  refine lv_aload_n hx hb dL_law_339 rfl (lv_at hl 3 rfl) ?_
  refine lv_iload_n hx hb dL_law_340 rfl (lv_at hl 0 rfl) ?_
  refine lv_iconst (v := 1) hx hb dL_law_341 (by decide) ?_
  refine lv_iadd hx hb dL_law_342 ?_
  refine lv_topi (fun x4 ex4 => ?_)
  have tx4 := ti_add (a := x3.toInt) (b := 1) ex4 rfl (by decide) (by omega) (by omega)
  refine va_sld hx hb hX hbl hbA hS (vp_in_iff.mpr (by have h9 : x4.toInt = (x3.toInt + 1) := tx4; omega)) dL_law_343 ?_
  refine lv_topi (fun x5 ex5 => ?_)
  have hP : va_P D vwCl ((xwT sk a t i3 q3 c3 d3 ++ Z) ++ mW o am tm jm qm em dm) H := by rw [List.append_assoc]; exact hP
  have hD : va_D (fun q : Nat => s.heap.size ≤ q) ((xwT sk a t i3 q3 c3 d3 ++ Z) ++ mW o am tm jm qm em dm) := by rw [List.append_assoc]; exact hD
  refine rc_i (wr := (xwT sk a t i3 q3 c3 d3 ++ Z)) (va_runV (As := [.int x5]) (rest := []) ⟨hx, hb, hml, hown, hts⟩ (s_X12_bulk l D H.size o am tm jm qm em dm x5 hM (gF_acy hs_S hs_J)) (cwV 1 hts gm_law_X12_bulk_35 rfl rfl rfl (by decide +kernel) ⟨Nat.le_of_ble_eq_true rfl, Nat.le_of_ble_eq_true rfl⟩) (pB_V hKM (vP_r hP) (vD_r hD) (ci := 12) (q0 := 0) rfl rfl) rfl rfl hl.1 rfl (lv_room (Nat.le_of_ble_eq_true rfl)) dL_law_344 hcs) hS hA hP hD (fun r6 u6 H locs hw6 hP hD hS => ?_)
  obtain ⟨i6, q6, c6, d6⟩ := u6
  have hw6 : True ∧ mInv i6 c6 ∧ (∀ k, k ∉ ([0, 33, 35, 36] : List Nat) → i6 k = jm k) ∧ (∀ k, k ∉ ([1, 34, 38, 39] : List Nat) → c6 k = em k) := hw6
  obtain ⟨hw6, hM, hei6, hec6⟩ := hw6
  have hP : va_P D vwCl (xwT sk a t i3 q3 c3 d3 ++ (Z ++ mW o am tm i6 q6 c6 d6)) H := by rw [← List.append_assoc]; exact hP
  have hD : va_D (fun q : Nat => s.heap.size ≤ q) (xwT sk a t i3 q3 c3 d3 ++ (Z ++ mW o am tm i6 q6 c6 d6)) := by rw [← List.append_assoc]; exact hD
  refine lv_pop hx hb dL_law_347 rfl ?_
  refine lv_goto (tgt := 1461) hx hb dL_law_348 (by decide) ?_
  exact kk i3 q3 c3 d3 i6 q6 c6 d6 _ _ _ ⟨hI, (by rw [show c3 113 = c 113 from hec3 113 (by decide), show c3 115 = c 115 from hec3 115 (by decide)]; exact hs_F), (by rw [show i3 146 = i 146 from hei3 146 (by decide), show i3 147 = i 147 from hei3 147 (by decide), show i3 148 = i 148 from hei3 148 (by decide), show i3 156 = i 156 from hei3 156 (by decide), show c3 144 = c 144 from hec3 144 (by decide), show c3 145 = c 145 from hec3 145 (by decide), show c3 150 = c 150 from hec3 150 (by decide)]; exact hs_P), hxp3_0, hM, (by rw [show c6 3 = em 3 from hec6 3 (by decide), show c6 6 = em 6 from hec6 6 (by decide), show c6 9 = em 9 from hec6 9 (by decide), show c6 10 = em 10 from hec6 10 (by decide), show c6 11 = em 11 from hec6 11 (by decide), show c6 13 = em 13 from hec6 13 (by decide), show i6 2 = jm 2 from hei6 2 (by decide), show i6 5 = jm 5 from hei6 5 (by decide), show i6 8 = jm 8 from hei6 8 (by decide)]; exact hs_S), (by rw [show c6 3 = em 3 from hec6 3 (by decide), show c6 6 = em 6 from hec6 6 (by decide), show c6 23 = em 23 from hec6 23 (by decide), show c6 24 = em 24 from hec6 24 (by decide), show c6 29 = em 29 from hec6 29 (by decide), show c6 30 = em 30 from hec6 30 (by decide), show i6 5 = jm 5 from hei6 5 (by decide), show i6 22 = jm 22 from hei6 22 (by decide), show i6 27 = jm 27 from hei6 27 (by decide)]; exact hs_J), (by rw [show i3 110 = i 110 from hei3 110 (by decide), show i6 2 = jm 2 from hei6 2 (by decide)]; exact hR)⟩ hP hD hS (lv_sub hl [0, 1, 2, 3] rfl)

set_option maxHeartbeats 4000000 in
set_option maxRecDepth 100000 in
theorem law_asked {p : Program} {l : Launch} {e : Env} {s : State} {m : MethodId} {below : List Frame} {meth : Method} {cd : Code} {b L : Nat} {xs : Nat → Int32} {D : va_G} {a : Nat → Nat} {t : Nat → ClassId} {o : Nat} {am : Nat → Nat} {tm : Nat → ClassId} {x3 : Int32} {cells slots : Nat} {sk : Value} {Z : va_W} (hx : p.tables.exec = Jvm.exec) (hb : cd.code = cL_law) (hml : cd.maxLocals = 4) (hown : s.vm.findClass RL = some m.cls) (hts : ∀ w ∈ wm_law, w.before #[Value.ref b] s = true) (hX : va_X b L xs s s.heap) (hbl : b < s.heap.size) (hL : L ≤ 3584) (hN : xN s) (hZ : xZ (a 186) s s.heap) (hKT : va_K D vwCl (xtT t) s) (hKM : va_K D vwCl (mT tm) s) (hcs : cells ≤ 600000 ∧ slots ≤ 7302249) (hx3 : 0 ≤ x3.toInt ∧ x3.toInt + 7 ≤ (L : Int)) (kk : LK p l e s m below meth cd b D sk a t Z o am tm x3 cells slots) (i : Nat → Int32) (q : Int64) (c : Nat → Nat → Int32) (d : Nat → Nat → Int64) (jm : Nat → Int32) (qm : Int64) (em : Nat → Nat → Int32) (dm : Nat → Nat → Int64) (H : Heap) (locs : List Loc) (ls : Array Slot) (hLI : LI i c jm em) (hP : va_P D vwCl (xwT sk a t i q c d ++ (Z ++ mW o am tm jm qm em dm)) H) (hD : va_D (fun q : Nat => s.heap.size ≤ q) (xwT sk a t i q c d ++ (Z ++ mW o am tm jm qm em dm))) (hS : va_S (fun q : Nat => s.heap.size ≤ q) s.heap H locs) (hl : lv_has ls 4 [(3, .int x3), (2, .ref o), (1, .ref (a 100)), (0, .ref b)]) : W p l e room_1 s m #[Value.ref b] below meth cd H locs cells slots (lw_Z below #[Value.ref b] s) (F0 m 351 ls []) := by
  have hbA : ¬ (fun q : Nat => s.heap.size ≤ q) b := Nat.not_le.mpr hbl
  have hA : ∀ q : Nat, s.heap.size ≤ q → (fun q : Nat => s.heap.size ≤ q) q := fun _ h => h
  obtain ⟨hI, hs_F, hs_P, htr, hM, hs_S, hs_J, hR⟩ := hLI
  refine lv_aload_n hx hb dL_law_351 rfl (lv_at hl 2 rfl) ?_
  refine ro_calll (va_runV (As := []) (rest := []) ⟨hx, hb, hml, hown, hts⟩ (x_X11_asked l D H.size sk a t i q c d  hI ) (cwV 0 hts gm_law_X11_asked_36 rfl rfl rfl (by decide +kernel) ⟨Nat.le_of_ble_eq_true rfl, Nat.le_of_ble_eq_true rfl⟩) (yA_V hN (xZ_k hZ hS hA) hKT (vP_l hP) (ci := 11) (q0 := 0) rfl rfl) rfl rfl hl.1 rfl (lv_room (Nat.le_of_ble_eq_true rfl)) dL_law_352 hcs) hS hA hP (fun r1 u1 H locs hw1 hP hS => ?_)
  refine lv_pop2_2 hx hb dL_law_355 rfl ?_
  refine lv_aload_n hx hb dL_law_356 rfl (lv_at hl 1 rfl) ?_
  have hP : va_P D vwCl ((xwT sk a t i q c d ++ Z) ++ mW o am tm jm qm em dm) H := by rw [List.append_assoc]; exact hP
  have hD : va_D (fun q : Nat => s.heap.size ≤ q) ((xwT sk a t i q c d ++ Z) ++ mW o am tm jm qm em dm) := by rw [List.append_assoc]; exact hD
  refine ro_calll (va_runV (As := []) (rest := []) ⟨hx, hb, hml, hown, hts⟩ (s_X12_asked l D H.size o am tm jm qm em dm  hM ) (cwV 0 hts gm_law_X12_asked_40 rfl rfl rfl (by decide +kernel) ⟨Nat.le_of_ble_eq_true rfl, Nat.le_of_ble_eq_true rfl⟩) (pA_V hKM (vP_r hP) (ci := 12) (q0 := 0) rfl rfl) rfl rfl hl.1 rfl (lv_room (Nat.le_of_ble_eq_true rfl)) dL_law_357 hcs) hS hA hP (fun r2 u2 H locs hw2 hP hS => ?_)
  have hP : va_P D vwCl (xwT sk a t i q c d ++ (Z ++ mW o am tm jm qm em dm)) H := by rw [← List.append_assoc]; exact hP
  have hD : va_D (fun q : Nat => s.heap.size ≤ q) (xwT sk a t i q c d ++ (Z ++ mW o am tm jm qm em dm)) := by rw [← List.append_assoc]; exact hD
  refine lv_pop2_2 hx hb dL_law_360 rfl ?_
  refine lv_goto (tgt := 1461) hx hb dL_law_361 (by decide) ?_
  exact kk i q c d jm qm em dm _ _ _ ⟨hI, hs_F, hs_P, htr, hM, hs_S, hs_J, hR⟩ hP hD hS (lv_sub hl [0, 1, 2, 3] rfl)

set_option maxHeartbeats 4000000 in
set_option maxRecDepth 100000 in
theorem law_trace {p : Program} {l : Launch} {e : Env} {s : State} {m : MethodId} {below : List Frame} {meth : Method} {cd : Code} {b L : Nat} {xs : Nat → Int32} {D : va_G} {a : Nat → Nat} {t : Nat → ClassId} {o : Nat} {am : Nat → Nat} {tm : Nat → ClassId} {x3 : Int32} {cells slots : Nat} {sk : Value} {Z : va_W} (hx : p.tables.exec = Jvm.exec) (hb : cd.code = cL_law) (hml : cd.maxLocals = 4) (hown : s.vm.findClass RL = some m.cls) (hts : ∀ w ∈ wm_law, w.before #[Value.ref b] s = true) (hX : va_X b L xs s s.heap) (hbl : b < s.heap.size) (hL : L ≤ 3584) (hN : xN s) (hZ : xZ (a 186) s s.heap) (hKT : va_K D vwCl (xtT t) s) (hKM : va_K D vwCl (mT tm) s) (hcs : cells ≤ 600000 ∧ slots ≤ 7302249) (hx3 : 0 ≤ x3.toInt ∧ x3.toInt + 7 ≤ (L : Int)) (kk : LK p l e s m below meth cd b D sk a t Z o am tm x3 cells slots) (i : Nat → Int32) (q : Int64) (c : Nat → Nat → Int32) (d : Nat → Nat → Int64) (jm : Nat → Int32) (qm : Int64) (em : Nat → Nat → Int32) (dm : Nat → Nat → Int64) (H : Heap) (locs : List Loc) (ls : Array Slot) (hLI : LI i c jm em) (hP : va_P D vwCl (xwT sk a t i q c d ++ (Z ++ mW o am tm jm qm em dm)) H) (hD : va_D (fun q : Nat => s.heap.size ≤ q) (xwT sk a t i q c d ++ (Z ++ mW o am tm jm qm em dm))) (hS : va_S (fun q : Nat => s.heap.size ≤ q) s.heap H locs) (hl : lv_has ls 4 [(3, .int x3), (2, .ref o), (1, .ref (a 100)), (0, .ref b)]) : W p l e room_1 s m #[Value.ref b] below meth cd H locs cells slots (lw_Z below #[Value.ref b] s) (F0 m 364 ls []) := by
  have hbA : ¬ (fun q : Nat => s.heap.size ≤ q) b := Nat.not_le.mpr hbl
  have hA : ∀ q : Nat, s.heap.size ≤ q → (fun q : Nat => s.heap.size ≤ q) q := fun _ h => h
  obtain ⟨hI, hs_F, hs_P, htr, hM, hs_S, hs_J, hR⟩ := hLI
  refine lv_aload_n hx hb dL_law_364 rfl (lv_at hl 2 rfl) ?_
  refine lv_aload_n hx hb dL_law_365 rfl (lv_at hl 3 rfl) ?_
  refine lv_iload_n hx hb dL_law_366 rfl (lv_at hl 0 rfl) ?_
  refine lv_iconst (v := 1) hx hb dL_law_367 (by decide) ?_
  refine lv_iadd hx hb dL_law_368 ?_
  refine lv_topi (fun x1 ex1 => ?_)
  have tx1 := ti_add (a := x3.toInt) (b := 1) ex1 rfl (by decide) (by omega) (by omega)
  refine va_sld hx hb hX hbl hbA hS (vp_in_iff.mpr (by have h9 : x1.toInt = (x3.toInt + 1) := tx1; omega)) dL_law_369 ?_
  refine lv_topi (fun x2 ex2 => ?_)
  refine ro_calli (va_runV (As := [.int x2]) (rest := []) ⟨hx, hb, hml, hown, hts⟩ (x_X11_trace l D H.size sk a t i q c d x2 hI ) (cwV 1 hts gm_law_X11_trace_41 rfl rfl rfl (by decide +kernel) ⟨Nat.le_of_ble_eq_true rfl, Nat.le_of_ble_eq_true rfl⟩) (yA_V hN (xZ_k hZ hS hA) hKT (vP_l hP) (ci := 11) (q0 := 0) rfl rfl) rfl rfl hl.1 rfl (lv_room (Nat.le_of_ble_eq_true rfl)) dL_law_370 hcs) hS hA hP (fun r3 u3 H locs hw3 hP hS => ?_)
  refine lv_pop hx hb dL_law_373 rfl ?_
  refine lv_aload_n hx hb dL_law_374 rfl (lv_at hl 1 rfl) ?_
  refine lv_aload_n hx hb dL_law_375 rfl (lv_at hl 3 rfl) ?_
  refine lv_iload_n hx hb dL_law_376 rfl (lv_at hl 0 rfl) ?_
  refine lv_iconst (v := 1) hx hb dL_law_377 (by decide) ?_
  refine lv_iadd hx hb dL_law_378 ?_
  refine lv_topi (fun x4 ex4 => ?_)
  have tx4 := ti_add (a := x3.toInt) (b := 1) ex4 rfl (by decide) (by omega) (by omega)
  refine va_sld hx hb hX hbl hbA hS (vp_in_iff.mpr (by have h9 : x4.toInt = (x3.toInt + 1) := tx4; omega)) dL_law_379 ?_
  refine lv_topi (fun x5 ex5 => ?_)
  have hP : va_P D vwCl ((xwT sk a t i q c d ++ Z) ++ mW o am tm jm qm em dm) H := by rw [List.append_assoc]; exact hP
  have hD : va_D (fun q : Nat => s.heap.size ≤ q) ((xwT sk a t i q c d ++ Z) ++ mW o am tm jm qm em dm) := by rw [List.append_assoc]; exact hD
  refine ro_calli (va_runV (As := [.int x5]) (rest := []) ⟨hx, hb, hml, hown, hts⟩ (s_X12_trace l D H.size o am tm jm qm em dm x5 hM ) (cwV 1 hts gm_law_X12_trace_44 rfl rfl rfl (by decide +kernel) ⟨Nat.le_of_ble_eq_true rfl, Nat.le_of_ble_eq_true rfl⟩) (pA_V hKM (vP_r hP) (ci := 12) (q0 := 0) rfl rfl) rfl rfl hl.1 rfl (lv_room (Nat.le_of_ble_eq_true rfl)) dL_law_380 hcs) hS hA hP (fun r6 u6 H locs hw6 hP hS => ?_)
  have hP : va_P D vwCl (xwT sk a t i q c d ++ (Z ++ mW o am tm jm qm em dm)) H := by rw [← List.append_assoc]; exact hP
  have hD : va_D (fun q : Nat => s.heap.size ≤ q) (xwT sk a t i q c d ++ (Z ++ mW o am tm jm qm em dm)) := by rw [← List.append_assoc]; exact hD
  refine lv_pop hx hb dL_law_383 rfl ?_
  refine lv_goto (tgt := 1461) hx hb dL_law_384 (by decide) ?_
  exact kk i q c d jm qm em dm _ _ _ ⟨hI, hs_F, hs_P, htr, hM, hs_S, hs_J, hR⟩ hP hD hS (lv_sub hl [0, 1, 2, 3] rfl)

set_option maxHeartbeats 4000000 in
set_option maxRecDepth 100000 in
theorem law_share {p : Program} {l : Launch} {e : Env} {s : State} {m : MethodId} {below : List Frame} {meth : Method} {cd : Code} {b L : Nat} {xs : Nat → Int32} {D : va_G} {a : Nat → Nat} {t : Nat → ClassId} {o : Nat} {am : Nat → Nat} {tm : Nat → ClassId} {x3 : Int32} {cells slots : Nat} {sk : Value} {Z : va_W} (hx : p.tables.exec = Jvm.exec) (hb : cd.code = cL_law) (hml : cd.maxLocals = 4) (hown : s.vm.findClass RL = some m.cls) (hts : ∀ w ∈ wm_law, w.before #[Value.ref b] s = true) (hX : va_X b L xs s s.heap) (hbl : b < s.heap.size) (hL : L ≤ 3584) (hN : xN s) (hZ : xZ (a 186) s s.heap) (hKT : va_K D vwCl (xtT t) s) (hKM : va_K D vwCl (mT tm) s) (hcs : cells ≤ 600000 ∧ slots ≤ 7302249) (hx3 : 0 ≤ x3.toInt ∧ x3.toInt + 7 ≤ (L : Int)) (kk : LK p l e s m below meth cd b D sk a t Z o am tm x3 cells slots) (i : Nat → Int32) (q : Int64) (c : Nat → Nat → Int32) (d : Nat → Nat → Int64) (jm : Nat → Int32) (qm : Int64) (em : Nat → Nat → Int32) (dm : Nat → Nat → Int64) (H : Heap) (locs : List Loc) (ls : Array Slot) (hLI : LI i c jm em) (hP : va_P D vwCl (xwT sk a t i q c d ++ (Z ++ mW o am tm jm qm em dm)) H) (hD : va_D (fun q : Nat => s.heap.size ≤ q) (xwT sk a t i q c d ++ (Z ++ mW o am tm jm qm em dm))) (hS : va_S (fun q : Nat => s.heap.size ≤ q) s.heap H locs) (hl : lv_has ls 4 [(3, .int x3), (2, .ref o), (1, .ref (a 100)), (0, .ref b)]) : W p l e room_1 s m #[Value.ref b] below meth cd H locs cells slots (lw_Z below #[Value.ref b] s) (F0 m 387 ls []) := by
  have hbA : ¬ (fun q : Nat => s.heap.size ≤ q) b := Nat.not_le.mpr hbl
  have hA : ∀ q : Nat, s.heap.size ≤ q → (fun q : Nat => s.heap.size ≤ q) q := fun _ h => h
  obtain ⟨hI, hs_F, hs_P, htr, hM, hs_S, hs_J, hR⟩ := hLI
  refine lv_aload_n hx hb dL_law_387 rfl (lv_at hl 2 rfl) ?_
  refine lv_aload_n hx hb dL_law_388 rfl (lv_at hl 3 rfl) ?_
  refine lv_iload_n hx hb dL_law_389 rfl (lv_at hl 0 rfl) ?_
  refine lv_iconst (v := 1) hx hb dL_law_390 (by decide) ?_
  refine lv_iadd hx hb dL_law_391 ?_
  refine lv_topi (fun x1 ex1 => ?_)
  have tx1 := ti_add (a := x3.toInt) (b := 1) ex1 rfl (by decide) (by omega) (by omega)
  refine va_sld hx hb hX hbl hbA hS (vp_in_iff.mpr (by have h9 : x1.toInt = (x3.toInt + 1) := tx1; omega)) dL_law_392 ?_
  refine lv_topi (fun x2 ex2 => ?_)
  refine lv_aload_n hx hb dL_law_393 rfl (lv_at hl 3 rfl) ?_
  refine lv_iload_n hx hb dL_law_394 rfl (lv_at hl 0 rfl) ?_
  refine lv_iconst (v := 2) hx hb dL_law_395 (by decide) ?_
  refine lv_iadd hx hb dL_law_396 ?_
  refine lv_topi (fun x3 ex3 => ?_)
  have tx3 := ti_add (a := x3.toInt) (b := 2) ex3 rfl (by decide) (by omega) (by omega)
  refine va_sld hx hb hX hbl hbA hS (vp_in_iff.mpr (by have h9 : x3.toInt = (x3.toInt + 2) := tx3; omega)) dL_law_397 ?_
  refine lv_topi (fun x4 ex4 => ?_)
  refine lc_i (wr := (Z ++ mW o am tm jm qm em dm)) (va_runV (As := [.int x2, .int x4]) (rest := []) ⟨hx, hb, hml, hown, hts⟩ (x_X11_share l D H.size sk a t i q c d x2 x4 hI htr) (cwV 2 hts gm_law_X11_share_45 rfl rfl rfl (by decide +kernel) ⟨Nat.le_of_ble_eq_true rfl, Nat.le_of_ble_eq_true rfl⟩) (yB_V hN (xZ_k hZ hS hA) (xZ_n hZ (vD_l hD)) hKT (vP_l hP) (vD_l hD) (ci := 11) (q0 := 0) rfl rfl) rfl rfl hl.1 rfl (lv_room (Nat.le_of_ble_eq_true rfl)) dL_law_398 hcs) hS hA hP hD (fun r5 u5 H locs hw5 _ hP hD hS => ?_)
  obtain ⟨i5, q5, c5, d5⟩ := u5
  have hw5 : True ∧ xInv i5 c5 ∧ (∀ k, k ∉ ([102] : List Nat) → i5 k = i k) ∧ (∀ k, k ∉ ([101] : List Nat) → c5 k = c k) := hw5
  obtain ⟨hw5, hI, hei5, hec5⟩ := hw5
  have hP : va_P D vwCl (xwT sk a t i5 q5 c5 d5 ++ (Z ++ mW o am tm jm qm em dm)) H := hP
  have hD : va_D (fun q : Nat => s.heap.size ≤ q) (xwT sk a t i5 q5 c5 d5 ++ (Z ++ mW o am tm jm qm em dm)) := hD
  refine lv_pop hx hb dL_law_401 rfl ?_
  refine lv_aload_n hx hb dL_law_402 rfl (lv_at hl 1 rfl) ?_
  refine lv_aload_n hx hb dL_law_403 rfl (lv_at hl 3 rfl) ?_
  refine lv_iload_n hx hb dL_law_404 rfl (lv_at hl 0 rfl) ?_
  refine lv_iconst (v := 1) hx hb dL_law_405 (by decide) ?_
  refine lv_iadd hx hb dL_law_406 ?_
  refine lv_topi (fun x6 ex6 => ?_)
  have tx6 := ti_add (a := x3.toInt) (b := 1) ex6 rfl (by decide) (by omega) (by omega)
  refine va_sld hx hb hX hbl hbA hS (vp_in_iff.mpr (by have h9 : x6.toInt = (x3.toInt + 1) := tx6; omega)) dL_law_407 ?_
  refine lv_topi (fun x7 ex7 => ?_)
  refine lv_aload_n hx hb dL_law_408 rfl (lv_at hl 3 rfl) ?_
  refine lv_iload_n hx hb dL_law_409 rfl (lv_at hl 0 rfl) ?_
  refine lv_iconst (v := 2) hx hb dL_law_410 (by decide) ?_
  refine lv_iadd hx hb dL_law_411 ?_
  refine lv_topi (fun x8 ex8 => ?_)
  have tx8 := ti_add (a := x3.toInt) (b := 2) ex8 rfl (by decide) (by omega) (by omega)
  refine va_sld hx hb hX hbl hbA hS (vp_in_iff.mpr (by have h9 : x8.toInt = (x3.toInt + 2) := tx8; omega)) dL_law_412 ?_
  refine lv_topi (fun x9 ex9 => ?_)
  have hP : va_P D vwCl ((xwT sk a t i5 q5 c5 d5 ++ Z) ++ mW o am tm jm qm em dm) H := by rw [List.append_assoc]; exact hP
  have hD : va_D (fun q : Nat => s.heap.size ≤ q) ((xwT sk a t i5 q5 c5 d5 ++ Z) ++ mW o am tm jm qm em dm) := by rw [List.append_assoc]; exact hD
  refine rc_i (wr := (xwT sk a t i5 q5 c5 d5 ++ Z)) (va_runV (As := [.int x7, .int x9]) (rest := []) ⟨hx, hb, hml, hown, hts⟩ (s_X12_share l D H.size o am tm jm qm em dm x7 x9 hM (gF_acy hs_S hs_J)) (cwV 2 hts gm_law_X12_share_48 rfl rfl rfl (by decide +kernel) ⟨Nat.le_of_ble_eq_true rfl, Nat.le_of_ble_eq_true rfl⟩) (pB_V hKM (vP_r hP) (vD_r hD) (ci := 12) (q0 := 0) rfl rfl) rfl rfl hl.1 rfl (lv_room (Nat.le_of_ble_eq_true rfl)) dL_law_413 hcs) hS hA hP hD (fun r10 u10 H locs hw10 hP hD hS => ?_)
  obtain ⟨i10, q10, c10, d10⟩ := u10
  have hw10 : True ∧ mInv i10 c10 ∧ (∀ k, k ∉ ([0, 35, 36] : List Nat) → i10 k = jm k) ∧ (∀ k, k ∉ ([1, 34, 38, 39] : List Nat) → c10 k = em k) := hw10
  obtain ⟨hw10, hM, hei10, hec10⟩ := hw10
  have hP : va_P D vwCl (xwT sk a t i5 q5 c5 d5 ++ (Z ++ mW o am tm i10 q10 c10 d10)) H := by rw [← List.append_assoc]; exact hP
  have hD : va_D (fun q : Nat => s.heap.size ≤ q) (xwT sk a t i5 q5 c5 d5 ++ (Z ++ mW o am tm i10 q10 c10 d10)) := by rw [← List.append_assoc]; exact hD
  refine lv_pop hx hb dL_law_416 rfl ?_
  refine lv_goto (tgt := 1461) hx hb dL_law_417 (by decide) ?_
  exact kk i5 q5 c5 d5 i10 q10 c10 d10 _ _ _ ⟨hI, (by rw [show c5 113 = c 113 from hec5 113 (by decide), show c5 115 = c 115 from hec5 115 (by decide)]; exact hs_F), (by rw [show i5 146 = i 146 from hei5 146 (by decide), show i5 147 = i 147 from hei5 147 (by decide), show i5 148 = i 148 from hei5 148 (by decide), show i5 156 = i 156 from hei5 156 (by decide), show c5 144 = c 144 from hec5 144 (by decide), show c5 145 = c 145 from hec5 145 (by decide), show c5 150 = c 150 from hec5 150 (by decide)]; exact hs_P), (by rw [show i5 141 = i 141 from hei5 141 (by decide)]; exact htr), hM, (by rw [show c10 3 = em 3 from hec10 3 (by decide), show c10 6 = em 6 from hec10 6 (by decide), show c10 9 = em 9 from hec10 9 (by decide), show c10 10 = em 10 from hec10 10 (by decide), show c10 11 = em 11 from hec10 11 (by decide), show c10 13 = em 13 from hec10 13 (by decide), show i10 2 = jm 2 from hei10 2 (by decide), show i10 5 = jm 5 from hei10 5 (by decide), show i10 8 = jm 8 from hei10 8 (by decide)]; exact hs_S), (by rw [show c10 3 = em 3 from hec10 3 (by decide), show c10 6 = em 6 from hec10 6 (by decide), show c10 23 = em 23 from hec10 23 (by decide), show c10 24 = em 24 from hec10 24 (by decide), show c10 29 = em 29 from hec10 29 (by decide), show c10 30 = em 30 from hec10 30 (by decide), show i10 5 = jm 5 from hei10 5 (by decide), show i10 22 = jm 22 from hei10 22 (by decide), show i10 27 = jm 27 from hei10 27 (by decide)]; exact hs_J), (by rw [show i5 110 = i 110 from hei5 110 (by decide), show i10 2 = jm 2 from hei10 2 (by decide)]; exact hR)⟩ hP hD hS (lv_sub hl [0, 1, 2, 3] rfl)

set_option maxHeartbeats 4000000 in
set_option maxRecDepth 100000 in
theorem law_say {p : Program} {l : Launch} {e : Env} {s : State} {m : MethodId} {below : List Frame} {meth : Method} {cd : Code} {b L : Nat} {xs : Nat → Int32} {D : va_G} {a : Nat → Nat} {t : Nat → ClassId} {o : Nat} {am : Nat → Nat} {tm : Nat → ClassId} {x3 : Int32} {cells slots : Nat} {sk : Value} {Z : va_W} (hx : p.tables.exec = Jvm.exec) (hb : cd.code = cL_law) (hml : cd.maxLocals = 4) (hown : s.vm.findClass RL = some m.cls) (hts : ∀ w ∈ wm_law, w.before #[Value.ref b] s = true) (hX : va_X b L xs s s.heap) (hbl : b < s.heap.size) (hL : L ≤ 3584) (hN : xN s) (hZ : xZ (a 186) s s.heap) (hKT : va_K D vwCl (xtT t) s) (hKM : va_K D vwCl (mT tm) s) (hcs : cells ≤ 600000 ∧ slots ≤ 7302249) (hx3 : 0 ≤ x3.toInt ∧ x3.toInt + 7 ≤ (L : Int)) (kk : LK p l e s m below meth cd b D sk a t Z o am tm x3 cells slots) (i : Nat → Int32) (q : Int64) (c : Nat → Nat → Int32) (d : Nat → Nat → Int64) (jm : Nat → Int32) (qm : Int64) (em : Nat → Nat → Int32) (dm : Nat → Nat → Int64) (H : Heap) (locs : List Loc) (ls : Array Slot) (hLI : LI i c jm em) (hP : va_P D vwCl (xwT sk a t i q c d ++ (Z ++ mW o am tm jm qm em dm)) H) (hD : va_D (fun q : Nat => s.heap.size ≤ q) (xwT sk a t i q c d ++ (Z ++ mW o am tm jm qm em dm))) (hS : va_S (fun q : Nat => s.heap.size ≤ q) s.heap H locs) (hl : lv_has ls 4 [(3, .int x3), (2, .ref o), (1, .ref (a 100)), (0, .ref b)]) : W p l e room_1 s m #[Value.ref b] below meth cd H locs cells slots (lw_Z below #[Value.ref b] s) (F0 m 420 ls []) := by
  have hbA : ¬ (fun q : Nat => s.heap.size ≤ q) b := Nat.not_le.mpr hbl
  have hA : ∀ q : Nat, s.heap.size ≤ q → (fun q : Nat => s.heap.size ≤ q) q := fun _ h => h
  obtain ⟨hI, hs_F, hs_P, htr, hM, hs_S, hs_J, hR⟩ := hLI
  refine lv_aload_n hx hb dL_law_420 rfl (lv_at hl 2 rfl) ?_
  refine lv_aload_n hx hb dL_law_421 rfl (lv_at hl 3 rfl) ?_
  refine lv_iload_n hx hb dL_law_422 rfl (lv_at hl 0 rfl) ?_
  refine lv_iconst (v := 1) hx hb dL_law_423 (by decide) ?_
  refine lv_iadd hx hb dL_law_424 ?_
  refine lv_topi (fun x1 ex1 => ?_)
  have tx1 := ti_add (a := x3.toInt) (b := 1) ex1 rfl (by decide) (by omega) (by omega)
  refine va_sld hx hb hX hbl hbA hS (vp_in_iff.mpr (by have h9 : x1.toInt = (x3.toInt + 1) := tx1; omega)) dL_law_425 ?_
  refine lv_topi (fun x2 ex2 => ?_)
  refine lv_aload_n hx hb dL_law_426 rfl (lv_at hl 3 rfl) ?_
  refine lv_iload_n hx hb dL_law_427 rfl (lv_at hl 0 rfl) ?_
  refine lv_iconst (v := 2) hx hb dL_law_428 (by decide) ?_
  refine lv_iadd hx hb dL_law_429 ?_
  refine lv_topi (fun x3 ex3 => ?_)
  have tx3 := ti_add (a := x3.toInt) (b := 2) ex3 rfl (by decide) (by omega) (by omega)
  refine va_sld hx hb hX hbl hbA hS (vp_in_iff.mpr (by have h9 : x3.toInt = (x3.toInt + 2) := tx3; omega)) dL_law_430 ?_
  refine lv_topi (fun x4 ex4 => ?_)
  refine lv_aload_n hx hb dL_law_431 rfl (lv_at hl 3 rfl) ?_
  refine lv_iload_n hx hb dL_law_432 rfl (lv_at hl 0 rfl) ?_
  refine lv_iconst (v := 3) hx hb dL_law_433 (by decide) ?_
  refine lv_iadd hx hb dL_law_434 ?_
  refine lv_topi (fun x5 ex5 => ?_)
  have tx5 := ti_add (a := x3.toInt) (b := 3) ex5 rfl (by decide) (by omega) (by omega)
  refine va_sld hx hb hX hbl hbA hS (vp_in_iff.mpr (by have h9 : x5.toInt = (x3.toInt + 3) := tx5; omega)) dL_law_435 ?_
  refine lv_topi (fun x6 ex6 => ?_)
  refine lv_aload_n hx hb dL_law_436 rfl (lv_at hl 3 rfl) ?_
  refine lv_iload_n hx hb dL_law_437 rfl (lv_at hl 0 rfl) ?_
  refine lv_iconst (v := 4) hx hb dL_law_438 (by decide) ?_
  refine lv_iadd hx hb dL_law_439 ?_
  refine lv_topi (fun x7 ex7 => ?_)
  have tx7 := ti_add (a := x3.toInt) (b := 4) ex7 rfl (by decide) (by omega) (by omega)
  refine va_sld hx hb hX hbl hbA hS (vp_in_iff.mpr (by have h9 : x7.toInt = (x3.toInt + 4) := tx7; omega)) dL_law_440 ?_
  refine lv_topi (fun x8 ex8 => ?_)
  refine lc_i (wr := (Z ++ mW o am tm jm qm em dm)) (va_runV (As := [.int x2, .int x4, .int x6, .int x8]) (rest := []) ⟨hx, hb, hml, hown, hts⟩ (x_X11_say l D H.size sk a t i q c d x2 x4 x6 x8 hI hs_F) (cwV 4 hts gm_law_X11_say_49 rfl rfl rfl (by decide +kernel) ⟨Nat.le_of_ble_eq_true rfl, Nat.le_of_ble_eq_true rfl⟩) (yB_V hN (xZ_k hZ hS hA) (xZ_n hZ (vD_l hD)) hKT (vP_l hP) (vD_l hD) (ci := 11) (q0 := 0) rfl rfl) rfl rfl hl.1 rfl (lv_room (Nat.le_of_ble_eq_true rfl)) dL_law_441 hcs) hS hA hP hD (fun r9 u9 H locs hw9 _ hP hD hS => ?_)
  obtain ⟨i9, q9, c9, d9⟩ := u9
  have hw9 : True ∧ xInv i9 c9 ∧ (∀ k, k ∉ ([102, 123, 124, 125, 146, 148] : List Nat) → i9 k = i k) ∧ (∀ k, k ∉ ([101, 113, 114, 115, 116, 117, 118, 119, 120, 121, 122, 127, 129, 130, 131, 132, 133, 134] : List Nat) → c9 k = c k) ∧ (xEn (i 146) (i 148) (i9 146) (i9 148)) ∧ (xFl (c9 113) (c9 115)) := hw9
  obtain ⟨hw9, hI, hei9, hec9, hxp9_0, hxp9_1⟩ := hw9
  have hP : va_P D vwCl (xwT sk a t i9 q9 c9 d9 ++ (Z ++ mW o am tm jm qm em dm)) H := hP
  have hD : va_D (fun q : Nat => s.heap.size ≤ q) (xwT sk a t i9 q9 c9 d9 ++ (Z ++ mW o am tm jm qm em dm)) := hD
  refine lv_pop hx hb dL_law_444 rfl ?_
  refine lv_aload_n hx hb dL_law_445 rfl (lv_at hl 1 rfl) ?_
  refine lv_aload_n hx hb dL_law_446 rfl (lv_at hl 3 rfl) ?_
  refine lv_iload_n hx hb dL_law_447 rfl (lv_at hl 0 rfl) ?_
  refine lv_iconst (v := 1) hx hb dL_law_448 (by decide) ?_
  refine lv_iadd hx hb dL_law_449 ?_
  refine lv_topi (fun x10 ex10 => ?_)
  have tx10 := ti_add (a := x3.toInt) (b := 1) ex10 rfl (by decide) (by omega) (by omega)
  refine va_sld hx hb hX hbl hbA hS (vp_in_iff.mpr (by have h9 : x10.toInt = (x3.toInt + 1) := tx10; omega)) dL_law_450 ?_
  refine lv_topi (fun x11 ex11 => ?_)
  refine lv_aload_n hx hb dL_law_451 rfl (lv_at hl 3 rfl) ?_
  refine lv_iload_n hx hb dL_law_452 rfl (lv_at hl 0 rfl) ?_
  refine lv_iconst (v := 2) hx hb dL_law_453 (by decide) ?_
  refine lv_iadd hx hb dL_law_454 ?_
  refine lv_topi (fun x12 ex12 => ?_)
  have tx12 := ti_add (a := x3.toInt) (b := 2) ex12 rfl (by decide) (by omega) (by omega)
  refine va_sld hx hb hX hbl hbA hS (vp_in_iff.mpr (by have h9 : x12.toInt = (x3.toInt + 2) := tx12; omega)) dL_law_455 ?_
  refine lv_topi (fun x13 ex13 => ?_)
  refine lv_aload_n hx hb dL_law_456 rfl (lv_at hl 3 rfl) ?_
  refine lv_iload_n hx hb dL_law_457 rfl (lv_at hl 0 rfl) ?_
  refine lv_iconst (v := 3) hx hb dL_law_458 (by decide) ?_
  refine lv_iadd hx hb dL_law_459 ?_
  refine lv_topi (fun x14 ex14 => ?_)
  have tx14 := ti_add (a := x3.toInt) (b := 3) ex14 rfl (by decide) (by omega) (by omega)
  refine va_sld hx hb hX hbl hbA hS (vp_in_iff.mpr (by have h9 : x14.toInt = (x3.toInt + 3) := tx14; omega)) dL_law_460 ?_
  refine lv_topi (fun x15 ex15 => ?_)
  refine lv_aload_n hx hb dL_law_461 rfl (lv_at hl 3 rfl) ?_
  refine lv_iload_n hx hb dL_law_462 rfl (lv_at hl 0 rfl) ?_
  refine lv_iconst (v := 4) hx hb dL_law_463 (by decide) ?_
  refine lv_iadd hx hb dL_law_464 ?_
  refine lv_topi (fun x16 ex16 => ?_)
  have tx16 := ti_add (a := x3.toInt) (b := 4) ex16 rfl (by decide) (by omega) (by omega)
  refine va_sld hx hb hX hbl hbA hS (vp_in_iff.mpr (by have h9 : x16.toInt = (x3.toInt + 4) := tx16; omega)) dL_law_465 ?_
  refine lv_topi (fun x17 ex17 => ?_)
  have hP : va_P D vwCl ((xwT sk a t i9 q9 c9 d9 ++ Z) ++ mW o am tm jm qm em dm) H := by rw [List.append_assoc]; exact hP
  have hD : va_D (fun q : Nat => s.heap.size ≤ q) ((xwT sk a t i9 q9 c9 d9 ++ Z) ++ mW o am tm jm qm em dm) := by rw [List.append_assoc]; exact hD
  refine rc_i (wr := (xwT sk a t i9 q9 c9 d9 ++ Z)) (va_runV (As := [.int x11, .int x13, .int x15, .int x17]) (rest := []) ⟨hx, hb, hml, hown, hts⟩ (s_X12_say l D H.size o am tm jm qm em dm x11 x13 x15 x17 hM hs_S hs_J) (cwV 4 hts gm_law_X12_say_53 rfl rfl rfl (by decide +kernel) ⟨Nat.le_of_ble_eq_true rfl, Nat.le_of_ble_eq_true rfl⟩) (pB_V hKM (vP_r hP) (vD_r hD) (ci := 12) (q0 := 0) rfl rfl) rfl rfl hl.1 rfl (lv_room (Nat.le_of_ble_eq_true rfl)) dL_law_466 hcs) hS hA hP hD (fun r18 u18 H locs hw18 hP hD hS => ?_)
  obtain ⟨i18, q18, c18, d18⟩ := u18
  have hw18 : True ∧ mInv i18 c18 ∧ (∀ k, k ∉ ([0, 8, 15, 22, 27] : List Nat) → i18 k = jm k) ∧ (∀ k, k ∉ ([1, 9, 10, 11, 12, 13, 14] : List Nat) → c18 k = em k) ∧ (SJ (c18 3) (c18 6) (c18 9) (c18 10) (c18 11) (c18 13) (i18 2).toInt (i18 5).toInt (i18 8).toInt) ∧ (TJ (c18 3) (c18 6) (c18 23) (c18 24) (c18 29) (c18 30) (i18 5).toInt (i18 22).toInt (i18 27).toInt) := hw18
  obtain ⟨hw18, hM, hei18, hec18, hxp18_0, hxp18_1⟩ := hw18
  have hP : va_P D vwCl (xwT sk a t i9 q9 c9 d9 ++ (Z ++ mW o am tm i18 q18 c18 d18)) H := by rw [← List.append_assoc]; exact hP
  have hD : va_D (fun q : Nat => s.heap.size ≤ q) (xwT sk a t i9 q9 c9 d9 ++ (Z ++ mW o am tm i18 q18 c18 d18)) := by rw [← List.append_assoc]; exact hD
  refine lv_pop hx hb dL_law_469 rfl ?_
  refine lv_goto (tgt := 1461) hx hb dL_law_470 (by decide) ?_
  exact kk i9 q9 c9 d9 i18 q18 c18 d18 _ _ _ ⟨hI, hxp9_1, (by rw [show i9 147 = i 147 from hei9 147 (by decide), show i9 156 = i 156 from hei9 156 (by decide), show c9 150 = c 150 from hec9 150 (by decide), show c9 144 = c 144 from hec9 144 (by decide), show c9 145 = c 145 from hec9 145 (by decide)]; exact PJ_en hs_P hxp9_0), (by rw [show i9 141 = i 141 from hei9 141 (by decide)]; exact htr), hM, hxp18_0, hxp18_1, (by rw [show i9 110 = i 110 from hei9 110 (by decide), show i18 2 = jm 2 from hei18 2 (by decide)]; exact hR)⟩ hP hD hS (lv_sub hl [0, 1, 2, 3] rfl)

