set_option maxHeartbeats 4000000 in
set_option maxRecDepth 100000 in
theorem law_unsay {p : Program} {l : Launch} {e : Env} {s : State} {m : MethodId} {below : List Frame} {meth : Method} {cd : Code} {b L : Nat} {xs : Nat → Int32} {D : va_G} {a : Nat → Nat} {t : Nat → ClassId} {o : Nat} {am : Nat → Nat} {tm : Nat → ClassId} {x3 : Int32} {cells slots : Nat} {sk : Value} {Z : va_W} (hx : p.tables.exec = Jvm.exec) (hb : cd.code = cL_law) (hml : cd.maxLocals = 4) (hown : s.vm.findClass RL = some m.cls) (hts : ∀ w ∈ wm_law, w.before #[Value.ref b] s = true) (hX : va_X b L xs s s.heap) (hbl : b < s.heap.size) (hL : L ≤ 3584) (hN : xN s) (hZ : xZ (a 186) s s.heap) (hKT : va_K D vwCl (xtT t) s) (hKM : va_K D vwCl (mT tm) s) (hcs : cells ≤ 600000 ∧ slots ≤ 7302249) (hx3 : 0 ≤ x3.toInt ∧ x3.toInt + 7 ≤ (L : Int)) (kk : LK p l e s m below meth cd b D sk a t Z o am tm x3 cells slots) (i : Nat → Int32) (q : Int64) (c : Nat → Nat → Int32) (d : Nat → Nat → Int64) (jm : Nat → Int32) (qm : Int64) (em : Nat → Nat → Int32) (dm : Nat → Nat → Int64) (H : Heap) (locs : List Loc) (ls : Array Slot) (hLI : LI i c jm em) (hP : va_P D vwCl (xwT sk a t i q c d ++ (Z ++ mW o am tm jm qm em dm)) H) (hD : va_D (fun q : Nat => s.heap.size ≤ q) (xwT sk a t i q c d ++ (Z ++ mW o am tm jm qm em dm))) (hS : va_S (fun q : Nat => s.heap.size ≤ q) s.heap H locs) (hl : lv_has ls 4 [(3, .int x3), (2, .ref o), (1, .ref (a 100)), (0, .ref b)]) : W p l e room_1 s m #[Value.ref b] below meth cd H locs cells slots (lw_Z below #[Value.ref b] s) (F0 m 473 ls []) := by
  have hbA : ¬ (fun q : Nat => s.heap.size ≤ q) b := Nat.not_le.mpr hbl
  have hA : ∀ q : Nat, s.heap.size ≤ q → (fun q : Nat => s.heap.size ≤ q) q := fun _ h => h
  obtain ⟨hI, hs_F, hs_P, htr, hM, hs_S, hs_J, hR⟩ := hLI
  refine lv_aload_n hx hb dL_law_473 rfl (lv_at hl 2 rfl) ?_
  refine lv_aload_n hx hb dL_law_474 rfl (lv_at hl 3 rfl) ?_
  refine lv_iload_n hx hb dL_law_475 rfl (lv_at hl 0 rfl) ?_
  refine lv_iconst (v := 1) hx hb dL_law_476 (by decide) ?_
  refine lv_iadd hx hb dL_law_477 ?_
  refine lv_topi (fun x1 ex1 => ?_)
  have tx1 := ti_add (a := x3.toInt) (b := 1) ex1 rfl (by decide) (by omega) (by omega)
  refine va_sld hx hb hX hbl hbA hS (vp_in_iff.mpr (by have h9 : x1.toInt = (x3.toInt + 1) := tx1; omega)) dL_law_478 ?_
  refine lv_topi (fun x2 ex2 => ?_)
  refine lc_i (wr := (Z ++ mW o am tm jm qm em dm)) (va_runV (As := [.int x2]) (rest := []) ⟨hx, hb, hml, hown, hts⟩ (x_X11_unsay l D H.size sk a t i q c d x2 hI hs_F) (cwV 1 hts gm_law_X11_unsay_54 rfl rfl rfl (by decide +kernel) ⟨Nat.le_of_ble_eq_true rfl, Nat.le_of_ble_eq_true rfl⟩) (yB_V hN (xZ_k hZ hS hA) (xZ_n hZ (vD_l hD)) hKT (vP_l hP) (vD_l hD) (ci := 11) (q0 := 0) rfl rfl) rfl rfl hl.1 rfl (lv_room (Nat.le_of_ble_eq_true rfl)) dL_law_479 hcs) hS hA hP hD (fun r3 u3 H locs hw3 _ hP hD hS => ?_)
  obtain ⟨i3, q3, c3, d3⟩ := u3
  have hw3 : True ∧ xInv i3 c3 ∧ (∀ k, k ∉ ([125, 146, 148] : List Nat) → i3 k = i k) ∧ (∀ k, k ∉ ([117, 118, 119, 120, 121, 127, 129, 130, 131, 132, 133, 134] : List Nat) → c3 k = c k) ∧ (xEn (i 146) (i 148) (i3 146) (i3 148)) := hw3
  obtain ⟨hw3, hI, hei3, hec3, hxp3_0⟩ := hw3
  have hP : va_P D vwCl (xwT sk a t i3 q3 c3 d3 ++ (Z ++ mW o am tm jm qm em dm)) H := hP
  have hD : va_D (fun q : Nat => s.heap.size ≤ q) (xwT sk a t i3 q3 c3 d3 ++ (Z ++ mW o am tm jm qm em dm)) := hD
  refine lv_pop hx hb dL_law_482 rfl ?_
  refine lv_aload_n hx hb dL_law_483 rfl (lv_at hl 1 rfl) ?_
  refine lv_aload_n hx hb dL_law_484 rfl (lv_at hl 3 rfl) ?_
  refine lv_iload_n hx hb dL_law_485 rfl (lv_at hl 0 rfl) ?_
  refine lv_iconst (v := 1) hx hb dL_law_486 (by decide) ?_
  refine lv_iadd hx hb dL_law_487 ?_
  refine lv_topi (fun x4 ex4 => ?_)
  have tx4 := ti_add (a := x3.toInt) (b := 1) ex4 rfl (by decide) (by omega) (by omega)
  refine va_sld hx hb hX hbl hbA hS (vp_in_iff.mpr (by have h9 : x4.toInt = (x3.toInt + 1) := tx4; omega)) dL_law_488 ?_
  refine lv_topi (fun x5 ex5 => ?_)
  have hP : va_P D vwCl ((xwT sk a t i3 q3 c3 d3 ++ Z) ++ mW o am tm jm qm em dm) H := by rw [List.append_assoc]; exact hP
  have hD : va_D (fun q : Nat => s.heap.size ≤ q) ((xwT sk a t i3 q3 c3 d3 ++ Z) ++ mW o am tm jm qm em dm) := by rw [List.append_assoc]; exact hD
  refine rc_i (wr := (xwT sk a t i3 q3 c3 d3 ++ Z)) (va_runV (As := [.int x5]) (rest := []) ⟨hx, hb, hml, hown, hts⟩ (s_X12_unsay l D H.size o am tm jm qm em dm x5 hM hs_S hs_J) (cwV 1 hts gm_law_X12_unsay_57 rfl rfl rfl (by decide +kernel) ⟨Nat.le_of_ble_eq_true rfl, Nat.le_of_ble_eq_true rfl⟩) (pB_V hKM (vP_r hP) (vD_r hD) (ci := 12) (q0 := 0) rfl rfl) rfl rfl hl.1 rfl (lv_room (Nat.le_of_ble_eq_true rfl)) dL_law_489 hcs) hS hA hP hD (fun r6 u6 H locs hw6 hP hD hS => ?_)
  obtain ⟨i6, q6, c6, d6⟩ := u6
  have hw6 : True ∧ mInv i6 c6 ∧ (∀ k, k ∉ ([22, 27] : List Nat) → i6 k = jm k) ∧ (∀ k, k ∉ ([13] : List Nat) → c6 k = em k) ∧ (SJ (c6 3) (c6 6) (c6 9) (c6 10) (c6 11) (c6 13) (i6 2).toInt (i6 5).toInt (i6 8).toInt) ∧ (TJ (c6 3) (c6 6) (c6 23) (c6 24) (c6 29) (c6 30) (i6 5).toInt (i6 22).toInt (i6 27).toInt) := hw6
  obtain ⟨hw6, hM, hei6, hec6, hxp6_0, hxp6_1⟩ := hw6
  have hP : va_P D vwCl (xwT sk a t i3 q3 c3 d3 ++ (Z ++ mW o am tm i6 q6 c6 d6)) H := by rw [← List.append_assoc]; exact hP
  have hD : va_D (fun q : Nat => s.heap.size ≤ q) (xwT sk a t i3 q3 c3 d3 ++ (Z ++ mW o am tm i6 q6 c6 d6)) := by rw [← List.append_assoc]; exact hD
  refine lv_pop hx hb dL_law_492 rfl ?_
  refine lv_goto (tgt := 1461) hx hb dL_law_493 (by decide) ?_
  exact kk i3 q3 c3 d3 i6 q6 c6 d6 _ _ _ ⟨hI, (by rw [show c3 113 = c 113 from hec3 113 (by decide), show c3 115 = c 115 from hec3 115 (by decide)]; exact hs_F), (by rw [show i3 147 = i 147 from hei3 147 (by decide), show i3 156 = i 156 from hei3 156 (by decide), show c3 150 = c 150 from hec3 150 (by decide), show c3 144 = c 144 from hec3 144 (by decide), show c3 145 = c 145 from hec3 145 (by decide)]; exact PJ_en hs_P hxp3_0), (by rw [show i3 141 = i 141 from hei3 141 (by decide)]; exact htr), hM, hxp6_0, hxp6_1, (by rw [show i3 110 = i 110 from hei3 110 (by decide), show i6 2 = jm 2 from hei6 2 (by decide)]; exact hR)⟩ hP hD hS (lv_sub hl [0, 1, 2, 3] rfl)

set_option maxHeartbeats 4000000 in
set_option maxRecDepth 100000 in
theorem law_clash {p : Program} {l : Launch} {e : Env} {s : State} {m : MethodId} {below : List Frame} {meth : Method} {cd : Code} {b L : Nat} {xs : Nat → Int32} {D : va_G} {a : Nat → Nat} {t : Nat → ClassId} {o : Nat} {am : Nat → Nat} {tm : Nat → ClassId} {x3 : Int32} {cells slots : Nat} {sk : Value} {Z : va_W} (hx : p.tables.exec = Jvm.exec) (hb : cd.code = cL_law) (hml : cd.maxLocals = 4) (hown : s.vm.findClass RL = some m.cls) (hts : ∀ w ∈ wm_law, w.before #[Value.ref b] s = true) (hX : va_X b L xs s s.heap) (hbl : b < s.heap.size) (hL : L ≤ 3584) (hN : xN s) (hZ : xZ (a 186) s s.heap) (hKT : va_K D vwCl (xtT t) s) (hKM : va_K D vwCl (mT tm) s) (hcs : cells ≤ 600000 ∧ slots ≤ 7302249) (hx3 : 0 ≤ x3.toInt ∧ x3.toInt + 7 ≤ (L : Int)) (kk : LK p l e s m below meth cd b D sk a t Z o am tm x3 cells slots) (i : Nat → Int32) (q : Int64) (c : Nat → Nat → Int32) (d : Nat → Nat → Int64) (jm : Nat → Int32) (qm : Int64) (em : Nat → Nat → Int32) (dm : Nat → Nat → Int64) (H : Heap) (locs : List Loc) (ls : Array Slot) (hLI : LI i c jm em) (hP : va_P D vwCl (xwT sk a t i q c d ++ (Z ++ mW o am tm jm qm em dm)) H) (hD : va_D (fun q : Nat => s.heap.size ≤ q) (xwT sk a t i q c d ++ (Z ++ mW o am tm jm qm em dm))) (hS : va_S (fun q : Nat => s.heap.size ≤ q) s.heap H locs) (hl : lv_has ls 4 [(3, .int x3), (2, .ref o), (1, .ref (a 100)), (0, .ref b)]) : W p l e room_1 s m #[Value.ref b] below meth cd H locs cells slots (lw_Z below #[Value.ref b] s) (F0 m 496 ls []) := by
  have hbA : ¬ (fun q : Nat => s.heap.size ≤ q) b := Nat.not_le.mpr hbl
  have hA : ∀ q : Nat, s.heap.size ≤ q → (fun q : Nat => s.heap.size ≤ q) q := fun _ h => h
  obtain ⟨hI, hs_F, hs_P, htr, hM, hs_S, hs_J, hR⟩ := hLI
  refine lv_aload_n hx hb dL_law_496 rfl (lv_at hl 2 rfl) ?_
  refine lv_aload_n hx hb dL_law_497 rfl (lv_at hl 3 rfl) ?_
  refine lv_iload_n hx hb dL_law_498 rfl (lv_at hl 0 rfl) ?_
  refine lv_iconst (v := 1) hx hb dL_law_499 (by decide) ?_
  refine lv_iadd hx hb dL_law_500 ?_
  refine lv_topi (fun x1 ex1 => ?_)
  have tx1 := ti_add (a := x3.toInt) (b := 1) ex1 rfl (by decide) (by omega) (by omega)
  refine va_sld hx hb hX hbl hbA hS (vp_in_iff.mpr (by have h9 : x1.toInt = (x3.toInt + 1) := tx1; omega)) dL_law_501 ?_
  refine lv_topi (fun x2 ex2 => ?_)
  refine ro_calli (va_runV (As := [.int x2]) (rest := []) ⟨hx, hb, hml, hown, hts⟩ (x_X11_clash l D H.size sk a t i q c d x2 hI ) (cwV 1 hts gm_law_X11_clash_58 rfl rfl rfl (by decide +kernel) ⟨Nat.le_of_ble_eq_true rfl, Nat.le_of_ble_eq_true rfl⟩) (yA_V hN (xZ_k hZ hS hA) hKT (vP_l hP) (ci := 11) (q0 := 0) rfl rfl) rfl rfl hl.1 rfl (lv_room (Nat.le_of_ble_eq_true rfl)) dL_law_502 hcs) hS hA hP (fun r3 u3 H locs hw3 hP hS => ?_)
  refine lv_pop hx hb dL_law_505 rfl ?_
  refine lv_aload_n hx hb dL_law_506 rfl (lv_at hl 1 rfl) ?_
  refine lv_aload_n hx hb dL_law_507 rfl (lv_at hl 3 rfl) ?_
  refine lv_iload_n hx hb dL_law_508 rfl (lv_at hl 0 rfl) ?_
  refine lv_iconst (v := 1) hx hb dL_law_509 (by decide) ?_
  refine lv_iadd hx hb dL_law_510 ?_
  refine lv_topi (fun x4 ex4 => ?_)
  have tx4 := ti_add (a := x3.toInt) (b := 1) ex4 rfl (by decide) (by omega) (by omega)
  refine va_sld hx hb hX hbl hbA hS (vp_in_iff.mpr (by have h9 : x4.toInt = (x3.toInt + 1) := tx4; omega)) dL_law_511 ?_
  refine lv_topi (fun x5 ex5 => ?_)
  have hP : va_P D vwCl ((xwT sk a t i q c d ++ Z) ++ mW o am tm jm qm em dm) H := by rw [List.append_assoc]; exact hP
  have hD : va_D (fun q : Nat => s.heap.size ≤ q) ((xwT sk a t i q c d ++ Z) ++ mW o am tm jm qm em dm) := by rw [List.append_assoc]; exact hD
  refine ro_calli (va_runV (As := [.int x5]) (rest := []) ⟨hx, hb, hml, hown, hts⟩ (s_X12_clash l D H.size o am tm jm qm em dm x5 hM ) (cwV 1 hts gm_law_X12_clash_61 rfl rfl rfl (by decide +kernel) ⟨Nat.le_of_ble_eq_true rfl, Nat.le_of_ble_eq_true rfl⟩) (pA_V hKM (vP_r hP) (ci := 12) (q0 := 0) rfl rfl) rfl rfl hl.1 rfl (lv_room (Nat.le_of_ble_eq_true rfl)) dL_law_512 hcs) hS hA hP (fun r6 u6 H locs hw6 hP hS => ?_)
  have hP : va_P D vwCl (xwT sk a t i q c d ++ (Z ++ mW o am tm jm qm em dm)) H := by rw [← List.append_assoc]; exact hP
  have hD : va_D (fun q : Nat => s.heap.size ≤ q) (xwT sk a t i q c d ++ (Z ++ mW o am tm jm qm em dm)) := by rw [← List.append_assoc]; exact hD
  refine lv_pop hx hb dL_law_515 rfl ?_
  refine lv_goto (tgt := 1461) hx hb dL_law_516 (by decide) ?_
  exact kk i q c d jm qm em dm _ _ _ ⟨hI, hs_F, hs_P, htr, hM, hs_S, hs_J, hR⟩ hP hD hS (lv_sub hl [0, 1, 2, 3] rfl)

set_option maxHeartbeats 4000000 in
set_option maxRecDepth 100000 in
theorem law_sentence {p : Program} {l : Launch} {e : Env} {s : State} {m : MethodId} {below : List Frame} {meth : Method} {cd : Code} {b L : Nat} {xs : Nat → Int32} {D : va_G} {a : Nat → Nat} {t : Nat → ClassId} {o : Nat} {am : Nat → Nat} {tm : Nat → ClassId} {x3 : Int32} {cells slots : Nat} {sk : Value} {Z : va_W} (hx : p.tables.exec = Jvm.exec) (hb : cd.code = cL_law) (hml : cd.maxLocals = 4) (hown : s.vm.findClass RL = some m.cls) (hts : ∀ w ∈ wm_law, w.before #[Value.ref b] s = true) (hX : va_X b L xs s s.heap) (hbl : b < s.heap.size) (hL : L ≤ 3584) (hN : xN s) (hZ : xZ (a 186) s s.heap) (hKT : va_K D vwCl (xtT t) s) (hKM : va_K D vwCl (mT tm) s) (hcs : cells ≤ 600000 ∧ slots ≤ 7302249) (hx3 : 0 ≤ x3.toInt ∧ x3.toInt + 7 ≤ (L : Int)) (kk : LK p l e s m below meth cd b D sk a t Z o am tm x3 cells slots) (i : Nat → Int32) (q : Int64) (c : Nat → Nat → Int32) (d : Nat → Nat → Int64) (jm : Nat → Int32) (qm : Int64) (em : Nat → Nat → Int32) (dm : Nat → Nat → Int64) (H : Heap) (locs : List Loc) (ls : Array Slot) (hLI : LI i c jm em) (hP : va_P D vwCl (xwT sk a t i q c d ++ (Z ++ mW o am tm jm qm em dm)) H) (hD : va_D (fun q : Nat => s.heap.size ≤ q) (xwT sk a t i q c d ++ (Z ++ mW o am tm jm qm em dm))) (hS : va_S (fun q : Nat => s.heap.size ≤ q) s.heap H locs) (hl : lv_has ls 4 [(3, .int x3), (2, .ref o), (1, .ref (a 100)), (0, .ref b)]) : W p l e room_1 s m #[Value.ref b] below meth cd H locs cells slots (lw_Z below #[Value.ref b] s) (F0 m 519 ls []) := by
  have hbA : ¬ (fun q : Nat => s.heap.size ≤ q) b := Nat.not_le.mpr hbl
  have hA : ∀ q : Nat, s.heap.size ≤ q → (fun q : Nat => s.heap.size ≤ q) q := fun _ h => h
  obtain ⟨hI, hs_F, hs_P, htr, hM, hs_S, hs_J, hR⟩ := hLI
  refine lv_aload_n hx hb dL_law_519 rfl (lv_at hl 2 rfl) ?_
  refine lv_aload_n hx hb dL_law_520 rfl (lv_at hl 3 rfl) ?_
  refine lv_iload_n hx hb dL_law_521 rfl (lv_at hl 0 rfl) ?_
  refine lv_iconst (v := 1) hx hb dL_law_522 (by decide) ?_
  refine lv_iadd hx hb dL_law_523 ?_
  refine lv_topi (fun x1 ex1 => ?_)
  have tx1 := ti_add (a := x3.toInt) (b := 1) ex1 rfl (by decide) (by omega) (by omega)
  refine va_sld hx hb hX hbl hbA hS (vp_in_iff.mpr (by have h9 : x1.toInt = (x3.toInt + 1) := tx1; omega)) dL_law_524 ?_
  refine lv_topi (fun x2 ex2 => ?_)
  refine lv_aload_n hx hb dL_law_525 rfl (lv_at hl 3 rfl) ?_
  refine lv_iload_n hx hb dL_law_526 rfl (lv_at hl 0 rfl) ?_
  refine lv_iconst (v := 2) hx hb dL_law_527 (by decide) ?_
  refine lv_iadd hx hb dL_law_528 ?_
  refine lv_topi (fun x3 ex3 => ?_)
  have tx3 := ti_add (a := x3.toInt) (b := 2) ex3 rfl (by decide) (by omega) (by omega)
  refine va_sld hx hb hX hbl hbA hS (vp_in_iff.mpr (by have h9 : x3.toInt = (x3.toInt + 2) := tx3; omega)) dL_law_529 ?_
  refine lv_topi (fun x4 ex4 => ?_)
  refine ro_calli (va_runV (As := [.int x2, .int x4]) (rest := []) ⟨hx, hb, hml, hown, hts⟩ (x_X11_sentence l D H.size sk a t i q c d x2 x4 hI ) (cwV 2 hts gm_law_X11_sentence_62 rfl rfl rfl (by decide +kernel) ⟨Nat.le_of_ble_eq_true rfl, Nat.le_of_ble_eq_true rfl⟩) (yA_V hN (xZ_k hZ hS hA) hKT (vP_l hP) (ci := 11) (q0 := 0) rfl rfl) rfl rfl hl.1 rfl (lv_room (Nat.le_of_ble_eq_true rfl)) dL_law_530 hcs) hS hA hP (fun r5 u5 H locs hw5 hP hS => ?_)
  refine lv_pop hx hb dL_law_533 rfl ?_
  refine lv_aload_n hx hb dL_law_534 rfl (lv_at hl 1 rfl) ?_
  refine lv_aload_n hx hb dL_law_535 rfl (lv_at hl 3 rfl) ?_
  refine lv_iload_n hx hb dL_law_536 rfl (lv_at hl 0 rfl) ?_
  refine lv_iconst (v := 1) hx hb dL_law_537 (by decide) ?_
  refine lv_iadd hx hb dL_law_538 ?_
  refine lv_topi (fun x6 ex6 => ?_)
  have tx6 := ti_add (a := x3.toInt) (b := 1) ex6 rfl (by decide) (by omega) (by omega)
  refine va_sld hx hb hX hbl hbA hS (vp_in_iff.mpr (by have h9 : x6.toInt = (x3.toInt + 1) := tx6; omega)) dL_law_539 ?_
  refine lv_topi (fun x7 ex7 => ?_)
  refine lv_aload_n hx hb dL_law_540 rfl (lv_at hl 3 rfl) ?_
  refine lv_iload_n hx hb dL_law_541 rfl (lv_at hl 0 rfl) ?_
  refine lv_iconst (v := 2) hx hb dL_law_542 (by decide) ?_
  refine lv_iadd hx hb dL_law_543 ?_
  refine lv_topi (fun x8 ex8 => ?_)
  have tx8 := ti_add (a := x3.toInt) (b := 2) ex8 rfl (by decide) (by omega) (by omega)
  refine va_sld hx hb hX hbl hbA hS (vp_in_iff.mpr (by have h9 : x8.toInt = (x3.toInt + 2) := tx8; omega)) dL_law_544 ?_
  refine lv_topi (fun x9 ex9 => ?_)
  have hP : va_P D vwCl ((xwT sk a t i q c d ++ Z) ++ mW o am tm jm qm em dm) H := by rw [List.append_assoc]; exact hP
  have hD : va_D (fun q : Nat => s.heap.size ≤ q) ((xwT sk a t i q c d ++ Z) ++ mW o am tm jm qm em dm) := by rw [List.append_assoc]; exact hD
  refine ro_calli (va_runV (As := [.int x7, .int x9]) (rest := []) ⟨hx, hb, hml, hown, hts⟩ (s_X12_sentence l D H.size o am tm jm qm em dm x7 x9 hM ) (cwV 2 hts gm_law_X12_sentence_65 rfl rfl rfl (by decide +kernel) ⟨Nat.le_of_ble_eq_true rfl, Nat.le_of_ble_eq_true rfl⟩) (pA_V hKM (vP_r hP) (ci := 12) (q0 := 0) rfl rfl) rfl rfl hl.1 rfl (lv_room (Nat.le_of_ble_eq_true rfl)) dL_law_545 hcs) hS hA hP (fun r10 u10 H locs hw10 hP hS => ?_)
  have hP : va_P D vwCl (xwT sk a t i q c d ++ (Z ++ mW o am tm jm qm em dm)) H := by rw [← List.append_assoc]; exact hP
  have hD : va_D (fun q : Nat => s.heap.size ≤ q) (xwT sk a t i q c d ++ (Z ++ mW o am tm jm qm em dm)) := by rw [← List.append_assoc]; exact hD
  refine lv_pop hx hb dL_law_548 rfl ?_
  refine lv_goto (tgt := 1461) hx hb dL_law_549 (by decide) ?_
  exact kk i q c d jm qm em dm _ _ _ ⟨hI, hs_F, hs_P, htr, hM, hs_S, hs_J, hR⟩ hP hD hS (lv_sub hl [0, 1, 2, 3] rfl)

set_option maxHeartbeats 4000000 in
set_option maxRecDepth 100000 in
theorem law_place {p : Program} {l : Launch} {e : Env} {s : State} {m : MethodId} {below : List Frame} {meth : Method} {cd : Code} {b L : Nat} {xs : Nat → Int32} {D : va_G} {a : Nat → Nat} {t : Nat → ClassId} {o : Nat} {am : Nat → Nat} {tm : Nat → ClassId} {x3 : Int32} {cells slots : Nat} {sk : Value} {Z : va_W} (hx : p.tables.exec = Jvm.exec) (hb : cd.code = cL_law) (hml : cd.maxLocals = 4) (hown : s.vm.findClass RL = some m.cls) (hts : ∀ w ∈ wm_law, w.before #[Value.ref b] s = true) (hX : va_X b L xs s s.heap) (hbl : b < s.heap.size) (hL : L ≤ 3584) (hN : xN s) (hZ : xZ (a 186) s s.heap) (hKT : va_K D vwCl (xtT t) s) (hKM : va_K D vwCl (mT tm) s) (hcs : cells ≤ 600000 ∧ slots ≤ 7302249) (hx3 : 0 ≤ x3.toInt ∧ x3.toInt + 7 ≤ (L : Int)) (kk : LK p l e s m below meth cd b D sk a t Z o am tm x3 cells slots) (i : Nat → Int32) (q : Int64) (c : Nat → Nat → Int32) (d : Nat → Nat → Int64) (jm : Nat → Int32) (qm : Int64) (em : Nat → Nat → Int32) (dm : Nat → Nat → Int64) (H : Heap) (locs : List Loc) (ls : Array Slot) (hLI : LI i c jm em) (hP : va_P D vwCl (xwT sk a t i q c d ++ (Z ++ mW o am tm jm qm em dm)) H) (hD : va_D (fun q : Nat => s.heap.size ≤ q) (xwT sk a t i q c d ++ (Z ++ mW o am tm jm qm em dm))) (hS : va_S (fun q : Nat => s.heap.size ≤ q) s.heap H locs) (hl : lv_has ls 4 [(3, .int x3), (2, .ref o), (1, .ref (a 100)), (0, .ref b)]) : W p l e room_1 s m #[Value.ref b] below meth cd H locs cells slots (lw_Z below #[Value.ref b] s) (F0 m 552 ls []) := by
  have hbA : ¬ (fun q : Nat => s.heap.size ≤ q) b := Nat.not_le.mpr hbl
  have hA : ∀ q : Nat, s.heap.size ≤ q → (fun q : Nat => s.heap.size ≤ q) q := fun _ h => h
  obtain ⟨hI, hs_F, hs_P, htr, hM, hs_S, hs_J, hR⟩ := hLI
  refine lv_aload_n hx hb dL_law_552 rfl (lv_at hl 2 rfl) ?_
  refine lv_aload_n hx hb dL_law_553 rfl (lv_at hl 3 rfl) ?_
  refine lv_iload_n hx hb dL_law_554 rfl (lv_at hl 0 rfl) ?_
  refine lv_iconst (v := 1) hx hb dL_law_555 (by decide) ?_
  refine lv_iadd hx hb dL_law_556 ?_
  refine lv_topi (fun x1 ex1 => ?_)
  have tx1 := ti_add (a := x3.toInt) (b := 1) ex1 rfl (by decide) (by omega) (by omega)
  refine va_sld hx hb hX hbl hbA hS (vp_in_iff.mpr (by have h9 : x1.toInt = (x3.toInt + 1) := tx1; omega)) dL_law_557 ?_
  refine lv_topi (fun x2 ex2 => ?_)
  refine lv_aload_n hx hb dL_law_558 rfl (lv_at hl 3 rfl) ?_
  refine lv_iload_n hx hb dL_law_559 rfl (lv_at hl 0 rfl) ?_
  refine lv_iconst (v := 2) hx hb dL_law_560 (by decide) ?_
  refine lv_iadd hx hb dL_law_561 ?_
  refine lv_topi (fun x3 ex3 => ?_)
  have tx3 := ti_add (a := x3.toInt) (b := 2) ex3 rfl (by decide) (by omega) (by omega)
  refine va_sld hx hb hX hbl hbA hS (vp_in_iff.mpr (by have h9 : x3.toInt = (x3.toInt + 2) := tx3; omega)) dL_law_562 ?_
  refine lv_topi (fun x4 ex4 => ?_)
  refine ro_calli (va_runV (As := [.int x2, .int x4]) (rest := []) ⟨hx, hb, hml, hown, hts⟩ (x_X11_place l D H.size sk a t i q c d x2 x4 hI ) (cwV 2 hts gm_law_X11_place_66 rfl rfl rfl (by decide +kernel) ⟨Nat.le_of_ble_eq_true rfl, Nat.le_of_ble_eq_true rfl⟩) (yA_V hN (xZ_k hZ hS hA) hKT (vP_l hP) (ci := 11) (q0 := 0) rfl rfl) rfl rfl hl.1 rfl (lv_room (Nat.le_of_ble_eq_true rfl)) dL_law_563 hcs) hS hA hP (fun r5 u5 H locs hw5 hP hS => ?_)
  refine lv_pop hx hb dL_law_566 rfl ?_
  refine lv_aload_n hx hb dL_law_567 rfl (lv_at hl 1 rfl) ?_
  refine lv_aload_n hx hb dL_law_568 rfl (lv_at hl 3 rfl) ?_
  refine lv_iload_n hx hb dL_law_569 rfl (lv_at hl 0 rfl) ?_
  refine lv_iconst (v := 1) hx hb dL_law_570 (by decide) ?_
  refine lv_iadd hx hb dL_law_571 ?_
  refine lv_topi (fun x6 ex6 => ?_)
  have tx6 := ti_add (a := x3.toInt) (b := 1) ex6 rfl (by decide) (by omega) (by omega)
  refine va_sld hx hb hX hbl hbA hS (vp_in_iff.mpr (by have h9 : x6.toInt = (x3.toInt + 1) := tx6; omega)) dL_law_572 ?_
  refine lv_topi (fun x7 ex7 => ?_)
  refine lv_aload_n hx hb dL_law_573 rfl (lv_at hl 3 rfl) ?_
  refine lv_iload_n hx hb dL_law_574 rfl (lv_at hl 0 rfl) ?_
  refine lv_iconst (v := 2) hx hb dL_law_575 (by decide) ?_
  refine lv_iadd hx hb dL_law_576 ?_
  refine lv_topi (fun x8 ex8 => ?_)
  have tx8 := ti_add (a := x3.toInt) (b := 2) ex8 rfl (by decide) (by omega) (by omega)
  refine va_sld hx hb hX hbl hbA hS (vp_in_iff.mpr (by have h9 : x8.toInt = (x3.toInt + 2) := tx8; omega)) dL_law_577 ?_
  refine lv_topi (fun x9 ex9 => ?_)
  have hP : va_P D vwCl ((xwT sk a t i q c d ++ Z) ++ mW o am tm jm qm em dm) H := by rw [List.append_assoc]; exact hP
  have hD : va_D (fun q : Nat => s.heap.size ≤ q) ((xwT sk a t i q c d ++ Z) ++ mW o am tm jm qm em dm) := by rw [List.append_assoc]; exact hD
  refine ro_calli (va_runV (As := [.int x7, .int x9]) (rest := []) ⟨hx, hb, hml, hown, hts⟩ (s_X12_place l D H.size o am tm jm qm em dm x7 x9 hM ) (cwV 2 hts gm_law_X12_place_69 rfl rfl rfl (by decide +kernel) ⟨Nat.le_of_ble_eq_true rfl, Nat.le_of_ble_eq_true rfl⟩) (pA_V hKM (vP_r hP) (ci := 12) (q0 := 0) rfl rfl) rfl rfl hl.1 rfl (lv_room (Nat.le_of_ble_eq_true rfl)) dL_law_578 hcs) hS hA hP (fun r10 u10 H locs hw10 hP hS => ?_)
  have hP : va_P D vwCl (xwT sk a t i q c d ++ (Z ++ mW o am tm jm qm em dm)) H := by rw [← List.append_assoc]; exact hP
  have hD : va_D (fun q : Nat => s.heap.size ≤ q) (xwT sk a t i q c d ++ (Z ++ mW o am tm jm qm em dm)) := by rw [← List.append_assoc]; exact hD
  refine lv_pop hx hb dL_law_581 rfl ?_
  refine lv_goto (tgt := 1461) hx hb dL_law_582 (by decide) ?_
  exact kk i q c d jm qm em dm _ _ _ ⟨hI, hs_F, hs_P, htr, hM, hs_S, hs_J, hR⟩ hP hD hS (lv_sub hl [0, 1, 2, 3] rfl)

set_option maxHeartbeats 4000000 in
set_option maxRecDepth 100000 in
theorem law_exit {p : Program} {l : Launch} {e : Env} {s : State} {m : MethodId} {below : List Frame} {meth : Method} {cd : Code} {b L : Nat} {xs : Nat → Int32} {D : va_G} {a : Nat → Nat} {t : Nat → ClassId} {o : Nat} {am : Nat → Nat} {tm : Nat → ClassId} {x3 : Int32} {cells slots : Nat} {sk : Value} {Z : va_W} (hx : p.tables.exec = Jvm.exec) (hb : cd.code = cL_law) (hml : cd.maxLocals = 4) (hown : s.vm.findClass RL = some m.cls) (hts : ∀ w ∈ wm_law, w.before #[Value.ref b] s = true) (hX : va_X b L xs s s.heap) (hbl : b < s.heap.size) (hL : L ≤ 3584) (hN : xN s) (hZ : xZ (a 186) s s.heap) (hKT : va_K D vwCl (xtT t) s) (hKM : va_K D vwCl (mT tm) s) (hcs : cells ≤ 600000 ∧ slots ≤ 7302249) (hx3 : 0 ≤ x3.toInt ∧ x3.toInt + 7 ≤ (L : Int)) (kk : LK p l e s m below meth cd b D sk a t Z o am tm x3 cells slots) (i : Nat → Int32) (q : Int64) (c : Nat → Nat → Int32) (d : Nat → Nat → Int64) (jm : Nat → Int32) (qm : Int64) (em : Nat → Nat → Int32) (dm : Nat → Nat → Int64) (H : Heap) (locs : List Loc) (ls : Array Slot) (hLI : LI i c jm em) (hP : va_P D vwCl (xwT sk a t i q c d ++ (Z ++ mW o am tm jm qm em dm)) H) (hD : va_D (fun q : Nat => s.heap.size ≤ q) (xwT sk a t i q c d ++ (Z ++ mW o am tm jm qm em dm))) (hS : va_S (fun q : Nat => s.heap.size ≤ q) s.heap H locs) (hl : lv_has ls 4 [(3, .int x3), (2, .ref o), (1, .ref (a 100)), (0, .ref b)]) : W p l e room_1 s m #[Value.ref b] below meth cd H locs cells slots (lw_Z below #[Value.ref b] s) (F0 m 585 ls []) := by
  have hbA : ¬ (fun q : Nat => s.heap.size ≤ q) b := Nat.not_le.mpr hbl
  have hA : ∀ q : Nat, s.heap.size ≤ q → (fun q : Nat => s.heap.size ≤ q) q := fun _ h => h
  obtain ⟨hI, hs_F, hs_P, htr, hM, hs_S, hs_J, hR⟩ := hLI
  refine lv_aload_n hx hb dL_law_585 rfl (lv_at hl 2 rfl) ?_
  refine lv_aload_n hx hb dL_law_586 rfl (lv_at hl 3 rfl) ?_
  refine lv_iload_n hx hb dL_law_587 rfl (lv_at hl 0 rfl) ?_
  refine lv_iconst (v := 1) hx hb dL_law_588 (by decide) ?_
  refine lv_iadd hx hb dL_law_589 ?_
  refine lv_topi (fun x1 ex1 => ?_)
  have tx1 := ti_add (a := x3.toInt) (b := 1) ex1 rfl (by decide) (by omega) (by omega)
  refine va_sld hx hb hX hbl hbA hS (vp_in_iff.mpr (by have h9 : x1.toInt = (x3.toInt + 1) := tx1; omega)) dL_law_590 ?_
  refine lv_topi (fun x2 ex2 => ?_)
  refine lv_aload_n hx hb dL_law_591 rfl (lv_at hl 3 rfl) ?_
  refine lv_iload_n hx hb dL_law_592 rfl (lv_at hl 0 rfl) ?_
  refine lv_iconst (v := 2) hx hb dL_law_593 (by decide) ?_
  refine lv_iadd hx hb dL_law_594 ?_
  refine lv_topi (fun x3 ex3 => ?_)
  have tx3 := ti_add (a := x3.toInt) (b := 2) ex3 rfl (by decide) (by omega) (by omega)
  refine va_sld hx hb hX hbl hbA hS (vp_in_iff.mpr (by have h9 : x3.toInt = (x3.toInt + 2) := tx3; omega)) dL_law_595 ?_
  refine lv_topi (fun x4 ex4 => ?_)
  refine lv_aload_n hx hb dL_law_596 rfl (lv_at hl 3 rfl) ?_
  refine lv_iload_n hx hb dL_law_597 rfl (lv_at hl 0 rfl) ?_
  refine lv_iconst (v := 3) hx hb dL_law_598 (by decide) ?_
  refine lv_iadd hx hb dL_law_599 ?_
  refine lv_topi (fun x5 ex5 => ?_)
  have tx5 := ti_add (a := x3.toInt) (b := 3) ex5 rfl (by decide) (by omega) (by omega)
  refine va_sld hx hb hX hbl hbA hS (vp_in_iff.mpr (by have h9 : x5.toInt = (x3.toInt + 3) := tx5; omega)) dL_law_600 ?_
  refine lv_topi (fun x6 ex6 => ?_)
  refine lc_i (wr := (Z ++ mW o am tm jm qm em dm)) (va_runV (As := [.int x2, .int x4, .int x6]) (rest := []) ⟨hx, hb, hml, hown, hts⟩ (x_X11_exit l D H.size sk a t i q c d x2 x4 x6 hI ) (cwV 3 hts gm_law_X11_exit_70 rfl rfl rfl (by decide +kernel) ⟨Nat.le_of_ble_eq_true rfl, Nat.le_of_ble_eq_true rfl⟩) (yB_V hN (xZ_k hZ hS hA) (xZ_n hZ (vD_l hD)) hKT (vP_l hP) (vD_l hD) (ci := 11) (q0 := 0) rfl rfl) rfl rfl hl.1 rfl (lv_room (Nat.le_of_ble_eq_true rfl)) dL_law_601 hcs) hS hA hP hD (fun r7 u7 H locs hw7 _ hP hD hS => ?_)
  obtain ⟨i7, q7, c7, d7⟩ := u7
  have hw7 : True ∧ xInv i7 c7 ∧ (∀ k, k ∉ ([102] : List Nat) → i7 k = i k) ∧ (∀ k, k ∉ ([101] : List Nat) → c7 k = c k) := hw7
  obtain ⟨hw7, hI, hei7, hec7⟩ := hw7
  have hP : va_P D vwCl (xwT sk a t i7 q7 c7 d7 ++ (Z ++ mW o am tm jm qm em dm)) H := hP
  have hD : va_D (fun q : Nat => s.heap.size ≤ q) (xwT sk a t i7 q7 c7 d7 ++ (Z ++ mW o am tm jm qm em dm)) := hD
  refine lv_pop hx hb dL_law_604 rfl ?_
  refine lv_aload_n hx hb dL_law_605 rfl (lv_at hl 1 rfl) ?_
  refine lv_aload_n hx hb dL_law_606 rfl (lv_at hl 3 rfl) ?_
  refine lv_iload_n hx hb dL_law_607 rfl (lv_at hl 0 rfl) ?_
  refine lv_iconst (v := 1) hx hb dL_law_608 (by decide) ?_
  refine lv_iadd hx hb dL_law_609 ?_
  refine lv_topi (fun x8 ex8 => ?_)
  have tx8 := ti_add (a := x3.toInt) (b := 1) ex8 rfl (by decide) (by omega) (by omega)
  refine va_sld hx hb hX hbl hbA hS (vp_in_iff.mpr (by have h9 : x8.toInt = (x3.toInt + 1) := tx8; omega)) dL_law_610 ?_
  refine lv_topi (fun x9 ex9 => ?_)
  refine lv_aload_n hx hb dL_law_611 rfl (lv_at hl 3 rfl) ?_
  refine lv_iload_n hx hb dL_law_612 rfl (lv_at hl 0 rfl) ?_
  refine lv_iconst (v := 2) hx hb dL_law_613 (by decide) ?_
  refine lv_iadd hx hb dL_law_614 ?_
  refine lv_topi (fun x10 ex10 => ?_)
  have tx10 := ti_add (a := x3.toInt) (b := 2) ex10 rfl (by decide) (by omega) (by omega)
  refine va_sld hx hb hX hbl hbA hS (vp_in_iff.mpr (by have h9 : x10.toInt = (x3.toInt + 2) := tx10; omega)) dL_law_615 ?_
  refine lv_topi (fun x11 ex11 => ?_)
  refine lv_aload_n hx hb dL_law_616 rfl (lv_at hl 3 rfl) ?_
  refine lv_iload_n hx hb dL_law_617 rfl (lv_at hl 0 rfl) ?_
  refine lv_iconst (v := 3) hx hb dL_law_618 (by decide) ?_
  refine lv_iadd hx hb dL_law_619 ?_
  refine lv_topi (fun x12 ex12 => ?_)
  have tx12 := ti_add (a := x3.toInt) (b := 3) ex12 rfl (by decide) (by omega) (by omega)
  refine va_sld hx hb hX hbl hbA hS (vp_in_iff.mpr (by have h9 : x12.toInt = (x3.toInt + 3) := tx12; omega)) dL_law_620 ?_
  refine lv_topi (fun x13 ex13 => ?_)
  have hP : va_P D vwCl ((xwT sk a t i7 q7 c7 d7 ++ Z) ++ mW o am tm jm qm em dm) H := by rw [List.append_assoc]; exact hP
  have hD : va_D (fun q : Nat => s.heap.size ≤ q) ((xwT sk a t i7 q7 c7 d7 ++ Z) ++ mW o am tm jm qm em dm) := by rw [List.append_assoc]; exact hD
  refine rc_i (wr := (xwT sk a t i7 q7 c7 d7 ++ Z)) (va_runV (As := [.int x9, .int x11, .int x13]) (rest := []) ⟨hx, hb, hml, hown, hts⟩ (s_X12_exit l D H.size o am tm jm qm em dm x9 x11 x13 hM ) (cwV 3 hts gm_law_X12_exit_73 rfl rfl rfl (by decide +kernel) ⟨Nat.le_of_ble_eq_true rfl, Nat.le_of_ble_eq_true rfl⟩) (pB_V hKM (vP_r hP) (vD_r hD) (ci := 12) (q0 := 0) rfl rfl) rfl rfl hl.1 rfl (lv_room (Nat.le_of_ble_eq_true rfl)) dL_law_621 hcs) hS hA hP hD (fun r14 u14 H locs hw14 hP hD hS => ?_)
  obtain ⟨i14, q14, c14, d14⟩ := u14
  have hw14 : True ∧ mInv i14 c14 ∧ (∀ k, k ∉ ([0, 16, 17, 18, 19] : List Nat) → i14 k = jm k) ∧ (∀ k, k ∉ ([1] : List Nat) → c14 k = em k) := hw14
  obtain ⟨hw14, hM, hei14, hec14⟩ := hw14
  have hP : va_P D vwCl (xwT sk a t i7 q7 c7 d7 ++ (Z ++ mW o am tm i14 q14 c14 d14)) H := by rw [← List.append_assoc]; exact hP
  have hD : va_D (fun q : Nat => s.heap.size ≤ q) (xwT sk a t i7 q7 c7 d7 ++ (Z ++ mW o am tm i14 q14 c14 d14)) := by rw [← List.append_assoc]; exact hD
  refine lv_pop hx hb dL_law_624 rfl ?_
  refine lv_goto (tgt := 1461) hx hb dL_law_625 (by decide) ?_
  exact kk i7 q7 c7 d7 i14 q14 c14 d14 _ _ _ ⟨hI, (by rw [show c7 113 = c 113 from hec7 113 (by decide), show c7 115 = c 115 from hec7 115 (by decide)]; exact hs_F), (by rw [show i7 146 = i 146 from hei7 146 (by decide), show i7 147 = i 147 from hei7 147 (by decide), show i7 148 = i 148 from hei7 148 (by decide), show i7 156 = i 156 from hei7 156 (by decide), show c7 144 = c 144 from hec7 144 (by decide), show c7 145 = c 145 from hec7 145 (by decide), show c7 150 = c 150 from hec7 150 (by decide)]; exact hs_P), (by rw [show i7 141 = i 141 from hei7 141 (by decide)]; exact htr), hM, (by rw [show c14 3 = em 3 from hec14 3 (by decide), show c14 6 = em 6 from hec14 6 (by decide), show c14 9 = em 9 from hec14 9 (by decide), show c14 10 = em 10 from hec14 10 (by decide), show c14 11 = em 11 from hec14 11 (by decide), show c14 13 = em 13 from hec14 13 (by decide), show i14 2 = jm 2 from hei14 2 (by decide), show i14 5 = jm 5 from hei14 5 (by decide), show i14 8 = jm 8 from hei14 8 (by decide)]; exact hs_S), (by rw [show c14 3 = em 3 from hec14 3 (by decide), show c14 6 = em 6 from hec14 6 (by decide), show c14 23 = em 23 from hec14 23 (by decide), show c14 24 = em 24 from hec14 24 (by decide), show c14 29 = em 29 from hec14 29 (by decide), show c14 30 = em 30 from hec14 30 (by decide), show i14 5 = jm 5 from hei14 5 (by decide), show i14 22 = jm 22 from hei14 22 (by decide), show i14 27 = jm 27 from hei14 27 (by decide)]; exact hs_J), (by rw [show i7 110 = i 110 from hei7 110 (by decide), show i14 2 = jm 2 from hei14 2 (by decide)]; exact hR)⟩ hP hD hS (lv_sub hl [0, 1, 2, 3] rfl)

set_option maxHeartbeats 4000000 in
set_option maxRecDepth 100000 in
theorem law_flag {p : Program} {l : Launch} {e : Env} {s : State} {m : MethodId} {below : List Frame} {meth : Method} {cd : Code} {b L : Nat} {xs : Nat → Int32} {D : va_G} {a : Nat → Nat} {t : Nat → ClassId} {o : Nat} {am : Nat → Nat} {tm : Nat → ClassId} {x3 : Int32} {cells slots : Nat} {sk : Value} {Z : va_W} (hx : p.tables.exec = Jvm.exec) (hb : cd.code = cL_law) (hml : cd.maxLocals = 4) (hown : s.vm.findClass RL = some m.cls) (hts : ∀ w ∈ wm_law, w.before #[Value.ref b] s = true) (hX : va_X b L xs s s.heap) (hbl : b < s.heap.size) (hL : L ≤ 3584) (hN : xN s) (hZ : xZ (a 186) s s.heap) (hKT : va_K D vwCl (xtT t) s) (hKM : va_K D vwCl (mT tm) s) (hcs : cells ≤ 600000 ∧ slots ≤ 7302249) (hx3 : 0 ≤ x3.toInt ∧ x3.toInt + 7 ≤ (L : Int)) (kk : LK p l e s m below meth cd b D sk a t Z o am tm x3 cells slots) (i : Nat → Int32) (q : Int64) (c : Nat → Nat → Int32) (d : Nat → Nat → Int64) (jm : Nat → Int32) (qm : Int64) (em : Nat → Nat → Int32) (dm : Nat → Nat → Int64) (H : Heap) (locs : List Loc) (ls : Array Slot) (hLI : LI i c jm em) (hP : va_P D vwCl (xwT sk a t i q c d ++ (Z ++ mW o am tm jm qm em dm)) H) (hD : va_D (fun q : Nat => s.heap.size ≤ q) (xwT sk a t i q c d ++ (Z ++ mW o am tm jm qm em dm))) (hS : va_S (fun q : Nat => s.heap.size ≤ q) s.heap H locs) (hl : lv_has ls 4 [(3, .int x3), (2, .ref o), (1, .ref (a 100)), (0, .ref b)]) : W p l e room_1 s m #[Value.ref b] below meth cd H locs cells slots (lw_Z below #[Value.ref b] s) (F0 m 628 ls []) := by
  have hbA : ¬ (fun q : Nat => s.heap.size ≤ q) b := Nat.not_le.mpr hbl
  have hA : ∀ q : Nat, s.heap.size ≤ q → (fun q : Nat => s.heap.size ≤ q) q := fun _ h => h
  obtain ⟨hI, hs_F, hs_P, htr, hM, hs_S, hs_J, hR⟩ := hLI
  refine lv_aload_n hx hb dL_law_628 rfl (lv_at hl 2 rfl) ?_
  refine lv_aload_n hx hb dL_law_629 rfl (lv_at hl 3 rfl) ?_
  refine lv_iload_n hx hb dL_law_630 rfl (lv_at hl 0 rfl) ?_
  refine lv_iconst (v := 1) hx hb dL_law_631 (by decide) ?_
  refine lv_iadd hx hb dL_law_632 ?_
  refine lv_topi (fun x1 ex1 => ?_)
  have tx1 := ti_add (a := x3.toInt) (b := 1) ex1 rfl (by decide) (by omega) (by omega)
  refine va_sld hx hb hX hbl hbA hS (vp_in_iff.mpr (by have h9 : x1.toInt = (x3.toInt + 1) := tx1; omega)) dL_law_633 ?_
  refine lv_topi (fun x2 ex2 => ?_)
  refine lv_aload_n hx hb dL_law_634 rfl (lv_at hl 3 rfl) ?_
  refine lv_iload_n hx hb dL_law_635 rfl (lv_at hl 0 rfl) ?_
  refine lv_iconst (v := 2) hx hb dL_law_636 (by decide) ?_
  refine lv_iadd hx hb dL_law_637 ?_
  refine lv_topi (fun x3 ex3 => ?_)
  have tx3 := ti_add (a := x3.toInt) (b := 2) ex3 rfl (by decide) (by omega) (by omega)
  refine va_sld hx hb hX hbl hbA hS (vp_in_iff.mpr (by have h9 : x3.toInt = (x3.toInt + 2) := tx3; omega)) dL_law_638 ?_
  refine lv_topi (fun x4 ex4 => ?_)
  refine lc_i (wr := (Z ++ mW o am tm jm qm em dm)) (va_runV (As := [.int x2, .int x4]) (rest := []) ⟨hx, hb, hml, hown, hts⟩ (x_X11_flag l D H.size sk a t i q c d x2 x4 hI ) (cwV 2 hts gm_law_X11_flag_74 rfl rfl rfl (by decide +kernel) ⟨Nat.le_of_ble_eq_true rfl, Nat.le_of_ble_eq_true rfl⟩) (yB_V hN (xZ_k hZ hS hA) (xZ_n hZ (vD_l hD)) hKT (vP_l hP) (vD_l hD) (ci := 11) (q0 := 0) rfl rfl) rfl rfl hl.1 rfl (lv_room (Nat.le_of_ble_eq_true rfl)) dL_law_639 hcs) hS hA hP hD (fun r5 u5 H locs hw5 _ hP hD hS => ?_)
  obtain ⟨i5, q5, c5, d5⟩ := u5
  have hw5 : True ∧ xInv i5 c5 ∧ (∀ k, k ∉ ([102] : List Nat) → i5 k = i k) ∧ (∀ k, k ∉ ([101] : List Nat) → c5 k = c k) := hw5
  obtain ⟨hw5, hI, hei5, hec5⟩ := hw5
  have hP : va_P D vwCl (xwT sk a t i5 q5 c5 d5 ++ (Z ++ mW o am tm jm qm em dm)) H := hP
  have hD : va_D (fun q : Nat => s.heap.size ≤ q) (xwT sk a t i5 q5 c5 d5 ++ (Z ++ mW o am tm jm qm em dm)) := hD
  refine lv_pop hx hb dL_law_642 rfl ?_
  refine lv_aload_n hx hb dL_law_643 rfl (lv_at hl 1 rfl) ?_
  refine lv_aload_n hx hb dL_law_644 rfl (lv_at hl 3 rfl) ?_
  refine lv_iload_n hx hb dL_law_645 rfl (lv_at hl 0 rfl) ?_
  refine lv_iconst (v := 1) hx hb dL_law_646 (by decide) ?_
  refine lv_iadd hx hb dL_law_647 ?_
  refine lv_topi (fun x6 ex6 => ?_)
  have tx6 := ti_add (a := x3.toInt) (b := 1) ex6 rfl (by decide) (by omega) (by omega)
  refine va_sld hx hb hX hbl hbA hS (vp_in_iff.mpr (by have h9 : x6.toInt = (x3.toInt + 1) := tx6; omega)) dL_law_648 ?_
  refine lv_topi (fun x7 ex7 => ?_)
  refine lv_aload_n hx hb dL_law_649 rfl (lv_at hl 3 rfl) ?_
  refine lv_iload_n hx hb dL_law_650 rfl (lv_at hl 0 rfl) ?_
  refine lv_iconst (v := 2) hx hb dL_law_651 (by decide) ?_
  refine lv_iadd hx hb dL_law_652 ?_
  refine lv_topi (fun x8 ex8 => ?_)
  have tx8 := ti_add (a := x3.toInt) (b := 2) ex8 rfl (by decide) (by omega) (by omega)
  refine va_sld hx hb hX hbl hbA hS (vp_in_iff.mpr (by have h9 : x8.toInt = (x3.toInt + 2) := tx8; omega)) dL_law_653 ?_
  refine lv_topi (fun x9 ex9 => ?_)
  have hP : va_P D vwCl ((xwT sk a t i5 q5 c5 d5 ++ Z) ++ mW o am tm jm qm em dm) H := by rw [List.append_assoc]; exact hP
  have hD : va_D (fun q : Nat => s.heap.size ≤ q) ((xwT sk a t i5 q5 c5 d5 ++ Z) ++ mW o am tm jm qm em dm) := by rw [List.append_assoc]; exact hD
  refine rc_i (wr := (xwT sk a t i5 q5 c5 d5 ++ Z)) (va_runV (As := [.int x7, .int x9]) (rest := []) ⟨hx, hb, hml, hown, hts⟩ (s_X12_flag l D H.size o am tm jm qm em dm x7 x9 hM ) (cwV 2 hts gm_law_X12_flag_77 rfl rfl rfl (by decide +kernel) ⟨Nat.le_of_ble_eq_true rfl, Nat.le_of_ble_eq_true rfl⟩) (pB_V hKM (vP_r hP) (vD_r hD) (ci := 12) (q0 := 0) rfl rfl) rfl rfl hl.1 rfl (lv_room (Nat.le_of_ble_eq_true rfl)) dL_law_654 hcs) hS hA hP hD (fun r10 u10 H locs hw10 hP hD hS => ?_)
  obtain ⟨i10, q10, c10, d10⟩ := u10
  have hw10 : True ∧ mInv i10 c10 ∧ (∀ k, k ∉ ([0] : List Nat) → i10 k = jm k) ∧ (∀ k, k ∉ ([1] : List Nat) → c10 k = em k) := hw10
  obtain ⟨hw10, hM, hei10, hec10⟩ := hw10
  have hP : va_P D vwCl (xwT sk a t i5 q5 c5 d5 ++ (Z ++ mW o am tm i10 q10 c10 d10)) H := by rw [← List.append_assoc]; exact hP
  have hD : va_D (fun q : Nat => s.heap.size ≤ q) (xwT sk a t i5 q5 c5 d5 ++ (Z ++ mW o am tm i10 q10 c10 d10)) := by rw [← List.append_assoc]; exact hD
  refine lv_pop hx hb dL_law_657 rfl ?_
  refine lv_goto (tgt := 1461) hx hb dL_law_658 (by decide) ?_
  exact kk i5 q5 c5 d5 i10 q10 c10 d10 _ _ _ ⟨hI, (by rw [show c5 113 = c 113 from hec5 113 (by decide), show c5 115 = c 115 from hec5 115 (by decide)]; exact hs_F), (by rw [show i5 146 = i 146 from hei5 146 (by decide), show i5 147 = i 147 from hei5 147 (by decide), show i5 148 = i 148 from hei5 148 (by decide), show i5 156 = i 156 from hei5 156 (by decide), show c5 144 = c 144 from hec5 144 (by decide), show c5 145 = c 145 from hec5 145 (by decide), show c5 150 = c 150 from hec5 150 (by decide)]; exact hs_P), (by rw [show i5 141 = i 141 from hei5 141 (by decide)]; exact htr), hM, (by rw [show c10 3 = em 3 from hec10 3 (by decide), show c10 6 = em 6 from hec10 6 (by decide), show c10 9 = em 9 from hec10 9 (by decide), show c10 10 = em 10 from hec10 10 (by decide), show c10 11 = em 11 from hec10 11 (by decide), show c10 13 = em 13 from hec10 13 (by decide), show i10 2 = jm 2 from hei10 2 (by decide), show i10 5 = jm 5 from hei10 5 (by decide), show i10 8 = jm 8 from hei10 8 (by decide)]; exact hs_S), (by rw [show c10 3 = em 3 from hec10 3 (by decide), show c10 6 = em 6 from hec10 6 (by decide), show c10 23 = em 23 from hec10 23 (by decide), show c10 24 = em 24 from hec10 24 (by decide), show c10 29 = em 29 from hec10 29 (by decide), show c10 30 = em 30 from hec10 30 (by decide), show i10 5 = jm 5 from hei10 5 (by decide), show i10 22 = jm 22 from hei10 22 (by decide), show i10 27 = jm 27 from hei10 27 (by decide)]; exact hs_J), (by rw [show i5 110 = i 110 from hei5 110 (by decide), show i10 2 = jm 2 from hei10 2 (by decide)]; exact hR)⟩ hP hD hS (lv_sub hl [0, 1, 2, 3] rfl)

set_option maxHeartbeats 4000000 in
set_option maxRecDepth 100000 in
theorem law_key {p : Program} {l : Launch} {e : Env} {s : State} {m : MethodId} {below : List Frame} {meth : Method} {cd : Code} {b L : Nat} {xs : Nat → Int32} {D : va_G} {a : Nat → Nat} {t : Nat → ClassId} {o : Nat} {am : Nat → Nat} {tm : Nat → ClassId} {x3 : Int32} {cells slots : Nat} {sk : Value} {Z : va_W} (hx : p.tables.exec = Jvm.exec) (hb : cd.code = cL_law) (hml : cd.maxLocals = 4) (hown : s.vm.findClass RL = some m.cls) (hts : ∀ w ∈ wm_law, w.before #[Value.ref b] s = true) (hX : va_X b L xs s s.heap) (hbl : b < s.heap.size) (hL : L ≤ 3584) (hN : xN s) (hZ : xZ (a 186) s s.heap) (hKT : va_K D vwCl (xtT t) s) (hKM : va_K D vwCl (mT tm) s) (hcs : cells ≤ 600000 ∧ slots ≤ 7302249) (hx3 : 0 ≤ x3.toInt ∧ x3.toInt + 7 ≤ (L : Int)) (kk : LK p l e s m below meth cd b D sk a t Z o am tm x3 cells slots) (i : Nat → Int32) (q : Int64) (c : Nat → Nat → Int32) (d : Nat → Nat → Int64) (jm : Nat → Int32) (qm : Int64) (em : Nat → Nat → Int32) (dm : Nat → Nat → Int64) (H : Heap) (locs : List Loc) (ls : Array Slot) (hLI : LI i c jm em) (hP : va_P D vwCl (xwT sk a t i q c d ++ (Z ++ mW o am tm jm qm em dm)) H) (hD : va_D (fun q : Nat => s.heap.size ≤ q) (xwT sk a t i q c d ++ (Z ++ mW o am tm jm qm em dm))) (hS : va_S (fun q : Nat => s.heap.size ≤ q) s.heap H locs) (hl : lv_has ls 4 [(3, .int x3), (2, .ref o), (1, .ref (a 100)), (0, .ref b)]) : W p l e room_1 s m #[Value.ref b] below meth cd H locs cells slots (lw_Z below #[Value.ref b] s) (F0 m 661 ls []) := by
  have hbA : ¬ (fun q : Nat => s.heap.size ≤ q) b := Nat.not_le.mpr hbl
  have hA : ∀ q : Nat, s.heap.size ≤ q → (fun q : Nat => s.heap.size ≤ q) q := fun _ h => h
  obtain ⟨hI, hs_F, hs_P, htr, hM, hs_S, hs_J, hR⟩ := hLI
  refine lv_aload_n hx hb dL_law_661 rfl (lv_at hl 2 rfl) ?_
  refine lv_aload_n hx hb dL_law_662 rfl (lv_at hl 3 rfl) ?_
  refine lv_iload_n hx hb dL_law_663 rfl (lv_at hl 0 rfl) ?_
  refine lv_iconst (v := 1) hx hb dL_law_664 (by decide) ?_
  refine lv_iadd hx hb dL_law_665 ?_
  refine lv_topi (fun x1 ex1 => ?_)
  have tx1 := ti_add (a := x3.toInt) (b := 1) ex1 rfl (by decide) (by omega) (by omega)
  refine va_sld hx hb hX hbl hbA hS (vp_in_iff.mpr (by have h9 : x1.toInt = (x3.toInt + 1) := tx1; omega)) dL_law_666 ?_
  refine lv_topi (fun x2 ex2 => ?_)
  refine lc_i (wr := (Z ++ mW o am tm jm qm em dm)) (va_runV (As := [.int x2]) (rest := []) ⟨hx, hb, hml, hown, hts⟩ (x_X11_key l D H.size sk a t i q c d x2 hI ) (cwV 1 hts gm_law_X11_key_78 rfl rfl rfl (by decide +kernel) ⟨Nat.le_of_ble_eq_true rfl, Nat.le_of_ble_eq_true rfl⟩) (yB_V hN (xZ_k hZ hS hA) (xZ_n hZ (vD_l hD)) hKT (vP_l hP) (vD_l hD) (ci := 11) (q0 := 0) rfl rfl) rfl rfl hl.1 rfl (lv_room (Nat.le_of_ble_eq_true rfl)) dL_law_667 hcs) hS hA hP hD (fun r3 u3 H locs hw3 _ hP hD hS => ?_)
  obtain ⟨i3, q3, c3, d3⟩ := u3
  have hw3 : True ∧ xInv i3 c3 ∧ (∀ k, k ∉ ([102] : List Nat) → i3 k = i k) ∧ (∀ k, k ∉ ([101] : List Nat) → c3 k = c k) := hw3
  obtain ⟨hw3, hI, hei3, hec3⟩ := hw3
  have hP : va_P D vwCl (xwT sk a t i3 q3 c3 d3 ++ (Z ++ mW o am tm jm qm em dm)) H := hP
  have hD : va_D (fun q : Nat => s.heap.size ≤ q) (xwT sk a t i3 q3 c3 d3 ++ (Z ++ mW o am tm jm qm em dm)) := hD
  refine lv_pop hx hb dL_law_670 rfl ?_
  refine lv_aload_n hx hb dL_law_671 rfl (lv_at hl 1 rfl) ?_
  refine lv_aload_n hx hb dL_law_672 rfl (lv_at hl 3 rfl) ?_
  refine lv_iload_n hx hb dL_law_673 rfl (lv_at hl 0 rfl) ?_
  refine lv_iconst (v := 1) hx hb dL_law_674 (by decide) ?_
  refine lv_iadd hx hb dL_law_675 ?_
  refine lv_topi (fun x4 ex4 => ?_)
  have tx4 := ti_add (a := x3.toInt) (b := 1) ex4 rfl (by decide) (by omega) (by omega)
  refine va_sld hx hb hX hbl hbA hS (vp_in_iff.mpr (by have h9 : x4.toInt = (x3.toInt + 1) := tx4; omega)) dL_law_676 ?_
  refine lv_topi (fun x5 ex5 => ?_)
  have hP : va_P D vwCl ((xwT sk a t i3 q3 c3 d3 ++ Z) ++ mW o am tm jm qm em dm) H := by rw [List.append_assoc]; exact hP
  have hD : va_D (fun q : Nat => s.heap.size ≤ q) ((xwT sk a t i3 q3 c3 d3 ++ Z) ++ mW o am tm jm qm em dm) := by rw [List.append_assoc]; exact hD
  refine rc_i (wr := (xwT sk a t i3 q3 c3 d3 ++ Z)) (va_runV (As := [.int x5]) (rest := []) ⟨hx, hb, hml, hown, hts⟩ (s_X12_key l D H.size o am tm jm qm em dm x5 hM ) (cwV 1 hts gm_law_X12_key_81 rfl rfl rfl (by decide +kernel) ⟨Nat.le_of_ble_eq_true rfl, Nat.le_of_ble_eq_true rfl⟩) (pB_V hKM (vP_r hP) (vD_r hD) (ci := 12) (q0 := 0) rfl rfl) rfl rfl hl.1 rfl (lv_room (Nat.le_of_ble_eq_true rfl)) dL_law_677 hcs) hS hA hP hD (fun r6 u6 H locs hw6 hP hD hS => ?_)
  obtain ⟨i6, q6, c6, d6⟩ := u6
  have hw6 : True ∧ mInv i6 c6 ∧ (∀ k, k ∉ ([0] : List Nat) → i6 k = jm k) ∧ (∀ k, k ∉ ([1] : List Nat) → c6 k = em k) := hw6
  obtain ⟨hw6, hM, hei6, hec6⟩ := hw6
  have hP : va_P D vwCl (xwT sk a t i3 q3 c3 d3 ++ (Z ++ mW o am tm i6 q6 c6 d6)) H := by rw [← List.append_assoc]; exact hP
  have hD : va_D (fun q : Nat => s.heap.size ≤ q) (xwT sk a t i3 q3 c3 d3 ++ (Z ++ mW o am tm i6 q6 c6 d6)) := by rw [← List.append_assoc]; exact hD
  refine lv_pop hx hb dL_law_680 rfl ?_
  refine lv_goto (tgt := 1461) hx hb dL_law_681 (by decide) ?_
  exact kk i3 q3 c3 d3 i6 q6 c6 d6 _ _ _ ⟨hI, (by rw [show c3 113 = c 113 from hec3 113 (by decide), show c3 115 = c 115 from hec3 115 (by decide)]; exact hs_F), (by rw [show i3 146 = i 146 from hei3 146 (by decide), show i3 147 = i 147 from hei3 147 (by decide), show i3 148 = i 148 from hei3 148 (by decide), show i3 156 = i 156 from hei3 156 (by decide), show c3 144 = c 144 from hec3 144 (by decide), show c3 145 = c 145 from hec3 145 (by decide), show c3 150 = c 150 from hec3 150 (by decide)]; exact hs_P), (by rw [show i3 141 = i 141 from hei3 141 (by decide)]; exact htr), hM, (by rw [show c6 3 = em 3 from hec6 3 (by decide), show c6 6 = em 6 from hec6 6 (by decide), show c6 9 = em 9 from hec6 9 (by decide), show c6 10 = em 10 from hec6 10 (by decide), show c6 11 = em 11 from hec6 11 (by decide), show c6 13 = em 13 from hec6 13 (by decide), show i6 2 = jm 2 from hei6 2 (by decide), show i6 5 = jm 5 from hei6 5 (by decide), show i6 8 = jm 8 from hei6 8 (by decide)]; exact hs_S), (by rw [show c6 3 = em 3 from hec6 3 (by decide), show c6 6 = em 6 from hec6 6 (by decide), show c6 23 = em 23 from hec6 23 (by decide), show c6 24 = em 24 from hec6 24 (by decide), show c6 29 = em 29 from hec6 29 (by decide), show c6 30 = em 30 from hec6 30 (by decide), show i6 5 = jm 5 from hei6 5 (by decide), show i6 22 = jm 22 from hei6 22 (by decide), show i6 27 = jm 27 from hei6 27 (by decide)]; exact hs_J), (by rw [show i3 110 = i 110 from hei3 110 (by decide), show i6 2 = jm 2 from hei6 2 (by decide)]; exact hR)⟩ hP hD hS (lv_sub hl [0, 1, 2, 3] rfl)

set_option maxHeartbeats 4000000 in
set_option maxRecDepth 100000 in
theorem law_way {p : Program} {l : Launch} {e : Env} {s : State} {m : MethodId} {below : List Frame} {meth : Method} {cd : Code} {b L : Nat} {xs : Nat → Int32} {D : va_G} {a : Nat → Nat} {t : Nat → ClassId} {o : Nat} {am : Nat → Nat} {tm : Nat → ClassId} {x3 : Int32} {cells slots : Nat} {sk : Value} {Z : va_W} (hx : p.tables.exec = Jvm.exec) (hb : cd.code = cL_law) (hml : cd.maxLocals = 4) (hown : s.vm.findClass RL = some m.cls) (hts : ∀ w ∈ wm_law, w.before #[Value.ref b] s = true) (hX : va_X b L xs s s.heap) (hbl : b < s.heap.size) (hL : L ≤ 3584) (hN : xN s) (hZ : xZ (a 186) s s.heap) (hKT : va_K D vwCl (xtT t) s) (hKM : va_K D vwCl (mT tm) s) (hcs : cells ≤ 600000 ∧ slots ≤ 7302249) (hx3 : 0 ≤ x3.toInt ∧ x3.toInt + 7 ≤ (L : Int)) (kk : LK p l e s m below meth cd b D sk a t Z o am tm x3 cells slots) (i : Nat → Int32) (q : Int64) (c : Nat → Nat → Int32) (d : Nat → Nat → Int64) (jm : Nat → Int32) (qm : Int64) (em : Nat → Nat → Int32) (dm : Nat → Nat → Int64) (H : Heap) (locs : List Loc) (ls : Array Slot) (hLI : LI i c jm em) (hP : va_P D vwCl (xwT sk a t i q c d ++ (Z ++ mW o am tm jm qm em dm)) H) (hD : va_D (fun q : Nat => s.heap.size ≤ q) (xwT sk a t i q c d ++ (Z ++ mW o am tm jm qm em dm))) (hS : va_S (fun q : Nat => s.heap.size ≤ q) s.heap H locs) (hl : lv_has ls 4 [(3, .int x3), (2, .ref o), (1, .ref (a 100)), (0, .ref b)]) : W p l e room_1 s m #[Value.ref b] below meth cd H locs cells slots (lw_Z below #[Value.ref b] s) (F0 m 684 ls []) := by
  have hbA : ¬ (fun q : Nat => s.heap.size ≤ q) b := Nat.not_le.mpr hbl
  have hA : ∀ q : Nat, s.heap.size ≤ q → (fun q : Nat => s.heap.size ≤ q) q := fun _ h => h
  obtain ⟨hI, hs_F, hs_P, htr, hM, hs_S, hs_J, hR⟩ := hLI
  refine lv_aload_n hx hb dL_law_684 rfl (lv_at hl 2 rfl) ?_
  refine lv_aload_n hx hb dL_law_685 rfl (lv_at hl 3 rfl) ?_
  refine lv_iload_n hx hb dL_law_686 rfl (lv_at hl 0 rfl) ?_
  refine lv_iconst (v := 1) hx hb dL_law_687 (by decide) ?_
  refine lv_iadd hx hb dL_law_688 ?_
  refine lv_topi (fun x1 ex1 => ?_)
  have tx1 := ti_add (a := x3.toInt) (b := 1) ex1 rfl (by decide) (by omega) (by omega)
  refine va_sld hx hb hX hbl hbA hS (vp_in_iff.mpr (by have h9 : x1.toInt = (x3.toInt + 1) := tx1; omega)) dL_law_689 ?_
  refine lv_topi (fun x2 ex2 => ?_)
  refine lv_aload_n hx hb dL_law_690 rfl (lv_at hl 3 rfl) ?_
  refine lv_iload_n hx hb dL_law_691 rfl (lv_at hl 0 rfl) ?_
  refine lv_iconst (v := 2) hx hb dL_law_692 (by decide) ?_
  refine lv_iadd hx hb dL_law_693 ?_
  refine lv_topi (fun x3 ex3 => ?_)
  have tx3 := ti_add (a := x3.toInt) (b := 2) ex3 rfl (by decide) (by omega) (by omega)
  refine va_sld hx hb hX hbl hbA hS (vp_in_iff.mpr (by have h9 : x3.toInt = (x3.toInt + 2) := tx3; omega)) dL_law_694 ?_
  refine lv_topi (fun x4 ex4 => ?_)
  refine lv_aload_n hx hb dL_law_695 rfl (lv_at hl 3 rfl) ?_
  refine lv_iload_n hx hb dL_law_696 rfl (lv_at hl 0 rfl) ?_
  refine lv_iconst (v := 3) hx hb dL_law_697 (by decide) ?_
  refine lv_iadd hx hb dL_law_698 ?_
  refine lv_topi (fun x5 ex5 => ?_)
  have tx5 := ti_add (a := x3.toInt) (b := 3) ex5 rfl (by decide) (by omega) (by omega)
  refine va_sld hx hb hX hbl hbA hS (vp_in_iff.mpr (by have h9 : x5.toInt = (x3.toInt + 3) := tx5; omega)) dL_law_699 ?_
  refine lv_topi (fun x6 ex6 => ?_)
  refine lv_if_eq (tgt := 707) hx hb dL_law_700 (by decide) (fun c7 => ?_) (fun c7 => ?_)
  · have f7 := (ti_eq (a := x6.toInt) (b := 0) rfl (by decide)).mp c7
    refine lv_iconst (v := 0) hx hb dL_law_707 (by decide) ?_
    refine lc_i (wr := (Z ++ mW o am tm jm qm em dm)) (va_runV (As := [.int x2, .int x4, .int 0]) (rest := []) ⟨hx, hb, hml, hown, hts⟩ (x_X11_way l D H.size sk a t i q c d x2 x4 (0 : Int32) hI ) (cwV 3 hts gm_law_X11_way_82 rfl rfl rfl (by decide +kernel) ⟨Nat.le_of_ble_eq_true rfl, Nat.le_of_ble_eq_true rfl⟩) (yB_V hN (xZ_k hZ hS hA) (xZ_n hZ (vD_l hD)) hKT (vP_l hP) (vD_l hD) (ci := 11) (q0 := 0) rfl rfl) rfl rfl hl.1 rfl (lv_room (Nat.le_of_ble_eq_true rfl)) dL_law_708 hcs) hS hA hP hD (fun r8 u8 H locs hw8 _ hP hD hS => ?_)
    obtain ⟨i8, q8, c8, d8⟩ := u8
    have hw8 : True ∧ xInv i8 c8 ∧ (∀ k, k ∉ ([102] : List Nat) → i8 k = i k) ∧ (∀ k, k ∉ ([101, 135, 136, 137] : List Nat) → c8 k = c k) := hw8
    obtain ⟨hw8, hI, hei8, hec8⟩ := hw8
    have hP : va_P D vwCl (xwT sk a t i8 q8 c8 d8 ++ (Z ++ mW o am tm jm qm em dm)) H := hP
    have hD : va_D (fun q : Nat => s.heap.size ≤ q) (xwT sk a t i8 q8 c8 d8 ++ (Z ++ mW o am tm jm qm em dm)) := hD
    refine lv_pop hx hb dL_law_711 rfl ?_
    refine lv_aload_n hx hb dL_law_712 rfl (lv_at hl 1 rfl) ?_
    refine lv_aload_n hx hb dL_law_713 rfl (lv_at hl 3 rfl) ?_
    refine lv_iload_n hx hb dL_law_714 rfl (lv_at hl 0 rfl) ?_
    refine lv_iconst (v := 1) hx hb dL_law_715 (by decide) ?_
    refine lv_iadd hx hb dL_law_716 ?_
    refine lv_topi (fun x9 ex9 => ?_)
    have tx9 := ti_add (a := x3.toInt) (b := 1) ex9 rfl (by decide) (by omega) (by omega)
    refine va_sld hx hb hX hbl hbA hS (vp_in_iff.mpr (by have h9 : x9.toInt = (x3.toInt + 1) := tx9; omega)) dL_law_717 ?_
    refine lv_topi (fun x10 ex10 => ?_)
    refine lv_aload_n hx hb dL_law_718 rfl (lv_at hl 3 rfl) ?_
    refine lv_iload_n hx hb dL_law_719 rfl (lv_at hl 0 rfl) ?_
    refine lv_iconst (v := 2) hx hb dL_law_720 (by decide) ?_
    refine lv_iadd hx hb dL_law_721 ?_
    refine lv_topi (fun x11 ex11 => ?_)
    have tx11 := ti_add (a := x3.toInt) (b := 2) ex11 rfl (by decide) (by omega) (by omega)
    refine va_sld hx hb hX hbl hbA hS (vp_in_iff.mpr (by have h9 : x11.toInt = (x3.toInt + 2) := tx11; omega)) dL_law_722 ?_
    refine lv_topi (fun x12 ex12 => ?_)
    refine lv_aload_n hx hb dL_law_723 rfl (lv_at hl 3 rfl) ?_
    refine lv_iload_n hx hb dL_law_724 rfl (lv_at hl 0 rfl) ?_
    refine lv_iconst (v := 3) hx hb dL_law_725 (by decide) ?_
    refine lv_iadd hx hb dL_law_726 ?_
    refine lv_topi (fun x13 ex13 => ?_)
    have tx13 := ti_add (a := x3.toInt) (b := 3) ex13 rfl (by decide) (by omega) (by omega)
    refine va_sld hx hb hX hbl hbA hS (vp_in_iff.mpr (by have h9 : x13.toInt = (x3.toInt + 3) := tx13; omega)) dL_law_727 ?_
    refine lv_topi (fun x14 ex14 => ?_)
    refine lv_if_eq (tgt := 735) hx hb dL_law_728 (by decide) (fun c15 => ?_) (fun c15 => ?_)
    · have f15 := (ti_eq (a := x14.toInt) (b := 0) rfl (by decide)).mp c15
      refine lv_iconst (v := 0) hx hb dL_law_735 (by decide) ?_
      have hP : va_P D vwCl ((xwT sk a t i8 q8 c8 d8 ++ Z) ++ mW o am tm jm qm em dm) H := by rw [List.append_assoc]; exact hP
      have hD : va_D (fun q : Nat => s.heap.size ≤ q) ((xwT sk a t i8 q8 c8 d8 ++ Z) ++ mW o am tm jm qm em dm) := by rw [List.append_assoc]; exact hD
      refine rc_i (wr := (xwT sk a t i8 q8 c8 d8 ++ Z)) (va_runV (As := [.int x10, .int x12, .int 0]) (rest := []) ⟨hx, hb, hml, hown, hts⟩ (s_X12_way l D H.size o am tm jm qm em dm x10 x12 (0 : Int32) hM ) (cwV 3 hts gm_law_X12_way_86 rfl rfl rfl (by decide +kernel) ⟨Nat.le_of_ble_eq_true rfl, Nat.le_of_ble_eq_true rfl⟩) (pB_V hKM (vP_r hP) (vD_r hD) (ci := 12) (q0 := 0) rfl rfl) rfl rfl hl.1 rfl (lv_room (Nat.le_of_ble_eq_true rfl)) dL_law_736 hcs) hS hA hP hD (fun r16 u16 H locs hw16 hP hD hS => ?_)
      obtain ⟨i16, q16, c16, d16⟩ := u16
      have hw16 : True ∧ mInv i16 c16 ∧ (∀ k, k ∉ ([0, 16, 17, 18, 19] : List Nat) → i16 k = jm k) ∧ (∀ k, k ∉ ([1, 20, 21] : List Nat) → c16 k = em k) := hw16
      obtain ⟨hw16, hM, hei16, hec16⟩ := hw16
      have hP : va_P D vwCl (xwT sk a t i8 q8 c8 d8 ++ (Z ++ mW o am tm i16 q16 c16 d16)) H := by rw [← List.append_assoc]; exact hP
      have hD : va_D (fun q : Nat => s.heap.size ≤ q) (xwT sk a t i8 q8 c8 d8 ++ (Z ++ mW o am tm i16 q16 c16 d16)) := by rw [← List.append_assoc]; exact hD
      refine lv_pop hx hb dL_law_739 rfl ?_
      refine lv_goto (tgt := 1461) hx hb dL_law_740 (by decide) ?_
      exact kk i8 q8 c8 d8 i16 q16 c16 d16 _ _ _ ⟨hI, (by rw [show c8 113 = c 113 from hec8 113 (by decide), show c8 115 = c 115 from hec8 115 (by decide)]; exact hs_F), (by rw [show i8 146 = i 146 from hei8 146 (by decide), show i8 147 = i 147 from hei8 147 (by decide), show i8 148 = i 148 from hei8 148 (by decide), show i8 156 = i 156 from hei8 156 (by decide), show c8 144 = c 144 from hec8 144 (by decide), show c8 145 = c 145 from hec8 145 (by decide), show c8 150 = c 150 from hec8 150 (by decide)]; exact hs_P), (by rw [show i8 141 = i 141 from hei8 141 (by decide)]; exact htr), hM, (by rw [show c16 3 = em 3 from hec16 3 (by decide), show c16 6 = em 6 from hec16 6 (by decide), show c16 9 = em 9 from hec16 9 (by decide), show c16 10 = em 10 from hec16 10 (by decide), show c16 11 = em 11 from hec16 11 (by decide), show c16 13 = em 13 from hec16 13 (by decide), show i16 2 = jm 2 from hei16 2 (by decide), show i16 5 = jm 5 from hei16 5 (by decide), show i16 8 = jm 8 from hei16 8 (by decide)]; exact hs_S), (by rw [show c16 3 = em 3 from hec16 3 (by decide), show c16 6 = em 6 from hec16 6 (by decide), show c16 23 = em 23 from hec16 23 (by decide), show c16 24 = em 24 from hec16 24 (by decide), show c16 29 = em 29 from hec16 29 (by decide), show c16 30 = em 30 from hec16 30 (by decide), show i16 5 = jm 5 from hei16 5 (by decide), show i16 22 = jm 22 from hei16 22 (by decide), show i16 27 = jm 27 from hei16 27 (by decide)]; exact hs_J), (by rw [show i8 110 = i 110 from hei8 110 (by decide), show i16 2 = jm 2 from hei16 2 (by decide)]; exact hR)⟩ hP hD hS (lv_sub hl [0, 1, 2, 3] rfl)
    · have f15 := mt (ti_eq (a := x14.toInt) (b := 0) rfl (by decide)).mpr c15
      refine lv_iconst (v := 1) hx hb dL_law_731 (by decide) ?_
      refine lv_goto (tgt := 736) hx hb dL_law_732 (by decide) ?_
      have hP : va_P D vwCl ((xwT sk a t i8 q8 c8 d8 ++ Z) ++ mW o am tm jm qm em dm) H := by rw [List.append_assoc]; exact hP
      have hD : va_D (fun q : Nat => s.heap.size ≤ q) ((xwT sk a t i8 q8 c8 d8 ++ Z) ++ mW o am tm jm qm em dm) := by rw [List.append_assoc]; exact hD
      refine rc_i (wr := (xwT sk a t i8 q8 c8 d8 ++ Z)) (va_runV (As := [.int x10, .int x12, .int 1]) (rest := []) ⟨hx, hb, hml, hown, hts⟩ (s_X12_way l D H.size o am tm jm qm em dm x10 x12 (1 : Int32) hM ) (cwV 3 hts gm_law_X12_way_86 rfl rfl rfl (by decide +kernel) ⟨Nat.le_of_ble_eq_true rfl, Nat.le_of_ble_eq_true rfl⟩) (pB_V hKM (vP_r hP) (vD_r hD) (ci := 12) (q0 := 0) rfl rfl) rfl rfl hl.1 rfl (lv_room (Nat.le_of_ble_eq_true rfl)) dL_law_736 hcs) hS hA hP hD (fun r17 u17 H locs hw17 hP hD hS => ?_)
      obtain ⟨i17, q17, c17, d17⟩ := u17
      have hw17 : True ∧ mInv i17 c17 ∧ (∀ k, k ∉ ([0, 16, 17, 18, 19] : List Nat) → i17 k = jm k) ∧ (∀ k, k ∉ ([1, 20, 21] : List Nat) → c17 k = em k) := hw17
      obtain ⟨hw17, hM, hei17, hec17⟩ := hw17
      have hP : va_P D vwCl (xwT sk a t i8 q8 c8 d8 ++ (Z ++ mW o am tm i17 q17 c17 d17)) H := by rw [← List.append_assoc]; exact hP
      have hD : va_D (fun q : Nat => s.heap.size ≤ q) (xwT sk a t i8 q8 c8 d8 ++ (Z ++ mW o am tm i17 q17 c17 d17)) := by rw [← List.append_assoc]; exact hD
      refine lv_pop hx hb dL_law_739 rfl ?_
      refine lv_goto (tgt := 1461) hx hb dL_law_740 (by decide) ?_
      exact kk i8 q8 c8 d8 i17 q17 c17 d17 _ _ _ ⟨hI, (by rw [show c8 113 = c 113 from hec8 113 (by decide), show c8 115 = c 115 from hec8 115 (by decide)]; exact hs_F), (by rw [show i8 146 = i 146 from hei8 146 (by decide), show i8 147 = i 147 from hei8 147 (by decide), show i8 148 = i 148 from hei8 148 (by decide), show i8 156 = i 156 from hei8 156 (by decide), show c8 144 = c 144 from hec8 144 (by decide), show c8 145 = c 145 from hec8 145 (by decide), show c8 150 = c 150 from hec8 150 (by decide)]; exact hs_P), (by rw [show i8 141 = i 141 from hei8 141 (by decide)]; exact htr), hM, (by rw [show c17 3 = em 3 from hec17 3 (by decide), show c17 6 = em 6 from hec17 6 (by decide), show c17 9 = em 9 from hec17 9 (by decide), show c17 10 = em 10 from hec17 10 (by decide), show c17 11 = em 11 from hec17 11 (by decide), show c17 13 = em 13 from hec17 13 (by decide), show i17 2 = jm 2 from hei17 2 (by decide), show i17 5 = jm 5 from hei17 5 (by decide), show i17 8 = jm 8 from hei17 8 (by decide)]; exact hs_S), (by rw [show c17 3 = em 3 from hec17 3 (by decide), show c17 6 = em 6 from hec17 6 (by decide), show c17 23 = em 23 from hec17 23 (by decide), show c17 24 = em 24 from hec17 24 (by decide), show c17 29 = em 29 from hec17 29 (by decide), show c17 30 = em 30 from hec17 30 (by decide), show i17 5 = jm 5 from hei17 5 (by decide), show i17 22 = jm 22 from hei17 22 (by decide), show i17 27 = jm 27 from hei17 27 (by decide)]; exact hs_J), (by rw [show i8 110 = i 110 from hei8 110 (by decide), show i17 2 = jm 2 from hei17 2 (by decide)]; exact hR)⟩ hP hD hS (lv_sub hl [0, 1, 2, 3] rfl)
  · have f7 := mt (ti_eq (a := x6.toInt) (b := 0) rfl (by decide)).mpr c7
    refine lv_iconst (v := 1) hx hb dL_law_703 (by decide) ?_
    refine lv_goto (tgt := 708) hx hb dL_law_704 (by decide) ?_
    refine lc_i (wr := (Z ++ mW o am tm jm qm em dm)) (va_runV (As := [.int x2, .int x4, .int 1]) (rest := []) ⟨hx, hb, hml, hown, hts⟩ (x_X11_way l D H.size sk a t i q c d x2 x4 (1 : Int32) hI ) (cwV 3 hts gm_law_X11_way_82 rfl rfl rfl (by decide +kernel) ⟨Nat.le_of_ble_eq_true rfl, Nat.le_of_ble_eq_true rfl⟩) (yB_V hN (xZ_k hZ hS hA) (xZ_n hZ (vD_l hD)) hKT (vP_l hP) (vD_l hD) (ci := 11) (q0 := 0) rfl rfl) rfl rfl hl.1 rfl (lv_room (Nat.le_of_ble_eq_true rfl)) dL_law_708 hcs) hS hA hP hD (fun r18 u18 H locs hw18 _ hP hD hS => ?_)
    obtain ⟨i18, q18, c18, d18⟩ := u18
    have hw18 : True ∧ xInv i18 c18 ∧ (∀ k, k ∉ ([102] : List Nat) → i18 k = i k) ∧ (∀ k, k ∉ ([101, 135, 136, 137] : List Nat) → c18 k = c k) := hw18
    obtain ⟨hw18, hI, hei18, hec18⟩ := hw18
    have hP : va_P D vwCl (xwT sk a t i18 q18 c18 d18 ++ (Z ++ mW o am tm jm qm em dm)) H := hP
    have hD : va_D (fun q : Nat => s.heap.size ≤ q) (xwT sk a t i18 q18 c18 d18 ++ (Z ++ mW o am tm jm qm em dm)) := hD
    refine lv_pop hx hb dL_law_711 rfl ?_
    refine lv_aload_n hx hb dL_law_712 rfl (lv_at hl 1 rfl) ?_
    refine lv_aload_n hx hb dL_law_713 rfl (lv_at hl 3 rfl) ?_
    refine lv_iload_n hx hb dL_law_714 rfl (lv_at hl 0 rfl) ?_
    refine lv_iconst (v := 1) hx hb dL_law_715 (by decide) ?_
    refine lv_iadd hx hb dL_law_716 ?_
    refine lv_topi (fun x19 ex19 => ?_)
    have tx19 := ti_add (a := x3.toInt) (b := 1) ex19 rfl (by decide) (by omega) (by omega)
    refine va_sld hx hb hX hbl hbA hS (vp_in_iff.mpr (by have h9 : x19.toInt = (x3.toInt + 1) := tx19; omega)) dL_law_717 ?_
    refine lv_topi (fun x20 ex20 => ?_)
    refine lv_aload_n hx hb dL_law_718 rfl (lv_at hl 3 rfl) ?_
    refine lv_iload_n hx hb dL_law_719 rfl (lv_at hl 0 rfl) ?_
    refine lv_iconst (v := 2) hx hb dL_law_720 (by decide) ?_
    refine lv_iadd hx hb dL_law_721 ?_
    refine lv_topi (fun x21 ex21 => ?_)
    have tx21 := ti_add (a := x3.toInt) (b := 2) ex21 rfl (by decide) (by omega) (by omega)
    refine va_sld hx hb hX hbl hbA hS (vp_in_iff.mpr (by have h9 : x21.toInt = (x3.toInt + 2) := tx21; omega)) dL_law_722 ?_
    refine lv_topi (fun x22 ex22 => ?_)
    refine lv_aload_n hx hb dL_law_723 rfl (lv_at hl 3 rfl) ?_
    refine lv_iload_n hx hb dL_law_724 rfl (lv_at hl 0 rfl) ?_
    refine lv_iconst (v := 3) hx hb dL_law_725 (by decide) ?_
    refine lv_iadd hx hb dL_law_726 ?_
    refine lv_topi (fun x23 ex23 => ?_)
    have tx23 := ti_add (a := x3.toInt) (b := 3) ex23 rfl (by decide) (by omega) (by omega)
    refine va_sld hx hb hX hbl hbA hS (vp_in_iff.mpr (by have h9 : x23.toInt = (x3.toInt + 3) := tx23; omega)) dL_law_727 ?_
    refine lv_topi (fun x24 ex24 => ?_)
    refine lv_if_eq (tgt := 735) hx hb dL_law_728 (by decide) (fun c25 => ?_) (fun c25 => ?_)
    · have f25 := (ti_eq (a := x24.toInt) (b := 0) rfl (by decide)).mp c25
      refine lv_iconst (v := 0) hx hb dL_law_735 (by decide) ?_
      have hP : va_P D vwCl ((xwT sk a t i18 q18 c18 d18 ++ Z) ++ mW o am tm jm qm em dm) H := by rw [List.append_assoc]; exact hP
      have hD : va_D (fun q : Nat => s.heap.size ≤ q) ((xwT sk a t i18 q18 c18 d18 ++ Z) ++ mW o am tm jm qm em dm) := by rw [List.append_assoc]; exact hD
      refine rc_i (wr := (xwT sk a t i18 q18 c18 d18 ++ Z)) (va_runV (As := [.int x20, .int x22, .int 0]) (rest := []) ⟨hx, hb, hml, hown, hts⟩ (s_X12_way l D H.size o am tm jm qm em dm x20 x22 (0 : Int32) hM ) (cwV 3 hts gm_law_X12_way_86 rfl rfl rfl (by decide +kernel) ⟨Nat.le_of_ble_eq_true rfl, Nat.le_of_ble_eq_true rfl⟩) (pB_V hKM (vP_r hP) (vD_r hD) (ci := 12) (q0 := 0) rfl rfl) rfl rfl hl.1 rfl (lv_room (Nat.le_of_ble_eq_true rfl)) dL_law_736 hcs) hS hA hP hD (fun r26 u26 H locs hw26 hP hD hS => ?_)
      obtain ⟨i26, q26, c26, d26⟩ := u26
      have hw26 : True ∧ mInv i26 c26 ∧ (∀ k, k ∉ ([0, 16, 17, 18, 19] : List Nat) → i26 k = jm k) ∧ (∀ k, k ∉ ([1, 20, 21] : List Nat) → c26 k = em k) := hw26
      obtain ⟨hw26, hM, hei26, hec26⟩ := hw26
      have hP : va_P D vwCl (xwT sk a t i18 q18 c18 d18 ++ (Z ++ mW o am tm i26 q26 c26 d26)) H := by rw [← List.append_assoc]; exact hP
      have hD : va_D (fun q : Nat => s.heap.size ≤ q) (xwT sk a t i18 q18 c18 d18 ++ (Z ++ mW o am tm i26 q26 c26 d26)) := by rw [← List.append_assoc]; exact hD
      refine lv_pop hx hb dL_law_739 rfl ?_
      refine lv_goto (tgt := 1461) hx hb dL_law_740 (by decide) ?_
      exact kk i18 q18 c18 d18 i26 q26 c26 d26 _ _ _ ⟨hI, (by rw [show c18 113 = c 113 from hec18 113 (by decide), show c18 115 = c 115 from hec18 115 (by decide)]; exact hs_F), (by rw [show i18 146 = i 146 from hei18 146 (by decide), show i18 147 = i 147 from hei18 147 (by decide), show i18 148 = i 148 from hei18 148 (by decide), show i18 156 = i 156 from hei18 156 (by decide), show c18 144 = c 144 from hec18 144 (by decide), show c18 145 = c 145 from hec18 145 (by decide), show c18 150 = c 150 from hec18 150 (by decide)]; exact hs_P), (by rw [show i18 141 = i 141 from hei18 141 (by decide)]; exact htr), hM, (by rw [show c26 3 = em 3 from hec26 3 (by decide), show c26 6 = em 6 from hec26 6 (by decide), show c26 9 = em 9 from hec26 9 (by decide), show c26 10 = em 10 from hec26 10 (by decide), show c26 11 = em 11 from hec26 11 (by decide), show c26 13 = em 13 from hec26 13 (by decide), show i26 2 = jm 2 from hei26 2 (by decide), show i26 5 = jm 5 from hei26 5 (by decide), show i26 8 = jm 8 from hei26 8 (by decide)]; exact hs_S), (by rw [show c26 3 = em 3 from hec26 3 (by decide), show c26 6 = em 6 from hec26 6 (by decide), show c26 23 = em 23 from hec26 23 (by decide), show c26 24 = em 24 from hec26 24 (by decide), show c26 29 = em 29 from hec26 29 (by decide), show c26 30 = em 30 from hec26 30 (by decide), show i26 5 = jm 5 from hei26 5 (by decide), show i26 22 = jm 22 from hei26 22 (by decide), show i26 27 = jm 27 from hei26 27 (by decide)]; exact hs_J), (by rw [show i18 110 = i 110 from hei18 110 (by decide), show i26 2 = jm 2 from hei26 2 (by decide)]; exact hR)⟩ hP hD hS (lv_sub hl [0, 1, 2, 3] rfl)
    · have f25 := mt (ti_eq (a := x24.toInt) (b := 0) rfl (by decide)).mpr c25
      refine lv_iconst (v := 1) hx hb dL_law_731 (by decide) ?_
      refine lv_goto (tgt := 736) hx hb dL_law_732 (by decide) ?_
      have hP : va_P D vwCl ((xwT sk a t i18 q18 c18 d18 ++ Z) ++ mW o am tm jm qm em dm) H := by rw [List.append_assoc]; exact hP
      have hD : va_D (fun q : Nat => s.heap.size ≤ q) ((xwT sk a t i18 q18 c18 d18 ++ Z) ++ mW o am tm jm qm em dm) := by rw [List.append_assoc]; exact hD
      refine rc_i (wr := (xwT sk a t i18 q18 c18 d18 ++ Z)) (va_runV (As := [.int x20, .int x22, .int 1]) (rest := []) ⟨hx, hb, hml, hown, hts⟩ (s_X12_way l D H.size o am tm jm qm em dm x20 x22 (1 : Int32) hM ) (cwV 3 hts gm_law_X12_way_86 rfl rfl rfl (by decide +kernel) ⟨Nat.le_of_ble_eq_true rfl, Nat.le_of_ble_eq_true rfl⟩) (pB_V hKM (vP_r hP) (vD_r hD) (ci := 12) (q0 := 0) rfl rfl) rfl rfl hl.1 rfl (lv_room (Nat.le_of_ble_eq_true rfl)) dL_law_736 hcs) hS hA hP hD (fun r27 u27 H locs hw27 hP hD hS => ?_)
      obtain ⟨i27, q27, c27, d27⟩ := u27
      have hw27 : True ∧ mInv i27 c27 ∧ (∀ k, k ∉ ([0, 16, 17, 18, 19] : List Nat) → i27 k = jm k) ∧ (∀ k, k ∉ ([1, 20, 21] : List Nat) → c27 k = em k) := hw27
      obtain ⟨hw27, hM, hei27, hec27⟩ := hw27
      have hP : va_P D vwCl (xwT sk a t i18 q18 c18 d18 ++ (Z ++ mW o am tm i27 q27 c27 d27)) H := by rw [← List.append_assoc]; exact hP
      have hD : va_D (fun q : Nat => s.heap.size ≤ q) (xwT sk a t i18 q18 c18 d18 ++ (Z ++ mW o am tm i27 q27 c27 d27)) := by rw [← List.append_assoc]; exact hD
      refine lv_pop hx hb dL_law_739 rfl ?_
      refine lv_goto (tgt := 1461) hx hb dL_law_740 (by decide) ?_
      exact kk i18 q18 c18 d18 i27 q27 c27 d27 _ _ _ ⟨hI, (by rw [show c18 113 = c 113 from hec18 113 (by decide), show c18 115 = c 115 from hec18 115 (by decide)]; exact hs_F), (by rw [show i18 146 = i 146 from hei18 146 (by decide), show i18 147 = i 147 from hei18 147 (by decide), show i18 148 = i 148 from hei18 148 (by decide), show i18 156 = i 156 from hei18 156 (by decide), show c18 144 = c 144 from hec18 144 (by decide), show c18 145 = c 145 from hec18 145 (by decide), show c18 150 = c 150 from hec18 150 (by decide)]; exact hs_P), (by rw [show i18 141 = i 141 from hei18 141 (by decide)]; exact htr), hM, (by rw [show c27 3 = em 3 from hec27 3 (by decide), show c27 6 = em 6 from hec27 6 (by decide), show c27 9 = em 9 from hec27 9 (by decide), show c27 10 = em 10 from hec27 10 (by decide), show c27 11 = em 11 from hec27 11 (by decide), show c27 13 = em 13 from hec27 13 (by decide), show i27 2 = jm 2 from hei27 2 (by decide), show i27 5 = jm 5 from hei27 5 (by decide), show i27 8 = jm 8 from hei27 8 (by decide)]; exact hs_S), (by rw [show c27 3 = em 3 from hec27 3 (by decide), show c27 6 = em 6 from hec27 6 (by decide), show c27 23 = em 23 from hec27 23 (by decide), show c27 24 = em 24 from hec27 24 (by decide), show c27 29 = em 29 from hec27 29 (by decide), show c27 30 = em 30 from hec27 30 (by decide), show i27 5 = jm 5 from hei27 5 (by decide), show i27 22 = jm 22 from hei27 22 (by decide), show i27 27 = jm 27 from hei27 27 (by decide)]; exact hs_J), (by rw [show i18 110 = i 110 from hei18 110 (by decide), show i27 2 = jm 2 from hei27 2 (by decide)]; exact hR)⟩ hP hD hS (lv_sub hl [0, 1, 2, 3] rfl)

set_option maxHeartbeats 4000000 in
set_option maxRecDepth 100000 in
theorem law_toward {p : Program} {l : Launch} {e : Env} {s : State} {m : MethodId} {below : List Frame} {meth : Method} {cd : Code} {b L : Nat} {xs : Nat → Int32} {D : va_G} {a : Nat → Nat} {t : Nat → ClassId} {o : Nat} {am : Nat → Nat} {tm : Nat → ClassId} {x3 : Int32} {cells slots : Nat} {sk : Value} {Z : va_W} (hx : p.tables.exec = Jvm.exec) (hb : cd.code = cL_law) (hml : cd.maxLocals = 4) (hown : s.vm.findClass RL = some m.cls) (hts : ∀ w ∈ wm_law, w.before #[Value.ref b] s = true) (hX : va_X b L xs s s.heap) (hbl : b < s.heap.size) (hL : L ≤ 3584) (hN : xN s) (hZ : xZ (a 186) s s.heap) (hKT : va_K D vwCl (xtT t) s) (hKM : va_K D vwCl (mT tm) s) (hcs : cells ≤ 600000 ∧ slots ≤ 7302249) (hx3 : 0 ≤ x3.toInt ∧ x3.toInt + 7 ≤ (L : Int)) (kk : LK p l e s m below meth cd b D sk a t Z o am tm x3 cells slots) (i : Nat → Int32) (q : Int64) (c : Nat → Nat → Int32) (d : Nat → Nat → Int64) (jm : Nat → Int32) (qm : Int64) (em : Nat → Nat → Int32) (dm : Nat → Nat → Int64) (H : Heap) (locs : List Loc) (ls : Array Slot) (hLI : LI i c jm em) (hP : va_P D vwCl (xwT sk a t i q c d ++ (Z ++ mW o am tm jm qm em dm)) H) (hD : va_D (fun q : Nat => s.heap.size ≤ q) (xwT sk a t i q c d ++ (Z ++ mW o am tm jm qm em dm))) (hS : va_S (fun q : Nat => s.heap.size ≤ q) s.heap H locs) (hl : lv_has ls 4 [(3, .int x3), (2, .ref o), (1, .ref (a 100)), (0, .ref b)]) : W p l e room_1 s m #[Value.ref b] below meth cd H locs cells slots (lw_Z below #[Value.ref b] s) (F0 m 743 ls []) := by
  have hbA : ¬ (fun q : Nat => s.heap.size ≤ q) b := Nat.not_le.mpr hbl
  have hA : ∀ q : Nat, s.heap.size ≤ q → (fun q : Nat => s.heap.size ≤ q) q := fun _ h => h
  obtain ⟨hI, hs_F, hs_P, htr, hM, hs_S, hs_J, hR⟩ := hLI
  refine lv_aload_n hx hb dL_law_743 rfl (lv_at hl 2 rfl) ?_
  refine lv_aload_n hx hb dL_law_744 rfl (lv_at hl 3 rfl) ?_
  refine lv_iload_n hx hb dL_law_745 rfl (lv_at hl 0 rfl) ?_
  refine lv_iconst (v := 1) hx hb dL_law_746 (by decide) ?_
  refine lv_iadd hx hb dL_law_747 ?_
  refine lv_topi (fun x1 ex1 => ?_)
  have tx1 := ti_add (a := x3.toInt) (b := 1) ex1 rfl (by decide) (by omega) (by omega)
  refine va_sld hx hb hX hbl hbA hS (vp_in_iff.mpr (by have h9 : x1.toInt = (x3.toInt + 1) := tx1; omega)) dL_law_748 ?_
  refine lv_topi (fun x2 ex2 => ?_)
  refine lv_aload_n hx hb dL_law_749 rfl (lv_at hl 3 rfl) ?_
  refine lv_iload_n hx hb dL_law_750 rfl (lv_at hl 0 rfl) ?_
  refine lv_iconst (v := 2) hx hb dL_law_751 (by decide) ?_
  refine lv_iadd hx hb dL_law_752 ?_
  refine lv_topi (fun x3 ex3 => ?_)
  have tx3 := ti_add (a := x3.toInt) (b := 2) ex3 rfl (by decide) (by omega) (by omega)
  refine va_sld hx hb hX hbl hbA hS (vp_in_iff.mpr (by have h9 : x3.toInt = (x3.toInt + 2) := tx3; omega)) dL_law_753 ?_
  refine lv_topi (fun x4 ex4 => ?_)
  refine lv_aload_n hx hb dL_law_754 rfl (lv_at hl 3 rfl) ?_
  refine lv_iload_n hx hb dL_law_755 rfl (lv_at hl 0 rfl) ?_
  refine lv_iconst (v := 3) hx hb dL_law_756 (by decide) ?_
  refine lv_iadd hx hb dL_law_757 ?_
  refine lv_topi (fun x5 ex5 => ?_)
  have tx5 := ti_add (a := x3.toInt) (b := 3) ex5 rfl (by decide) (by omega) (by omega)
  refine va_sld hx hb hX hbl hbA hS (vp_in_iff.mpr (by have h9 : x5.toInt = (x3.toInt + 3) := tx5; omega)) dL_law_758 ?_
  refine lv_topi (fun x6 ex6 => ?_)
  refine lv_if_eq (tgt := 766) hx hb dL_law_759 (by decide) (fun c7 => ?_) (fun c7 => ?_)
  · have f7 := (ti_eq (a := x6.toInt) (b := 0) rfl (by decide)).mp c7
    refine lv_iconst (v := 0) hx hb dL_law_766 (by decide) ?_
    refine lc_i (wr := (Z ++ mW o am tm jm qm em dm)) (va_runV (As := [.int x2, .int x4, .int 0]) (rest := []) ⟨hx, hb, hml, hown, hts⟩ (x_X11_toward l D H.size sk a t i q c d x2 x4 (0 : Int32) hI ) (cwV 3 hts gm_law_X11_toward_87 rfl rfl rfl (by decide +kernel) ⟨Nat.le_of_ble_eq_true rfl, Nat.le_of_ble_eq_true rfl⟩) (yB_V hN (xZ_k hZ hS hA) (xZ_n hZ (vD_l hD)) hKT (vP_l hP) (vD_l hD) (ci := 11) (q0 := 0) rfl rfl) rfl rfl hl.1 rfl (lv_room (Nat.le_of_ble_eq_true rfl)) dL_law_767 hcs) hS hA hP hD (fun r8 u8 H locs hw8 _ hP hD hS => ?_)
    obtain ⟨i8, q8, c8, d8⟩ := u8
    have hw8 : True ∧ xInv i8 c8 ∧ (∀ k, k ∉ ([102] : List Nat) → i8 k = i k) ∧ (∀ k, k ∉ ([101, 135, 136, 137] : List Nat) → c8 k = c k) := hw8
    obtain ⟨hw8, hI, hei8, hec8⟩ := hw8
    have hP : va_P D vwCl (xwT sk a t i8 q8 c8 d8 ++ (Z ++ mW o am tm jm qm em dm)) H := hP
    have hD : va_D (fun q : Nat => s.heap.size ≤ q) (xwT sk a t i8 q8 c8 d8 ++ (Z ++ mW o am tm jm qm em dm)) := hD
    refine lv_pop hx hb dL_law_770 rfl ?_
    refine lv_aload_n hx hb dL_law_771 rfl (lv_at hl 1 rfl) ?_
    refine lv_aload_n hx hb dL_law_772 rfl (lv_at hl 3 rfl) ?_
    refine lv_iload_n hx hb dL_law_773 rfl (lv_at hl 0 rfl) ?_
    refine lv_iconst (v := 1) hx hb dL_law_774 (by decide) ?_
    refine lv_iadd hx hb dL_law_775 ?_
    refine lv_topi (fun x9 ex9 => ?_)
    have tx9 := ti_add (a := x3.toInt) (b := 1) ex9 rfl (by decide) (by omega) (by omega)
    refine va_sld hx hb hX hbl hbA hS (vp_in_iff.mpr (by have h9 : x9.toInt = (x3.toInt + 1) := tx9; omega)) dL_law_776 ?_
    refine lv_topi (fun x10 ex10 => ?_)
    refine lv_aload_n hx hb dL_law_777 rfl (lv_at hl 3 rfl) ?_
    refine lv_iload_n hx hb dL_law_778 rfl (lv_at hl 0 rfl) ?_
    refine lv_iconst (v := 2) hx hb dL_law_779 (by decide) ?_
    refine lv_iadd hx hb dL_law_780 ?_
    refine lv_topi (fun x11 ex11 => ?_)
    have tx11 := ti_add (a := x3.toInt) (b := 2) ex11 rfl (by decide) (by omega) (by omega)
    refine va_sld hx hb hX hbl hbA hS (vp_in_iff.mpr (by have h9 : x11.toInt = (x3.toInt + 2) := tx11; omega)) dL_law_781 ?_
    refine lv_topi (fun x12 ex12 => ?_)
    refine lv_aload_n hx hb dL_law_782 rfl (lv_at hl 3 rfl) ?_
    refine lv_iload_n hx hb dL_law_783 rfl (lv_at hl 0 rfl) ?_
    refine lv_iconst (v := 3) hx hb dL_law_784 (by decide) ?_
    refine lv_iadd hx hb dL_law_785 ?_
    refine lv_topi (fun x13 ex13 => ?_)
    have tx13 := ti_add (a := x3.toInt) (b := 3) ex13 rfl (by decide) (by omega) (by omega)
    refine va_sld hx hb hX hbl hbA hS (vp_in_iff.mpr (by have h9 : x13.toInt = (x3.toInt + 3) := tx13; omega)) dL_law_786 ?_
    refine lv_topi (fun x14 ex14 => ?_)
    refine lv_if_eq (tgt := 794) hx hb dL_law_787 (by decide) (fun c15 => ?_) (fun c15 => ?_)
    · have f15 := (ti_eq (a := x14.toInt) (b := 0) rfl (by decide)).mp c15
      refine lv_iconst (v := 0) hx hb dL_law_794 (by decide) ?_
      have hP : va_P D vwCl ((xwT sk a t i8 q8 c8 d8 ++ Z) ++ mW o am tm jm qm em dm) H := by rw [List.append_assoc]; exact hP
      have hD : va_D (fun q : Nat => s.heap.size ≤ q) ((xwT sk a t i8 q8 c8 d8 ++ Z) ++ mW o am tm jm qm em dm) := by rw [List.append_assoc]; exact hD
      refine rc_i (wr := (xwT sk a t i8 q8 c8 d8 ++ Z)) (va_runV (As := [.int x10, .int x12, .int 0]) (rest := []) ⟨hx, hb, hml, hown, hts⟩ (s_X12_toward l D H.size o am tm jm qm em dm x10 x12 (0 : Int32) hM ) (cwV 3 hts gm_law_X12_toward_90 rfl rfl rfl (by decide +kernel) ⟨Nat.le_of_ble_eq_true rfl, Nat.le_of_ble_eq_true rfl⟩) (pB_V hKM (vP_r hP) (vD_r hD) (ci := 12) (q0 := 0) rfl rfl) rfl rfl hl.1 rfl (lv_room (Nat.le_of_ble_eq_true rfl)) dL_law_795 hcs) hS hA hP hD (fun r16 u16 H locs hw16 hP hD hS => ?_)
      obtain ⟨i16, q16, c16, d16⟩ := u16
      have hw16 : True ∧ mInv i16 c16 ∧ (∀ k, k ∉ ([0, 16, 17, 18, 19] : List Nat) → i16 k = jm k) ∧ (∀ k, k ∉ ([1, 20, 21] : List Nat) → c16 k = em k) := hw16
      obtain ⟨hw16, hM, hei16, hec16⟩ := hw16
      have hP : va_P D vwCl (xwT sk a t i8 q8 c8 d8 ++ (Z ++ mW o am tm i16 q16 c16 d16)) H := by rw [← List.append_assoc]; exact hP
      have hD : va_D (fun q : Nat => s.heap.size ≤ q) (xwT sk a t i8 q8 c8 d8 ++ (Z ++ mW o am tm i16 q16 c16 d16)) := by rw [← List.append_assoc]; exact hD
      refine lv_pop hx hb dL_law_798 rfl ?_
      refine lv_goto (tgt := 1461) hx hb dL_law_799 (by decide) ?_
      exact kk i8 q8 c8 d8 i16 q16 c16 d16 _ _ _ ⟨hI, (by rw [show c8 113 = c 113 from hec8 113 (by decide), show c8 115 = c 115 from hec8 115 (by decide)]; exact hs_F), (by rw [show i8 146 = i 146 from hei8 146 (by decide), show i8 147 = i 147 from hei8 147 (by decide), show i8 148 = i 148 from hei8 148 (by decide), show i8 156 = i 156 from hei8 156 (by decide), show c8 144 = c 144 from hec8 144 (by decide), show c8 145 = c 145 from hec8 145 (by decide), show c8 150 = c 150 from hec8 150 (by decide)]; exact hs_P), (by rw [show i8 141 = i 141 from hei8 141 (by decide)]; exact htr), hM, (by rw [show c16 3 = em 3 from hec16 3 (by decide), show c16 6 = em 6 from hec16 6 (by decide), show c16 9 = em 9 from hec16 9 (by decide), show c16 10 = em 10 from hec16 10 (by decide), show c16 11 = em 11 from hec16 11 (by decide), show c16 13 = em 13 from hec16 13 (by decide), show i16 2 = jm 2 from hei16 2 (by decide), show i16 5 = jm 5 from hei16 5 (by decide), show i16 8 = jm 8 from hei16 8 (by decide)]; exact hs_S), (by rw [show c16 3 = em 3 from hec16 3 (by decide), show c16 6 = em 6 from hec16 6 (by decide), show c16 23 = em 23 from hec16 23 (by decide), show c16 24 = em 24 from hec16 24 (by decide), show c16 29 = em 29 from hec16 29 (by decide), show c16 30 = em 30 from hec16 30 (by decide), show i16 5 = jm 5 from hei16 5 (by decide), show i16 22 = jm 22 from hei16 22 (by decide), show i16 27 = jm 27 from hei16 27 (by decide)]; exact hs_J), (by rw [show i8 110 = i 110 from hei8 110 (by decide), show i16 2 = jm 2 from hei16 2 (by decide)]; exact hR)⟩ hP hD hS (lv_sub hl [0, 1, 2, 3] rfl)
    · have f15 := mt (ti_eq (a := x14.toInt) (b := 0) rfl (by decide)).mpr c15
      refine lv_iconst (v := 1) hx hb dL_law_790 (by decide) ?_
      refine lv_goto (tgt := 795) hx hb dL_law_791 (by decide) ?_
      have hP : va_P D vwCl ((xwT sk a t i8 q8 c8 d8 ++ Z) ++ mW o am tm jm qm em dm) H := by rw [List.append_assoc]; exact hP
      have hD : va_D (fun q : Nat => s.heap.size ≤ q) ((xwT sk a t i8 q8 c8 d8 ++ Z) ++ mW o am tm jm qm em dm) := by rw [List.append_assoc]; exact hD
      refine rc_i (wr := (xwT sk a t i8 q8 c8 d8 ++ Z)) (va_runV (As := [.int x10, .int x12, .int 1]) (rest := []) ⟨hx, hb, hml, hown, hts⟩ (s_X12_toward l D H.size o am tm jm qm em dm x10 x12 (1 : Int32) hM ) (cwV 3 hts gm_law_X12_toward_90 rfl rfl rfl (by decide +kernel) ⟨Nat.le_of_ble_eq_true rfl, Nat.le_of_ble_eq_true rfl⟩) (pB_V hKM (vP_r hP) (vD_r hD) (ci := 12) (q0 := 0) rfl rfl) rfl rfl hl.1 rfl (lv_room (Nat.le_of_ble_eq_true rfl)) dL_law_795 hcs) hS hA hP hD (fun r17 u17 H locs hw17 hP hD hS => ?_)
      obtain ⟨i17, q17, c17, d17⟩ := u17
      have hw17 : True ∧ mInv i17 c17 ∧ (∀ k, k ∉ ([0, 16, 17, 18, 19] : List Nat) → i17 k = jm k) ∧ (∀ k, k ∉ ([1, 20, 21] : List Nat) → c17 k = em k) := hw17
      obtain ⟨hw17, hM, hei17, hec17⟩ := hw17
      have hP : va_P D vwCl (xwT sk a t i8 q8 c8 d8 ++ (Z ++ mW o am tm i17 q17 c17 d17)) H := by rw [← List.append_assoc]; exact hP
      have hD : va_D (fun q : Nat => s.heap.size ≤ q) (xwT sk a t i8 q8 c8 d8 ++ (Z ++ mW o am tm i17 q17 c17 d17)) := by rw [← List.append_assoc]; exact hD
      refine lv_pop hx hb dL_law_798 rfl ?_
      refine lv_goto (tgt := 1461) hx hb dL_law_799 (by decide) ?_
      exact kk i8 q8 c8 d8 i17 q17 c17 d17 _ _ _ ⟨hI, (by rw [show c8 113 = c 113 from hec8 113 (by decide), show c8 115 = c 115 from hec8 115 (by decide)]; exact hs_F), (by rw [show i8 146 = i 146 from hei8 146 (by decide), show i8 147 = i 147 from hei8 147 (by decide), show i8 148 = i 148 from hei8 148 (by decide), show i8 156 = i 156 from hei8 156 (by decide), show c8 144 = c 144 from hec8 144 (by decide), show c8 145 = c 145 from hec8 145 (by decide), show c8 150 = c 150 from hec8 150 (by decide)]; exact hs_P), (by rw [show i8 141 = i 141 from hei8 141 (by decide)]; exact htr), hM, (by rw [show c17 3 = em 3 from hec17 3 (by decide), show c17 6 = em 6 from hec17 6 (by decide), show c17 9 = em 9 from hec17 9 (by decide), show c17 10 = em 10 from hec17 10 (by decide), show c17 11 = em 11 from hec17 11 (by decide), show c17 13 = em 13 from hec17 13 (by decide), show i17 2 = jm 2 from hei17 2 (by decide), show i17 5 = jm 5 from hei17 5 (by decide), show i17 8 = jm 8 from hei17 8 (by decide)]; exact hs_S), (by rw [show c17 3 = em 3 from hec17 3 (by decide), show c17 6 = em 6 from hec17 6 (by decide), show c17 23 = em 23 from hec17 23 (by decide), show c17 24 = em 24 from hec17 24 (by decide), show c17 29 = em 29 from hec17 29 (by decide), show c17 30 = em 30 from hec17 30 (by decide), show i17 5 = jm 5 from hei17 5 (by decide), show i17 22 = jm 22 from hei17 22 (by decide), show i17 27 = jm 27 from hei17 27 (by decide)]; exact hs_J), (by rw [show i8 110 = i 110 from hei8 110 (by decide), show i17 2 = jm 2 from hei17 2 (by decide)]; exact hR)⟩ hP hD hS (lv_sub hl [0, 1, 2, 3] rfl)
  · have f7 := mt (ti_eq (a := x6.toInt) (b := 0) rfl (by decide)).mpr c7
    refine lv_iconst (v := 1) hx hb dL_law_762 (by decide) ?_
    refine lv_goto (tgt := 767) hx hb dL_law_763 (by decide) ?_
    refine lc_i (wr := (Z ++ mW o am tm jm qm em dm)) (va_runV (As := [.int x2, .int x4, .int 1]) (rest := []) ⟨hx, hb, hml, hown, hts⟩ (x_X11_toward l D H.size sk a t i q c d x2 x4 (1 : Int32) hI ) (cwV 3 hts gm_law_X11_toward_87 rfl rfl rfl (by decide +kernel) ⟨Nat.le_of_ble_eq_true rfl, Nat.le_of_ble_eq_true rfl⟩) (yB_V hN (xZ_k hZ hS hA) (xZ_n hZ (vD_l hD)) hKT (vP_l hP) (vD_l hD) (ci := 11) (q0 := 0) rfl rfl) rfl rfl hl.1 rfl (lv_room (Nat.le_of_ble_eq_true rfl)) dL_law_767 hcs) hS hA hP hD (fun r18 u18 H locs hw18 _ hP hD hS => ?_)
    obtain ⟨i18, q18, c18, d18⟩ := u18
    have hw18 : True ∧ xInv i18 c18 ∧ (∀ k, k ∉ ([102] : List Nat) → i18 k = i k) ∧ (∀ k, k ∉ ([101, 135, 136, 137] : List Nat) → c18 k = c k) := hw18
    obtain ⟨hw18, hI, hei18, hec18⟩ := hw18
    have hP : va_P D vwCl (xwT sk a t i18 q18 c18 d18 ++ (Z ++ mW o am tm jm qm em dm)) H := hP
    have hD : va_D (fun q : Nat => s.heap.size ≤ q) (xwT sk a t i18 q18 c18 d18 ++ (Z ++ mW o am tm jm qm em dm)) := hD
    refine lv_pop hx hb dL_law_770 rfl ?_
    refine lv_aload_n hx hb dL_law_771 rfl (lv_at hl 1 rfl) ?_
    refine lv_aload_n hx hb dL_law_772 rfl (lv_at hl 3 rfl) ?_
    refine lv_iload_n hx hb dL_law_773 rfl (lv_at hl 0 rfl) ?_
    refine lv_iconst (v := 1) hx hb dL_law_774 (by decide) ?_
    refine lv_iadd hx hb dL_law_775 ?_
    refine lv_topi (fun x19 ex19 => ?_)
    have tx19 := ti_add (a := x3.toInt) (b := 1) ex19 rfl (by decide) (by omega) (by omega)
    refine va_sld hx hb hX hbl hbA hS (vp_in_iff.mpr (by have h9 : x19.toInt = (x3.toInt + 1) := tx19; omega)) dL_law_776 ?_
    refine lv_topi (fun x20 ex20 => ?_)
    refine lv_aload_n hx hb dL_law_777 rfl (lv_at hl 3 rfl) ?_
    refine lv_iload_n hx hb dL_law_778 rfl (lv_at hl 0 rfl) ?_
    refine lv_iconst (v := 2) hx hb dL_law_779 (by decide) ?_
    refine lv_iadd hx hb dL_law_780 ?_
    refine lv_topi (fun x21 ex21 => ?_)
    have tx21 := ti_add (a := x3.toInt) (b := 2) ex21 rfl (by decide) (by omega) (by omega)
    refine va_sld hx hb hX hbl hbA hS (vp_in_iff.mpr (by have h9 : x21.toInt = (x3.toInt + 2) := tx21; omega)) dL_law_781 ?_
    refine lv_topi (fun x22 ex22 => ?_)
    refine lv_aload_n hx hb dL_law_782 rfl (lv_at hl 3 rfl) ?_
    refine lv_iload_n hx hb dL_law_783 rfl (lv_at hl 0 rfl) ?_
    refine lv_iconst (v := 3) hx hb dL_law_784 (by decide) ?_
    refine lv_iadd hx hb dL_law_785 ?_
    refine lv_topi (fun x23 ex23 => ?_)
    have tx23 := ti_add (a := x3.toInt) (b := 3) ex23 rfl (by decide) (by omega) (by omega)
    refine va_sld hx hb hX hbl hbA hS (vp_in_iff.mpr (by have h9 : x23.toInt = (x3.toInt + 3) := tx23; omega)) dL_law_786 ?_
    refine lv_topi (fun x24 ex24 => ?_)
    refine lv_if_eq (tgt := 794) hx hb dL_law_787 (by decide) (fun c25 => ?_) (fun c25 => ?_)
    · have f25 := (ti_eq (a := x24.toInt) (b := 0) rfl (by decide)).mp c25
      refine lv_iconst (v := 0) hx hb dL_law_794 (by decide) ?_
      have hP : va_P D vwCl ((xwT sk a t i18 q18 c18 d18 ++ Z) ++ mW o am tm jm qm em dm) H := by rw [List.append_assoc]; exact hP
      have hD : va_D (fun q : Nat => s.heap.size ≤ q) ((xwT sk a t i18 q18 c18 d18 ++ Z) ++ mW o am tm jm qm em dm) := by rw [List.append_assoc]; exact hD
      refine rc_i (wr := (xwT sk a t i18 q18 c18 d18 ++ Z)) (va_runV (As := [.int x20, .int x22, .int 0]) (rest := []) ⟨hx, hb, hml, hown, hts⟩ (s_X12_toward l D H.size o am tm jm qm em dm x20 x22 (0 : Int32) hM ) (cwV 3 hts gm_law_X12_toward_90 rfl rfl rfl (by decide +kernel) ⟨Nat.le_of_ble_eq_true rfl, Nat.le_of_ble_eq_true rfl⟩) (pB_V hKM (vP_r hP) (vD_r hD) (ci := 12) (q0 := 0) rfl rfl) rfl rfl hl.1 rfl (lv_room (Nat.le_of_ble_eq_true rfl)) dL_law_795 hcs) hS hA hP hD (fun r26 u26 H locs hw26 hP hD hS => ?_)
      obtain ⟨i26, q26, c26, d26⟩ := u26
      have hw26 : True ∧ mInv i26 c26 ∧ (∀ k, k ∉ ([0, 16, 17, 18, 19] : List Nat) → i26 k = jm k) ∧ (∀ k, k ∉ ([1, 20, 21] : List Nat) → c26 k = em k) := hw26
      obtain ⟨hw26, hM, hei26, hec26⟩ := hw26
      have hP : va_P D vwCl (xwT sk a t i18 q18 c18 d18 ++ (Z ++ mW o am tm i26 q26 c26 d26)) H := by rw [← List.append_assoc]; exact hP
      have hD : va_D (fun q : Nat => s.heap.size ≤ q) (xwT sk a t i18 q18 c18 d18 ++ (Z ++ mW o am tm i26 q26 c26 d26)) := by rw [← List.append_assoc]; exact hD
      refine lv_pop hx hb dL_law_798 rfl ?_
      refine lv_goto (tgt := 1461) hx hb dL_law_799 (by decide) ?_
      exact kk i18 q18 c18 d18 i26 q26 c26 d26 _ _ _ ⟨hI, (by rw [show c18 113 = c 113 from hec18 113 (by decide), show c18 115 = c 115 from hec18 115 (by decide)]; exact hs_F), (by rw [show i18 146 = i 146 from hei18 146 (by decide), show i18 147 = i 147 from hei18 147 (by decide), show i18 148 = i 148 from hei18 148 (by decide), show i18 156 = i 156 from hei18 156 (by decide), show c18 144 = c 144 from hec18 144 (by decide), show c18 145 = c 145 from hec18 145 (by decide), show c18 150 = c 150 from hec18 150 (by decide)]; exact hs_P), (by rw [show i18 141 = i 141 from hei18 141 (by decide)]; exact htr), hM, (by rw [show c26 3 = em 3 from hec26 3 (by decide), show c26 6 = em 6 from hec26 6 (by decide), show c26 9 = em 9 from hec26 9 (by decide), show c26 10 = em 10 from hec26 10 (by decide), show c26 11 = em 11 from hec26 11 (by decide), show c26 13 = em 13 from hec26 13 (by decide), show i26 2 = jm 2 from hei26 2 (by decide), show i26 5 = jm 5 from hei26 5 (by decide), show i26 8 = jm 8 from hei26 8 (by decide)]; exact hs_S), (by rw [show c26 3 = em 3 from hec26 3 (by decide), show c26 6 = em 6 from hec26 6 (by decide), show c26 23 = em 23 from hec26 23 (by decide), show c26 24 = em 24 from hec26 24 (by decide), show c26 29 = em 29 from hec26 29 (by decide), show c26 30 = em 30 from hec26 30 (by decide), show i26 5 = jm 5 from hei26 5 (by decide), show i26 22 = jm 22 from hei26 22 (by decide), show i26 27 = jm 27 from hei26 27 (by decide)]; exact hs_J), (by rw [show i18 110 = i 110 from hei18 110 (by decide), show i26 2 = jm 2 from hei26 2 (by decide)]; exact hR)⟩ hP hD hS (lv_sub hl [0, 1, 2, 3] rfl)
    · have f25 := mt (ti_eq (a := x24.toInt) (b := 0) rfl (by decide)).mpr c25
      refine lv_iconst (v := 1) hx hb dL_law_790 (by decide) ?_
      refine lv_goto (tgt := 795) hx hb dL_law_791 (by decide) ?_
      have hP : va_P D vwCl ((xwT sk a t i18 q18 c18 d18 ++ Z) ++ mW o am tm jm qm em dm) H := by rw [List.append_assoc]; exact hP
      have hD : va_D (fun q : Nat => s.heap.size ≤ q) ((xwT sk a t i18 q18 c18 d18 ++ Z) ++ mW o am tm jm qm em dm) := by rw [List.append_assoc]; exact hD
      refine rc_i (wr := (xwT sk a t i18 q18 c18 d18 ++ Z)) (va_runV (As := [.int x20, .int x22, .int 1]) (rest := []) ⟨hx, hb, hml, hown, hts⟩ (s_X12_toward l D H.size o am tm jm qm em dm x20 x22 (1 : Int32) hM ) (cwV 3 hts gm_law_X12_toward_90 rfl rfl rfl (by decide +kernel) ⟨Nat.le_of_ble_eq_true rfl, Nat.le_of_ble_eq_true rfl⟩) (pB_V hKM (vP_r hP) (vD_r hD) (ci := 12) (q0 := 0) rfl rfl) rfl rfl hl.1 rfl (lv_room (Nat.le_of_ble_eq_true rfl)) dL_law_795 hcs) hS hA hP hD (fun r27 u27 H locs hw27 hP hD hS => ?_)
      obtain ⟨i27, q27, c27, d27⟩ := u27
      have hw27 : True ∧ mInv i27 c27 ∧ (∀ k, k ∉ ([0, 16, 17, 18, 19] : List Nat) → i27 k = jm k) ∧ (∀ k, k ∉ ([1, 20, 21] : List Nat) → c27 k = em k) := hw27
      obtain ⟨hw27, hM, hei27, hec27⟩ := hw27
      have hP : va_P D vwCl (xwT sk a t i18 q18 c18 d18 ++ (Z ++ mW o am tm i27 q27 c27 d27)) H := by rw [← List.append_assoc]; exact hP
      have hD : va_D (fun q : Nat => s.heap.size ≤ q) (xwT sk a t i18 q18 c18 d18 ++ (Z ++ mW o am tm i27 q27 c27 d27)) := by rw [← List.append_assoc]; exact hD
      refine lv_pop hx hb dL_law_798 rfl ?_
      refine lv_goto (tgt := 1461) hx hb dL_law_799 (by decide) ?_
      exact kk i18 q18 c18 d18 i27 q27 c27 d27 _ _ _ ⟨hI, (by rw [show c18 113 = c 113 from hec18 113 (by decide), show c18 115 = c 115 from hec18 115 (by decide)]; exact hs_F), (by rw [show i18 146 = i 146 from hei18 146 (by decide), show i18 147 = i 147 from hei18 147 (by decide), show i18 148 = i 148 from hei18 148 (by decide), show i18 156 = i 156 from hei18 156 (by decide), show c18 144 = c 144 from hec18 144 (by decide), show c18 145 = c 145 from hec18 145 (by decide), show c18 150 = c 150 from hec18 150 (by decide)]; exact hs_P), (by rw [show i18 141 = i 141 from hei18 141 (by decide)]; exact htr), hM, (by rw [show c27 3 = em 3 from hec27 3 (by decide), show c27 6 = em 6 from hec27 6 (by decide), show c27 9 = em 9 from hec27 9 (by decide), show c27 10 = em 10 from hec27 10 (by decide), show c27 11 = em 11 from hec27 11 (by decide), show c27 13 = em 13 from hec27 13 (by decide), show i27 2 = jm 2 from hei27 2 (by decide), show i27 5 = jm 5 from hei27 5 (by decide), show i27 8 = jm 8 from hei27 8 (by decide)]; exact hs_S), (by rw [show c27 3 = em 3 from hec27 3 (by decide), show c27 6 = em 6 from hec27 6 (by decide), show c27 23 = em 23 from hec27 23 (by decide), show c27 24 = em 24 from hec27 24 (by decide), show c27 29 = em 29 from hec27 29 (by decide), show c27 30 = em 30 from hec27 30 (by decide), show i27 5 = jm 5 from hei27 5 (by decide), show i27 22 = jm 22 from hei27 22 (by decide), show i27 27 = jm 27 from hei27 27 (by decide)]; exact hs_J), (by rw [show i18 110 = i 110 from hei18 110 (by decide), show i27 2 = jm 2 from hei27 2 (by decide)]; exact hR)⟩ hP hD hS (lv_sub hl [0, 1, 2, 3] rfl)

