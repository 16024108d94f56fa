set_option maxHeartbeats 4000000 in
set_option maxRecDepth 100000 in
theorem law_unsay {p : Program} {l : Launch} {e : Env} {s : State} {m : MethodId} {below : List Frame} {meth : Method} {cd : Code} {b L : Nat} {xs : Nat → Int32} {D : va_G} {a : Nat → Nat} {t : Nat → ClassId} {o : Nat} {am : Nat → Nat} {tm : Nat → ClassId} {x3 : Int32} {cells slots : Nat} {sk : Value} {Z : va_W} (hx : p.tables.exec = Jvm.exec) (hb : cd.code = cL_law) (hml : cd.maxLocals = 4) (hown : s.vm.findClass RL = some m.cls) (hts : ∀ w ∈ wm_law, w.before #[Value.ref b] s = true) (hX : va_X b L xs s s.heap) (hbl : b < s.heap.size) (hL : L ≤ 3584) (hN : xN s) (hZ : xZ (a 186) s s.heap) (hKT : va_K D vwCl (xtT t) s) (hKM : va_K D vwCl (mT tm) s) (hcs : cells ≤ 600000 ∧ slots ≤ 7302249) (hx3 : 0 ≤ x3.toInt ∧ x3.toInt + 7 ≤ (L : Int)) (kk : LK p l e s m below meth cd b D sk a t Z o am tm x3 cells slots) (i : Nat → Int32) (q : Int64) (c : Nat → Nat → Int32) (d : Nat → Nat → Int64) (jm : Nat → Int32) (qm : Int64) (em : Nat → Nat → Int32) (dm : Nat → Nat → Int64) (H : Heap) (locs : List Loc) (ls : Array Slot) (hLI : LI i c jm em) (hP : va_P D vwCl (xwT sk a t i q c d ++ (Z ++ mW o am tm jm qm em dm)) H) (hD : va_D (fun q : Nat => s.heap.size ≤ q) (xwT sk a t i q c d ++ (Z ++ mW o am tm jm qm em dm))) (hS : va_S (fun q : Nat => s.heap.size ≤ q) s.heap H locs) (hl : lv_has ls 4 [(3, .int x3), (2, .ref o), (1, .ref (a 100)), (0, .ref b)]) : W p l e room_1 s m #[Value.ref b] below meth cd H locs cells slots (lw_Z below #[Value.ref b] s) (F0 m 473 ls []) := by
  have hbA : ¬ (fun q : Nat => s.heap.size ≤ q) b := Nat.not_le.mpr hbl
  have hA : ∀ q : Nat, s.heap.size ≤ q → (fun q : Nat => s.heap.size ≤ q) q := fun _ h => h
  obtain ⟨hI, hs_F, hs_P, htr, hM, hs_S, hs_J, hR⟩ := hLI
  have hI0 := hI
  have hM0 := hM
  obtain ⟨hR, hPA, hKO, hSO, hSN, hDR, hRD⟩ := hR
  have hRR := RR_of hI0 hs_F
  refine lv_aload_n hx hb dL_law_473 rfl (lv_at hl 2 rfl) ?_
  refine lv_aload_n hx hb dL_law_474 rfl (lv_at hl 3 rfl) ?_
  refine lv_iload_n hx hb dL_law_475 rfl (lv_at hl 0 rfl) ?_
  refine lv_iconst (v := 1) hx hb dL_law_476 (by decide +kernel) ?_
  refine lv_iadd hx hb dL_law_477 ?_
  refine lv_topi (fun x101 ex101 => ?_)
  have tx101 := ti_add (a := x3.toInt) (b := 1) ex101 rfl (by decide +kernel) (by omega) (by omega)
  refine va_sld hx hb hX hbl hbA hS (vp_in_iff.mpr (by have h9 : x101.toInt = (x3.toInt + 1) := tx101; omega)) dL_law_478 ?_
  refine lv_topi (fun x102 ex102 => ?_)
  refine lc_i (wr := (Z ++ mW o am tm jm qm em dm)) (va_runV (As := [.int x102]) (rest := []) ⟨hx, hb, hml, hown, hts⟩ (x_X11_unsay_e l D H.size sk a t i q c d x102 hI hs_F) (cwV 1 hts gm_law_X11_unsay_e_54 rfl rfl rfl (by decide +kernel) ⟨Nat.le_of_ble_eq_true rfl, Nat.le_of_ble_eq_true rfl⟩) (yB_V hN (xZ_k hZ hS hA) (xZ_n hZ (vD_l hD)) hKT (vP_l hP) (vD_l hD) (ci := 11) (q0 := 0) rfl rfl) rfl rfl hl.1 rfl (lv_room (Nat.le_of_ble_eq_true rfl)) dL_law_479 hcs) hS hA hP hD (fun r103 u103 H locs hw103 _ hP hD hS => ?_)
  obtain ⟨i103, q103, c103, d103⟩ := u103
  have hw103 : True ∧ xInv i103 c103 ∧ (∀ k, k ∉ ([125, 146, 148] : List Nat) → i103 k = i k) ∧ (∀ k, k ∉ ([117, 118, 119, 120, 121, 127, 129, 130, 131, 132, 133, 134] : List Nat) → c103 k = c k) ∧ (xEn (i 146) (i 148) (i103 146) (i103 148)) ∧ (UnW (c 117) (c103 117) (i 124) x102) ∧ (PtW (UnQ (c 117) (i 124) x102) (c 118) (c 119) (c 120) (c 121) (c 127) (c103 118) (c103 119) (c103 120) (c103 121) (c103 127) (c 113 x102.toNatClampNeg).toInt (c 114 x102.toNatClampNeg).toInt (c 115 x102.toNatClampNeg).toInt (c 116 x102.toNatClampNeg).toInt (-9)) ∧ (RdQ (UnQ (c 117) (i 124) x102) (zX (c 106) (c 108) (i 111).toInt) (c 113) (c 114) (c 115) (c 116) (c103 117) (c 129) (c 130) (c 131) (c 132) (c 133) (c 134) (c103 129) (c103 130) (c103 131) (c103 132) (c103 133) (c103 134) (i 124).toInt (c 113 x102.toNatClampNeg).toInt) := hw103
  obtain ⟨hw103, hI, hei103, hec103, hxp103_0, hxp103_1, hxp103_2, hxp103_3⟩ := hw103
  have hP : va_P D vwCl (xwT sk a t i103 q103 c103 d103 ++ (Z ++ mW o am tm jm qm em dm)) H := hP
  have hD : va_D (fun q : Nat => s.heap.size ≤ q) (xwT sk a t i103 q103 c103 d103 ++ (Z ++ mW o am tm jm qm em dm)) := hD
  refine lv_pop hx hb dL_law_482 rfl ?_
  refine lv_aload_n hx hb dL_law_483 rfl (lv_at hl 1 rfl) ?_
  refine lv_aload_n hx hb dL_law_484 rfl (lv_at hl 3 rfl) ?_
  refine lv_iload_n hx hb dL_law_485 rfl (lv_at hl 0 rfl) ?_
  refine lv_iconst (v := 1) hx hb dL_law_486 (by decide +kernel) ?_
  refine lv_iadd hx hb dL_law_487 ?_
  refine lv_topi (fun x104 ex104 => ?_)
  have tx104 := ti_add (a := x3.toInt) (b := 1) ex104 rfl (by decide +kernel) (by omega) (by omega)
  refine va_sld hx hb hX hbl hbA hS (vp_in_iff.mpr (by have h9 : x104.toInt = (x3.toInt + 1) := tx104; omega)) dL_law_488 ?_
  refine lv_topi (fun x105 ex105 => ?_)
  have hP : va_P D vwCl ((xwT sk a t i103 q103 c103 d103 ++ Z) ++ mW o am tm jm qm em dm) H := by rw [List.append_assoc]; exact hP
  have hD : va_D (fun q : Nat => s.heap.size ≤ q) ((xwT sk a t i103 q103 c103 d103 ++ Z) ++ mW o am tm jm qm em dm) := by rw [List.append_assoc]; exact hD
  refine rc_i (wr := (xwT sk a t i103 q103 c103 d103 ++ Z)) (va_runV (As := [.int x105]) (rest := []) ⟨hx, hb, hml, hown, hts⟩ (s_X12_unsay_e l D H.size o am tm jm qm em dm x105 hM hs_S hs_J) (cwV 1 hts gm_law_X12_unsay_57 rfl rfl rfl (by decide +kernel) ⟨Nat.le_of_ble_eq_true rfl, Nat.le_of_ble_eq_true rfl⟩) (pB_V hKM (vP_r hP) (vD_r hD) (ci := 12) (q0 := 0) rfl rfl) rfl rfl hl.1 rfl (lv_room (Nat.le_of_ble_eq_true rfl)) dL_law_489 hcs) hS hA hP hD (fun r106 u106 H locs hw106 hP hD hS => ?_)
  obtain ⟨i106, q106, c106, d106⟩ := u106
  have hw106 : True ∧ mInv i106 c106 ∧ (∀ k, k ∉ ([22, 27] : List Nat) → i106 k = jm k) ∧ (∀ k, k ∉ ([13] : List Nat) → c106 k = em k) ∧ (SJ (c106 3) (c106 6) (c106 9) (c106 10) (c106 11) (c106 13) (i106 2).toInt (i106 5).toInt (i106 8).toInt) ∧ (TJ (c106 3) (c106 6) (c106 23) (c106 24) (c106 29) (c106 30) (i106 5).toInt (i106 22).toInt (i106 27).toInt) ∧ (UnW (em 13) (c106 13) (jm 8) x105) := hw106
  obtain ⟨hw106, hM, hei106, hec106, hxp106_0, hxp106_1, hxp106_2⟩ := hw106
  have hP : va_P D vwCl (xwT sk a t i103 q103 c103 d103 ++ (Z ++ mW o am tm i106 q106 c106 d106)) H := by rw [← List.append_assoc]; exact hP
  have hD : va_D (fun q : Nat => s.heap.size ≤ q) (xwT sk a t i103 q103 c103 d103 ++ (Z ++ mW o am tm i106 q106 c106 d106)) := by rw [← List.append_assoc]; exact hD
  have hag0 : x105.toInt = x102.toInt := congrArg Int32.toInt (by rw [ex105, ex104, ex102, ex101])
  refine lv_pop hx hb dL_law_492 rfl ?_
  refine lv_goto (tgt := 1461) hx hb dL_law_493 (by decide +kernel) ?_
  exact kk i103 q103 c103 d103 i106 q106 c106 d106 _ _ _ ⟨hI, (by rw [show c103 113 = c 113 from hec103 113 (by decide +kernel), show c103 115 = c 115 from hec103 115 (by decide +kernel)]; exact hs_F), (by rw [show i103 147 = i 147 from hei103 147 (by decide +kernel), show i103 156 = i 156 from hei103 156 (by decide +kernel), show c103 150 = c 150 from hec103 150 (by decide +kernel), show c103 144 = c 144 from hec103 144 (by decide +kernel), show c103 145 = c 145 from hec103 145 (by decide +kernel)]; exact PJ_en hs_P hxp103_0), (by rw [show i103 141 = i 141 from hei103 141 (by decide +kernel)]; exact htr), hM, hxp106_0, hxp106_1, (by rw [show i103 110 = i 110 from hei103 110 (by decide +kernel), show i103 111 = i 111 from hei103 111 (by decide +kernel), show i103 165 = i 165 from hei103 165 (by decide +kernel), show i103 124 = i 124 from hei103 124 (by decide +kernel), show c103 107 = c 107 from hec103 107 (by decide +kernel), show c103 105 = c 105 from hec103 105 (by decide +kernel), show c103 108 = c 108 from hec103 108 (by decide +kernel), show c103 106 = c 106 from hec103 106 (by decide +kernel), show c103 113 = c 113 from hec103 113 (by decide +kernel), show c103 114 = c 114 from hec103 114 (by decide +kernel), show c103 115 = c 115 from hec103 115 (by decide +kernel), show c103 116 = c 116 from hec103 116 (by decide +kernel), show i106 2 = jm 2 from hei106 2 (by decide +kernel), show i106 5 = jm 5 from hei106 5 (by decide +kernel), show i106 64 = jm 64 from hei106 64 (by decide +kernel), show i106 8 = jm 8 from hei106 8 (by decide +kernel), show c106 4 = em 4 from hec106 4 (by decide +kernel), show c106 3 = em 3 from hec106 3 (by decide +kernel), show c106 6 = em 6 from hec106 6 (by decide +kernel), show c106 9 = em 9 from hec106 9 (by decide +kernel), show c106 10 = em 10 from hec106 10 (by decide +kernel), show c106 11 = em 11 from hec106 11 (by decide +kernel), show c106 12 = em 12 from hec106 12 (by decide +kernel)]; exact ⟨hR, hPA, hKO, hSO, SN_un hSN hRR hag0 hxp103_1 hxp103_2 hxp106_2, DR_un hDR hxp103_1, RD_un hRD hxp103_1 hxp103_3⟩)⟩ hP hD hS (lv_sub hl [0, 1, 2, 3] rfl)

set_option maxHeartbeats 4000000 in
set_option maxRecDepth 100000 in
theorem law_clash {p : Program} {l : Launch} {e : Env} {s : State} {m : MethodId} {below : List Frame} {meth : Method} {cd : Code} {b L : Nat} {xs : Nat → Int32} {D : va_G} {a : Nat → Nat} {t : Nat → ClassId} {o : Nat} {am : Nat → Nat} {tm : Nat → ClassId} {x3 : Int32} {cells slots : Nat} {sk : Value} {Z : va_W} (hx : p.tables.exec = Jvm.exec) (hb : cd.code = cL_law) (hml : cd.maxLocals = 4) (hown : s.vm.findClass RL = some m.cls) (hts : ∀ w ∈ wm_law, w.before #[Value.ref b] s = true) (hX : va_X b L xs s s.heap) (hbl : b < s.heap.size) (hL : L ≤ 3584) (hN : xN s) (hZ : xZ (a 186) s s.heap) (hKT : va_K D vwCl (xtT t) s) (hKM : va_K D vwCl (mT tm) s) (hcs : cells ≤ 600000 ∧ slots ≤ 7302249) (hx3 : 0 ≤ x3.toInt ∧ x3.toInt + 7 ≤ (L : Int)) (kk : LK p l e s m below meth cd b D sk a t Z o am tm x3 cells slots) (i : Nat → Int32) (q : Int64) (c : Nat → Nat → Int32) (d : Nat → Nat → Int64) (jm : Nat → Int32) (qm : Int64) (em : Nat → Nat → Int32) (dm : Nat → Nat → Int64) (H : Heap) (locs : List Loc) (ls : Array Slot) (hLI : LI i c jm em) (hP : va_P D vwCl (xwT sk a t i q c d ++ (Z ++ mW o am tm jm qm em dm)) H) (hD : va_D (fun q : Nat => s.heap.size ≤ q) (xwT sk a t i q c d ++ (Z ++ mW o am tm jm qm em dm))) (hS : va_S (fun q : Nat => s.heap.size ≤ q) s.heap H locs) (hl : lv_has ls 4 [(3, .int x3), (2, .ref o), (1, .ref (a 100)), (0, .ref b)]) : W p l e room_1 s m #[Value.ref b] below meth cd H locs cells slots (lw_Z below #[Value.ref b] s) (F0 m 496 ls []) := by
  have hbA : ¬ (fun q : Nat => s.heap.size ≤ q) b := Nat.not_le.mpr hbl
  have hA : ∀ q : Nat, s.heap.size ≤ q → (fun q : Nat => s.heap.size ≤ q) q := fun _ h => h
  obtain ⟨hI, hs_F, hs_P, htr, hM, hs_S, hs_J, hR⟩ := hLI
  have hI0 := hI
  have hM0 := hM
  obtain ⟨hR, hPA, hKO, hSO, hSN, hDR, hRD⟩ := hR
  have hRR := RR_of hI0 hs_F
  refine lv_aload_n hx hb dL_law_496 rfl (lv_at hl 2 rfl) ?_
  refine lv_aload_n hx hb dL_law_497 rfl (lv_at hl 3 rfl) ?_
  refine lv_iload_n hx hb dL_law_498 rfl (lv_at hl 0 rfl) ?_
  refine lv_iconst (v := 1) hx hb dL_law_499 (by decide +kernel) ?_
  refine lv_iadd hx hb dL_law_500 ?_
  refine lv_topi (fun x101 ex101 => ?_)
  have tx101 := ti_add (a := x3.toInt) (b := 1) ex101 rfl (by decide +kernel) (by omega) (by omega)
  refine va_sld hx hb hX hbl hbA hS (vp_in_iff.mpr (by have h9 : x101.toInt = (x3.toInt + 1) := tx101; omega)) dL_law_501 ?_
  refine lv_topi (fun x102 ex102 => ?_)
  refine ro_calli (va_runV (As := [.int x102]) (rest := []) ⟨hx, hb, hml, hown, hts⟩ (x_X11_clash l D H.size sk a t i q c d x102 hI ) (cwV 1 hts gm_law_X11_clash_58 rfl rfl rfl (by decide +kernel) ⟨Nat.le_of_ble_eq_true rfl, Nat.le_of_ble_eq_true rfl⟩) (yA_V hN (xZ_k hZ hS hA) hKT (vP_l hP) (ci := 11) (q0 := 0) rfl rfl) rfl rfl hl.1 rfl (lv_room (Nat.le_of_ble_eq_true rfl)) dL_law_502 hcs) hS hA hP (fun r103 u103 H locs hw103 hP hS => ?_)
  refine lv_pop hx hb dL_law_505 rfl ?_
  refine lv_aload_n hx hb dL_law_506 rfl (lv_at hl 1 rfl) ?_
  refine lv_aload_n hx hb dL_law_507 rfl (lv_at hl 3 rfl) ?_
  refine lv_iload_n hx hb dL_law_508 rfl (lv_at hl 0 rfl) ?_
  refine lv_iconst (v := 1) hx hb dL_law_509 (by decide +kernel) ?_
  refine lv_iadd hx hb dL_law_510 ?_
  refine lv_topi (fun x104 ex104 => ?_)
  have tx104 := ti_add (a := x3.toInt) (b := 1) ex104 rfl (by decide +kernel) (by omega) (by omega)
  refine va_sld hx hb hX hbl hbA hS (vp_in_iff.mpr (by have h9 : x104.toInt = (x3.toInt + 1) := tx104; omega)) dL_law_511 ?_
  refine lv_topi (fun x105 ex105 => ?_)
  have hP : va_P D vwCl ((xwT sk a t i q c d ++ Z) ++ mW o am tm jm qm em dm) H := by rw [List.append_assoc]; exact hP
  have hD : va_D (fun q : Nat => s.heap.size ≤ q) ((xwT sk a t i q c d ++ Z) ++ mW o am tm jm qm em dm) := by rw [List.append_assoc]; exact hD
  refine ro_calli (va_runV (As := [.int x105]) (rest := []) ⟨hx, hb, hml, hown, hts⟩ (s_X12_clash l D H.size o am tm jm qm em dm x105 hM ) (cwV 1 hts gm_law_X12_clash_61 rfl rfl rfl (by decide +kernel) ⟨Nat.le_of_ble_eq_true rfl, Nat.le_of_ble_eq_true rfl⟩) (pA_V hKM (vP_r hP) (ci := 12) (q0 := 0) rfl rfl) rfl rfl hl.1 rfl (lv_room (Nat.le_of_ble_eq_true rfl)) dL_law_512 hcs) hS hA hP (fun r106 u106 H locs hw106 hP hS => ?_)
  have hP : va_P D vwCl (xwT sk a t i q c d ++ (Z ++ mW o am tm jm qm em dm)) H := by rw [← List.append_assoc]; exact hP
  have hD : va_D (fun q : Nat => s.heap.size ≤ q) (xwT sk a t i q c d ++ (Z ++ mW o am tm jm qm em dm)) := by rw [← List.append_assoc]; exact hD
  refine lv_pop hx hb dL_law_515 rfl ?_
  refine lv_goto (tgt := 1461) hx hb dL_law_516 (by decide +kernel) ?_
  exact kk i q c d jm qm em dm _ _ _ ⟨hI, hs_F, hs_P, htr, hM, hs_S, hs_J, ⟨hR, hPA, hKO, hSO, hSN, hDR, hRD⟩⟩ hP hD hS (lv_sub hl [0, 1, 2, 3] rfl)

set_option maxHeartbeats 4000000 in
set_option maxRecDepth 100000 in
theorem law_sentence {p : Program} {l : Launch} {e : Env} {s : State} {m : MethodId} {below : List Frame} {meth : Method} {cd : Code} {b L : Nat} {xs : Nat → Int32} {D : va_G} {a : Nat → Nat} {t : Nat → ClassId} {o : Nat} {am : Nat → Nat} {tm : Nat → ClassId} {x3 : Int32} {cells slots : Nat} {sk : Value} {Z : va_W} (hx : p.tables.exec = Jvm.exec) (hb : cd.code = cL_law) (hml : cd.maxLocals = 4) (hown : s.vm.findClass RL = some m.cls) (hts : ∀ w ∈ wm_law, w.before #[Value.ref b] s = true) (hX : va_X b L xs s s.heap) (hbl : b < s.heap.size) (hL : L ≤ 3584) (hN : xN s) (hZ : xZ (a 186) s s.heap) (hKT : va_K D vwCl (xtT t) s) (hKM : va_K D vwCl (mT tm) s) (hcs : cells ≤ 600000 ∧ slots ≤ 7302249) (hx3 : 0 ≤ x3.toInt ∧ x3.toInt + 7 ≤ (L : Int)) (kk : LK p l e s m below meth cd b D sk a t Z o am tm x3 cells slots) (i : Nat → Int32) (q : Int64) (c : Nat → Nat → Int32) (d : Nat → Nat → Int64) (jm : Nat → Int32) (qm : Int64) (em : Nat → Nat → Int32) (dm : Nat → Nat → Int64) (H : Heap) (locs : List Loc) (ls : Array Slot) (hLI : LI i c jm em) (hP : va_P D vwCl (xwT sk a t i q c d ++ (Z ++ mW o am tm jm qm em dm)) H) (hD : va_D (fun q : Nat => s.heap.size ≤ q) (xwT sk a t i q c d ++ (Z ++ mW o am tm jm qm em dm))) (hS : va_S (fun q : Nat => s.heap.size ≤ q) s.heap H locs) (hl : lv_has ls 4 [(3, .int x3), (2, .ref o), (1, .ref (a 100)), (0, .ref b)]) : W p l e room_1 s m #[Value.ref b] below meth cd H locs cells slots (lw_Z below #[Value.ref b] s) (F0 m 519 ls []) := by
  have hbA : ¬ (fun q : Nat => s.heap.size ≤ q) b := Nat.not_le.mpr hbl
  have hA : ∀ q : Nat, s.heap.size ≤ q → (fun q : Nat => s.heap.size ≤ q) q := fun _ h => h
  obtain ⟨hI, hs_F, hs_P, htr, hM, hs_S, hs_J, hR⟩ := hLI
  have hI0 := hI
  have hM0 := hM
  obtain ⟨hR, hPA, hKO, hSO, hSN, hDR, hRD⟩ := hR
  have hRR := RR_of hI0 hs_F
  refine lv_aload_n hx hb dL_law_519 rfl (lv_at hl 2 rfl) ?_
  refine lv_aload_n hx hb dL_law_520 rfl (lv_at hl 3 rfl) ?_
  refine lv_iload_n hx hb dL_law_521 rfl (lv_at hl 0 rfl) ?_
  refine lv_iconst (v := 1) hx hb dL_law_522 (by decide +kernel) ?_
  refine lv_iadd hx hb dL_law_523 ?_
  refine lv_topi (fun x101 ex101 => ?_)
  have tx101 := ti_add (a := x3.toInt) (b := 1) ex101 rfl (by decide +kernel) (by omega) (by omega)
  refine va_sld hx hb hX hbl hbA hS (vp_in_iff.mpr (by have h9 : x101.toInt = (x3.toInt + 1) := tx101; omega)) dL_law_524 ?_
  refine lv_topi (fun x102 ex102 => ?_)
  refine lv_aload_n hx hb dL_law_525 rfl (lv_at hl 3 rfl) ?_
  refine lv_iload_n hx hb dL_law_526 rfl (lv_at hl 0 rfl) ?_
  refine lv_iconst (v := 2) hx hb dL_law_527 (by decide +kernel) ?_
  refine lv_iadd hx hb dL_law_528 ?_
  refine lv_topi (fun x103 ex103 => ?_)
  have tx103 := ti_add (a := x3.toInt) (b := 2) ex103 rfl (by decide +kernel) (by omega) (by omega)
  refine va_sld hx hb hX hbl hbA hS (vp_in_iff.mpr (by have h9 : x103.toInt = (x3.toInt + 2) := tx103; omega)) dL_law_529 ?_
  refine lv_topi (fun x104 ex104 => ?_)
  refine ro_calli (va_runV (As := [.int x102, .int x104]) (rest := []) ⟨hx, hb, hml, hown, hts⟩ (x_X11_sentence l D H.size sk a t i q c d x102 x104 hI ) (cwV 2 hts gm_law_X11_sentence_62 rfl rfl rfl (by decide +kernel) ⟨Nat.le_of_ble_eq_true rfl, Nat.le_of_ble_eq_true rfl⟩) (yA_V hN (xZ_k hZ hS hA) hKT (vP_l hP) (ci := 11) (q0 := 0) rfl rfl) rfl rfl hl.1 rfl (lv_room (Nat.le_of_ble_eq_true rfl)) dL_law_530 hcs) hS hA hP (fun r105 u105 H locs hw105 hP hS => ?_)
  refine lv_pop hx hb dL_law_533 rfl ?_
  refine lv_aload_n hx hb dL_law_534 rfl (lv_at hl 1 rfl) ?_
  refine lv_aload_n hx hb dL_law_535 rfl (lv_at hl 3 rfl) ?_
  refine lv_iload_n hx hb dL_law_536 rfl (lv_at hl 0 rfl) ?_
  refine lv_iconst (v := 1) hx hb dL_law_537 (by decide +kernel) ?_
  refine lv_iadd hx hb dL_law_538 ?_
  refine lv_topi (fun x106 ex106 => ?_)
  have tx106 := ti_add (a := x3.toInt) (b := 1) ex106 rfl (by decide +kernel) (by omega) (by omega)
  refine va_sld hx hb hX hbl hbA hS (vp_in_iff.mpr (by have h9 : x106.toInt = (x3.toInt + 1) := tx106; omega)) dL_law_539 ?_
  refine lv_topi (fun x107 ex107 => ?_)
  refine lv_aload_n hx hb dL_law_540 rfl (lv_at hl 3 rfl) ?_
  refine lv_iload_n hx hb dL_law_541 rfl (lv_at hl 0 rfl) ?_
  refine lv_iconst (v := 2) hx hb dL_law_542 (by decide +kernel) ?_
  refine lv_iadd hx hb dL_law_543 ?_
  refine lv_topi (fun x108 ex108 => ?_)
  have tx108 := ti_add (a := x3.toInt) (b := 2) ex108 rfl (by decide +kernel) (by omega) (by omega)
  refine va_sld hx hb hX hbl hbA hS (vp_in_iff.mpr (by have h9 : x108.toInt = (x3.toInt + 2) := tx108; omega)) dL_law_544 ?_
  refine lv_topi (fun x109 ex109 => ?_)
  have hP : va_P D vwCl ((xwT sk a t i q c d ++ Z) ++ mW o am tm jm qm em dm) H := by rw [List.append_assoc]; exact hP
  have hD : va_D (fun q : Nat => s.heap.size ≤ q) ((xwT sk a t i q c d ++ Z) ++ mW o am tm jm qm em dm) := by rw [List.append_assoc]; exact hD
  refine ro_calli (va_runV (As := [.int x107, .int x109]) (rest := []) ⟨hx, hb, hml, hown, hts⟩ (s_X12_sentence l D H.size o am tm jm qm em dm x107 x109 hM ) (cwV 2 hts gm_law_X12_sentence_65 rfl rfl rfl (by decide +kernel) ⟨Nat.le_of_ble_eq_true rfl, Nat.le_of_ble_eq_true rfl⟩) (pA_V hKM (vP_r hP) (ci := 12) (q0 := 0) rfl rfl) rfl rfl hl.1 rfl (lv_room (Nat.le_of_ble_eq_true rfl)) dL_law_545 hcs) hS hA hP (fun r110 u110 H locs hw110 hP hS => ?_)
  have hP : va_P D vwCl (xwT sk a t i q c d ++ (Z ++ mW o am tm jm qm em dm)) H := by rw [← List.append_assoc]; exact hP
  have hD : va_D (fun q : Nat => s.heap.size ≤ q) (xwT sk a t i q c d ++ (Z ++ mW o am tm jm qm em dm)) := by rw [← List.append_assoc]; exact hD
  refine lv_pop hx hb dL_law_548 rfl ?_
  refine lv_goto (tgt := 1461) hx hb dL_law_549 (by decide +kernel) ?_
  exact kk i q c d jm qm em dm _ _ _ ⟨hI, hs_F, hs_P, htr, hM, hs_S, hs_J, ⟨hR, hPA, hKO, hSO, hSN, hDR, hRD⟩⟩ hP hD hS (lv_sub hl [0, 1, 2, 3] rfl)

set_option maxHeartbeats 4000000 in
set_option maxRecDepth 100000 in
theorem law_place {p : Program} {l : Launch} {e : Env} {s : State} {m : MethodId} {below : List Frame} {meth : Method} {cd : Code} {b L : Nat} {xs : Nat → Int32} {D : va_G} {a : Nat → Nat} {t : Nat → ClassId} {o : Nat} {am : Nat → Nat} {tm : Nat → ClassId} {x3 : Int32} {cells slots : Nat} {sk : Value} {Z : va_W} (hx : p.tables.exec = Jvm.exec) (hb : cd.code = cL_law) (hml : cd.maxLocals = 4) (hown : s.vm.findClass RL = some m.cls) (hts : ∀ w ∈ wm_law, w.before #[Value.ref b] s = true) (hX : va_X b L xs s s.heap) (hbl : b < s.heap.size) (hL : L ≤ 3584) (hN : xN s) (hZ : xZ (a 186) s s.heap) (hKT : va_K D vwCl (xtT t) s) (hKM : va_K D vwCl (mT tm) s) (hcs : cells ≤ 600000 ∧ slots ≤ 7302249) (hx3 : 0 ≤ x3.toInt ∧ x3.toInt + 7 ≤ (L : Int)) (kk : LK p l e s m below meth cd b D sk a t Z o am tm x3 cells slots) (i : Nat → Int32) (q : Int64) (c : Nat → Nat → Int32) (d : Nat → Nat → Int64) (jm : Nat → Int32) (qm : Int64) (em : Nat → Nat → Int32) (dm : Nat → Nat → Int64) (H : Heap) (locs : List Loc) (ls : Array Slot) (hLI : LI i c jm em) (hP : va_P D vwCl (xwT sk a t i q c d ++ (Z ++ mW o am tm jm qm em dm)) H) (hD : va_D (fun q : Nat => s.heap.size ≤ q) (xwT sk a t i q c d ++ (Z ++ mW o am tm jm qm em dm))) (hS : va_S (fun q : Nat => s.heap.size ≤ q) s.heap H locs) (hl : lv_has ls 4 [(3, .int x3), (2, .ref o), (1, .ref (a 100)), (0, .ref b)]) : W p l e room_1 s m #[Value.ref b] below meth cd H locs cells slots (lw_Z below #[Value.ref b] s) (F0 m 552 ls []) := by
  have hbA : ¬ (fun q : Nat => s.heap.size ≤ q) b := Nat.not_le.mpr hbl
  have hA : ∀ q : Nat, s.heap.size ≤ q → (fun q : Nat => s.heap.size ≤ q) q := fun _ h => h
  obtain ⟨hI, hs_F, hs_P, htr, hM, hs_S, hs_J, hR⟩ := hLI
  have hI0 := hI
  have hM0 := hM
  obtain ⟨hR, hPA, hKO, hSO, hSN, hDR, hRD⟩ := hR
  have hRR := RR_of hI0 hs_F
  refine lv_aload_n hx hb dL_law_552 rfl (lv_at hl 2 rfl) ?_
  refine lv_aload_n hx hb dL_law_553 rfl (lv_at hl 3 rfl) ?_
  refine lv_iload_n hx hb dL_law_554 rfl (lv_at hl 0 rfl) ?_
  refine lv_iconst (v := 1) hx hb dL_law_555 (by decide +kernel) ?_
  refine lv_iadd hx hb dL_law_556 ?_
  refine lv_topi (fun x101 ex101 => ?_)
  have tx101 := ti_add (a := x3.toInt) (b := 1) ex101 rfl (by decide +kernel) (by omega) (by omega)
  refine va_sld hx hb hX hbl hbA hS (vp_in_iff.mpr (by have h9 : x101.toInt = (x3.toInt + 1) := tx101; omega)) dL_law_557 ?_
  refine lv_topi (fun x102 ex102 => ?_)
  refine lv_aload_n hx hb dL_law_558 rfl (lv_at hl 3 rfl) ?_
  refine lv_iload_n hx hb dL_law_559 rfl (lv_at hl 0 rfl) ?_
  refine lv_iconst (v := 2) hx hb dL_law_560 (by decide +kernel) ?_
  refine lv_iadd hx hb dL_law_561 ?_
  refine lv_topi (fun x103 ex103 => ?_)
  have tx103 := ti_add (a := x3.toInt) (b := 2) ex103 rfl (by decide +kernel) (by omega) (by omega)
  refine va_sld hx hb hX hbl hbA hS (vp_in_iff.mpr (by have h9 : x103.toInt = (x3.toInt + 2) := tx103; omega)) dL_law_562 ?_
  refine lv_topi (fun x104 ex104 => ?_)
  refine ro_calli (va_runV (As := [.int x102, .int x104]) (rest := []) ⟨hx, hb, hml, hown, hts⟩ (x_X11_place l D H.size sk a t i q c d x102 x104 hI ) (cwV 2 hts gm_law_X11_place_66 rfl rfl rfl (by decide +kernel) ⟨Nat.le_of_ble_eq_true rfl, Nat.le_of_ble_eq_true rfl⟩) (yA_V hN (xZ_k hZ hS hA) hKT (vP_l hP) (ci := 11) (q0 := 0) rfl rfl) rfl rfl hl.1 rfl (lv_room (Nat.le_of_ble_eq_true rfl)) dL_law_563 hcs) hS hA hP (fun r105 u105 H locs hw105 hP hS => ?_)
  refine lv_pop hx hb dL_law_566 rfl ?_
  refine lv_aload_n hx hb dL_law_567 rfl (lv_at hl 1 rfl) ?_
  refine lv_aload_n hx hb dL_law_568 rfl (lv_at hl 3 rfl) ?_
  refine lv_iload_n hx hb dL_law_569 rfl (lv_at hl 0 rfl) ?_
  refine lv_iconst (v := 1) hx hb dL_law_570 (by decide +kernel) ?_
  refine lv_iadd hx hb dL_law_571 ?_
  refine lv_topi (fun x106 ex106 => ?_)
  have tx106 := ti_add (a := x3.toInt) (b := 1) ex106 rfl (by decide +kernel) (by omega) (by omega)
  refine va_sld hx hb hX hbl hbA hS (vp_in_iff.mpr (by have h9 : x106.toInt = (x3.toInt + 1) := tx106; omega)) dL_law_572 ?_
  refine lv_topi (fun x107 ex107 => ?_)
  refine lv_aload_n hx hb dL_law_573 rfl (lv_at hl 3 rfl) ?_
  refine lv_iload_n hx hb dL_law_574 rfl (lv_at hl 0 rfl) ?_
  refine lv_iconst (v := 2) hx hb dL_law_575 (by decide +kernel) ?_
  refine lv_iadd hx hb dL_law_576 ?_
  refine lv_topi (fun x108 ex108 => ?_)
  have tx108 := ti_add (a := x3.toInt) (b := 2) ex108 rfl (by decide +kernel) (by omega) (by omega)
  refine va_sld hx hb hX hbl hbA hS (vp_in_iff.mpr (by have h9 : x108.toInt = (x3.toInt + 2) := tx108; omega)) dL_law_577 ?_
  refine lv_topi (fun x109 ex109 => ?_)
  have hP : va_P D vwCl ((xwT sk a t i q c d ++ Z) ++ mW o am tm jm qm em dm) H := by rw [List.append_assoc]; exact hP
  have hD : va_D (fun q : Nat => s.heap.size ≤ q) ((xwT sk a t i q c d ++ Z) ++ mW o am tm jm qm em dm) := by rw [List.append_assoc]; exact hD
  refine ro_calli (va_runV (As := [.int x107, .int x109]) (rest := []) ⟨hx, hb, hml, hown, hts⟩ (s_X12_place l D H.size o am tm jm qm em dm x107 x109 hM ) (cwV 2 hts gm_law_X12_place_69 rfl rfl rfl (by decide +kernel) ⟨Nat.le_of_ble_eq_true rfl, Nat.le_of_ble_eq_true rfl⟩) (pA_V hKM (vP_r hP) (ci := 12) (q0 := 0) rfl rfl) rfl rfl hl.1 rfl (lv_room (Nat.le_of_ble_eq_true rfl)) dL_law_578 hcs) hS hA hP (fun r110 u110 H locs hw110 hP hS => ?_)
  have hP : va_P D vwCl (xwT sk a t i q c d ++ (Z ++ mW o am tm jm qm em dm)) H := by rw [← List.append_assoc]; exact hP
  have hD : va_D (fun q : Nat => s.heap.size ≤ q) (xwT sk a t i q c d ++ (Z ++ mW o am tm jm qm em dm)) := by rw [← List.append_assoc]; exact hD
  refine lv_pop hx hb dL_law_581 rfl ?_
  refine lv_goto (tgt := 1461) hx hb dL_law_582 (by decide +kernel) ?_
  exact kk i q c d jm qm em dm _ _ _ ⟨hI, hs_F, hs_P, htr, hM, hs_S, hs_J, ⟨hR, hPA, hKO, hSO, hSN, hDR, hRD⟩⟩ hP hD hS (lv_sub hl [0, 1, 2, 3] rfl)

set_option maxHeartbeats 4000000 in
set_option maxRecDepth 100000 in
theorem law_exit {p : Program} {l : Launch} {e : Env} {s : State} {m : MethodId} {below : List Frame} {meth : Method} {cd : Code} {b L : Nat} {xs : Nat → Int32} {D : va_G} {a : Nat → Nat} {t : Nat → ClassId} {o : Nat} {am : Nat → Nat} {tm : Nat → ClassId} {x3 : Int32} {cells slots : Nat} {sk : Value} {Z : va_W} (hx : p.tables.exec = Jvm.exec) (hb : cd.code = cL_law) (hml : cd.maxLocals = 4) (hown : s.vm.findClass RL = some m.cls) (hts : ∀ w ∈ wm_law, w.before #[Value.ref b] s = true) (hX : va_X b L xs s s.heap) (hbl : b < s.heap.size) (hL : L ≤ 3584) (hN : xN s) (hZ : xZ (a 186) s s.heap) (hKT : va_K D vwCl (xtT t) s) (hKM : va_K D vwCl (mT tm) s) (hcs : cells ≤ 600000 ∧ slots ≤ 7302249) (hx3 : 0 ≤ x3.toInt ∧ x3.toInt + 7 ≤ (L : Int)) (kk : LK p l e s m below meth cd b D sk a t Z o am tm x3 cells slots) (i : Nat → Int32) (q : Int64) (c : Nat → Nat → Int32) (d : Nat → Nat → Int64) (jm : Nat → Int32) (qm : Int64) (em : Nat → Nat → Int32) (dm : Nat → Nat → Int64) (H : Heap) (locs : List Loc) (ls : Array Slot) (hLI : LI i c jm em) (hP : va_P D vwCl (xwT sk a t i q c d ++ (Z ++ mW o am tm jm qm em dm)) H) (hD : va_D (fun q : Nat => s.heap.size ≤ q) (xwT sk a t i q c d ++ (Z ++ mW o am tm jm qm em dm))) (hS : va_S (fun q : Nat => s.heap.size ≤ q) s.heap H locs) (hl : lv_has ls 4 [(3, .int x3), (2, .ref o), (1, .ref (a 100)), (0, .ref b)]) : W p l e room_1 s m #[Value.ref b] below meth cd H locs cells slots (lw_Z below #[Value.ref b] s) (F0 m 585 ls []) := by
  have hbA : ¬ (fun q : Nat => s.heap.size ≤ q) b := Nat.not_le.mpr hbl
  have hA : ∀ q : Nat, s.heap.size ≤ q → (fun q : Nat => s.heap.size ≤ q) q := fun _ h => h
  obtain ⟨hI, hs_F, hs_P, htr, hM, hs_S, hs_J, hR⟩ := hLI
  have hI0 := hI
  have hM0 := hM
  obtain ⟨hR, hPA, hKO, hSO, hSN, hDR, hRD⟩ := hR
  have hRR := RR_of hI0 hs_F
  refine lv_aload_n hx hb dL_law_585 rfl (lv_at hl 2 rfl) ?_
  refine lv_aload_n hx hb dL_law_586 rfl (lv_at hl 3 rfl) ?_
  refine lv_iload_n hx hb dL_law_587 rfl (lv_at hl 0 rfl) ?_
  refine lv_iconst (v := 1) hx hb dL_law_588 (by decide +kernel) ?_
  refine lv_iadd hx hb dL_law_589 ?_
  refine lv_topi (fun x101 ex101 => ?_)
  have tx101 := ti_add (a := x3.toInt) (b := 1) ex101 rfl (by decide +kernel) (by omega) (by omega)
  refine va_sld hx hb hX hbl hbA hS (vp_in_iff.mpr (by have h9 : x101.toInt = (x3.toInt + 1) := tx101; omega)) dL_law_590 ?_
  refine lv_topi (fun x102 ex102 => ?_)
  refine lv_aload_n hx hb dL_law_591 rfl (lv_at hl 3 rfl) ?_
  refine lv_iload_n hx hb dL_law_592 rfl (lv_at hl 0 rfl) ?_
  refine lv_iconst (v := 2) hx hb dL_law_593 (by decide +kernel) ?_
  refine lv_iadd hx hb dL_law_594 ?_
  refine lv_topi (fun x103 ex103 => ?_)
  have tx103 := ti_add (a := x3.toInt) (b := 2) ex103 rfl (by decide +kernel) (by omega) (by omega)
  refine va_sld hx hb hX hbl hbA hS (vp_in_iff.mpr (by have h9 : x103.toInt = (x3.toInt + 2) := tx103; omega)) dL_law_595 ?_
  refine lv_topi (fun x104 ex104 => ?_)
  refine lv_aload_n hx hb dL_law_596 rfl (lv_at hl 3 rfl) ?_
  refine lv_iload_n hx hb dL_law_597 rfl (lv_at hl 0 rfl) ?_
  refine lv_iconst (v := 3) hx hb dL_law_598 (by decide +kernel) ?_
  refine lv_iadd hx hb dL_law_599 ?_
  refine lv_topi (fun x105 ex105 => ?_)
  have tx105 := ti_add (a := x3.toInt) (b := 3) ex105 rfl (by decide +kernel) (by omega) (by omega)
  refine va_sld hx hb hX hbl hbA hS (vp_in_iff.mpr (by have h9 : x105.toInt = (x3.toInt + 3) := tx105; omega)) dL_law_600 ?_
  refine lv_topi (fun x106 ex106 => ?_)
  refine lc_i (wr := (Z ++ mW o am tm jm qm em dm)) (va_runV (As := [.int x102, .int x104, .int x106]) (rest := []) ⟨hx, hb, hml, hown, hts⟩ (x_X11_exit l D H.size sk a t i q c d x102 x104 x106 hI ) (cwV 3 hts gm_law_X11_exit_70 rfl rfl rfl (by decide +kernel) ⟨Nat.le_of_ble_eq_true rfl, Nat.le_of_ble_eq_true rfl⟩) (yB_V hN (xZ_k hZ hS hA) (xZ_n hZ (vD_l hD)) hKT (vP_l hP) (vD_l hD) (ci := 11) (q0 := 0) rfl rfl) rfl rfl hl.1 rfl (lv_room (Nat.le_of_ble_eq_true rfl)) dL_law_601 hcs) hS hA hP hD (fun r107 u107 H locs hw107 _ hP hD hS => ?_)
  obtain ⟨i107, q107, c107, d107⟩ := u107
  have hw107 : True ∧ xInv i107 c107 ∧ (∀ k, k ∉ ([102] : List Nat) → i107 k = i k) ∧ (∀ k, k ∉ ([101] : List Nat) → c107 k = c k) := hw107
  obtain ⟨hw107, hI, hei107, hec107⟩ := hw107
  have hP : va_P D vwCl (xwT sk a t i107 q107 c107 d107 ++ (Z ++ mW o am tm jm qm em dm)) H := hP
  have hD : va_D (fun q : Nat => s.heap.size ≤ q) (xwT sk a t i107 q107 c107 d107 ++ (Z ++ mW o am tm jm qm em dm)) := hD
  refine lv_pop hx hb dL_law_604 rfl ?_
  refine lv_aload_n hx hb dL_law_605 rfl (lv_at hl 1 rfl) ?_
  refine lv_aload_n hx hb dL_law_606 rfl (lv_at hl 3 rfl) ?_
  refine lv_iload_n hx hb dL_law_607 rfl (lv_at hl 0 rfl) ?_
  refine lv_iconst (v := 1) hx hb dL_law_608 (by decide +kernel) ?_
  refine lv_iadd hx hb dL_law_609 ?_
  refine lv_topi (fun x108 ex108 => ?_)
  have tx108 := ti_add (a := x3.toInt) (b := 1) ex108 rfl (by decide +kernel) (by omega) (by omega)
  refine va_sld hx hb hX hbl hbA hS (vp_in_iff.mpr (by have h9 : x108.toInt = (x3.toInt + 1) := tx108; omega)) dL_law_610 ?_
  refine lv_topi (fun x109 ex109 => ?_)
  refine lv_aload_n hx hb dL_law_611 rfl (lv_at hl 3 rfl) ?_
  refine lv_iload_n hx hb dL_law_612 rfl (lv_at hl 0 rfl) ?_
  refine lv_iconst (v := 2) hx hb dL_law_613 (by decide +kernel) ?_
  refine lv_iadd hx hb dL_law_614 ?_
  refine lv_topi (fun x110 ex110 => ?_)
  have tx110 := ti_add (a := x3.toInt) (b := 2) ex110 rfl (by decide +kernel) (by omega) (by omega)
  refine va_sld hx hb hX hbl hbA hS (vp_in_iff.mpr (by have h9 : x110.toInt = (x3.toInt + 2) := tx110; omega)) dL_law_615 ?_
  refine lv_topi (fun x111 ex111 => ?_)
  refine lv_aload_n hx hb dL_law_616 rfl (lv_at hl 3 rfl) ?_
  refine lv_iload_n hx hb dL_law_617 rfl (lv_at hl 0 rfl) ?_
  refine lv_iconst (v := 3) hx hb dL_law_618 (by decide +kernel) ?_
  refine lv_iadd hx hb dL_law_619 ?_
  refine lv_topi (fun x112 ex112 => ?_)
  have tx112 := ti_add (a := x3.toInt) (b := 3) ex112 rfl (by decide +kernel) (by omega) (by omega)
  refine va_sld hx hb hX hbl hbA hS (vp_in_iff.mpr (by have h9 : x112.toInt = (x3.toInt + 3) := tx112; omega)) dL_law_620 ?_
  refine lv_topi (fun x113 ex113 => ?_)
  have hP : va_P D vwCl ((xwT sk a t i107 q107 c107 d107 ++ Z) ++ mW o am tm jm qm em dm) H := by rw [List.append_assoc]; exact hP
  have hD : va_D (fun q : Nat => s.heap.size ≤ q) ((xwT sk a t i107 q107 c107 d107 ++ Z) ++ mW o am tm jm qm em dm) := by rw [List.append_assoc]; exact hD
  refine rc_i (wr := (xwT sk a t i107 q107 c107 d107 ++ Z)) (va_runV (As := [.int x109, .int x111, .int x113]) (rest := []) ⟨hx, hb, hml, hown, hts⟩ (s_X12_exit l D H.size o am tm jm qm em dm x109 x111 x113 hM ) (cwV 3 hts gm_law_X12_exit_73 rfl rfl rfl (by decide +kernel) ⟨Nat.le_of_ble_eq_true rfl, Nat.le_of_ble_eq_true rfl⟩) (pB_V hKM (vP_r hP) (vD_r hD) (ci := 12) (q0 := 0) rfl rfl) rfl rfl hl.1 rfl (lv_room (Nat.le_of_ble_eq_true rfl)) dL_law_621 hcs) hS hA hP hD (fun r114 u114 H locs hw114 hP hD hS => ?_)
  obtain ⟨i114, q114, c114, d114⟩ := u114
  have hw114 : True ∧ mInv i114 c114 ∧ (∀ k, k ∉ ([0, 16, 17, 18, 19] : List Nat) → i114 k = jm k) ∧ (∀ k, k ∉ ([1] : List Nat) → c114 k = em k) := hw114
  obtain ⟨hw114, hM, hei114, hec114⟩ := hw114
  have hP : va_P D vwCl (xwT sk a t i107 q107 c107 d107 ++ (Z ++ mW o am tm i114 q114 c114 d114)) H := by rw [← List.append_assoc]; exact hP
  have hD : va_D (fun q : Nat => s.heap.size ≤ q) (xwT sk a t i107 q107 c107 d107 ++ (Z ++ mW o am tm i114 q114 c114 d114)) := by rw [← List.append_assoc]; exact hD
  refine lv_pop hx hb dL_law_624 rfl ?_
  refine lv_goto (tgt := 1461) hx hb dL_law_625 (by decide +kernel) ?_
  exact kk i107 q107 c107 d107 i114 q114 c114 d114 _ _ _ ⟨hI, (by rw [show c107 113 = c 113 from hec107 113 (by decide +kernel), show c107 115 = c 115 from hec107 115 (by decide +kernel)]; exact hs_F), (by rw [show i107 146 = i 146 from hei107 146 (by decide +kernel), show i107 147 = i 147 from hei107 147 (by decide +kernel), show i107 148 = i 148 from hei107 148 (by decide +kernel), show i107 156 = i 156 from hei107 156 (by decide +kernel), show c107 144 = c 144 from hec107 144 (by decide +kernel), show c107 145 = c 145 from hec107 145 (by decide +kernel), show c107 150 = c 150 from hec107 150 (by decide +kernel)]; exact hs_P), (by rw [show i107 141 = i 141 from hei107 141 (by decide +kernel)]; exact htr), hM, (by rw [show c114 3 = em 3 from hec114 3 (by decide +kernel), show c114 6 = em 6 from hec114 6 (by decide +kernel), show c114 9 = em 9 from hec114 9 (by decide +kernel), show c114 10 = em 10 from hec114 10 (by decide +kernel), show c114 11 = em 11 from hec114 11 (by decide +kernel), show c114 13 = em 13 from hec114 13 (by decide +kernel), show i114 2 = jm 2 from hei114 2 (by decide +kernel), show i114 5 = jm 5 from hei114 5 (by decide +kernel), show i114 8 = jm 8 from hei114 8 (by decide +kernel)]; exact hs_S), (by rw [show c114 3 = em 3 from hec114 3 (by decide +kernel), show c114 6 = em 6 from hec114 6 (by decide +kernel), show c114 23 = em 23 from hec114 23 (by decide +kernel), show c114 24 = em 24 from hec114 24 (by decide +kernel), show c114 29 = em 29 from hec114 29 (by decide +kernel), show c114 30 = em 30 from hec114 30 (by decide +kernel), show i114 5 = jm 5 from hei114 5 (by decide +kernel), show i114 22 = jm 22 from hei114 22 (by decide +kernel), show i114 27 = jm 27 from hei114 27 (by decide +kernel)]; exact hs_J), (by rw [show i107 110 = i 110 from hei107 110 (by decide +kernel), show i107 111 = i 111 from hei107 111 (by decide +kernel), show i107 165 = i 165 from hei107 165 (by decide +kernel), show i107 124 = i 124 from hei107 124 (by decide +kernel), show c107 107 = c 107 from hec107 107 (by decide +kernel), show c107 105 = c 105 from hec107 105 (by decide +kernel), show c107 108 = c 108 from hec107 108 (by decide +kernel), show c107 106 = c 106 from hec107 106 (by decide +kernel), show c107 113 = c 113 from hec107 113 (by decide +kernel), show c107 114 = c 114 from hec107 114 (by decide +kernel), show c107 115 = c 115 from hec107 115 (by decide +kernel), show c107 116 = c 116 from hec107 116 (by decide +kernel), show c107 117 = c 117 from hec107 117 (by decide +kernel), show c107 118 = c 118 from hec107 118 (by decide +kernel), show c107 119 = c 119 from hec107 119 (by decide +kernel), show c107 120 = c 120 from hec107 120 (by decide +kernel), show c107 121 = c 121 from hec107 121 (by decide +kernel), show c107 127 = c 127 from hec107 127 (by decide +kernel), show c107 129 = c 129 from hec107 129 (by decide +kernel), show c107 130 = c 130 from hec107 130 (by decide +kernel), show c107 131 = c 131 from hec107 131 (by decide +kernel), show c107 132 = c 132 from hec107 132 (by decide +kernel), show c107 133 = c 133 from hec107 133 (by decide +kernel), show c107 134 = c 134 from hec107 134 (by decide +kernel), show i114 2 = jm 2 from hei114 2 (by decide +kernel), show i114 5 = jm 5 from hei114 5 (by decide +kernel), show i114 64 = jm 64 from hei114 64 (by decide +kernel), show i114 8 = jm 8 from hei114 8 (by decide +kernel), show c114 4 = em 4 from hec114 4 (by decide +kernel), show c114 3 = em 3 from hec114 3 (by decide +kernel), show c114 6 = em 6 from hec114 6 (by decide +kernel), show c114 9 = em 9 from hec114 9 (by decide +kernel), show c114 10 = em 10 from hec114 10 (by decide +kernel), show c114 11 = em 11 from hec114 11 (by decide +kernel), show c114 12 = em 12 from hec114 12 (by decide +kernel), show c114 13 = em 13 from hec114 13 (by decide +kernel)]; exact ⟨hR, hPA, hKO, hSO, hSN, hDR, hRD⟩)⟩ hP hD hS (lv_sub hl [0, 1, 2, 3] rfl)

set_option maxHeartbeats 4000000 in
set_option maxRecDepth 100000 in
theorem law_flag {p : Program} {l : Launch} {e : Env} {s : State} {m : MethodId} {below : List Frame} {meth : Method} {cd : Code} {b L : Nat} {xs : Nat → Int32} {D : va_G} {a : Nat → Nat} {t : Nat → ClassId} {o : Nat} {am : Nat → Nat} {tm : Nat → ClassId} {x3 : Int32} {cells slots : Nat} {sk : Value} {Z : va_W} (hx : p.tables.exec = Jvm.exec) (hb : cd.code = cL_law) (hml : cd.maxLocals = 4) (hown : s.vm.findClass RL = some m.cls) (hts : ∀ w ∈ wm_law, w.before #[Value.ref b] s = true) (hX : va_X b L xs s s.heap) (hbl : b < s.heap.size) (hL : L ≤ 3584) (hN : xN s) (hZ : xZ (a 186) s s.heap) (hKT : va_K D vwCl (xtT t) s) (hKM : va_K D vwCl (mT tm) s) (hcs : cells ≤ 600000 ∧ slots ≤ 7302249) (hx3 : 0 ≤ x3.toInt ∧ x3.toInt + 7 ≤ (L : Int)) (kk : LK p l e s m below meth cd b D sk a t Z o am tm x3 cells slots) (i : Nat → Int32) (q : Int64) (c : Nat → Nat → Int32) (d : Nat → Nat → Int64) (jm : Nat → Int32) (qm : Int64) (em : Nat → Nat → Int32) (dm : Nat → Nat → Int64) (H : Heap) (locs : List Loc) (ls : Array Slot) (hLI : LI i c jm em) (hP : va_P D vwCl (xwT sk a t i q c d ++ (Z ++ mW o am tm jm qm em dm)) H) (hD : va_D (fun q : Nat => s.heap.size ≤ q) (xwT sk a t i q c d ++ (Z ++ mW o am tm jm qm em dm))) (hS : va_S (fun q : Nat => s.heap.size ≤ q) s.heap H locs) (hl : lv_has ls 4 [(3, .int x3), (2, .ref o), (1, .ref (a 100)), (0, .ref b)]) : W p l e room_1 s m #[Value.ref b] below meth cd H locs cells slots (lw_Z below #[Value.ref b] s) (F0 m 628 ls []) := by
  have hbA : ¬ (fun q : Nat => s.heap.size ≤ q) b := Nat.not_le.mpr hbl
  have hA : ∀ q : Nat, s.heap.size ≤ q → (fun q : Nat => s.heap.size ≤ q) q := fun _ h => h
  obtain ⟨hI, hs_F, hs_P, htr, hM, hs_S, hs_J, hR⟩ := hLI
  have hI0 := hI
  have hM0 := hM
  obtain ⟨hR, hPA, hKO, hSO, hSN, hDR, hRD⟩ := hR
  have hRR := RR_of hI0 hs_F
  refine lv_aload_n hx hb dL_law_628 rfl (lv_at hl 2 rfl) ?_
  refine lv_aload_n hx hb dL_law_629 rfl (lv_at hl 3 rfl) ?_
  refine lv_iload_n hx hb dL_law_630 rfl (lv_at hl 0 rfl) ?_
  refine lv_iconst (v := 1) hx hb dL_law_631 (by decide +kernel) ?_
  refine lv_iadd hx hb dL_law_632 ?_
  refine lv_topi (fun x101 ex101 => ?_)
  have tx101 := ti_add (a := x3.toInt) (b := 1) ex101 rfl (by decide +kernel) (by omega) (by omega)
  refine va_sld hx hb hX hbl hbA hS (vp_in_iff.mpr (by have h9 : x101.toInt = (x3.toInt + 1) := tx101; omega)) dL_law_633 ?_
  refine lv_topi (fun x102 ex102 => ?_)
  refine lv_aload_n hx hb dL_law_634 rfl (lv_at hl 3 rfl) ?_
  refine lv_iload_n hx hb dL_law_635 rfl (lv_at hl 0 rfl) ?_
  refine lv_iconst (v := 2) hx hb dL_law_636 (by decide +kernel) ?_
  refine lv_iadd hx hb dL_law_637 ?_
  refine lv_topi (fun x103 ex103 => ?_)
  have tx103 := ti_add (a := x3.toInt) (b := 2) ex103 rfl (by decide +kernel) (by omega) (by omega)
  refine va_sld hx hb hX hbl hbA hS (vp_in_iff.mpr (by have h9 : x103.toInt = (x3.toInt + 2) := tx103; omega)) dL_law_638 ?_
  refine lv_topi (fun x104 ex104 => ?_)
  refine lc_i (wr := (Z ++ mW o am tm jm qm em dm)) (va_runV (As := [.int x102, .int x104]) (rest := []) ⟨hx, hb, hml, hown, hts⟩ (x_X11_flag l D H.size sk a t i q c d x102 x104 hI ) (cwV 2 hts gm_law_X11_flag_74 rfl rfl rfl (by decide +kernel) ⟨Nat.le_of_ble_eq_true rfl, Nat.le_of_ble_eq_true rfl⟩) (yB_V hN (xZ_k hZ hS hA) (xZ_n hZ (vD_l hD)) hKT (vP_l hP) (vD_l hD) (ci := 11) (q0 := 0) rfl rfl) rfl rfl hl.1 rfl (lv_room (Nat.le_of_ble_eq_true rfl)) dL_law_639 hcs) hS hA hP hD (fun r105 u105 H locs hw105 _ hP hD hS => ?_)
  obtain ⟨i105, q105, c105, d105⟩ := u105
  have hw105 : True ∧ xInv i105 c105 ∧ (∀ k, k ∉ ([102] : List Nat) → i105 k = i k) ∧ (∀ k, k ∉ ([101] : List Nat) → c105 k = c k) := hw105
  obtain ⟨hw105, hI, hei105, hec105⟩ := hw105
  have hP : va_P D vwCl (xwT sk a t i105 q105 c105 d105 ++ (Z ++ mW o am tm jm qm em dm)) H := hP
  have hD : va_D (fun q : Nat => s.heap.size ≤ q) (xwT sk a t i105 q105 c105 d105 ++ (Z ++ mW o am tm jm qm em dm)) := hD
  refine lv_pop hx hb dL_law_642 rfl ?_
  refine lv_aload_n hx hb dL_law_643 rfl (lv_at hl 1 rfl) ?_
  refine lv_aload_n hx hb dL_law_644 rfl (lv_at hl 3 rfl) ?_
  refine lv_iload_n hx hb dL_law_645 rfl (lv_at hl 0 rfl) ?_
  refine lv_iconst (v := 1) hx hb dL_law_646 (by decide +kernel) ?_
  refine lv_iadd hx hb dL_law_647 ?_
  refine lv_topi (fun x106 ex106 => ?_)
  have tx106 := ti_add (a := x3.toInt) (b := 1) ex106 rfl (by decide +kernel) (by omega) (by omega)
  refine va_sld hx hb hX hbl hbA hS (vp_in_iff.mpr (by have h9 : x106.toInt = (x3.toInt + 1) := tx106; omega)) dL_law_648 ?_
  refine lv_topi (fun x107 ex107 => ?_)
  refine lv_aload_n hx hb dL_law_649 rfl (lv_at hl 3 rfl) ?_
  refine lv_iload_n hx hb dL_law_650 rfl (lv_at hl 0 rfl) ?_
  refine lv_iconst (v := 2) hx hb dL_law_651 (by decide +kernel) ?_
  refine lv_iadd hx hb dL_law_652 ?_
  refine lv_topi (fun x108 ex108 => ?_)
  have tx108 := ti_add (a := x3.toInt) (b := 2) ex108 rfl (by decide +kernel) (by omega) (by omega)
  refine va_sld hx hb hX hbl hbA hS (vp_in_iff.mpr (by have h9 : x108.toInt = (x3.toInt + 2) := tx108; omega)) dL_law_653 ?_
  refine lv_topi (fun x109 ex109 => ?_)
  have hP : va_P D vwCl ((xwT sk a t i105 q105 c105 d105 ++ Z) ++ mW o am tm jm qm em dm) H := by rw [List.append_assoc]; exact hP
  have hD : va_D (fun q : Nat => s.heap.size ≤ q) ((xwT sk a t i105 q105 c105 d105 ++ Z) ++ mW o am tm jm qm em dm) := by rw [List.append_assoc]; exact hD
  refine rc_i (wr := (xwT sk a t i105 q105 c105 d105 ++ Z)) (va_runV (As := [.int x107, .int x109]) (rest := []) ⟨hx, hb, hml, hown, hts⟩ (s_X12_flag l D H.size o am tm jm qm em dm x107 x109 hM ) (cwV 2 hts gm_law_X12_flag_77 rfl rfl rfl (by decide +kernel) ⟨Nat.le_of_ble_eq_true rfl, Nat.le_of_ble_eq_true rfl⟩) (pB_V hKM (vP_r hP) (vD_r hD) (ci := 12) (q0 := 0) rfl rfl) rfl rfl hl.1 rfl (lv_room (Nat.le_of_ble_eq_true rfl)) dL_law_654 hcs) hS hA hP hD (fun r110 u110 H locs hw110 hP hD hS => ?_)
  obtain ⟨i110, q110, c110, d110⟩ := u110
  have hw110 : True ∧ mInv i110 c110 ∧ (∀ k, k ∉ ([0] : List Nat) → i110 k = jm k) ∧ (∀ k, k ∉ ([1] : List Nat) → c110 k = em k) := hw110
  obtain ⟨hw110, hM, hei110, hec110⟩ := hw110
  have hP : va_P D vwCl (xwT sk a t i105 q105 c105 d105 ++ (Z ++ mW o am tm i110 q110 c110 d110)) H := by rw [← List.append_assoc]; exact hP
  have hD : va_D (fun q : Nat => s.heap.size ≤ q) (xwT sk a t i105 q105 c105 d105 ++ (Z ++ mW o am tm i110 q110 c110 d110)) := by rw [← List.append_assoc]; exact hD
  refine lv_pop hx hb dL_law_657 rfl ?_
  refine lv_goto (tgt := 1461) hx hb dL_law_658 (by decide +kernel) ?_
  exact kk i105 q105 c105 d105 i110 q110 c110 d110 _ _ _ ⟨hI, (by rw [show c105 113 = c 113 from hec105 113 (by decide +kernel), show c105 115 = c 115 from hec105 115 (by decide +kernel)]; exact hs_F), (by rw [show i105 146 = i 146 from hei105 146 (by decide +kernel), show i105 147 = i 147 from hei105 147 (by decide +kernel), show i105 148 = i 148 from hei105 148 (by decide +kernel), show i105 156 = i 156 from hei105 156 (by decide +kernel), show c105 144 = c 144 from hec105 144 (by decide +kernel), show c105 145 = c 145 from hec105 145 (by decide +kernel), show c105 150 = c 150 from hec105 150 (by decide +kernel)]; exact hs_P), (by rw [show i105 141 = i 141 from hei105 141 (by decide +kernel)]; exact htr), hM, (by rw [show c110 3 = em 3 from hec110 3 (by decide +kernel), show c110 6 = em 6 from hec110 6 (by decide +kernel), show c110 9 = em 9 from hec110 9 (by decide +kernel), show c110 10 = em 10 from hec110 10 (by decide +kernel), show c110 11 = em 11 from hec110 11 (by decide +kernel), show c110 13 = em 13 from hec110 13 (by decide +kernel), show i110 2 = jm 2 from hei110 2 (by decide +kernel), show i110 5 = jm 5 from hei110 5 (by decide +kernel), show i110 8 = jm 8 from hei110 8 (by decide +kernel)]; exact hs_S), (by rw [show c110 3 = em 3 from hec110 3 (by decide +kernel), show c110 6 = em 6 from hec110 6 (by decide +kernel), show c110 23 = em 23 from hec110 23 (by decide +kernel), show c110 24 = em 24 from hec110 24 (by decide +kernel), show c110 29 = em 29 from hec110 29 (by decide +kernel), show c110 30 = em 30 from hec110 30 (by decide +kernel), show i110 5 = jm 5 from hei110 5 (by decide +kernel), show i110 22 = jm 22 from hei110 22 (by decide +kernel), show i110 27 = jm 27 from hei110 27 (by decide +kernel)]; exact hs_J), (by rw [show i105 110 = i 110 from hei105 110 (by decide +kernel), show i105 111 = i 111 from hei105 111 (by decide +kernel), show i105 165 = i 165 from hei105 165 (by decide +kernel), show i105 124 = i 124 from hei105 124 (by decide +kernel), show c105 107 = c 107 from hec105 107 (by decide +kernel), show c105 105 = c 105 from hec105 105 (by decide +kernel), show c105 108 = c 108 from hec105 108 (by decide +kernel), show c105 106 = c 106 from hec105 106 (by decide +kernel), show c105 113 = c 113 from hec105 113 (by decide +kernel), show c105 114 = c 114 from hec105 114 (by decide +kernel), show c105 115 = c 115 from hec105 115 (by decide +kernel), show c105 116 = c 116 from hec105 116 (by decide +kernel), show c105 117 = c 117 from hec105 117 (by decide +kernel), show c105 118 = c 118 from hec105 118 (by decide +kernel), show c105 119 = c 119 from hec105 119 (by decide +kernel), show c105 120 = c 120 from hec105 120 (by decide +kernel), show c105 121 = c 121 from hec105 121 (by decide +kernel), show c105 127 = c 127 from hec105 127 (by decide +kernel), show c105 129 = c 129 from hec105 129 (by decide +kernel), show c105 130 = c 130 from hec105 130 (by decide +kernel), show c105 131 = c 131 from hec105 131 (by decide +kernel), show c105 132 = c 132 from hec105 132 (by decide +kernel), show c105 133 = c 133 from hec105 133 (by decide +kernel), show c105 134 = c 134 from hec105 134 (by decide +kernel), show i110 2 = jm 2 from hei110 2 (by decide +kernel), show i110 5 = jm 5 from hei110 5 (by decide +kernel), show i110 64 = jm 64 from hei110 64 (by decide +kernel), show i110 8 = jm 8 from hei110 8 (by decide +kernel), show c110 4 = em 4 from hec110 4 (by decide +kernel), show c110 3 = em 3 from hec110 3 (by decide +kernel), show c110 6 = em 6 from hec110 6 (by decide +kernel), show c110 9 = em 9 from hec110 9 (by decide +kernel), show c110 10 = em 10 from hec110 10 (by decide +kernel), show c110 11 = em 11 from hec110 11 (by decide +kernel), show c110 12 = em 12 from hec110 12 (by decide +kernel), show c110 13 = em 13 from hec110 13 (by decide +kernel)]; exact ⟨hR, hPA, hKO, hSO, hSN, hDR, hRD⟩)⟩ hP hD hS (lv_sub hl [0, 1, 2, 3] rfl)

set_option maxHeartbeats 4000000 in
set_option maxRecDepth 100000 in
theorem law_key {p : Program} {l : Launch} {e : Env} {s : State} {m : MethodId} {below : List Frame} {meth : Method} {cd : Code} {b L : Nat} {xs : Nat → Int32} {D : va_G} {a : Nat → Nat} {t : Nat → ClassId} {o : Nat} {am : Nat → Nat} {tm : Nat → ClassId} {x3 : Int32} {cells slots : Nat} {sk : Value} {Z : va_W} (hx : p.tables.exec = Jvm.exec) (hb : cd.code = cL_law) (hml : cd.maxLocals = 4) (hown : s.vm.findClass RL = some m.cls) (hts : ∀ w ∈ wm_law, w.before #[Value.ref b] s = true) (hX : va_X b L xs s s.heap) (hbl : b < s.heap.size) (hL : L ≤ 3584) (hN : xN s) (hZ : xZ (a 186) s s.heap) (hKT : va_K D vwCl (xtT t) s) (hKM : va_K D vwCl (mT tm) s) (hcs : cells ≤ 600000 ∧ slots ≤ 7302249) (hx3 : 0 ≤ x3.toInt ∧ x3.toInt + 7 ≤ (L : Int)) (kk : LK p l e s m below meth cd b D sk a t Z o am tm x3 cells slots) (i : Nat → Int32) (q : Int64) (c : Nat → Nat → Int32) (d : Nat → Nat → Int64) (jm : Nat → Int32) (qm : Int64) (em : Nat → Nat → Int32) (dm : Nat → Nat → Int64) (H : Heap) (locs : List Loc) (ls : Array Slot) (hLI : LI i c jm em) (hP : va_P D vwCl (xwT sk a t i q c d ++ (Z ++ mW o am tm jm qm em dm)) H) (hD : va_D (fun q : Nat => s.heap.size ≤ q) (xwT sk a t i q c d ++ (Z ++ mW o am tm jm qm em dm))) (hS : va_S (fun q : Nat => s.heap.size ≤ q) s.heap H locs) (hl : lv_has ls 4 [(3, .int x3), (2, .ref o), (1, .ref (a 100)), (0, .ref b)]) : W p l e room_1 s m #[Value.ref b] below meth cd H locs cells slots (lw_Z below #[Value.ref b] s) (F0 m 661 ls []) := by
  have hbA : ¬ (fun q : Nat => s.heap.size ≤ q) b := Nat.not_le.mpr hbl
  have hA : ∀ q : Nat, s.heap.size ≤ q → (fun q : Nat => s.heap.size ≤ q) q := fun _ h => h
  obtain ⟨hI, hs_F, hs_P, htr, hM, hs_S, hs_J, hR⟩ := hLI
  have hI0 := hI
  have hM0 := hM
  obtain ⟨hR, hPA, hKO, hSO, hSN, hDR, hRD⟩ := hR
  have hRR := RR_of hI0 hs_F
  refine lv_aload_n hx hb dL_law_661 rfl (lv_at hl 2 rfl) ?_
  refine lv_aload_n hx hb dL_law_662 rfl (lv_at hl 3 rfl) ?_
  refine lv_iload_n hx hb dL_law_663 rfl (lv_at hl 0 rfl) ?_
  refine lv_iconst (v := 1) hx hb dL_law_664 (by decide +kernel) ?_
  refine lv_iadd hx hb dL_law_665 ?_
  refine lv_topi (fun x101 ex101 => ?_)
  have tx101 := ti_add (a := x3.toInt) (b := 1) ex101 rfl (by decide +kernel) (by omega) (by omega)
  refine va_sld hx hb hX hbl hbA hS (vp_in_iff.mpr (by have h9 : x101.toInt = (x3.toInt + 1) := tx101; omega)) dL_law_666 ?_
  refine lv_topi (fun x102 ex102 => ?_)
  refine lc_i (wr := (Z ++ mW o am tm jm qm em dm)) (va_runV (As := [.int x102]) (rest := []) ⟨hx, hb, hml, hown, hts⟩ (x_X11_key l D H.size sk a t i q c d x102 hI ) (cwV 1 hts gm_law_X11_key_78 rfl rfl rfl (by decide +kernel) ⟨Nat.le_of_ble_eq_true rfl, Nat.le_of_ble_eq_true rfl⟩) (yB_V hN (xZ_k hZ hS hA) (xZ_n hZ (vD_l hD)) hKT (vP_l hP) (vD_l hD) (ci := 11) (q0 := 0) rfl rfl) rfl rfl hl.1 rfl (lv_room (Nat.le_of_ble_eq_true rfl)) dL_law_667 hcs) hS hA hP hD (fun r103 u103 H locs hw103 _ hP hD hS => ?_)
  obtain ⟨i103, q103, c103, d103⟩ := u103
  have hw103 : True ∧ xInv i103 c103 ∧ (∀ k, k ∉ ([102] : List Nat) → i103 k = i k) ∧ (∀ k, k ∉ ([101] : List Nat) → c103 k = c k) := hw103
  obtain ⟨hw103, hI, hei103, hec103⟩ := hw103
  have hP : va_P D vwCl (xwT sk a t i103 q103 c103 d103 ++ (Z ++ mW o am tm jm qm em dm)) H := hP
  have hD : va_D (fun q : Nat => s.heap.size ≤ q) (xwT sk a t i103 q103 c103 d103 ++ (Z ++ mW o am tm jm qm em dm)) := hD
  refine lv_pop hx hb dL_law_670 rfl ?_
  refine lv_aload_n hx hb dL_law_671 rfl (lv_at hl 1 rfl) ?_
  refine lv_aload_n hx hb dL_law_672 rfl (lv_at hl 3 rfl) ?_
  refine lv_iload_n hx hb dL_law_673 rfl (lv_at hl 0 rfl) ?_
  refine lv_iconst (v := 1) hx hb dL_law_674 (by decide +kernel) ?_
  refine lv_iadd hx hb dL_law_675 ?_
  refine lv_topi (fun x104 ex104 => ?_)
  have tx104 := ti_add (a := x3.toInt) (b := 1) ex104 rfl (by decide +kernel) (by omega) (by omega)
  refine va_sld hx hb hX hbl hbA hS (vp_in_iff.mpr (by have h9 : x104.toInt = (x3.toInt + 1) := tx104; omega)) dL_law_676 ?_
  refine lv_topi (fun x105 ex105 => ?_)
  have hP : va_P D vwCl ((xwT sk a t i103 q103 c103 d103 ++ Z) ++ mW o am tm jm qm em dm) H := by rw [List.append_assoc]; exact hP
  have hD : va_D (fun q : Nat => s.heap.size ≤ q) ((xwT sk a t i103 q103 c103 d103 ++ Z) ++ mW o am tm jm qm em dm) := by rw [List.append_assoc]; exact hD
  refine rc_i (wr := (xwT sk a t i103 q103 c103 d103 ++ Z)) (va_runV (As := [.int x105]) (rest := []) ⟨hx, hb, hml, hown, hts⟩ (s_X12_key l D H.size o am tm jm qm em dm x105 hM ) (cwV 1 hts gm_law_X12_key_81 rfl rfl rfl (by decide +kernel) ⟨Nat.le_of_ble_eq_true rfl, Nat.le_of_ble_eq_true rfl⟩) (pB_V hKM (vP_r hP) (vD_r hD) (ci := 12) (q0 := 0) rfl rfl) rfl rfl hl.1 rfl (lv_room (Nat.le_of_ble_eq_true rfl)) dL_law_677 hcs) hS hA hP hD (fun r106 u106 H locs hw106 hP hD hS => ?_)
  obtain ⟨i106, q106, c106, d106⟩ := u106
  have hw106 : True ∧ mInv i106 c106 ∧ (∀ k, k ∉ ([0] : List Nat) → i106 k = jm k) ∧ (∀ k, k ∉ ([1] : List Nat) → c106 k = em k) := hw106
  obtain ⟨hw106, hM, hei106, hec106⟩ := hw106
  have hP : va_P D vwCl (xwT sk a t i103 q103 c103 d103 ++ (Z ++ mW o am tm i106 q106 c106 d106)) H := by rw [← List.append_assoc]; exact hP
  have hD : va_D (fun q : Nat => s.heap.size ≤ q) (xwT sk a t i103 q103 c103 d103 ++ (Z ++ mW o am tm i106 q106 c106 d106)) := by rw [← List.append_assoc]; exact hD
  refine lv_pop hx hb dL_law_680 rfl ?_
  refine lv_goto (tgt := 1461) hx hb dL_law_681 (by decide +kernel) ?_
  exact kk i103 q103 c103 d103 i106 q106 c106 d106 _ _ _ ⟨hI, (by rw [show c103 113 = c 113 from hec103 113 (by decide +kernel), show c103 115 = c 115 from hec103 115 (by decide +kernel)]; exact hs_F), (by rw [show i103 146 = i 146 from hei103 146 (by decide +kernel), show i103 147 = i 147 from hei103 147 (by decide +kernel), show i103 148 = i 148 from hei103 148 (by decide +kernel), show i103 156 = i 156 from hei103 156 (by decide +kernel), show c103 144 = c 144 from hec103 144 (by decide +kernel), show c103 145 = c 145 from hec103 145 (by decide +kernel), show c103 150 = c 150 from hec103 150 (by decide +kernel)]; exact hs_P), (by rw [show i103 141 = i 141 from hei103 141 (by decide +kernel)]; exact htr), hM, (by rw [show c106 3 = em 3 from hec106 3 (by decide +kernel), show c106 6 = em 6 from hec106 6 (by decide +kernel), show c106 9 = em 9 from hec106 9 (by decide +kernel), show c106 10 = em 10 from hec106 10 (by decide +kernel), show c106 11 = em 11 from hec106 11 (by decide +kernel), show c106 13 = em 13 from hec106 13 (by decide +kernel), show i106 2 = jm 2 from hei106 2 (by decide +kernel), show i106 5 = jm 5 from hei106 5 (by decide +kernel), show i106 8 = jm 8 from hei106 8 (by decide +kernel)]; exact hs_S), (by rw [show c106 3 = em 3 from hec106 3 (by decide +kernel), show c106 6 = em 6 from hec106 6 (by decide +kernel), show c106 23 = em 23 from hec106 23 (by decide +kernel), show c106 24 = em 24 from hec106 24 (by decide +kernel), show c106 29 = em 29 from hec106 29 (by decide +kernel), show c106 30 = em 30 from hec106 30 (by decide +kernel), show i106 5 = jm 5 from hei106 5 (by decide +kernel), show i106 22 = jm 22 from hei106 22 (by decide +kernel), show i106 27 = jm 27 from hei106 27 (by decide +kernel)]; exact hs_J), (by rw [show i103 110 = i 110 from hei103 110 (by decide +kernel), show i103 111 = i 111 from hei103 111 (by decide +kernel), show i103 165 = i 165 from hei103 165 (by decide +kernel), show i103 124 = i 124 from hei103 124 (by decide +kernel), show c103 107 = c 107 from hec103 107 (by decide +kernel), show c103 105 = c 105 from hec103 105 (by decide +kernel), show c103 108 = c 108 from hec103 108 (by decide +kernel), show c103 106 = c 106 from hec103 106 (by decide +kernel), show c103 113 = c 113 from hec103 113 (by decide +kernel), show c103 114 = c 114 from hec103 114 (by decide +kernel), show c103 115 = c 115 from hec103 115 (by decide +kernel), show c103 116 = c 116 from hec103 116 (by decide +kernel), show c103 117 = c 117 from hec103 117 (by decide +kernel), show c103 118 = c 118 from hec103 118 (by decide +kernel), show c103 119 = c 119 from hec103 119 (by decide +kernel), show c103 120 = c 120 from hec103 120 (by decide +kernel), show c103 121 = c 121 from hec103 121 (by decide +kernel), show c103 127 = c 127 from hec103 127 (by decide +kernel), show c103 129 = c 129 from hec103 129 (by decide +kernel), show c103 130 = c 130 from hec103 130 (by decide +kernel), show c103 131 = c 131 from hec103 131 (by decide +kernel), show c103 132 = c 132 from hec103 132 (by decide +kernel), show c103 133 = c 133 from hec103 133 (by decide +kernel), show c103 134 = c 134 from hec103 134 (by decide +kernel), show i106 2 = jm 2 from hei106 2 (by decide +kernel), show i106 5 = jm 5 from hei106 5 (by decide +kernel), show i106 64 = jm 64 from hei106 64 (by decide +kernel), show i106 8 = jm 8 from hei106 8 (by decide +kernel), show c106 4 = em 4 from hec106 4 (by decide +kernel), show c106 3 = em 3 from hec106 3 (by decide +kernel), show c106 6 = em 6 from hec106 6 (by decide +kernel), show c106 9 = em 9 from hec106 9 (by decide +kernel), show c106 10 = em 10 from hec106 10 (by decide +kernel), show c106 11 = em 11 from hec106 11 (by decide +kernel), show c106 12 = em 12 from hec106 12 (by decide +kernel), show c106 13 = em 13 from hec106 13 (by decide +kernel)]; exact ⟨hR, hPA, hKO, hSO, hSN, hDR, hRD⟩)⟩ hP hD hS (lv_sub hl [0, 1, 2, 3] rfl)

set_option maxHeartbeats 4000000 in
set_option maxRecDepth 100000 in
theorem law_way {p : Program} {l : Launch} {e : Env} {s : State} {m : MethodId} {below : List Frame} {meth : Method} {cd : Code} {b L : Nat} {xs : Nat → Int32} {D : va_G} {a : Nat → Nat} {t : Nat → ClassId} {o : Nat} {am : Nat → Nat} {tm : Nat → ClassId} {x3 : Int32} {cells slots : Nat} {sk : Value} {Z : va_W} (hx : p.tables.exec = Jvm.exec) (hb : cd.code = cL_law) (hml : cd.maxLocals = 4) (hown : s.vm.findClass RL = some m.cls) (hts : ∀ w ∈ wm_law, w.before #[Value.ref b] s = true) (hX : va_X b L xs s s.heap) (hbl : b < s.heap.size) (hL : L ≤ 3584) (hN : xN s) (hZ : xZ (a 186) s s.heap) (hKT : va_K D vwCl (xtT t) s) (hKM : va_K D vwCl (mT tm) s) (hcs : cells ≤ 600000 ∧ slots ≤ 7302249) (hx3 : 0 ≤ x3.toInt ∧ x3.toInt + 7 ≤ (L : Int)) (kk : LK p l e s m below meth cd b D sk a t Z o am tm x3 cells slots) (i : Nat → Int32) (q : Int64) (c : Nat → Nat → Int32) (d : Nat → Nat → Int64) (jm : Nat → Int32) (qm : Int64) (em : Nat → Nat → Int32) (dm : Nat → Nat → Int64) (H : Heap) (locs : List Loc) (ls : Array Slot) (hLI : LI i c jm em) (hP : va_P D vwCl (xwT sk a t i q c d ++ (Z ++ mW o am tm jm qm em dm)) H) (hD : va_D (fun q : Nat => s.heap.size ≤ q) (xwT sk a t i q c d ++ (Z ++ mW o am tm jm qm em dm))) (hS : va_S (fun q : Nat => s.heap.size ≤ q) s.heap H locs) (hl : lv_has ls 4 [(3, .int x3), (2, .ref o), (1, .ref (a 100)), (0, .ref b)]) : W p l e room_1 s m #[Value.ref b] below meth cd H locs cells slots (lw_Z below #[Value.ref b] s) (F0 m 684 ls []) := by
  have hbA : ¬ (fun q : Nat => s.heap.size ≤ q) b := Nat.not_le.mpr hbl
  have hA : ∀ q : Nat, s.heap.size ≤ q → (fun q : Nat => s.heap.size ≤ q) q := fun _ h => h
  obtain ⟨hI, hs_F, hs_P, htr, hM, hs_S, hs_J, hR⟩ := hLI
  have hI0 := hI
  have hM0 := hM
  obtain ⟨hR, hPA, hKO, hSO, hSN, hDR, hRD⟩ := hR
  have hRR := RR_of hI0 hs_F
  refine lv_aload_n hx hb dL_law_684 rfl (lv_at hl 2 rfl) ?_
  refine lv_aload_n hx hb dL_law_685 rfl (lv_at hl 3 rfl) ?_
  refine lv_iload_n hx hb dL_law_686 rfl (lv_at hl 0 rfl) ?_
  refine lv_iconst (v := 1) hx hb dL_law_687 (by decide +kernel) ?_
  refine lv_iadd hx hb dL_law_688 ?_
  refine lv_topi (fun x101 ex101 => ?_)
  have tx101 := ti_add (a := x3.toInt) (b := 1) ex101 rfl (by decide +kernel) (by omega) (by omega)
  refine va_sld hx hb hX hbl hbA hS (vp_in_iff.mpr (by have h9 : x101.toInt = (x3.toInt + 1) := tx101; omega)) dL_law_689 ?_
  refine lv_topi (fun x102 ex102 => ?_)
  refine lv_aload_n hx hb dL_law_690 rfl (lv_at hl 3 rfl) ?_
  refine lv_iload_n hx hb dL_law_691 rfl (lv_at hl 0 rfl) ?_
  refine lv_iconst (v := 2) hx hb dL_law_692 (by decide +kernel) ?_
  refine lv_iadd hx hb dL_law_693 ?_
  refine lv_topi (fun x103 ex103 => ?_)
  have tx103 := ti_add (a := x3.toInt) (b := 2) ex103 rfl (by decide +kernel) (by omega) (by omega)
  refine va_sld hx hb hX hbl hbA hS (vp_in_iff.mpr (by have h9 : x103.toInt = (x3.toInt + 2) := tx103; omega)) dL_law_694 ?_
  refine lv_topi (fun x104 ex104 => ?_)
  refine lv_aload_n hx hb dL_law_695 rfl (lv_at hl 3 rfl) ?_
  refine lv_iload_n hx hb dL_law_696 rfl (lv_at hl 0 rfl) ?_
  refine lv_iconst (v := 3) hx hb dL_law_697 (by decide +kernel) ?_
  refine lv_iadd hx hb dL_law_698 ?_
  refine lv_topi (fun x105 ex105 => ?_)
  have tx105 := ti_add (a := x3.toInt) (b := 3) ex105 rfl (by decide +kernel) (by omega) (by omega)
  refine va_sld hx hb hX hbl hbA hS (vp_in_iff.mpr (by have h9 : x105.toInt = (x3.toInt + 3) := tx105; omega)) dL_law_699 ?_
  refine lv_topi (fun x106 ex106 => ?_)
  refine lv_if_eq (tgt := 707) hx hb dL_law_700 (by decide +kernel) (fun c107 => ?_) (fun c107 => ?_)
  · have f107 := (ti_eq (a := x106.toInt) (b := 0) rfl (by decide +kernel)).mp c107
    refine lv_iconst (v := 0) hx hb dL_law_707 (by decide +kernel) ?_
    refine lc_i (wr := (Z ++ mW o am tm jm qm em dm)) (va_runV (As := [.int x102, .int x104, .int 0]) (rest := []) ⟨hx, hb, hml, hown, hts⟩ (x_X11_way l D H.size sk a t i q c d x102 x104 (0 : Int32) hI ) (cwV 3 hts gm_law_X11_way_82 rfl rfl rfl (by decide +kernel) ⟨Nat.le_of_ble_eq_true rfl, Nat.le_of_ble_eq_true rfl⟩) (yB_V hN (xZ_k hZ hS hA) (xZ_n hZ (vD_l hD)) hKT (vP_l hP) (vD_l hD) (ci := 11) (q0 := 0) rfl rfl) rfl rfl hl.1 rfl (lv_room (Nat.le_of_ble_eq_true rfl)) dL_law_708 hcs) hS hA hP hD (fun r108 u108 H locs hw108 _ hP hD hS => ?_)
    obtain ⟨i108, q108, c108, d108⟩ := u108
    have hw108 : True ∧ xInv i108 c108 ∧ (∀ k, k ∉ ([102] : List Nat) → i108 k = i k) ∧ (∀ k, k ∉ ([101, 135, 136, 137] : List Nat) → c108 k = c k) := hw108
    obtain ⟨hw108, hI, hei108, hec108⟩ := hw108
    have hP : va_P D vwCl (xwT sk a t i108 q108 c108 d108 ++ (Z ++ mW o am tm jm qm em dm)) H := hP
    have hD : va_D (fun q : Nat => s.heap.size ≤ q) (xwT sk a t i108 q108 c108 d108 ++ (Z ++ mW o am tm jm qm em dm)) := hD
    refine lv_pop hx hb dL_law_711 rfl ?_
    refine lv_aload_n hx hb dL_law_712 rfl (lv_at hl 1 rfl) ?_
    refine lv_aload_n hx hb dL_law_713 rfl (lv_at hl 3 rfl) ?_
    refine lv_iload_n hx hb dL_law_714 rfl (lv_at hl 0 rfl) ?_
    refine lv_iconst (v := 1) hx hb dL_law_715 (by decide +kernel) ?_
    refine lv_iadd hx hb dL_law_716 ?_
    refine lv_topi (fun x109 ex109 => ?_)
    have tx109 := ti_add (a := x3.toInt) (b := 1) ex109 rfl (by decide +kernel) (by omega) (by omega)
    refine va_sld hx hb hX hbl hbA hS (vp_in_iff.mpr (by have h9 : x109.toInt = (x3.toInt + 1) := tx109; omega)) dL_law_717 ?_
    refine lv_topi (fun x110 ex110 => ?_)
    refine lv_aload_n hx hb dL_law_718 rfl (lv_at hl 3 rfl) ?_
    refine lv_iload_n hx hb dL_law_719 rfl (lv_at hl 0 rfl) ?_
    refine lv_iconst (v := 2) hx hb dL_law_720 (by decide +kernel) ?_
    refine lv_iadd hx hb dL_law_721 ?_
    refine lv_topi (fun x111 ex111 => ?_)
    have tx111 := ti_add (a := x3.toInt) (b := 2) ex111 rfl (by decide +kernel) (by omega) (by omega)
    refine va_sld hx hb hX hbl hbA hS (vp_in_iff.mpr (by have h9 : x111.toInt = (x3.toInt + 2) := tx111; omega)) dL_law_722 ?_
    refine lv_topi (fun x112 ex112 => ?_)
    refine lv_aload_n hx hb dL_law_723 rfl (lv_at hl 3 rfl) ?_
    refine lv_iload_n hx hb dL_law_724 rfl (lv_at hl 0 rfl) ?_
    refine lv_iconst (v := 3) hx hb dL_law_725 (by decide +kernel) ?_
    refine lv_iadd hx hb dL_law_726 ?_
    refine lv_topi (fun x113 ex113 => ?_)
    have tx113 := ti_add (a := x3.toInt) (b := 3) ex113 rfl (by decide +kernel) (by omega) (by omega)
    refine va_sld hx hb hX hbl hbA hS (vp_in_iff.mpr (by have h9 : x113.toInt = (x3.toInt + 3) := tx113; omega)) dL_law_727 ?_
    refine lv_topi (fun x114 ex114 => ?_)
    refine lv_if_eq (tgt := 735) hx hb dL_law_728 (by decide +kernel) (fun c115 => ?_) (fun c115 => ?_)
    · have f115 := (ti_eq (a := x114.toInt) (b := 0) rfl (by decide +kernel)).mp c115
      refine lv_iconst (v := 0) hx hb dL_law_735 (by decide +kernel) ?_
      have hP : va_P D vwCl ((xwT sk a t i108 q108 c108 d108 ++ Z) ++ mW o am tm jm qm em dm) H := by rw [List.append_assoc]; exact hP
      have hD : va_D (fun q : Nat => s.heap.size ≤ q) ((xwT sk a t i108 q108 c108 d108 ++ Z) ++ mW o am tm jm qm em dm) := by rw [List.append_assoc]; exact hD
      refine rc_i (wr := (xwT sk a t i108 q108 c108 d108 ++ Z)) (va_runV (As := [.int x110, .int x112, .int 0]) (rest := []) ⟨hx, hb, hml, hown, hts⟩ (s_X12_way l D H.size o am tm jm qm em dm x110 x112 (0 : Int32) hM ) (cwV 3 hts gm_law_X12_way_86 rfl rfl rfl (by decide +kernel) ⟨Nat.le_of_ble_eq_true rfl, Nat.le_of_ble_eq_true rfl⟩) (pB_V hKM (vP_r hP) (vD_r hD) (ci := 12) (q0 := 0) rfl rfl) rfl rfl hl.1 rfl (lv_room (Nat.le_of_ble_eq_true rfl)) dL_law_736 hcs) hS hA hP hD (fun r116 u116 H locs hw116 hP hD hS => ?_)
      obtain ⟨i116, q116, c116, d116⟩ := u116
      have hw116 : True ∧ mInv i116 c116 ∧ (∀ k, k ∉ ([0, 16, 17, 18, 19] : List Nat) → i116 k = jm k) ∧ (∀ k, k ∉ ([1, 20, 21] : List Nat) → c116 k = em k) := hw116
      obtain ⟨hw116, hM, hei116, hec116⟩ := hw116
      have hP : va_P D vwCl (xwT sk a t i108 q108 c108 d108 ++ (Z ++ mW o am tm i116 q116 c116 d116)) H := by rw [← List.append_assoc]; exact hP
      have hD : va_D (fun q : Nat => s.heap.size ≤ q) (xwT sk a t i108 q108 c108 d108 ++ (Z ++ mW o am tm i116 q116 c116 d116)) := by rw [← List.append_assoc]; exact hD
      refine lv_pop hx hb dL_law_739 rfl ?_
      refine lv_goto (tgt := 1461) hx hb dL_law_740 (by decide +kernel) ?_
      exact kk i108 q108 c108 d108 i116 q116 c116 d116 _ _ _ ⟨hI, (by rw [show c108 113 = c 113 from hec108 113 (by decide +kernel), show c108 115 = c 115 from hec108 115 (by decide +kernel)]; exact hs_F), (by rw [show i108 146 = i 146 from hei108 146 (by decide +kernel), show i108 147 = i 147 from hei108 147 (by decide +kernel), show i108 148 = i 148 from hei108 148 (by decide +kernel), show i108 156 = i 156 from hei108 156 (by decide +kernel), show c108 144 = c 144 from hec108 144 (by decide +kernel), show c108 145 = c 145 from hec108 145 (by decide +kernel), show c108 150 = c 150 from hec108 150 (by decide +kernel)]; exact hs_P), (by rw [show i108 141 = i 141 from hei108 141 (by decide +kernel)]; exact htr), hM, (by rw [show c116 3 = em 3 from hec116 3 (by decide +kernel), show c116 6 = em 6 from hec116 6 (by decide +kernel), show c116 9 = em 9 from hec116 9 (by decide +kernel), show c116 10 = em 10 from hec116 10 (by decide +kernel), show c116 11 = em 11 from hec116 11 (by decide +kernel), show c116 13 = em 13 from hec116 13 (by decide +kernel), show i116 2 = jm 2 from hei116 2 (by decide +kernel), show i116 5 = jm 5 from hei116 5 (by decide +kernel), show i116 8 = jm 8 from hei116 8 (by decide +kernel)]; exact hs_S), (by rw [show c116 3 = em 3 from hec116 3 (by decide +kernel), show c116 6 = em 6 from hec116 6 (by decide +kernel), show c116 23 = em 23 from hec116 23 (by decide +kernel), show c116 24 = em 24 from hec116 24 (by decide +kernel), show c116 29 = em 29 from hec116 29 (by decide +kernel), show c116 30 = em 30 from hec116 30 (by decide +kernel), show i116 5 = jm 5 from hei116 5 (by decide +kernel), show i116 22 = jm 22 from hei116 22 (by decide +kernel), show i116 27 = jm 27 from hei116 27 (by decide +kernel)]; exact hs_J), (by rw [show i108 110 = i 110 from hei108 110 (by decide +kernel), show i108 111 = i 111 from hei108 111 (by decide +kernel), show i108 165 = i 165 from hei108 165 (by decide +kernel), show i108 124 = i 124 from hei108 124 (by decide +kernel), show c108 107 = c 107 from hec108 107 (by decide +kernel), show c108 105 = c 105 from hec108 105 (by decide +kernel), show c108 108 = c 108 from hec108 108 (by decide +kernel), show c108 106 = c 106 from hec108 106 (by decide +kernel), show c108 113 = c 113 from hec108 113 (by decide +kernel), show c108 114 = c 114 from hec108 114 (by decide +kernel), show c108 115 = c 115 from hec108 115 (by decide +kernel), show c108 116 = c 116 from hec108 116 (by decide +kernel), show c108 117 = c 117 from hec108 117 (by decide +kernel), show c108 118 = c 118 from hec108 118 (by decide +kernel), show c108 119 = c 119 from hec108 119 (by decide +kernel), show c108 120 = c 120 from hec108 120 (by decide +kernel), show c108 121 = c 121 from hec108 121 (by decide +kernel), show c108 127 = c 127 from hec108 127 (by decide +kernel), show c108 129 = c 129 from hec108 129 (by decide +kernel), show c108 130 = c 130 from hec108 130 (by decide +kernel), show c108 131 = c 131 from hec108 131 (by decide +kernel), show c108 132 = c 132 from hec108 132 (by decide +kernel), show c108 133 = c 133 from hec108 133 (by decide +kernel), show c108 134 = c 134 from hec108 134 (by decide +kernel), show i116 2 = jm 2 from hei116 2 (by decide +kernel), show i116 5 = jm 5 from hei116 5 (by decide +kernel), show i116 64 = jm 64 from hei116 64 (by decide +kernel), show i116 8 = jm 8 from hei116 8 (by decide +kernel), show c116 4 = em 4 from hec116 4 (by decide +kernel), show c116 3 = em 3 from hec116 3 (by decide +kernel), show c116 6 = em 6 from hec116 6 (by decide +kernel), show c116 9 = em 9 from hec116 9 (by decide +kernel), show c116 10 = em 10 from hec116 10 (by decide +kernel), show c116 11 = em 11 from hec116 11 (by decide +kernel), show c116 12 = em 12 from hec116 12 (by decide +kernel), show c116 13 = em 13 from hec116 13 (by decide +kernel)]; exact ⟨hR, hPA, hKO, hSO, hSN, hDR, hRD⟩)⟩ hP hD hS (lv_sub hl [0, 1, 2, 3] rfl)
    · have f115 := mt (ti_eq (a := x114.toInt) (b := 0) rfl (by decide +kernel)).mpr c115
      refine lv_iconst (v := 1) hx hb dL_law_731 (by decide +kernel) ?_
      refine lv_goto (tgt := 736) hx hb dL_law_732 (by decide +kernel) ?_
      have hP : va_P D vwCl ((xwT sk a t i108 q108 c108 d108 ++ Z) ++ mW o am tm jm qm em dm) H := by rw [List.append_assoc]; exact hP
      have hD : va_D (fun q : Nat => s.heap.size ≤ q) ((xwT sk a t i108 q108 c108 d108 ++ Z) ++ mW o am tm jm qm em dm) := by rw [List.append_assoc]; exact hD
      refine rc_i (wr := (xwT sk a t i108 q108 c108 d108 ++ Z)) (va_runV (As := [.int x110, .int x112, .int 1]) (rest := []) ⟨hx, hb, hml, hown, hts⟩ (s_X12_way l D H.size o am tm jm qm em dm x110 x112 (1 : Int32) hM ) (cwV 3 hts gm_law_X12_way_86 rfl rfl rfl (by decide +kernel) ⟨Nat.le_of_ble_eq_true rfl, Nat.le_of_ble_eq_true rfl⟩) (pB_V hKM (vP_r hP) (vD_r hD) (ci := 12) (q0 := 0) rfl rfl) rfl rfl hl.1 rfl (lv_room (Nat.le_of_ble_eq_true rfl)) dL_law_736 hcs) hS hA hP hD (fun r117 u117 H locs hw117 hP hD hS => ?_)
      obtain ⟨i117, q117, c117, d117⟩ := u117
      have hw117 : True ∧ mInv i117 c117 ∧ (∀ k, k ∉ ([0, 16, 17, 18, 19] : List Nat) → i117 k = jm k) ∧ (∀ k, k ∉ ([1, 20, 21] : List Nat) → c117 k = em k) := hw117
      obtain ⟨hw117, hM, hei117, hec117⟩ := hw117
      have hP : va_P D vwCl (xwT sk a t i108 q108 c108 d108 ++ (Z ++ mW o am tm i117 q117 c117 d117)) H := by rw [← List.append_assoc]; exact hP
      have hD : va_D (fun q : Nat => s.heap.size ≤ q) (xwT sk a t i108 q108 c108 d108 ++ (Z ++ mW o am tm i117 q117 c117 d117)) := by rw [← List.append_assoc]; exact hD
      refine lv_pop hx hb dL_law_739 rfl ?_
      refine lv_goto (tgt := 1461) hx hb dL_law_740 (by decide +kernel) ?_
      exact kk i108 q108 c108 d108 i117 q117 c117 d117 _ _ _ ⟨hI, (by rw [show c108 113 = c 113 from hec108 113 (by decide +kernel), show c108 115 = c 115 from hec108 115 (by decide +kernel)]; exact hs_F), (by rw [show i108 146 = i 146 from hei108 146 (by decide +kernel), show i108 147 = i 147 from hei108 147 (by decide +kernel), show i108 148 = i 148 from hei108 148 (by decide +kernel), show i108 156 = i 156 from hei108 156 (by decide +kernel), show c108 144 = c 144 from hec108 144 (by decide +kernel), show c108 145 = c 145 from hec108 145 (by decide +kernel), show c108 150 = c 150 from hec108 150 (by decide +kernel)]; exact hs_P), (by rw [show i108 141 = i 141 from hei108 141 (by decide +kernel)]; exact htr), hM, (by rw [show c117 3 = em 3 from hec117 3 (by decide +kernel), show c117 6 = em 6 from hec117 6 (by decide +kernel), show c117 9 = em 9 from hec117 9 (by decide +kernel), show c117 10 = em 10 from hec117 10 (by decide +kernel), show c117 11 = em 11 from hec117 11 (by decide +kernel), show c117 13 = em 13 from hec117 13 (by decide +kernel), show i117 2 = jm 2 from hei117 2 (by decide +kernel), show i117 5 = jm 5 from hei117 5 (by decide +kernel), show i117 8 = jm 8 from hei117 8 (by decide +kernel)]; exact hs_S), (by rw [show c117 3 = em 3 from hec117 3 (by decide +kernel), show c117 6 = em 6 from hec117 6 (by decide +kernel), show c117 23 = em 23 from hec117 23 (by decide +kernel), show c117 24 = em 24 from hec117 24 (by decide +kernel), show c117 29 = em 29 from hec117 29 (by decide +kernel), show c117 30 = em 30 from hec117 30 (by decide +kernel), show i117 5 = jm 5 from hei117 5 (by decide +kernel), show i117 22 = jm 22 from hei117 22 (by decide +kernel), show i117 27 = jm 27 from hei117 27 (by decide +kernel)]; exact hs_J), (by rw [show i108 110 = i 110 from hei108 110 (by decide +kernel), show i108 111 = i 111 from hei108 111 (by decide +kernel), show i108 165 = i 165 from hei108 165 (by decide +kernel), show i108 124 = i 124 from hei108 124 (by decide +kernel), show c108 107 = c 107 from hec108 107 (by decide +kernel), show c108 105 = c 105 from hec108 105 (by decide +kernel), show c108 108 = c 108 from hec108 108 (by decide +kernel), show c108 106 = c 106 from hec108 106 (by decide +kernel), show c108 113 = c 113 from hec108 113 (by decide +kernel), show c108 114 = c 114 from hec108 114 (by decide +kernel), show c108 115 = c 115 from hec108 115 (by decide +kernel), show c108 116 = c 116 from hec108 116 (by decide +kernel), show c108 117 = c 117 from hec108 117 (by decide +kernel), show c108 118 = c 118 from hec108 118 (by decide +kernel), show c108 119 = c 119 from hec108 119 (by decide +kernel), show c108 120 = c 120 from hec108 120 (by decide +kernel), show c108 121 = c 121 from hec108 121 (by decide +kernel), show c108 127 = c 127 from hec108 127 (by decide +kernel), show c108 129 = c 129 from hec108 129 (by decide +kernel), show c108 130 = c 130 from hec108 130 (by decide +kernel), show c108 131 = c 131 from hec108 131 (by decide +kernel), show c108 132 = c 132 from hec108 132 (by decide +kernel), show c108 133 = c 133 from hec108 133 (by decide +kernel), show c108 134 = c 134 from hec108 134 (by decide +kernel), show i117 2 = jm 2 from hei117 2 (by decide +kernel), show i117 5 = jm 5 from hei117 5 (by decide +kernel), show i117 64 = jm 64 from hei117 64 (by decide +kernel), show i117 8 = jm 8 from hei117 8 (by decide +kernel), show c117 4 = em 4 from hec117 4 (by decide +kernel), show c117 3 = em 3 from hec117 3 (by decide +kernel), show c117 6 = em 6 from hec117 6 (by decide +kernel), show c117 9 = em 9 from hec117 9 (by decide +kernel), show c117 10 = em 10 from hec117 10 (by decide +kernel), show c117 11 = em 11 from hec117 11 (by decide +kernel), show c117 12 = em 12 from hec117 12 (by decide +kernel), show c117 13 = em 13 from hec117 13 (by decide +kernel)]; exact ⟨hR, hPA, hKO, hSO, hSN, hDR, hRD⟩)⟩ hP hD hS (lv_sub hl [0, 1, 2, 3] rfl)
  · have f107 := mt (ti_eq (a := x106.toInt) (b := 0) rfl (by decide +kernel)).mpr c107
    refine lv_iconst (v := 1) hx hb dL_law_703 (by decide +kernel) ?_
    refine lv_goto (tgt := 708) hx hb dL_law_704 (by decide +kernel) ?_
    refine lc_i (wr := (Z ++ mW o am tm jm qm em dm)) (va_runV (As := [.int x102, .int x104, .int 1]) (rest := []) ⟨hx, hb, hml, hown, hts⟩ (x_X11_way l D H.size sk a t i q c d x102 x104 (1 : Int32) hI ) (cwV 3 hts gm_law_X11_way_82 rfl rfl rfl (by decide +kernel) ⟨Nat.le_of_ble_eq_true rfl, Nat.le_of_ble_eq_true rfl⟩) (yB_V hN (xZ_k hZ hS hA) (xZ_n hZ (vD_l hD)) hKT (vP_l hP) (vD_l hD) (ci := 11) (q0 := 0) rfl rfl) rfl rfl hl.1 rfl (lv_room (Nat.le_of_ble_eq_true rfl)) dL_law_708 hcs) hS hA hP hD (fun r118 u118 H locs hw118 _ hP hD hS => ?_)
    obtain ⟨i118, q118, c118, d118⟩ := u118
    have hw118 : True ∧ xInv i118 c118 ∧ (∀ k, k ∉ ([102] : List Nat) → i118 k = i k) ∧ (∀ k, k ∉ ([101, 135, 136, 137] : List Nat) → c118 k = c k) := hw118
    obtain ⟨hw118, hI, hei118, hec118⟩ := hw118
    have hP : va_P D vwCl (xwT sk a t i118 q118 c118 d118 ++ (Z ++ mW o am tm jm qm em dm)) H := hP
    have hD : va_D (fun q : Nat => s.heap.size ≤ q) (xwT sk a t i118 q118 c118 d118 ++ (Z ++ mW o am tm jm qm em dm)) := hD
    refine lv_pop hx hb dL_law_711 rfl ?_
    refine lv_aload_n hx hb dL_law_712 rfl (lv_at hl 1 rfl) ?_
    refine lv_aload_n hx hb dL_law_713 rfl (lv_at hl 3 rfl) ?_
    refine lv_iload_n hx hb dL_law_714 rfl (lv_at hl 0 rfl) ?_
    refine lv_iconst (v := 1) hx hb dL_law_715 (by decide +kernel) ?_
    refine lv_iadd hx hb dL_law_716 ?_
    refine lv_topi (fun x119 ex119 => ?_)
    have tx119 := ti_add (a := x3.toInt) (b := 1) ex119 rfl (by decide +kernel) (by omega) (by omega)
    refine va_sld hx hb hX hbl hbA hS (vp_in_iff.mpr (by have h9 : x119.toInt = (x3.toInt + 1) := tx119; omega)) dL_law_717 ?_
    refine lv_topi (fun x120 ex120 => ?_)
    refine lv_aload_n hx hb dL_law_718 rfl (lv_at hl 3 rfl) ?_
    refine lv_iload_n hx hb dL_law_719 rfl (lv_at hl 0 rfl) ?_
    refine lv_iconst (v := 2) hx hb dL_law_720 (by decide +kernel) ?_
    refine lv_iadd hx hb dL_law_721 ?_
    refine lv_topi (fun x121 ex121 => ?_)
    have tx121 := ti_add (a := x3.toInt) (b := 2) ex121 rfl (by decide +kernel) (by omega) (by omega)
    refine va_sld hx hb hX hbl hbA hS (vp_in_iff.mpr (by have h9 : x121.toInt = (x3.toInt + 2) := tx121; omega)) dL_law_722 ?_
    refine lv_topi (fun x122 ex122 => ?_)
    refine lv_aload_n hx hb dL_law_723 rfl (lv_at hl 3 rfl) ?_
    refine lv_iload_n hx hb dL_law_724 rfl (lv_at hl 0 rfl) ?_
    refine lv_iconst (v := 3) hx hb dL_law_725 (by decide +kernel) ?_
    refine lv_iadd hx hb dL_law_726 ?_
    refine lv_topi (fun x123 ex123 => ?_)
    have tx123 := ti_add (a := x3.toInt) (b := 3) ex123 rfl (by decide +kernel) (by omega) (by omega)
    refine va_sld hx hb hX hbl hbA hS (vp_in_iff.mpr (by have h9 : x123.toInt = (x3.toInt + 3) := tx123; omega)) dL_law_727 ?_
    refine lv_topi (fun x124 ex124 => ?_)
    refine lv_if_eq (tgt := 735) hx hb dL_law_728 (by decide +kernel) (fun c125 => ?_) (fun c125 => ?_)
    · have f125 := (ti_eq (a := x124.toInt) (b := 0) rfl (by decide +kernel)).mp c125
      refine lv_iconst (v := 0) hx hb dL_law_735 (by decide +kernel) ?_
      have hP : va_P D vwCl ((xwT sk a t i118 q118 c118 d118 ++ Z) ++ mW o am tm jm qm em dm) H := by rw [List.append_assoc]; exact hP
      have hD : va_D (fun q : Nat => s.heap.size ≤ q) ((xwT sk a t i118 q118 c118 d118 ++ Z) ++ mW o am tm jm qm em dm) := by rw [List.append_assoc]; exact hD
      refine rc_i (wr := (xwT sk a t i118 q118 c118 d118 ++ Z)) (va_runV (As := [.int x120, .int x122, .int 0]) (rest := []) ⟨hx, hb, hml, hown, hts⟩ (s_X12_way l D H.size o am tm jm qm em dm x120 x122 (0 : Int32) hM ) (cwV 3 hts gm_law_X12_way_86 rfl rfl rfl (by decide +kernel) ⟨Nat.le_of_ble_eq_true rfl, Nat.le_of_ble_eq_true rfl⟩) (pB_V hKM (vP_r hP) (vD_r hD) (ci := 12) (q0 := 0) rfl rfl) rfl rfl hl.1 rfl (lv_room (Nat.le_of_ble_eq_true rfl)) dL_law_736 hcs) hS hA hP hD (fun r126 u126 H locs hw126 hP hD hS => ?_)
      obtain ⟨i126, q126, c126, d126⟩ := u126
      have hw126 : True ∧ mInv i126 c126 ∧ (∀ k, k ∉ ([0, 16, 17, 18, 19] : List Nat) → i126 k = jm k) ∧ (∀ k, k ∉ ([1, 20, 21] : List Nat) → c126 k = em k) := hw126
      obtain ⟨hw126, hM, hei126, hec126⟩ := hw126
      have hP : va_P D vwCl (xwT sk a t i118 q118 c118 d118 ++ (Z ++ mW o am tm i126 q126 c126 d126)) H := by rw [← List.append_assoc]; exact hP
      have hD : va_D (fun q : Nat => s.heap.size ≤ q) (xwT sk a t i118 q118 c118 d118 ++ (Z ++ mW o am tm i126 q126 c126 d126)) := by rw [← List.append_assoc]; exact hD
      refine lv_pop hx hb dL_law_739 rfl ?_
      refine lv_goto (tgt := 1461) hx hb dL_law_740 (by decide +kernel) ?_
      exact kk i118 q118 c118 d118 i126 q126 c126 d126 _ _ _ ⟨hI, (by rw [show c118 113 = c 113 from hec118 113 (by decide +kernel), show c118 115 = c 115 from hec118 115 (by decide +kernel)]; exact hs_F), (by rw [show i118 146 = i 146 from hei118 146 (by decide +kernel), show i118 147 = i 147 from hei118 147 (by decide +kernel), show i118 148 = i 148 from hei118 148 (by decide +kernel), show i118 156 = i 156 from hei118 156 (by decide +kernel), show c118 144 = c 144 from hec118 144 (by decide +kernel), show c118 145 = c 145 from hec118 145 (by decide +kernel), show c118 150 = c 150 from hec118 150 (by decide +kernel)]; exact hs_P), (by rw [show i118 141 = i 141 from hei118 141 (by decide +kernel)]; exact htr), hM, (by rw [show c126 3 = em 3 from hec126 3 (by decide +kernel), show c126 6 = em 6 from hec126 6 (by decide +kernel), show c126 9 = em 9 from hec126 9 (by decide +kernel), show c126 10 = em 10 from hec126 10 (by decide +kernel), show c126 11 = em 11 from hec126 11 (by decide +kernel), show c126 13 = em 13 from hec126 13 (by decide +kernel), show i126 2 = jm 2 from hei126 2 (by decide +kernel), show i126 5 = jm 5 from hei126 5 (by decide +kernel), show i126 8 = jm 8 from hei126 8 (by decide +kernel)]; exact hs_S), (by rw [show c126 3 = em 3 from hec126 3 (by decide +kernel), show c126 6 = em 6 from hec126 6 (by decide +kernel), show c126 23 = em 23 from hec126 23 (by decide +kernel), show c126 24 = em 24 from hec126 24 (by decide +kernel), show c126 29 = em 29 from hec126 29 (by decide +kernel), show c126 30 = em 30 from hec126 30 (by decide +kernel), show i126 5 = jm 5 from hei126 5 (by decide +kernel), show i126 22 = jm 22 from hei126 22 (by decide +kernel), show i126 27 = jm 27 from hei126 27 (by decide +kernel)]; exact hs_J), (by rw [show i118 110 = i 110 from hei118 110 (by decide +kernel), show i118 111 = i 111 from hei118 111 (by decide +kernel), show i118 165 = i 165 from hei118 165 (by decide +kernel), show i118 124 = i 124 from hei118 124 (by decide +kernel), show c118 107 = c 107 from hec118 107 (by decide +kernel), show c118 105 = c 105 from hec118 105 (by decide +kernel), show c118 108 = c 108 from hec118 108 (by decide +kernel), show c118 106 = c 106 from hec118 106 (by decide +kernel), show c118 113 = c 113 from hec118 113 (by decide +kernel), show c118 114 = c 114 from hec118 114 (by decide +kernel), show c118 115 = c 115 from hec118 115 (by decide +kernel), show c118 116 = c 116 from hec118 116 (by decide +kernel), show c118 117 = c 117 from hec118 117 (by decide +kernel), show c118 118 = c 118 from hec118 118 (by decide +kernel), show c118 119 = c 119 from hec118 119 (by decide +kernel), show c118 120 = c 120 from hec118 120 (by decide +kernel), show c118 121 = c 121 from hec118 121 (by decide +kernel), show c118 127 = c 127 from hec118 127 (by decide +kernel), show c118 129 = c 129 from hec118 129 (by decide +kernel), show c118 130 = c 130 from hec118 130 (by decide +kernel), show c118 131 = c 131 from hec118 131 (by decide +kernel), show c118 132 = c 132 from hec118 132 (by decide +kernel), show c118 133 = c 133 from hec118 133 (by decide +kernel), show c118 134 = c 134 from hec118 134 (by decide +kernel), show i126 2 = jm 2 from hei126 2 (by decide +kernel), show i126 5 = jm 5 from hei126 5 (by decide +kernel), show i126 64 = jm 64 from hei126 64 (by decide +kernel), show i126 8 = jm 8 from hei126 8 (by decide +kernel), show c126 4 = em 4 from hec126 4 (by decide +kernel), show c126 3 = em 3 from hec126 3 (by decide +kernel), show c126 6 = em 6 from hec126 6 (by decide +kernel), show c126 9 = em 9 from hec126 9 (by decide +kernel), show c126 10 = em 10 from hec126 10 (by decide +kernel), show c126 11 = em 11 from hec126 11 (by decide +kernel), show c126 12 = em 12 from hec126 12 (by decide +kernel), show c126 13 = em 13 from hec126 13 (by decide +kernel)]; exact ⟨hR, hPA, hKO, hSO, hSN, hDR, hRD⟩)⟩ hP hD hS (lv_sub hl [0, 1, 2, 3] rfl)
    · have f125 := mt (ti_eq (a := x124.toInt) (b := 0) rfl (by decide +kernel)).mpr c125
      refine lv_iconst (v := 1) hx hb dL_law_731 (by decide +kernel) ?_
      refine lv_goto (tgt := 736) hx hb dL_law_732 (by decide +kernel) ?_
      have hP : va_P D vwCl ((xwT sk a t i118 q118 c118 d118 ++ Z) ++ mW o am tm jm qm em dm) H := by rw [List.append_assoc]; exact hP
      have hD : va_D (fun q : Nat => s.heap.size ≤ q) ((xwT sk a t i118 q118 c118 d118 ++ Z) ++ mW o am tm jm qm em dm) := by rw [List.append_assoc]; exact hD
      refine rc_i (wr := (xwT sk a t i118 q118 c118 d118 ++ Z)) (va_runV (As := [.int x120, .int x122, .int 1]) (rest := []) ⟨hx, hb, hml, hown, hts⟩ (s_X12_way l D H.size o am tm jm qm em dm x120 x122 (1 : Int32) hM ) (cwV 3 hts gm_law_X12_way_86 rfl rfl rfl (by decide +kernel) ⟨Nat.le_of_ble_eq_true rfl, Nat.le_of_ble_eq_true rfl⟩) (pB_V hKM (vP_r hP) (vD_r hD) (ci := 12) (q0 := 0) rfl rfl) rfl rfl hl.1 rfl (lv_room (Nat.le_of_ble_eq_true rfl)) dL_law_736 hcs) hS hA hP hD (fun r127 u127 H locs hw127 hP hD hS => ?_)
      obtain ⟨i127, q127, c127, d127⟩ := u127
      have hw127 : True ∧ mInv i127 c127 ∧ (∀ k, k ∉ ([0, 16, 17, 18, 19] : List Nat) → i127 k = jm k) ∧ (∀ k, k ∉ ([1, 20, 21] : List Nat) → c127 k = em k) := hw127
      obtain ⟨hw127, hM, hei127, hec127⟩ := hw127
      have hP : va_P D vwCl (xwT sk a t i118 q118 c118 d118 ++ (Z ++ mW o am tm i127 q127 c127 d127)) H := by rw [← List.append_assoc]; exact hP
      have hD : va_D (fun q : Nat => s.heap.size ≤ q) (xwT sk a t i118 q118 c118 d118 ++ (Z ++ mW o am tm i127 q127 c127 d127)) := by rw [← List.append_assoc]; exact hD
      refine lv_pop hx hb dL_law_739 rfl ?_
      refine lv_goto (tgt := 1461) hx hb dL_law_740 (by decide +kernel) ?_
      exact kk i118 q118 c118 d118 i127 q127 c127 d127 _ _ _ ⟨hI, (by rw [show c118 113 = c 113 from hec118 113 (by decide +kernel), show c118 115 = c 115 from hec118 115 (by decide +kernel)]; exact hs_F), (by rw [show i118 146 = i 146 from hei118 146 (by decide +kernel), show i118 147 = i 147 from hei118 147 (by decide +kernel), show i118 148 = i 148 from hei118 148 (by decide +kernel), show i118 156 = i 156 from hei118 156 (by decide +kernel), show c118 144 = c 144 from hec118 144 (by decide +kernel), show c118 145 = c 145 from hec118 145 (by decide +kernel), show c118 150 = c 150 from hec118 150 (by decide +kernel)]; exact hs_P), (by rw [show i118 141 = i 141 from hei118 141 (by decide +kernel)]; exact htr), hM, (by rw [show c127 3 = em 3 from hec127 3 (by decide +kernel), show c127 6 = em 6 from hec127 6 (by decide +kernel), show c127 9 = em 9 from hec127 9 (by decide +kernel), show c127 10 = em 10 from hec127 10 (by decide +kernel), show c127 11 = em 11 from hec127 11 (by decide +kernel), show c127 13 = em 13 from hec127 13 (by decide +kernel), show i127 2 = jm 2 from hei127 2 (by decide +kernel), show i127 5 = jm 5 from hei127 5 (by decide +kernel), show i127 8 = jm 8 from hei127 8 (by decide +kernel)]; exact hs_S), (by rw [show c127 3 = em 3 from hec127 3 (by decide +kernel), show c127 6 = em 6 from hec127 6 (by decide +kernel), show c127 23 = em 23 from hec127 23 (by decide +kernel), show c127 24 = em 24 from hec127 24 (by decide +kernel), show c127 29 = em 29 from hec127 29 (by decide +kernel), show c127 30 = em 30 from hec127 30 (by decide +kernel), show i127 5 = jm 5 from hei127 5 (by decide +kernel), show i127 22 = jm 22 from hei127 22 (by decide +kernel), show i127 27 = jm 27 from hei127 27 (by decide +kernel)]; exact hs_J), (by rw [show i118 110 = i 110 from hei118 110 (by decide +kernel), show i118 111 = i 111 from hei118 111 (by decide +kernel), show i118 165 = i 165 from hei118 165 (by decide +kernel), show i118 124 = i 124 from hei118 124 (by decide +kernel), show c118 107 = c 107 from hec118 107 (by decide +kernel), show c118 105 = c 105 from hec118 105 (by decide +kernel), show c118 108 = c 108 from hec118 108 (by decide +kernel), show c118 106 = c 106 from hec118 106 (by decide +kernel), show c118 113 = c 113 from hec118 113 (by decide +kernel), show c118 114 = c 114 from hec118 114 (by decide +kernel), show c118 115 = c 115 from hec118 115 (by decide +kernel), show c118 116 = c 116 from hec118 116 (by decide +kernel), show c118 117 = c 117 from hec118 117 (by decide +kernel), show c118 118 = c 118 from hec118 118 (by decide +kernel), show c118 119 = c 119 from hec118 119 (by decide +kernel), show c118 120 = c 120 from hec118 120 (by decide +kernel), show c118 121 = c 121 from hec118 121 (by decide +kernel), show c118 127 = c 127 from hec118 127 (by decide +kernel), show c118 129 = c 129 from hec118 129 (by decide +kernel), show c118 130 = c 130 from hec118 130 (by decide +kernel), show c118 131 = c 131 from hec118 131 (by decide +kernel), show c118 132 = c 132 from hec118 132 (by decide +kernel), show c118 133 = c 133 from hec118 133 (by decide +kernel), show c118 134 = c 134 from hec118 134 (by decide +kernel), show i127 2 = jm 2 from hei127 2 (by decide +kernel), show i127 5 = jm 5 from hei127 5 (by decide +kernel), show i127 64 = jm 64 from hei127 64 (by decide +kernel), show i127 8 = jm 8 from hei127 8 (by decide +kernel), show c127 4 = em 4 from hec127 4 (by decide +kernel), show c127 3 = em 3 from hec127 3 (by decide +kernel), show c127 6 = em 6 from hec127 6 (by decide +kernel), show c127 9 = em 9 from hec127 9 (by decide +kernel), show c127 10 = em 10 from hec127 10 (by decide +kernel), show c127 11 = em 11 from hec127 11 (by decide +kernel), show c127 12 = em 12 from hec127 12 (by decide +kernel), show c127 13 = em 13 from hec127 13 (by decide +kernel)]; exact ⟨hR, hPA, hKO, hSO, hSN, hDR, hRD⟩)⟩ hP hD hS (lv_sub hl [0, 1, 2, 3] rfl)

set_option maxHeartbeats 4000000 in
set_option maxRecDepth 100000 in
theorem law_toward {p : Program} {l : Launch} {e : Env} {s : State} {m : MethodId} {below : List Frame} {meth : Method} {cd : Code} {b L : Nat} {xs : Nat → Int32} {D : va_G} {a : Nat → Nat} {t : Nat → ClassId} {o : Nat} {am : Nat → Nat} {tm : Nat → ClassId} {x3 : Int32} {cells slots : Nat} {sk : Value} {Z : va_W} (hx : p.tables.exec = Jvm.exec) (hb : cd.code = cL_law) (hml : cd.maxLocals = 4) (hown : s.vm.findClass RL = some m.cls) (hts : ∀ w ∈ wm_law, w.before #[Value.ref b] s = true) (hX : va_X b L xs s s.heap) (hbl : b < s.heap.size) (hL : L ≤ 3584) (hN : xN s) (hZ : xZ (a 186) s s.heap) (hKT : va_K D vwCl (xtT t) s) (hKM : va_K D vwCl (mT tm) s) (hcs : cells ≤ 600000 ∧ slots ≤ 7302249) (hx3 : 0 ≤ x3.toInt ∧ x3.toInt + 7 ≤ (L : Int)) (kk : LK p l e s m below meth cd b D sk a t Z o am tm x3 cells slots) (i : Nat → Int32) (q : Int64) (c : Nat → Nat → Int32) (d : Nat → Nat → Int64) (jm : Nat → Int32) (qm : Int64) (em : Nat → Nat → Int32) (dm : Nat → Nat → Int64) (H : Heap) (locs : List Loc) (ls : Array Slot) (hLI : LI i c jm em) (hP : va_P D vwCl (xwT sk a t i q c d ++ (Z ++ mW o am tm jm qm em dm)) H) (hD : va_D (fun q : Nat => s.heap.size ≤ q) (xwT sk a t i q c d ++ (Z ++ mW o am tm jm qm em dm))) (hS : va_S (fun q : Nat => s.heap.size ≤ q) s.heap H locs) (hl : lv_has ls 4 [(3, .int x3), (2, .ref o), (1, .ref (a 100)), (0, .ref b)]) : W p l e room_1 s m #[Value.ref b] below meth cd H locs cells slots (lw_Z below #[Value.ref b] s) (F0 m 743 ls []) := by
  have hbA : ¬ (fun q : Nat => s.heap.size ≤ q) b := Nat.not_le.mpr hbl
  have hA : ∀ q : Nat, s.heap.size ≤ q → (fun q : Nat => s.heap.size ≤ q) q := fun _ h => h
  obtain ⟨hI, hs_F, hs_P, htr, hM, hs_S, hs_J, hR⟩ := hLI
  have hI0 := hI
  have hM0 := hM
  obtain ⟨hR, hPA, hKO, hSO, hSN, hDR, hRD⟩ := hR
  have hRR := RR_of hI0 hs_F
  refine lv_aload_n hx hb dL_law_743 rfl (lv_at hl 2 rfl) ?_
  refine lv_aload_n hx hb dL_law_744 rfl (lv_at hl 3 rfl) ?_
  refine lv_iload_n hx hb dL_law_745 rfl (lv_at hl 0 rfl) ?_
  refine lv_iconst (v := 1) hx hb dL_law_746 (by decide +kernel) ?_
  refine lv_iadd hx hb dL_law_747 ?_
  refine lv_topi (fun x101 ex101 => ?_)
  have tx101 := ti_add (a := x3.toInt) (b := 1) ex101 rfl (by decide +kernel) (by omega) (by omega)
  refine va_sld hx hb hX hbl hbA hS (vp_in_iff.mpr (by have h9 : x101.toInt = (x3.toInt + 1) := tx101; omega)) dL_law_748 ?_
  refine lv_topi (fun x102 ex102 => ?_)
  refine lv_aload_n hx hb dL_law_749 rfl (lv_at hl 3 rfl) ?_
  refine lv_iload_n hx hb dL_law_750 rfl (lv_at hl 0 rfl) ?_
  refine lv_iconst (v := 2) hx hb dL_law_751 (by decide +kernel) ?_
  refine lv_iadd hx hb dL_law_752 ?_
  refine lv_topi (fun x103 ex103 => ?_)
  have tx103 := ti_add (a := x3.toInt) (b := 2) ex103 rfl (by decide +kernel) (by omega) (by omega)
  refine va_sld hx hb hX hbl hbA hS (vp_in_iff.mpr (by have h9 : x103.toInt = (x3.toInt + 2) := tx103; omega)) dL_law_753 ?_
  refine lv_topi (fun x104 ex104 => ?_)
  refine lv_aload_n hx hb dL_law_754 rfl (lv_at hl 3 rfl) ?_
  refine lv_iload_n hx hb dL_law_755 rfl (lv_at hl 0 rfl) ?_
  refine lv_iconst (v := 3) hx hb dL_law_756 (by decide +kernel) ?_
  refine lv_iadd hx hb dL_law_757 ?_
  refine lv_topi (fun x105 ex105 => ?_)
  have tx105 := ti_add (a := x3.toInt) (b := 3) ex105 rfl (by decide +kernel) (by omega) (by omega)
  refine va_sld hx hb hX hbl hbA hS (vp_in_iff.mpr (by have h9 : x105.toInt = (x3.toInt + 3) := tx105; omega)) dL_law_758 ?_
  refine lv_topi (fun x106 ex106 => ?_)
  refine lv_if_eq (tgt := 766) hx hb dL_law_759 (by decide +kernel) (fun c107 => ?_) (fun c107 => ?_)
  · have f107 := (ti_eq (a := x106.toInt) (b := 0) rfl (by decide +kernel)).mp c107
    refine lv_iconst (v := 0) hx hb dL_law_766 (by decide +kernel) ?_
    refine lc_i (wr := (Z ++ mW o am tm jm qm em dm)) (va_runV (As := [.int x102, .int x104, .int 0]) (rest := []) ⟨hx, hb, hml, hown, hts⟩ (x_X11_toward_e l D H.size sk a t i q c d x102 x104 (0 : Int32) hI (by rw [hPA]; exact PD_m hM) (DoN_of hRD (SB_of hM0 hSN hRR hs_S hR.2.1))) (cwV 3 hts gm_law_X11_toward_e_87 rfl rfl rfl (by decide +kernel) ⟨Nat.le_of_ble_eq_true rfl, Nat.le_of_ble_eq_true rfl⟩) (yB_V hN (xZ_k hZ hS hA) (xZ_n hZ (vD_l hD)) hKT (vP_l hP) (vD_l hD) (ci := 11) (q0 := 0) rfl rfl) rfl rfl hl.1 rfl (lv_room (Nat.le_of_ble_eq_true rfl)) dL_law_767 hcs) hS hA hP hD (fun r108 u108 H locs hw108 _ hP hD hS => ?_)
    obtain ⟨i108, q108, c108, d108⟩ := u108
    have hw108 : True ∧ xInv i108 c108 ∧ (∀ k, k ∉ ([102] : List Nat) → i108 k = i k) ∧ (∀ k, k ∉ ([101, 135, 136, 137] : List Nat) → c108 k = c k) ∧ (WyR (i 111).toInt x102.toInt x104.toInt (c 106 (c 108 x102.toInt.toNat).toNatClampNeg).toInt (c 106 (c 108 x104.toInt.toNat).toNatClampNeg).toInt r108.toInt (fun z9 => z9 = bfF (gX (c 129) (c 130) 0 (fun t9 : Int => sgX (c 120) (c 116) t9 0 (sfV (c 105) (c 108) (c 107) (c 106 (c 108 t9.toNat).toNatClampNeg).toInt 0 t9))) x102.toInt 300 x104.toInt)) := hw108
    obtain ⟨hw108, hI, hei108, hec108, hxp108_0⟩ := hw108
    have hP : va_P D vwCl (xwT sk a t i108 q108 c108 d108 ++ (Z ++ mW o am tm jm qm em dm)) H := hP
    have hD : va_D (fun q : Nat => s.heap.size ≤ q) (xwT sk a t i108 q108 c108 d108 ++ (Z ++ mW o am tm jm qm em dm)) := hD
    refine lv_aload_n hx hb dL_law_770 rfl (lv_at hl 1 rfl) ?_
    refine lv_aload_n hx hb dL_law_771 rfl (lv_at hl 3 rfl) ?_
    refine lv_iload_n hx hb dL_law_772 rfl (lv_at hl 0 rfl) ?_
    refine lv_iconst (v := 1) hx hb dL_law_773 (by decide +kernel) ?_
    refine lv_iadd hx hb dL_law_774 ?_
    refine lv_topi (fun x109 ex109 => ?_)
    have tx109 := ti_add (a := x3.toInt) (b := 1) ex109 rfl (by decide +kernel) (by omega) (by omega)
    refine va_sld hx hb hX hbl hbA hS (vp_in_iff.mpr (by have h9 : x109.toInt = (x3.toInt + 1) := tx109; omega)) dL_law_775 ?_
    refine lv_topi (fun x110 ex110 => ?_)
    refine lv_aload_n hx hb dL_law_776 rfl (lv_at hl 3 rfl) ?_
    refine lv_iload_n hx hb dL_law_777 rfl (lv_at hl 0 rfl) ?_
    refine lv_iconst (v := 2) hx hb dL_law_778 (by decide +kernel) ?_
    refine lv_iadd hx hb dL_law_779 ?_
    refine lv_topi (fun x111 ex111 => ?_)
    have tx111 := ti_add (a := x3.toInt) (b := 2) ex111 rfl (by decide +kernel) (by omega) (by omega)
    refine va_sld hx hb hX hbl hbA hS (vp_in_iff.mpr (by have h9 : x111.toInt = (x3.toInt + 2) := tx111; omega)) dL_law_780 ?_
    refine lv_topi (fun x112 ex112 => ?_)
    refine lv_aload_n hx hb dL_law_781 rfl (lv_at hl 3 rfl) ?_
    refine lv_iload_n hx hb dL_law_782 rfl (lv_at hl 0 rfl) ?_
    refine lv_iconst (v := 3) hx hb dL_law_783 (by decide +kernel) ?_
    refine lv_iadd hx hb dL_law_784 ?_
    refine lv_topi (fun x113 ex113 => ?_)
    have tx113 := ti_add (a := x3.toInt) (b := 3) ex113 rfl (by decide +kernel) (by omega) (by omega)
    refine va_sld hx hb hX hbl hbA hS (vp_in_iff.mpr (by have h9 : x113.toInt = (x3.toInt + 3) := tx113; omega)) dL_law_785 ?_
    refine lv_topi (fun x114 ex114 => ?_)
    refine lv_if_eq (tgt := 793) hx hb dL_law_786 (by decide +kernel) (fun c115 => ?_) (fun c115 => ?_)
    · have f115 := (ti_eq (a := x114.toInt) (b := 0) rfl (by decide +kernel)).mp c115
      refine lv_iconst (v := 0) hx hb dL_law_793 (by decide +kernel) ?_
      have hP : va_P D vwCl ((xwT sk a t i108 q108 c108 d108 ++ Z) ++ mW o am tm jm qm em dm) H := by rw [List.append_assoc]; exact hP
      have hD : va_D (fun q : Nat => s.heap.size ≤ q) ((xwT sk a t i108 q108 c108 d108 ++ Z) ++ mW o am tm jm qm em dm) := by rw [List.append_assoc]; exact hD
      refine rc_i (wr := (xwT sk a t i108 q108 c108 d108 ++ Z)) (va_runV (As := [.int x110, .int x112, .int 0]) (rest := [.int r108]) ⟨hx, hb, hml, hown, hts⟩ (s_X12_toward_e l D H.size o am tm jm qm em dm x110 x112 (0 : Int32) hM hs_S) (cwV 3 hts gm_law_X12_toward_90 rfl rfl rfl (by decide +kernel) ⟨Nat.le_of_ble_eq_true rfl, Nat.le_of_ble_eq_true rfl⟩) (pB_V hKM (vP_r hP) (vD_r hD) (ci := 12) (q0 := 0) rfl rfl) rfl rfl hl.1 rfl (lv_room (Nat.le_of_ble_eq_true rfl)) dL_law_794 hcs) hS hA hP hD (fun r116 u116 H locs hw116 hP hD hS => ?_)
      obtain ⟨i116, q116, c116, d116⟩ := u116
      have hw116 : True ∧ mInv i116 c116 ∧ (∀ k, k ∉ ([0, 16, 17, 18, 19] : List Nat) → i116 k = jm k) ∧ (∀ k, k ∉ ([1, 20, 21] : List Nat) → c116 k = em k) ∧ (WyR (jm 5).toInt x110.toInt x112.toInt (kS (em 3) (em 6) x110.toInt) (kS (em 3) (em 6) x112.toInt) r116.toInt (fun z9 => TdM (wM (em 3) (em 6) (em 9) (em 10) (em 11) (em 12) (em 13) (jm 8).toInt 0 (fun t9 : Int => sgM (em 9) (em 10) (em 11) (em 12) (em 13) (jm 8).toInt t9 0 (sfV (em 3) (em 6) (em 4) (kS (em 3) (em 6) t9) 0 t9))) x110.toInt x112.toInt 300 z9)) := hw116
      obtain ⟨hw116, hM, hei116, hec116, hxp116_0⟩ := hw116
      have hP : va_P D vwCl (xwT sk a t i108 q108 c108 d108 ++ (Z ++ mW o am tm i116 q116 c116 d116)) H := by rw [← List.append_assoc]; exact hP
      have hD : va_D (fun q : Nat => s.heap.size ≤ q) (xwT sk a t i108 q108 c108 d108 ++ (Z ++ mW o am tm i116 q116 c116 d116)) := by rw [← List.append_assoc]; exact hD
      have hag0 : x110.toInt = x102.toInt := congrArg Int32.toInt (by rw [ex110, ex109, ex102, ex101])
      have hag1 : x112.toInt = x104.toInt := congrArg Int32.toInt (by rw [ex112, ex111, ex104, ex103])
      refine lv_icmp_eq (tgt := 1461) hx hb dL_law_797 (by decide +kernel) (fun _ => ?_) (fun q9 => absurd (Wy_e hR.2.1 hag0 hag1 (fun hw9 => by rw [hag0]; exact xS_e (kn := i 110) (N := (jm 5).toInt) hSO hPA hKO (fun j hj => by have h9 := hs_S.1 j hj; have h8 := hR.1; omega) (fun j => (show 0 ≤ (em 6 j).toInt ∧ (em 6 j).toInt ≤ 23 from hM0.2 6 j).1) (by have h8 := hR.2.1; omega) (show 0 ≤ (c 106 _).toInt ∧ (c 106 _).toInt ≤ 5 from hI0.2 106 _)) (fun hw9 => by rw [hag1]; exact xS_e (kn := i 110) (N := (jm 5).toInt) hSO hPA hKO (fun j hj => by have h9 := hs_S.1 j hj; have h8 := hR.1; omega) (fun j => (show 0 ≤ (em 6 j).toInt ∧ (em 6 j).toInt ≤ 23 from hM0.2 6 j).1) (by have h8 := hR.2.1; omega) (show 0 ≤ (c 106 _).toInt ∧ (c 106 _).toInt ≤ 5 from hI0.2 106 _)) hxp108_0 hxp116_0 (fun ha9 hb9 hs9 ht9 _ _ p1 p2 => Td_b (R := (fun t9 => 0 ≤ t9 ∧ t9 < (jm 5).toInt ∧ kS (em 3) (em 6) t9 = 0)) rfl hag0 hag1 (by first | rfl | rw [show (0 : Int) = (0 : Int) from hag2]) ⟨by omega, by have q8 := hR.2.1; omega, by rw [← xS_e (kn := i 110) (N := (jm 5).toInt) hSO hPA hKO (fun j hj => by have h9 := hs_S.1 j hj; have h8 := hR.1; omega) (fun j => (show 0 ≤ (em 6 j).toInt ∧ (em 6 j).toInt ≤ 23 from hM0.2 6 j).1) (by have h7 := hR.2.1; omega) (show 0 ≤ (c 106 _).toInt ∧ (c 106 _).toInt ≤ 5 from hI0.2 106 _)]; exact hs9⟩ (fun r9 hr9 => ⟨hr9.1, by have q7 := hr9.2.1; have q6 : 0 ≤ (i 111).toInt ∧ (i 111).toInt ≤ 30 := hI0.1 111; have q5 := hR.2.1; omega⟩) (fun r9 hr9 d9 hd9 => Wg_e (o := (0 : Int)) (sv := fun t9 : Int => sgX (c 120) (c 116) t9 0 (sfV (c 105) (c 108) (c 107) (c 106 (c 108 t9.toNat).toNatClampNeg).toInt 0 t9)) (sv2 := fun t9 : Int => sgM (em 9) (em 10) (em 11) (em 12) (em 13) (jm 8).toInt t9 0 (sfV (em 3) (em 6) (em 4) (kS (em 3) (em 6) t9) 0 t9)) (bw := c 131) (im := c 132) hM0 hs_S (by have q9 := RD_fe (r := r9) (d := (d9 : Int)) hRD hSN.2.2.2.2.2.2 hRR hDR (fun t9 h9 h8 => by rw [zX_e ⟨h9, h8⟩]; exact xS_e (kn := i 110) (N := (jm 5).toInt) hSO hPA hKO (fun j hj => by have h9 := hs_S.1 j hj; have h8 := hR.1; omega) (fun j => (show 0 ≤ (em 6 j).toInt ∧ (em 6 j).toInt ≤ 23 from hM0.2 6 j).1) (by have h7 := hR.2.1; omega) (show 0 ≤ (c 106 _).toInt ∧ (c 106 _).toInt ≤ 5 from hI0.2 106 _)) (fun s9 h9 h8 => by have q9 := hB_of hM0 hs_S s9 (by have q8 := hSN.2.2.2.2.2.1; omega) (by rw [← hSN.1]; exact h8); rw [← hSN.2.2.1, ← hR.2.1] at q9; exact q9) (by have h9 : 0 ≤ (i 111).toInt ∧ (i 111).toInt ≤ 30 := hI0.1 111; omega) (by have q8 := hR.2.1; have q7 := hr9.1; have q6 := hr9.2.1; omega) hr9.2.2 (by omega); rw [hSN.1, hSN.2.1, hSN.2.2.1, hSN.2.2.2.1, hSN.2.2.2.2.1, hSN.2.2.2.2.2.1] at q9; exact q9) (fun t9 h9 h8 => by have q1 := Sg_e (v := sfV (em 3) (em 6) (em 4) (kS (em 3) (em 6) t9) 0 t9) hSN.2.2.2.2.2.2 hRR (o := t9) (f := 0) (by have q2 := hR.2.1; have q3 : 0 ≤ (i 111).toInt ∧ (i 111).toInt ≤ 30 := hI0.1 111; omega) (by omega) sgX_i sgM_i; rw [hSN.1, hSN.2.1, hSN.2.2.1, hSN.2.2.2.1, hSN.2.2.2.2.1, hSN.2.2.2.2.2.1] at q1; rw [← q1, xS_e (kn := i 110) (N := (jm 5).toInt) hSO hPA hKO (fun j hj => by have h9 := hs_S.1 j hj; have h8 := hR.1; omega) (fun j => (show 0 ≤ (em 6 j).toInt ∧ (em 6 j).toInt ≤ 23 from hM0.2 6 j).1) (o := t9) ⟨h9, h8⟩ (show 0 ≤ (c 106 _).toInt ∧ (c 106 _).toInt ≤ 5 from hI0.2 106 _), show sfV (c 105) (c 108) (c 107) (kS (em 3) (em 6) t9) 0 t9 = sfV (em 3) (em 6) (em 4) (kS (em 3) (em 6) t9) 0 t9 from by unfold sfV; rw [stL_c (by omega) hR.2.2.2, hPA, hKO], hSN.2.2.2.1])) p1 p2)) q9)
      exact kk i108 q108 c108 d108 i116 q116 c116 d116 _ _ _ ⟨hI, (by rw [show c108 113 = c 113 from hec108 113 (by decide +kernel), show c108 115 = c 115 from hec108 115 (by decide +kernel)]; exact hs_F), (by rw [show i108 146 = i 146 from hei108 146 (by decide +kernel), show i108 147 = i 147 from hei108 147 (by decide +kernel), show i108 148 = i 148 from hei108 148 (by decide +kernel), show i108 156 = i 156 from hei108 156 (by decide +kernel), show c108 144 = c 144 from hec108 144 (by decide +kernel), show c108 145 = c 145 from hec108 145 (by decide +kernel), show c108 150 = c 150 from hec108 150 (by decide +kernel)]; exact hs_P), (by rw [show i108 141 = i 141 from hei108 141 (by decide +kernel)]; exact htr), hM, (by rw [show c116 3 = em 3 from hec116 3 (by decide +kernel), show c116 6 = em 6 from hec116 6 (by decide +kernel), show c116 9 = em 9 from hec116 9 (by decide +kernel), show c116 10 = em 10 from hec116 10 (by decide +kernel), show c116 11 = em 11 from hec116 11 (by decide +kernel), show c116 13 = em 13 from hec116 13 (by decide +kernel), show i116 2 = jm 2 from hei116 2 (by decide +kernel), show i116 5 = jm 5 from hei116 5 (by decide +kernel), show i116 8 = jm 8 from hei116 8 (by decide +kernel)]; exact hs_S), (by rw [show c116 3 = em 3 from hec116 3 (by decide +kernel), show c116 6 = em 6 from hec116 6 (by decide +kernel), show c116 23 = em 23 from hec116 23 (by decide +kernel), show c116 24 = em 24 from hec116 24 (by decide +kernel), show c116 29 = em 29 from hec116 29 (by decide +kernel), show c116 30 = em 30 from hec116 30 (by decide +kernel), show i116 5 = jm 5 from hei116 5 (by decide +kernel), show i116 22 = jm 22 from hei116 22 (by decide +kernel), show i116 27 = jm 27 from hei116 27 (by decide +kernel)]; exact hs_J), (by rw [show i108 110 = i 110 from hei108 110 (by decide +kernel), show i108 111 = i 111 from hei108 111 (by decide +kernel), show i108 165 = i 165 from hei108 165 (by decide +kernel), show i108 124 = i 124 from hei108 124 (by decide +kernel), show c108 107 = c 107 from hec108 107 (by decide +kernel), show c108 105 = c 105 from hec108 105 (by decide +kernel), show c108 108 = c 108 from hec108 108 (by decide +kernel), show c108 106 = c 106 from hec108 106 (by decide +kernel), show c108 113 = c 113 from hec108 113 (by decide +kernel), show c108 114 = c 114 from hec108 114 (by decide +kernel), show c108 115 = c 115 from hec108 115 (by decide +kernel), show c108 116 = c 116 from hec108 116 (by decide +kernel), show c108 117 = c 117 from hec108 117 (by decide +kernel), show c108 118 = c 118 from hec108 118 (by decide +kernel), show c108 119 = c 119 from hec108 119 (by decide +kernel), show c108 120 = c 120 from hec108 120 (by decide +kernel), show c108 121 = c 121 from hec108 121 (by decide +kernel), show c108 127 = c 127 from hec108 127 (by decide +kernel), show c108 129 = c 129 from hec108 129 (by decide +kernel), show c108 130 = c 130 from hec108 130 (by decide +kernel), show c108 131 = c 131 from hec108 131 (by decide +kernel), show c108 132 = c 132 from hec108 132 (by decide +kernel), show c108 133 = c 133 from hec108 133 (by decide +kernel), show c108 134 = c 134 from hec108 134 (by decide +kernel), show i116 2 = jm 2 from hei116 2 (by decide +kernel), show i116 5 = jm 5 from hei116 5 (by decide +kernel), show i116 64 = jm 64 from hei116 64 (by decide +kernel), show i116 8 = jm 8 from hei116 8 (by decide +kernel), show c116 4 = em 4 from hec116 4 (by decide +kernel), show c116 3 = em 3 from hec116 3 (by decide +kernel), show c116 6 = em 6 from hec116 6 (by decide +kernel), show c116 9 = em 9 from hec116 9 (by decide +kernel), show c116 10 = em 10 from hec116 10 (by decide +kernel), show c116 11 = em 11 from hec116 11 (by decide +kernel), show c116 12 = em 12 from hec116 12 (by decide +kernel), show c116 13 = em 13 from hec116 13 (by decide +kernel)]; exact ⟨hR, hPA, hKO, hSO, hSN, hDR, hRD⟩)⟩ hP hD hS (lv_sub hl [0, 1, 2, 3] rfl)
    · have f115 := mt (ti_eq (a := x114.toInt) (b := 0) rfl (by decide +kernel)).mpr c115
      refine lv_iconst (v := 1) hx hb dL_law_789 (by decide +kernel) ?_
      refine lv_goto (tgt := 794) hx hb dL_law_790 (by decide +kernel) ?_
      have hP : va_P D vwCl ((xwT sk a t i108 q108 c108 d108 ++ Z) ++ mW o am tm jm qm em dm) H := by rw [List.append_assoc]; exact hP
      have hD : va_D (fun q : Nat => s.heap.size ≤ q) ((xwT sk a t i108 q108 c108 d108 ++ Z) ++ mW o am tm jm qm em dm) := by rw [List.append_assoc]; exact hD
      refine rc_i (wr := (xwT sk a t i108 q108 c108 d108 ++ Z)) (va_runV (As := [.int x110, .int x112, .int 1]) (rest := [.int r108]) ⟨hx, hb, hml, hown, hts⟩ (s_X12_toward_e l D H.size o am tm jm qm em dm x110 x112 (1 : Int32) hM hs_S) (cwV 3 hts gm_law_X12_toward_90 rfl rfl rfl (by decide +kernel) ⟨Nat.le_of_ble_eq_true rfl, Nat.le_of_ble_eq_true rfl⟩) (pB_V hKM (vP_r hP) (vD_r hD) (ci := 12) (q0 := 0) rfl rfl) rfl rfl hl.1 rfl (lv_room (Nat.le_of_ble_eq_true rfl)) dL_law_794 hcs) hS hA hP hD (fun r117 u117 H locs hw117 hP hD hS => ?_)
      obtain ⟨i117, q117, c117, d117⟩ := u117
      have hw117 : True ∧ mInv i117 c117 ∧ (∀ k, k ∉ ([0, 16, 17, 18, 19] : List Nat) → i117 k = jm k) ∧ (∀ k, k ∉ ([1, 20, 21] : List Nat) → c117 k = em k) ∧ (WyR (jm 5).toInt x110.toInt x112.toInt (kS (em 3) (em 6) x110.toInt) (kS (em 3) (em 6) x112.toInt) r117.toInt (fun z9 => TdM (wM (em 3) (em 6) (em 9) (em 10) (em 11) (em 12) (em 13) (jm 8).toInt 1 (fun t9 : Int => sgM (em 9) (em 10) (em 11) (em 12) (em 13) (jm 8).toInt t9 0 (sfV (em 3) (em 6) (em 4) (kS (em 3) (em 6) t9) 0 t9))) x110.toInt x112.toInt 300 z9)) := hw117
      obtain ⟨hw117, hM, hei117, hec117, hxp117_0⟩ := hw117
      have hP : va_P D vwCl (xwT sk a t i108 q108 c108 d108 ++ (Z ++ mW o am tm i117 q117 c117 d117)) H := by rw [← List.append_assoc]; exact hP
      have hD : va_D (fun q : Nat => s.heap.size ≤ q) (xwT sk a t i108 q108 c108 d108 ++ (Z ++ mW o am tm i117 q117 c117 d117)) := by rw [← List.append_assoc]; exact hD
      have hag0 : x110.toInt = x102.toInt := congrArg Int32.toInt (by rw [ex110, ex109, ex102, ex101])
      have hag1 : x112.toInt = x104.toInt := congrArg Int32.toInt (by rw [ex112, ex111, ex104, ex103])
      refine lv_icmp_eq (tgt := 1461) hx hb dL_law_797 (by decide +kernel) (fun _ => ?_) (fun q9 => absurd ((by exfalso; have h9 : x114.toInt = x106.toInt := congrArg Int32.toInt (by rw [ex114, ex113, ex106, ex105]); omega)) q9)
      exact kk i108 q108 c108 d108 i117 q117 c117 d117 _ _ _ ⟨hI, (by rw [show c108 113 = c 113 from hec108 113 (by decide +kernel), show c108 115 = c 115 from hec108 115 (by decide +kernel)]; exact hs_F), (by rw [show i108 146 = i 146 from hei108 146 (by decide +kernel), show i108 147 = i 147 from hei108 147 (by decide +kernel), show i108 148 = i 148 from hei108 148 (by decide +kernel), show i108 156 = i 156 from hei108 156 (by decide +kernel), show c108 144 = c 144 from hec108 144 (by decide +kernel), show c108 145 = c 145 from hec108 145 (by decide +kernel), show c108 150 = c 150 from hec108 150 (by decide +kernel)]; exact hs_P), (by rw [show i108 141 = i 141 from hei108 141 (by decide +kernel)]; exact htr), hM, (by rw [show c117 3 = em 3 from hec117 3 (by decide +kernel), show c117 6 = em 6 from hec117 6 (by decide +kernel), show c117 9 = em 9 from hec117 9 (by decide +kernel), show c117 10 = em 10 from hec117 10 (by decide +kernel), show c117 11 = em 11 from hec117 11 (by decide +kernel), show c117 13 = em 13 from hec117 13 (by decide +kernel), show i117 2 = jm 2 from hei117 2 (by decide +kernel), show i117 5 = jm 5 from hei117 5 (by decide +kernel), show i117 8 = jm 8 from hei117 8 (by decide +kernel)]; exact hs_S), (by rw [show c117 3 = em 3 from hec117 3 (by decide +kernel), show c117 6 = em 6 from hec117 6 (by decide +kernel), show c117 23 = em 23 from hec117 23 (by decide +kernel), show c117 24 = em 24 from hec117 24 (by decide +kernel), show c117 29 = em 29 from hec117 29 (by decide +kernel), show c117 30 = em 30 from hec117 30 (by decide +kernel), show i117 5 = jm 5 from hei117 5 (by decide +kernel), show i117 22 = jm 22 from hei117 22 (by decide +kernel), show i117 27 = jm 27 from hei117 27 (by decide +kernel)]; exact hs_J), (by rw [show i108 110 = i 110 from hei108 110 (by decide +kernel), show i108 111 = i 111 from hei108 111 (by decide +kernel), show i108 165 = i 165 from hei108 165 (by decide +kernel), show i108 124 = i 124 from hei108 124 (by decide +kernel), show c108 107 = c 107 from hec108 107 (by decide +kernel), show c108 105 = c 105 from hec108 105 (by decide +kernel), show c108 108 = c 108 from hec108 108 (by decide +kernel), show c108 106 = c 106 from hec108 106 (by decide +kernel), show c108 113 = c 113 from hec108 113 (by decide +kernel), show c108 114 = c 114 from hec108 114 (by decide +kernel), show c108 115 = c 115 from hec108 115 (by decide +kernel), show c108 116 = c 116 from hec108 116 (by decide +kernel), show c108 117 = c 117 from hec108 117 (by decide +kernel), show c108 118 = c 118 from hec108 118 (by decide +kernel), show c108 119 = c 119 from hec108 119 (by decide +kernel), show c108 120 = c 120 from hec108 120 (by decide +kernel), show c108 121 = c 121 from hec108 121 (by decide +kernel), show c108 127 = c 127 from hec108 127 (by decide +kernel), show c108 129 = c 129 from hec108 129 (by decide +kernel), show c108 130 = c 130 from hec108 130 (by decide +kernel), show c108 131 = c 131 from hec108 131 (by decide +kernel), show c108 132 = c 132 from hec108 132 (by decide +kernel), show c108 133 = c 133 from hec108 133 (by decide +kernel), show c108 134 = c 134 from hec108 134 (by decide +kernel), show i117 2 = jm 2 from hei117 2 (by decide +kernel), show i117 5 = jm 5 from hei117 5 (by decide +kernel), show i117 64 = jm 64 from hei117 64 (by decide +kernel), show i117 8 = jm 8 from hei117 8 (by decide +kernel), show c117 4 = em 4 from hec117 4 (by decide +kernel), show c117 3 = em 3 from hec117 3 (by decide +kernel), show c117 6 = em 6 from hec117 6 (by decide +kernel), show c117 9 = em 9 from hec117 9 (by decide +kernel), show c117 10 = em 10 from hec117 10 (by decide +kernel), show c117 11 = em 11 from hec117 11 (by decide +kernel), show c117 12 = em 12 from hec117 12 (by decide +kernel), show c117 13 = em 13 from hec117 13 (by decide +kernel)]; exact ⟨hR, hPA, hKO, hSO, hSN, hDR, hRD⟩)⟩ hP hD hS (lv_sub hl [0, 1, 2, 3] rfl)
  · have f107 := mt (ti_eq (a := x106.toInt) (b := 0) rfl (by decide +kernel)).mpr c107
    refine lv_iconst (v := 1) hx hb dL_law_762 (by decide +kernel) ?_
    refine lv_goto (tgt := 767) hx hb dL_law_763 (by decide +kernel) ?_
    refine lc_i (wr := (Z ++ mW o am tm jm qm em dm)) (va_runV (As := [.int x102, .int x104, .int 1]) (rest := []) ⟨hx, hb, hml, hown, hts⟩ (x_X11_toward_e l D H.size sk a t i q c d x102 x104 (1 : Int32) hI (by rw [hPA]; exact PD_m hM) (DoN_of hRD (SB_of hM0 hSN hRR hs_S hR.2.1))) (cwV 3 hts gm_law_X11_toward_e_87 rfl rfl rfl (by decide +kernel) ⟨Nat.le_of_ble_eq_true rfl, Nat.le_of_ble_eq_true rfl⟩) (yB_V hN (xZ_k hZ hS hA) (xZ_n hZ (vD_l hD)) hKT (vP_l hP) (vD_l hD) (ci := 11) (q0 := 0) rfl rfl) rfl rfl hl.1 rfl (lv_room (Nat.le_of_ble_eq_true rfl)) dL_law_767 hcs) hS hA hP hD (fun r118 u118 H locs hw118 _ hP hD hS => ?_)
    obtain ⟨i118, q118, c118, d118⟩ := u118
    have hw118 : True ∧ xInv i118 c118 ∧ (∀ k, k ∉ ([102] : List Nat) → i118 k = i k) ∧ (∀ k, k ∉ ([101, 135, 136, 137] : List Nat) → c118 k = c k) ∧ (WyR (i 111).toInt x102.toInt x104.toInt (c 106 (c 108 x102.toInt.toNat).toNatClampNeg).toInt (c 106 (c 108 x104.toInt.toNat).toNatClampNeg).toInt r118.toInt (fun z9 => z9 = bfF (gX (c 129) (c 130) 1 (fun t9 : Int => sgX (c 120) (c 116) t9 0 (sfV (c 105) (c 108) (c 107) (c 106 (c 108 t9.toNat).toNatClampNeg).toInt 0 t9))) x102.toInt 300 x104.toInt)) := hw118
    obtain ⟨hw118, hI, hei118, hec118, hxp118_0⟩ := hw118
    have hP : va_P D vwCl (xwT sk a t i118 q118 c118 d118 ++ (Z ++ mW o am tm jm qm em dm)) H := hP
    have hD : va_D (fun q : Nat => s.heap.size ≤ q) (xwT sk a t i118 q118 c118 d118 ++ (Z ++ mW o am tm jm qm em dm)) := hD
    refine lv_aload_n hx hb dL_law_770 rfl (lv_at hl 1 rfl) ?_
    refine lv_aload_n hx hb dL_law_771 rfl (lv_at hl 3 rfl) ?_
    refine lv_iload_n hx hb dL_law_772 rfl (lv_at hl 0 rfl) ?_
    refine lv_iconst (v := 1) hx hb dL_law_773 (by decide +kernel) ?_
    refine lv_iadd hx hb dL_law_774 ?_
    refine lv_topi (fun x119 ex119 => ?_)
    have tx119 := ti_add (a := x3.toInt) (b := 1) ex119 rfl (by decide +kernel) (by omega) (by omega)
    refine va_sld hx hb hX hbl hbA hS (vp_in_iff.mpr (by have h9 : x119.toInt = (x3.toInt + 1) := tx119; omega)) dL_law_775 ?_
    refine lv_topi (fun x120 ex120 => ?_)
    refine lv_aload_n hx hb dL_law_776 rfl (lv_at hl 3 rfl) ?_
    refine lv_iload_n hx hb dL_law_777 rfl (lv_at hl 0 rfl) ?_
    refine lv_iconst (v := 2) hx hb dL_law_778 (by decide +kernel) ?_
    refine lv_iadd hx hb dL_law_779 ?_
    refine lv_topi (fun x121 ex121 => ?_)
    have tx121 := ti_add (a := x3.toInt) (b := 2) ex121 rfl (by decide +kernel) (by omega) (by omega)
    refine va_sld hx hb hX hbl hbA hS (vp_in_iff.mpr (by have h9 : x121.toInt = (x3.toInt + 2) := tx121; omega)) dL_law_780 ?_
    refine lv_topi (fun x122 ex122 => ?_)
    refine lv_aload_n hx hb dL_law_781 rfl (lv_at hl 3 rfl) ?_
    refine lv_iload_n hx hb dL_law_782 rfl (lv_at hl 0 rfl) ?_
    refine lv_iconst (v := 3) hx hb dL_law_783 (by decide +kernel) ?_
    refine lv_iadd hx hb dL_law_784 ?_
    refine lv_topi (fun x123 ex123 => ?_)
    have tx123 := ti_add (a := x3.toInt) (b := 3) ex123 rfl (by decide +kernel) (by omega) (by omega)
    refine va_sld hx hb hX hbl hbA hS (vp_in_iff.mpr (by have h9 : x123.toInt = (x3.toInt + 3) := tx123; omega)) dL_law_785 ?_
    refine lv_topi (fun x124 ex124 => ?_)
    refine lv_if_eq (tgt := 793) hx hb dL_law_786 (by decide +kernel) (fun c125 => ?_) (fun c125 => ?_)
    · have f125 := (ti_eq (a := x124.toInt) (b := 0) rfl (by decide +kernel)).mp c125
      refine lv_iconst (v := 0) hx hb dL_law_793 (by decide +kernel) ?_
      have hP : va_P D vwCl ((xwT sk a t i118 q118 c118 d118 ++ Z) ++ mW o am tm jm qm em dm) H := by rw [List.append_assoc]; exact hP
      have hD : va_D (fun q : Nat => s.heap.size ≤ q) ((xwT sk a t i118 q118 c118 d118 ++ Z) ++ mW o am tm jm qm em dm) := by rw [List.append_assoc]; exact hD
      refine rc_i (wr := (xwT sk a t i118 q118 c118 d118 ++ Z)) (va_runV (As := [.int x120, .int x122, .int 0]) (rest := [.int r118]) ⟨hx, hb, hml, hown, hts⟩ (s_X12_toward_e l D H.size o am tm jm qm em dm x120 x122 (0 : Int32) hM hs_S) (cwV 3 hts gm_law_X12_toward_90 rfl rfl rfl (by decide +kernel) ⟨Nat.le_of_ble_eq_true rfl, Nat.le_of_ble_eq_true rfl⟩) (pB_V hKM (vP_r hP) (vD_r hD) (ci := 12) (q0 := 0) rfl rfl) rfl rfl hl.1 rfl (lv_room (Nat.le_of_ble_eq_true rfl)) dL_law_794 hcs) hS hA hP hD (fun r126 u126 H locs hw126 hP hD hS => ?_)
      obtain ⟨i126, q126, c126, d126⟩ := u126
      have hw126 : True ∧ mInv i126 c126 ∧ (∀ k, k ∉ ([0, 16, 17, 18, 19] : List Nat) → i126 k = jm k) ∧ (∀ k, k ∉ ([1, 20, 21] : List Nat) → c126 k = em k) ∧ (WyR (jm 5).toInt x120.toInt x122.toInt (kS (em 3) (em 6) x120.toInt) (kS (em 3) (em 6) x122.toInt) r126.toInt (fun z9 => TdM (wM (em 3) (em 6) (em 9) (em 10) (em 11) (em 12) (em 13) (jm 8).toInt 0 (fun t9 : Int => sgM (em 9) (em 10) (em 11) (em 12) (em 13) (jm 8).toInt t9 0 (sfV (em 3) (em 6) (em 4) (kS (em 3) (em 6) t9) 0 t9))) x120.toInt x122.toInt 300 z9)) := hw126
      obtain ⟨hw126, hM, hei126, hec126, hxp126_0⟩ := hw126
      have hP : va_P D vwCl (xwT sk a t i118 q118 c118 d118 ++ (Z ++ mW o am tm i126 q126 c126 d126)) H := by rw [← List.append_assoc]; exact hP
      have hD : va_D (fun q : Nat => s.heap.size ≤ q) (xwT sk a t i118 q118 c118 d118 ++ (Z ++ mW o am tm i126 q126 c126 d126)) := by rw [← List.append_assoc]; exact hD
      have hag0 : x120.toInt = x102.toInt := congrArg Int32.toInt (by rw [ex120, ex119, ex102, ex101])
      have hag1 : x122.toInt = x104.toInt := congrArg Int32.toInt (by rw [ex122, ex121, ex104, ex103])
      refine lv_icmp_eq (tgt := 1461) hx hb dL_law_797 (by decide +kernel) (fun _ => ?_) (fun q9 => absurd ((by exfalso; have h9 : x124.toInt = x106.toInt := congrArg Int32.toInt (by rw [ex124, ex123, ex106, ex105]); omega)) q9)
      exact kk i118 q118 c118 d118 i126 q126 c126 d126 _ _ _ ⟨hI, (by rw [show c118 113 = c 113 from hec118 113 (by decide +kernel), show c118 115 = c 115 from hec118 115 (by decide +kernel)]; exact hs_F), (by rw [show i118 146 = i 146 from hei118 146 (by decide +kernel), show i118 147 = i 147 from hei118 147 (by decide +kernel), show i118 148 = i 148 from hei118 148 (by decide +kernel), show i118 156 = i 156 from hei118 156 (by decide +kernel), show c118 144 = c 144 from hec118 144 (by decide +kernel), show c118 145 = c 145 from hec118 145 (by decide +kernel), show c118 150 = c 150 from hec118 150 (by decide +kernel)]; exact hs_P), (by rw [show i118 141 = i 141 from hei118 141 (by decide +kernel)]; exact htr), hM, (by rw [show c126 3 = em 3 from hec126 3 (by decide +kernel), show c126 6 = em 6 from hec126 6 (by decide +kernel), show c126 9 = em 9 from hec126 9 (by decide +kernel), show c126 10 = em 10 from hec126 10 (by decide +kernel), show c126 11 = em 11 from hec126 11 (by decide +kernel), show c126 13 = em 13 from hec126 13 (by decide +kernel), show i126 2 = jm 2 from hei126 2 (by decide +kernel), show i126 5 = jm 5 from hei126 5 (by decide +kernel), show i126 8 = jm 8 from hei126 8 (by decide +kernel)]; exact hs_S), (by rw [show c126 3 = em 3 from hec126 3 (by decide +kernel), show c126 6 = em 6 from hec126 6 (by decide +kernel), show c126 23 = em 23 from hec126 23 (by decide +kernel), show c126 24 = em 24 from hec126 24 (by decide +kernel), show c126 29 = em 29 from hec126 29 (by decide +kernel), show c126 30 = em 30 from hec126 30 (by decide +kernel), show i126 5 = jm 5 from hei126 5 (by decide +kernel), show i126 22 = jm 22 from hei126 22 (by decide +kernel), show i126 27 = jm 27 from hei126 27 (by decide +kernel)]; exact hs_J), (by rw [show i118 110 = i 110 from hei118 110 (by decide +kernel), show i118 111 = i 111 from hei118 111 (by decide +kernel), show i118 165 = i 165 from hei118 165 (by decide +kernel), show i118 124 = i 124 from hei118 124 (by decide +kernel), show c118 107 = c 107 from hec118 107 (by decide +kernel), show c118 105 = c 105 from hec118 105 (by decide +kernel), show c118 108 = c 108 from hec118 108 (by decide +kernel), show c118 106 = c 106 from hec118 106 (by decide +kernel), show c118 113 = c 113 from hec118 113 (by decide +kernel), show c118 114 = c 114 from hec118 114 (by decide +kernel), show c118 115 = c 115 from hec118 115 (by decide +kernel), show c118 116 = c 116 from hec118 116 (by decide +kernel), show c118 117 = c 117 from hec118 117 (by decide +kernel), show c118 118 = c 118 from hec118 118 (by decide +kernel), show c118 119 = c 119 from hec118 119 (by decide +kernel), show c118 120 = c 120 from hec118 120 (by decide +kernel), show c118 121 = c 121 from hec118 121 (by decide +kernel), show c118 127 = c 127 from hec118 127 (by decide +kernel), show c118 129 = c 129 from hec118 129 (by decide +kernel), show c118 130 = c 130 from hec118 130 (by decide +kernel), show c118 131 = c 131 from hec118 131 (by decide +kernel), show c118 132 = c 132 from hec118 132 (by decide +kernel), show c118 133 = c 133 from hec118 133 (by decide +kernel), show c118 134 = c 134 from hec118 134 (by decide +kernel), show i126 2 = jm 2 from hei126 2 (by decide +kernel), show i126 5 = jm 5 from hei126 5 (by decide +kernel), show i126 64 = jm 64 from hei126 64 (by decide +kernel), show i126 8 = jm 8 from hei126 8 (by decide +kernel), show c126 4 = em 4 from hec126 4 (by decide +kernel), show c126 3 = em 3 from hec126 3 (by decide +kernel), show c126 6 = em 6 from hec126 6 (by decide +kernel), show c126 9 = em 9 from hec126 9 (by decide +kernel), show c126 10 = em 10 from hec126 10 (by decide +kernel), show c126 11 = em 11 from hec126 11 (by decide +kernel), show c126 12 = em 12 from hec126 12 (by decide +kernel), show c126 13 = em 13 from hec126 13 (by decide +kernel)]; exact ⟨hR, hPA, hKO, hSO, hSN, hDR, hRD⟩)⟩ hP hD hS (lv_sub hl [0, 1, 2, 3] rfl)
    · have f125 := mt (ti_eq (a := x124.toInt) (b := 0) rfl (by decide +kernel)).mpr c125
      refine lv_iconst (v := 1) hx hb dL_law_789 (by decide +kernel) ?_
      refine lv_goto (tgt := 794) hx hb dL_law_790 (by decide +kernel) ?_
      have hP : va_P D vwCl ((xwT sk a t i118 q118 c118 d118 ++ Z) ++ mW o am tm jm qm em dm) H := by rw [List.append_assoc]; exact hP
      have hD : va_D (fun q : Nat => s.heap.size ≤ q) ((xwT sk a t i118 q118 c118 d118 ++ Z) ++ mW o am tm jm qm em dm) := by rw [List.append_assoc]; exact hD
      refine rc_i (wr := (xwT sk a t i118 q118 c118 d118 ++ Z)) (va_runV (As := [.int x120, .int x122, .int 1]) (rest := [.int r118]) ⟨hx, hb, hml, hown, hts⟩ (s_X12_toward_e l D H.size o am tm jm qm em dm x120 x122 (1 : Int32) hM hs_S) (cwV 3 hts gm_law_X12_toward_90 rfl rfl rfl (by decide +kernel) ⟨Nat.le_of_ble_eq_true rfl, Nat.le_of_ble_eq_true rfl⟩) (pB_V hKM (vP_r hP) (vD_r hD) (ci := 12) (q0 := 0) rfl rfl) rfl rfl hl.1 rfl (lv_room (Nat.le_of_ble_eq_true rfl)) dL_law_794 hcs) hS hA hP hD (fun r127 u127 H locs hw127 hP hD hS => ?_)
      obtain ⟨i127, q127, c127, d127⟩ := u127
      have hw127 : True ∧ mInv i127 c127 ∧ (∀ k, k ∉ ([0, 16, 17, 18, 19] : List Nat) → i127 k = jm k) ∧ (∀ k, k ∉ ([1, 20, 21] : List Nat) → c127 k = em k) ∧ (WyR (jm 5).toInt x120.toInt x122.toInt (kS (em 3) (em 6) x120.toInt) (kS (em 3) (em 6) x122.toInt) r127.toInt (fun z9 => TdM (wM (em 3) (em 6) (em 9) (em 10) (em 11) (em 12) (em 13) (jm 8).toInt 1 (fun t9 : Int => sgM (em 9) (em 10) (em 11) (em 12) (em 13) (jm 8).toInt t9 0 (sfV (em 3) (em 6) (em 4) (kS (em 3) (em 6) t9) 0 t9))) x120.toInt x122.toInt 300 z9)) := hw127
      obtain ⟨hw127, hM, hei127, hec127, hxp127_0⟩ := hw127
      have hP : va_P D vwCl (xwT sk a t i118 q118 c118 d118 ++ (Z ++ mW o am tm i127 q127 c127 d127)) H := by rw [← List.append_assoc]; exact hP
      have hD : va_D (fun q : Nat => s.heap.size ≤ q) (xwT sk a t i118 q118 c118 d118 ++ (Z ++ mW o am tm i127 q127 c127 d127)) := by rw [← List.append_assoc]; exact hD
      have hag0 : x120.toInt = x102.toInt := congrArg Int32.toInt (by rw [ex120, ex119, ex102, ex101])
      have hag1 : x122.toInt = x104.toInt := congrArg Int32.toInt (by rw [ex122, ex121, ex104, ex103])
      refine lv_icmp_eq (tgt := 1461) hx hb dL_law_797 (by decide +kernel) (fun _ => ?_) (fun q9 => absurd (Wy_e hR.2.1 hag0 hag1 (fun hw9 => by rw [hag0]; exact xS_e (kn := i 110) (N := (jm 5).toInt) hSO hPA hKO (fun j hj => by have h9 := hs_S.1 j hj; have h8 := hR.1; omega) (fun j => (show 0 ≤ (em 6 j).toInt ∧ (em 6 j).toInt ≤ 23 from hM0.2 6 j).1) (by have h8 := hR.2.1; omega) (show 0 ≤ (c 106 _).toInt ∧ (c 106 _).toInt ≤ 5 from hI0.2 106 _)) (fun hw9 => by rw [hag1]; exact xS_e (kn := i 110) (N := (jm 5).toInt) hSO hPA hKO (fun j hj => by have h9 := hs_S.1 j hj; have h8 := hR.1; omega) (fun j => (show 0 ≤ (em 6 j).toInt ∧ (em 6 j).toInt ≤ 23 from hM0.2 6 j).1) (by have h8 := hR.2.1; omega) (show 0 ≤ (c 106 _).toInt ∧ (c 106 _).toInt ≤ 5 from hI0.2 106 _)) hxp118_0 hxp127_0 (fun ha9 hb9 hs9 ht9 _ _ p1 p2 => Td_b (R := (fun t9 => 0 ≤ t9 ∧ t9 < (jm 5).toInt ∧ kS (em 3) (em 6) t9 = 0)) rfl hag0 hag1 (by first | rfl | rw [show (1 : Int) = (1 : Int) from hag2]) ⟨by omega, by have q8 := hR.2.1; omega, by rw [← xS_e (kn := i 110) (N := (jm 5).toInt) hSO hPA hKO (fun j hj => by have h9 := hs_S.1 j hj; have h8 := hR.1; omega) (fun j => (show 0 ≤ (em 6 j).toInt ∧ (em 6 j).toInt ≤ 23 from hM0.2 6 j).1) (by have h7 := hR.2.1; omega) (show 0 ≤ (c 106 _).toInt ∧ (c 106 _).toInt ≤ 5 from hI0.2 106 _)]; exact hs9⟩ (fun r9 hr9 => ⟨hr9.1, by have q7 := hr9.2.1; have q6 : 0 ≤ (i 111).toInt ∧ (i 111).toInt ≤ 30 := hI0.1 111; have q5 := hR.2.1; omega⟩) (fun r9 hr9 d9 hd9 => Wg_e (o := (1 : Int)) (sv := fun t9 : Int => sgX (c 120) (c 116) t9 0 (sfV (c 105) (c 108) (c 107) (c 106 (c 108 t9.toNat).toNatClampNeg).toInt 0 t9)) (sv2 := fun t9 : Int => sgM (em 9) (em 10) (em 11) (em 12) (em 13) (jm 8).toInt t9 0 (sfV (em 3) (em 6) (em 4) (kS (em 3) (em 6) t9) 0 t9)) (bw := c 131) (im := c 132) hM0 hs_S (by have q9 := RD_fe (r := r9) (d := (d9 : Int)) hRD hSN.2.2.2.2.2.2 hRR hDR (fun t9 h9 h8 => by rw [zX_e ⟨h9, h8⟩]; exact xS_e (kn := i 110) (N := (jm 5).toInt) hSO hPA hKO (fun j hj => by have h9 := hs_S.1 j hj; have h8 := hR.1; omega) (fun j => (show 0 ≤ (em 6 j).toInt ∧ (em 6 j).toInt ≤ 23 from hM0.2 6 j).1) (by have h7 := hR.2.1; omega) (show 0 ≤ (c 106 _).toInt ∧ (c 106 _).toInt ≤ 5 from hI0.2 106 _)) (fun s9 h9 h8 => by have q9 := hB_of hM0 hs_S s9 (by have q8 := hSN.2.2.2.2.2.1; omega) (by rw [← hSN.1]; exact h8); rw [← hSN.2.2.1, ← hR.2.1] at q9; exact q9) (by have h9 : 0 ≤ (i 111).toInt ∧ (i 111).toInt ≤ 30 := hI0.1 111; omega) (by have q8 := hR.2.1; have q7 := hr9.1; have q6 := hr9.2.1; omega) hr9.2.2 (by omega); rw [hSN.1, hSN.2.1, hSN.2.2.1, hSN.2.2.2.1, hSN.2.2.2.2.1, hSN.2.2.2.2.2.1] at q9; exact q9) (fun t9 h9 h8 => by have q1 := Sg_e (v := sfV (em 3) (em 6) (em 4) (kS (em 3) (em 6) t9) 0 t9) hSN.2.2.2.2.2.2 hRR (o := t9) (f := 0) (by have q2 := hR.2.1; have q3 : 0 ≤ (i 111).toInt ∧ (i 111).toInt ≤ 30 := hI0.1 111; omega) (by omega) sgX_i sgM_i; rw [hSN.1, hSN.2.1, hSN.2.2.1, hSN.2.2.2.1, hSN.2.2.2.2.1, hSN.2.2.2.2.2.1] at q1; rw [← q1, xS_e (kn := i 110) (N := (jm 5).toInt) hSO hPA hKO (fun j hj => by have h9 := hs_S.1 j hj; have h8 := hR.1; omega) (fun j => (show 0 ≤ (em 6 j).toInt ∧ (em 6 j).toInt ≤ 23 from hM0.2 6 j).1) (o := t9) ⟨h9, h8⟩ (show 0 ≤ (c 106 _).toInt ∧ (c 106 _).toInt ≤ 5 from hI0.2 106 _), show sfV (c 105) (c 108) (c 107) (kS (em 3) (em 6) t9) 0 t9 = sfV (em 3) (em 6) (em 4) (kS (em 3) (em 6) t9) 0 t9 from by unfold sfV; rw [stL_c (by omega) hR.2.2.2, hPA, hKO], hSN.2.2.2.1])) p1 p2)) q9)
      exact kk i118 q118 c118 d118 i127 q127 c127 d127 _ _ _ ⟨hI, (by rw [show c118 113 = c 113 from hec118 113 (by decide +kernel), show c118 115 = c 115 from hec118 115 (by decide +kernel)]; exact hs_F), (by rw [show i118 146 = i 146 from hei118 146 (by decide +kernel), show i118 147 = i 147 from hei118 147 (by decide +kernel), show i118 148 = i 148 from hei118 148 (by decide +kernel), show i118 156 = i 156 from hei118 156 (by decide +kernel), show c118 144 = c 144 from hec118 144 (by decide +kernel), show c118 145 = c 145 from hec118 145 (by decide +kernel), show c118 150 = c 150 from hec118 150 (by decide +kernel)]; exact hs_P), (by rw [show i118 141 = i 141 from hei118 141 (by decide +kernel)]; exact htr), hM, (by rw [show c127 3 = em 3 from hec127 3 (by decide +kernel), show c127 6 = em 6 from hec127 6 (by decide +kernel), show c127 9 = em 9 from hec127 9 (by decide +kernel), show c127 10 = em 10 from hec127 10 (by decide +kernel), show c127 11 = em 11 from hec127 11 (by decide +kernel), show c127 13 = em 13 from hec127 13 (by decide +kernel), show i127 2 = jm 2 from hei127 2 (by decide +kernel), show i127 5 = jm 5 from hei127 5 (by decide +kernel), show i127 8 = jm 8 from hei127 8 (by decide +kernel)]; exact hs_S), (by rw [show c127 3 = em 3 from hec127 3 (by decide +kernel), show c127 6 = em 6 from hec127 6 (by decide +kernel), show c127 23 = em 23 from hec127 23 (by decide +kernel), show c127 24 = em 24 from hec127 24 (by decide +kernel), show c127 29 = em 29 from hec127 29 (by decide +kernel), show c127 30 = em 30 from hec127 30 (by decide +kernel), show i127 5 = jm 5 from hei127 5 (by decide +kernel), show i127 22 = jm 22 from hei127 22 (by decide +kernel), show i127 27 = jm 27 from hei127 27 (by decide +kernel)]; exact hs_J), (by rw [show i118 110 = i 110 from hei118 110 (by decide +kernel), show i118 111 = i 111 from hei118 111 (by decide +kernel), show i118 165 = i 165 from hei118 165 (by decide +kernel), show i118 124 = i 124 from hei118 124 (by decide +kernel), show c118 107 = c 107 from hec118 107 (by decide +kernel), show c118 105 = c 105 from hec118 105 (by decide +kernel), show c118 108 = c 108 from hec118 108 (by decide +kernel), show c118 106 = c 106 from hec118 106 (by decide +kernel), show c118 113 = c 113 from hec118 113 (by decide +kernel), show c118 114 = c 114 from hec118 114 (by decide +kernel), show c118 115 = c 115 from hec118 115 (by decide +kernel), show c118 116 = c 116 from hec118 116 (by decide +kernel), show c118 117 = c 117 from hec118 117 (by decide +kernel), show c118 118 = c 118 from hec118 118 (by decide +kernel), show c118 119 = c 119 from hec118 119 (by decide +kernel), show c118 120 = c 120 from hec118 120 (by decide +kernel), show c118 121 = c 121 from hec118 121 (by decide +kernel), show c118 127 = c 127 from hec118 127 (by decide +kernel), show c118 129 = c 129 from hec118 129 (by decide +kernel), show c118 130 = c 130 from hec118 130 (by decide +kernel), show c118 131 = c 131 from hec118 131 (by decide +kernel), show c118 132 = c 132 from hec118 132 (by decide +kernel), show c118 133 = c 133 from hec118 133 (by decide +kernel), show c118 134 = c 134 from hec118 134 (by decide +kernel), show i127 2 = jm 2 from hei127 2 (by decide +kernel), show i127 5 = jm 5 from hei127 5 (by decide +kernel), show i127 64 = jm 64 from hei127 64 (by decide +kernel), show i127 8 = jm 8 from hei127 8 (by decide +kernel), show c127 4 = em 4 from hec127 4 (by decide +kernel), show c127 3 = em 3 from hec127 3 (by decide +kernel), show c127 6 = em 6 from hec127 6 (by decide +kernel), show c127 9 = em 9 from hec127 9 (by decide +kernel), show c127 10 = em 10 from hec127 10 (by decide +kernel), show c127 11 = em 11 from hec127 11 (by decide +kernel), show c127 12 = em 12 from hec127 12 (by decide +kernel), show c127 13 = em 13 from hec127 13 (by decide +kernel)]; exact ⟨hR, hPA, hKO, hSO, hSN, hDR, hRD⟩)⟩ hP hD hS (lv_sub hl [0, 1, 2, 3] rfl)

