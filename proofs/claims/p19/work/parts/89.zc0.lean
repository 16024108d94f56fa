set_option maxHeartbeats 4000000 in
set_option maxRecDepth 100000 in
theorem law_kind {p : Program} {l : Launch} {e : Env} {s : State} {m : MethodId} {below : List Frame} {meth : Method} {cd : Code} {b L : Nat} {xs : Nat → Int32} {D : va_G} {a : Nat → Nat} {t : Nat → ClassId} {o : Nat} {am : Nat → Nat} {tm : Nat → ClassId} {x3 : Int32} {cells slots : Nat} {sk : Value} {Z : va_W} (hx : p.tables.exec = Jvm.exec) (hb : cd.code = cL_law) (hml : cd.maxLocals = 4) (hown : s.vm.findClass RL = some m.cls) (hts : ∀ w ∈ wm_law, w.before #[Value.ref b] s = true) (hX : va_X b L xs s s.heap) (hbl : b < s.heap.size) (hL : L ≤ 3584) (hN : xN s) (hZ : xZ (a 186) s s.heap) (hKT : va_K D vwCl (xtT t) s) (hKM : va_K D vwCl (mT tm) s) (hcs : cells ≤ 600000 ∧ slots ≤ 7302249) (hx3 : 0 ≤ x3.toInt ∧ x3.toInt + 7 ≤ (L : Int)) (kk : LK p l e s m below meth cd b D sk a t Z o am tm x3 cells slots) (i : Nat → Int32) (q : Int64) (c : Nat → Nat → Int32) (d : Nat → Nat → Int64) (jm : Nat → Int32) (qm : Int64) (em : Nat → Nat → Int32) (dm : Nat → Nat → Int64) (H : Heap) (locs : List Loc) (ls : Array Slot) (hLI : LI i c jm em) (hP : va_P D vwCl (xwT sk a t i q c d ++ (Z ++ mW o am tm jm qm em dm)) H) (hD : va_D (fun q : Nat => s.heap.size ≤ q) (xwT sk a t i q c d ++ (Z ++ mW o am tm jm qm em dm))) (hS : va_S (fun q : Nat => s.heap.size ≤ q) s.heap H locs) (hl : lv_has ls 4 [(3, .int x3), (2, .ref o), (1, .ref (a 100)), (0, .ref b)]) : W p l e room_1 s m #[Value.ref b] below meth cd H locs cells slots (lw_Z below #[Value.ref b] s) (F0 m 196 ls []) := by
  have hbA : ¬ (fun q : Nat => s.heap.size ≤ q) b := Nat.not_le.mpr hbl
  have hA : ∀ q : Nat, s.heap.size ≤ q → (fun q : Nat => s.heap.size ≤ q) q := fun _ h => h
  obtain ⟨hI, hs_F, hs_P, htr, hM, hs_S, hs_J, hR⟩ := hLI
  have hI0 := hI
  have hM0 := hM
  obtain ⟨hR, hPA, hKO, hSO, hSN, hDR, hRD⟩ := hR
  have hRR := RR_of hI0 hs_F
  refine lv_aload_n hx hb dL_law_196 rfl (lv_at hl 2 rfl) ?_
  refine lv_aload_n hx hb dL_law_197 rfl (lv_at hl 3 rfl) ?_
  refine lv_iload_n hx hb dL_law_198 rfl (lv_at hl 0 rfl) ?_
  refine lv_iconst (v := 1) hx hb dL_law_199 (by decide +kernel) ?_
  refine lv_iadd hx hb dL_law_200 ?_
  refine lv_topi (fun x101 ex101 => ?_)
  have tx101 := ti_add (a := x3.toInt) (b := 1) ex101 rfl (by decide +kernel) (by omega) (by omega)
  refine va_sld hx hb hX hbl hbA hS (vp_in_iff.mpr (by have h9 : x101.toInt = (x3.toInt + 1) := tx101; omega)) dL_law_201 ?_
  refine lv_topi (fun x102 ex102 => ?_)
  refine lc_i (wr := (Z ++ mW o am tm jm qm em dm)) (va_runV (As := [.int x102]) (rest := []) ⟨hx, hb, hml, hown, hts⟩ (x_X11_kind_e l D H.size sk a t i q c d x102 hI ) (cwV 1 hts gm_law_X11_kind_e_13 rfl rfl rfl (by decide +kernel) ⟨Nat.le_of_ble_eq_true rfl, Nat.le_of_ble_eq_true rfl⟩) (yB_V hN (xZ_k hZ hS hA) (xZ_n hZ (vD_l hD)) hKT (vP_l hP) (vD_l hD) (ci := 11) (q0 := 0) rfl rfl) rfl rfl hl.1 rfl (lv_room (Nat.le_of_ble_eq_true rfl)) dL_law_202 hcs) hS hA hP hD (fun r103 u103 H locs hw103 _ hP hD hS => ?_)
  obtain ⟨i103, q103, c103, d103⟩ := u103
  have hw103 : True ∧ xInv i103 c103 ∧ (∀ k, k ∉ ([110] : List Nat) → i103 k = i k) ∧ (∀ k, k ∉ ([105, 106] : List Nat) → c103 k = c k) ∧ ((¬ (0 ≤ x102.toInt ∧ x102.toInt < (i 110).toInt) ∧ r103.toInt = -1 ∧ (i103 110).toInt = (i 110).toInt) ∨ (0 ≤ x102.toInt ∧ x102.toInt < (i 110).toInt ∧ 24 ≤ (i 110).toInt ∧ r103.toInt = -2 ∧ (i103 110).toInt = (i 110).toInt) ∨ (0 ≤ x102.toInt ∧ x102.toInt < (i 110).toInt ∧ (i 110).toInt ≤ 23 ∧ r103.toInt = (i 110).toInt ∧ (i103 110).toInt = (i 110).toInt + 1)) ∧ (KU (c 105) (c103 105) x102 (i 110)) ∧ (KS (c 106) (c103 106) x102 (i 110)) := hw103
  obtain ⟨hw103, hI, hei103, hec103, hxp103_0, hxp103_1, hxp103_2⟩ := hw103
  have hP : va_P D vwCl (xwT sk a t i103 q103 c103 d103 ++ (Z ++ mW o am tm jm qm em dm)) H := hP
  have hD : va_D (fun q : Nat => s.heap.size ≤ q) (xwT sk a t i103 q103 c103 d103 ++ (Z ++ mW o am tm jm qm em dm)) := hD
  refine lv_pop hx hb dL_law_205 rfl ?_
  refine lv_aload_n hx hb dL_law_206 rfl (lv_at hl 1 rfl) ?_
  refine lv_aload_n hx hb dL_law_207 rfl (lv_at hl 3 rfl) ?_
  refine lv_iload_n hx hb dL_law_208 rfl (lv_at hl 0 rfl) ?_
  refine lv_iconst (v := 1) hx hb dL_law_209 (by decide +kernel) ?_
  refine lv_iadd hx hb dL_law_210 ?_
  refine lv_topi (fun x104 ex104 => ?_)
  have tx104 := ti_add (a := x3.toInt) (b := 1) ex104 rfl (by decide +kernel) (by omega) (by omega)
  refine va_sld hx hb hX hbl hbA hS (vp_in_iff.mpr (by have h9 : x104.toInt = (x3.toInt + 1) := tx104; omega)) dL_law_211 ?_
  refine lv_topi (fun x105 ex105 => ?_)
  have hP : va_P D vwCl ((xwT sk a t i103 q103 c103 d103 ++ Z) ++ mW o am tm jm qm em dm) H := by rw [List.append_assoc]; exact hP
  have hD : va_D (fun q : Nat => s.heap.size ≤ q) ((xwT sk a t i103 q103 c103 d103 ++ Z) ++ mW o am tm jm qm em dm) := by rw [List.append_assoc]; exact hD
  refine rc_i (wr := (xwT sk a t i103 q103 c103 d103 ++ Z)) (va_runV (As := [.int x105]) (rest := []) ⟨hx, hb, hml, hown, hts⟩ (s_X12_kind_e l D H.size o am tm jm qm em dm x105 hM hs_S hs_J) (cwV 1 hts gm_law_X12_kind_17 rfl rfl rfl (by decide +kernel) ⟨Nat.le_of_ble_eq_true rfl, Nat.le_of_ble_eq_true rfl⟩) (pB_V hKM (vP_r hP) (vD_r hD) (ci := 12) (q0 := 0) rfl rfl) rfl rfl hl.1 rfl (lv_room (Nat.le_of_ble_eq_true rfl)) dL_law_212 hcs) hS hA hP hD (fun r106 u106 H locs hw106 hP hD hS => ?_)
  obtain ⟨i106, q106, c106, d106⟩ := u106
  have hw106 : True ∧ mInv i106 c106 ∧ (∀ k, k ∉ ([2] : List Nat) → i106 k = jm k) ∧ (∀ k, k ∉ ([3] : List Nat) → c106 k = em k) ∧ (SJ (c106 3) (c106 6) (c106 9) (c106 10) (c106 11) (c106 13) (i106 2).toInt (i106 5).toInt (i106 8).toInt) ∧ (TJ (c106 3) (c106 6) (c106 23) (c106 24) (c106 29) (c106 30) (i106 5).toInt (i106 22).toInt (i106 27).toInt) ∧ ((¬ (0 ≤ x105.toInt ∧ x105.toInt < (jm 2).toInt) ∧ r106.toInt = -1 ∧ (i106 2).toInt = (jm 2).toInt) ∨ (0 ≤ x105.toInt ∧ x105.toInt < (jm 2).toInt ∧ 24 ≤ (jm 2).toInt ∧ r106.toInt = -2 ∧ (i106 2).toInt = (jm 2).toInt) ∨ (0 ≤ x105.toInt ∧ x105.toInt < (jm 2).toInt ∧ (jm 2).toInt ≤ 23 ∧ r106.toInt = (jm 2).toInt ∧ (i106 2).toInt = (jm 2).toInt + 1)) ∧ (KU (em 3) (c106 3) x105 (jm 2)) := hw106
  obtain ⟨hw106, hM, hei106, hec106, hxp106_0, hxp106_1, hxp106_2, hxp106_3⟩ := hw106
  have hP : va_P D vwCl (xwT sk a t i103 q103 c103 d103 ++ (Z ++ mW o am tm i106 q106 c106 d106)) H := by rw [← List.append_assoc]; exact hP
  have hD : va_D (fun q : Nat => s.heap.size ≤ q) (xwT sk a t i103 q103 c103 d103 ++ (Z ++ mW o am tm i106 q106 c106 d106)) := by rw [← List.append_assoc]; exact hD
  have hag0 : x105.toInt = x102.toInt := congrArg Int32.toInt (by rw [ex105, ex104, ex102, ex101])
  refine lv_pop hx hb dL_law_215 rfl ?_
  refine lv_goto (tgt := 1461) hx hb dL_law_216 (by decide +kernel) ?_
  exact kk i103 q103 c103 d103 i106 q106 c106 d106 _ _ _ ⟨hI, (by rw [show c103 113 = c 113 from hec103 113 (by decide +kernel), show c103 115 = c 115 from hec103 115 (by decide +kernel)]; exact hs_F), (by rw [show i103 146 = i 146 from hei103 146 (by decide +kernel), show i103 147 = i 147 from hei103 147 (by decide +kernel), show i103 148 = i 148 from hei103 148 (by decide +kernel), show i103 156 = i 156 from hei103 156 (by decide +kernel), show c103 144 = c 144 from hec103 144 (by decide +kernel), show c103 145 = c 145 from hec103 145 (by decide +kernel), show c103 150 = c 150 from hec103 150 (by decide +kernel)]; exact hs_P), (by rw [show i103 141 = i 141 from hei103 141 (by decide +kernel)]; exact htr), hM, hxp106_0, hxp106_1, (by rw [show i103 111 = i 111 from hei103 111 (by decide +kernel), show i103 165 = i 165 from hei103 165 (by decide +kernel), show i103 124 = i 124 from hei103 124 (by decide +kernel), show c103 107 = c 107 from hec103 107 (by decide +kernel), show c103 108 = c 108 from hec103 108 (by decide +kernel), show c103 113 = c 113 from hec103 113 (by decide +kernel), show c103 114 = c 114 from hec103 114 (by decide +kernel), show c103 115 = c 115 from hec103 115 (by decide +kernel), show c103 116 = c 116 from hec103 116 (by decide +kernel), show c103 117 = c 117 from hec103 117 (by decide +kernel), show c103 118 = c 118 from hec103 118 (by decide +kernel), show c103 119 = c 119 from hec103 119 (by decide +kernel), show c103 120 = c 120 from hec103 120 (by decide +kernel), show c103 121 = c 121 from hec103 121 (by decide +kernel), show c103 127 = c 127 from hec103 127 (by decide +kernel), show c103 129 = c 129 from hec103 129 (by decide +kernel), show c103 130 = c 130 from hec103 130 (by decide +kernel), show c103 131 = c 131 from hec103 131 (by decide +kernel), show c103 132 = c 132 from hec103 132 (by decide +kernel), show c103 133 = c 133 from hec103 133 (by decide +kernel), show c103 134 = c 134 from hec103 134 (by decide +kernel), show i106 5 = jm 5 from hei106 5 (by decide +kernel), show i106 64 = jm 64 from hei106 64 (by decide +kernel), show i106 8 = jm 8 from hei106 8 (by decide +kernel), show c106 4 = em 4 from hec106 4 (by decide +kernel), show c106 6 = em 6 from hec106 6 (by decide +kernel), show c106 9 = em 9 from hec106 9 (by decide +kernel), show c106 10 = em 10 from hec106 10 (by decide +kernel), show c106 11 = em 11 from hec106 11 (by decide +kernel), show c106 12 = em 12 from hec106 12 (by decide +kernel), show c106 13 = em 13 from hec106 13 (by decide +kernel)]; exact ⟨⟨(by have h1 := hxp103_0; have h2 := hxp106_2; have h50 := hag0; have h51 := hR.1; have h52 := hR.2.1; have h53 := hR.2.2.1; omega), hR.2⟩, KU_e hPA hxp103_1 hxp106_3 hag0 hR.1, hKO, SoR_k hSO (by rw [hPA]; exact PD_m hM0) hxp103_1 hxp103_2 (by have h9 : 6 ≤ (i 110).toInt ∧ (i 110).toInt ≤ 24 := hI0.1 110; omega) (by have h1 := hxp103_0; omega), hSN, DR_z hDR (SB_of hM0 hSN hRR hs_S hR.2.1) (zX_k hxp103_2 (by rw [hKO]; exact fun j hj => by have h9 := hs_S.1 j (by have h8 := hR.2.1; omega); have h7 := hR.1; omega) (by rw [hKO]; exact (fun j => (show 0 ≤ (em 6 j).toInt ∧ (em 6 j).toInt ≤ 23 from hM0.2 6 j).1))), RDS_z hRD (SB_of hM0 hSN hRR hs_S hR.2.1) (zX_k hxp103_2 (by rw [hKO]; exact fun j hj => by have h9 := hs_S.1 j (by have h8 := hR.2.1; omega); have h7 := hR.1; omega) (by rw [hKO]; exact (fun j => (show 0 ≤ (em 6 j).toInt ∧ (em 6 j).toInt ≤ 23 from hM0.2 6 j).1)))⟩)⟩ hP hD hS (lv_sub hl [0, 1, 2, 3] rfl)

set_option maxHeartbeats 4000000 in
set_option maxRecDepth 100000 in
theorem law_standard {p : Program} {l : Launch} {e : Env} {s : State} {m : MethodId} {below : List Frame} {meth : Method} {cd : Code} {b L : Nat} {xs : Nat → Int32} {D : va_G} {a : Nat → Nat} {t : Nat → ClassId} {o : Nat} {am : Nat → Nat} {tm : Nat → ClassId} {x3 : Int32} {cells slots : Nat} {sk : Value} {Z : va_W} (hx : p.tables.exec = Jvm.exec) (hb : cd.code = cL_law) (hml : cd.maxLocals = 4) (hown : s.vm.findClass RL = some m.cls) (hts : ∀ w ∈ wm_law, w.before #[Value.ref b] s = true) (hX : va_X b L xs s s.heap) (hbl : b < s.heap.size) (hL : L ≤ 3584) (hN : xN s) (hZ : xZ (a 186) s s.heap) (hKT : va_K D vwCl (xtT t) s) (hKM : va_K D vwCl (mT tm) s) (hcs : cells ≤ 600000 ∧ slots ≤ 7302249) (hx3 : 0 ≤ x3.toInt ∧ x3.toInt + 7 ≤ (L : Int)) (kk : LK p l e s m below meth cd b D sk a t Z o am tm x3 cells slots) (i : Nat → Int32) (q : Int64) (c : Nat → Nat → Int32) (d : Nat → Nat → Int64) (jm : Nat → Int32) (qm : Int64) (em : Nat → Nat → Int32) (dm : Nat → Nat → Int64) (H : Heap) (locs : List Loc) (ls : Array Slot) (hLI : LI i c jm em) (hP : va_P D vwCl (xwT sk a t i q c d ++ (Z ++ mW o am tm jm qm em dm)) H) (hD : va_D (fun q : Nat => s.heap.size ≤ q) (xwT sk a t i q c d ++ (Z ++ mW o am tm jm qm em dm))) (hS : va_S (fun q : Nat => s.heap.size ≤ q) s.heap H locs) (hl : lv_has ls 4 [(3, .int x3), (2, .ref o), (1, .ref (a 100)), (0, .ref b)]) : W p l e room_1 s m #[Value.ref b] below meth cd H locs cells slots (lw_Z below #[Value.ref b] s) (F0 m 219 ls []) := by
  have hbA : ¬ (fun q : Nat => s.heap.size ≤ q) b := Nat.not_le.mpr hbl
  have hA : ∀ q : Nat, s.heap.size ≤ q → (fun q : Nat => s.heap.size ≤ q) q := fun _ h => h
  obtain ⟨hI, hs_F, hs_P, htr, hM, hs_S, hs_J, hR⟩ := hLI
  have hI0 := hI
  have hM0 := hM
  obtain ⟨hR, hPA, hKO, hSO, hSN, hDR, hRD⟩ := hR
  have hRR := RR_of hI0 hs_F
  refine lv_aload_n hx hb dL_law_219 rfl (lv_at hl 2 rfl) ?_
  refine lv_aload_n hx hb dL_law_220 rfl (lv_at hl 3 rfl) ?_
  refine lv_iload_n hx hb dL_law_221 rfl (lv_at hl 0 rfl) ?_
  refine lv_iconst (v := 1) hx hb dL_law_222 (by decide +kernel) ?_
  refine lv_iadd hx hb dL_law_223 ?_
  refine lv_topi (fun x101 ex101 => ?_)
  have tx101 := ti_add (a := x3.toInt) (b := 1) ex101 rfl (by decide +kernel) (by omega) (by omega)
  refine va_sld hx hb hX hbl hbA hS (vp_in_iff.mpr (by have h9 : x101.toInt = (x3.toInt + 1) := tx101; omega)) dL_law_224 ?_
  refine lv_topi (fun x102 ex102 => ?_)
  refine lv_aload_n hx hb dL_law_225 rfl (lv_at hl 3 rfl) ?_
  refine lv_iload_n hx hb dL_law_226 rfl (lv_at hl 0 rfl) ?_
  refine lv_iconst (v := 2) hx hb dL_law_227 (by decide +kernel) ?_
  refine lv_iadd hx hb dL_law_228 ?_
  refine lv_topi (fun x103 ex103 => ?_)
  have tx103 := ti_add (a := x3.toInt) (b := 2) ex103 rfl (by decide +kernel) (by omega) (by omega)
  refine va_sld hx hb hX hbl hbA hS (vp_in_iff.mpr (by have h9 : x103.toInt = (x3.toInt + 2) := tx103; omega)) dL_law_229 ?_
  refine lv_topi (fun x104 ex104 => ?_)
  refine lv_aload_n hx hb dL_law_230 rfl (lv_at hl 3 rfl) ?_
  refine lv_iload_n hx hb dL_law_231 rfl (lv_at hl 0 rfl) ?_
  refine lv_iconst (v := 3) hx hb dL_law_232 (by decide +kernel) ?_
  refine lv_iadd hx hb dL_law_233 ?_
  refine lv_topi (fun x105 ex105 => ?_)
  have tx105 := ti_add (a := x3.toInt) (b := 3) ex105 rfl (by decide +kernel) (by omega) (by omega)
  refine va_sld hx hb hX hbl hbA hS (vp_in_iff.mpr (by have h9 : x105.toInt = (x3.toInt + 3) := tx105; omega)) dL_law_234 ?_
  refine lv_topi (fun x106 ex106 => ?_)
  refine lc_i (wr := (Z ++ mW o am tm jm qm em dm)) (va_runV (As := [.int x102, .int x104, .int x106]) (rest := []) ⟨hx, hb, hml, hown, hts⟩ (x_X11_standard_e l D H.size sk a t i q c d x102 x104 x106 hI ) (cwV 3 hts gm_law_X11_standard_e_18 rfl rfl rfl (by decide +kernel) ⟨Nat.le_of_ble_eq_true rfl, Nat.le_of_ble_eq_true rfl⟩) (yB_V hN (xZ_k hZ hS hA) (xZ_n hZ (vD_l hD)) hKT (vP_l hP) (vD_l hD) (ci := 11) (q0 := 0) rfl rfl) rfl rfl hl.1 rfl (lv_room (Nat.le_of_ble_eq_true rfl)) dL_law_235 hcs) hS hA hP hD (fun r107 u107 H locs hw107 _ hP hD hS => ?_)
  obtain ⟨i107, q107, c107, d107⟩ := u107
  have hw107 : True ∧ xInv i107 c107 ∧ (∀ k, k ∉ ([146, 148] : List Nat) → i107 k = i k) ∧ (∀ k, k ∉ ([107] : List Nat) → c107 k = c k) ∧ (xEn (i 146) (i 148) (i107 146) (i107 148)) ∧ (StR (c 107) x102 x104 x106 (i 110).toInt r107) ∧ (StU (c 107) (c107 107) x102 x104 x106 (i 110).toInt) := hw107
  obtain ⟨hw107, hI, hei107, hec107, hxp107_0, hxp107_1, hxp107_2⟩ := hw107
  have hP : va_P D vwCl (xwT sk a t i107 q107 c107 d107 ++ (Z ++ mW o am tm jm qm em dm)) H := hP
  have hD : va_D (fun q : Nat => s.heap.size ≤ q) (xwT sk a t i107 q107 c107 d107 ++ (Z ++ mW o am tm jm qm em dm)) := hD
  refine lv_pop hx hb dL_law_238 rfl ?_
  refine lv_aload_n hx hb dL_law_239 rfl (lv_at hl 1 rfl) ?_
  refine lv_aload_n hx hb dL_law_240 rfl (lv_at hl 3 rfl) ?_
  refine lv_iload_n hx hb dL_law_241 rfl (lv_at hl 0 rfl) ?_
  refine lv_iconst (v := 1) hx hb dL_law_242 (by decide +kernel) ?_
  refine lv_iadd hx hb dL_law_243 ?_
  refine lv_topi (fun x108 ex108 => ?_)
  have tx108 := ti_add (a := x3.toInt) (b := 1) ex108 rfl (by decide +kernel) (by omega) (by omega)
  refine va_sld hx hb hX hbl hbA hS (vp_in_iff.mpr (by have h9 : x108.toInt = (x3.toInt + 1) := tx108; omega)) dL_law_244 ?_
  refine lv_topi (fun x109 ex109 => ?_)
  refine lv_aload_n hx hb dL_law_245 rfl (lv_at hl 3 rfl) ?_
  refine lv_iload_n hx hb dL_law_246 rfl (lv_at hl 0 rfl) ?_
  refine lv_iconst (v := 2) hx hb dL_law_247 (by decide +kernel) ?_
  refine lv_iadd hx hb dL_law_248 ?_
  refine lv_topi (fun x110 ex110 => ?_)
  have tx110 := ti_add (a := x3.toInt) (b := 2) ex110 rfl (by decide +kernel) (by omega) (by omega)
  refine va_sld hx hb hX hbl hbA hS (vp_in_iff.mpr (by have h9 : x110.toInt = (x3.toInt + 2) := tx110; omega)) dL_law_249 ?_
  refine lv_topi (fun x111 ex111 => ?_)
  refine lv_aload_n hx hb dL_law_250 rfl (lv_at hl 3 rfl) ?_
  refine lv_iload_n hx hb dL_law_251 rfl (lv_at hl 0 rfl) ?_
  refine lv_iconst (v := 3) hx hb dL_law_252 (by decide +kernel) ?_
  refine lv_iadd hx hb dL_law_253 ?_
  refine lv_topi (fun x112 ex112 => ?_)
  have tx112 := ti_add (a := x3.toInt) (b := 3) ex112 rfl (by decide +kernel) (by omega) (by omega)
  refine va_sld hx hb hX hbl hbA hS (vp_in_iff.mpr (by have h9 : x112.toInt = (x3.toInt + 3) := tx112; omega)) dL_law_254 ?_
  refine lv_topi (fun x113 ex113 => ?_)
  have hP : va_P D vwCl ((xwT sk a t i107 q107 c107 d107 ++ Z) ++ mW o am tm jm qm em dm) H := by rw [List.append_assoc]; exact hP
  have hD : va_D (fun q : Nat => s.heap.size ≤ q) ((xwT sk a t i107 q107 c107 d107 ++ Z) ++ mW o am tm jm qm em dm) := by rw [List.append_assoc]; exact hD
  refine rc_i (wr := (xwT sk a t i107 q107 c107 d107 ++ Z)) (va_runV (As := [.int x109, .int x111, .int x113]) (rest := []) ⟨hx, hb, hml, hown, hts⟩ (s_X12_standard_e l D H.size o am tm jm qm em dm x109 x111 x113 hM hs_S hs_J) (cwV 3 hts gm_law_X12_standard_22 rfl rfl rfl (by decide +kernel) ⟨Nat.le_of_ble_eq_true rfl, Nat.le_of_ble_eq_true rfl⟩) (pB_V hKM (vP_r hP) (vD_r hD) (ci := 12) (q0 := 0) rfl rfl) rfl rfl hl.1 rfl (lv_room (Nat.le_of_ble_eq_true rfl)) dL_law_255 hcs) hS hA hP hD (fun r114 u114 H locs hw114 hP hD hS => ?_)
  obtain ⟨i114, q114, c114, d114⟩ := u114
  have hw114 : True ∧ mInv i114 c114 ∧ (∀ k, k ∉ ([22, 27] : List Nat) → i114 k = jm k) ∧ (∀ k, k ∉ ([4] : List Nat) → c114 k = em k) ∧ (SJ (c114 3) (c114 6) (c114 9) (c114 10) (c114 11) (c114 13) (i114 2).toInt (i114 5).toInt (i114 8).toInt) ∧ (TJ (c114 3) (c114 6) (c114 23) (c114 24) (c114 29) (c114 30) (i114 5).toInt (i114 22).toInt (i114 27).toInt) ∧ (StR (em 4) x109 x111 x113 (jm 2).toInt r114) ∧ (StU (em 4) (c114 4) x109 x111 x113 (jm 2).toInt) := hw114
  obtain ⟨hw114, hM, hei114, hec114, hxp114_0, hxp114_1, hxp114_2, hxp114_3⟩ := hw114
  have hP : va_P D vwCl (xwT sk a t i107 q107 c107 d107 ++ (Z ++ mW o am tm i114 q114 c114 d114)) H := by rw [← List.append_assoc]; exact hP
  have hD : va_D (fun q : Nat => s.heap.size ≤ q) (xwT sk a t i107 q107 c107 d107 ++ (Z ++ mW o am tm i114 q114 c114 d114)) := by rw [← List.append_assoc]; exact hD
  have hag0 : x109.toInt = x102.toInt := congrArg Int32.toInt (by rw [ex109, ex108, ex102, ex101])
  have hag1 : x111.toInt = x104.toInt := congrArg Int32.toInt (by rw [ex111, ex110, ex104, ex103])
  have hag2 : x113.toInt = x106.toInt := congrArg Int32.toInt (by rw [ex113, ex112, ex106, ex105])
  refine lv_pop hx hb dL_law_258 rfl ?_
  refine lv_goto (tgt := 1461) hx hb dL_law_259 (by decide +kernel) ?_
  exact kk i107 q107 c107 d107 i114 q114 c114 d114 _ _ _ ⟨hI, (by rw [show c107 113 = c 113 from hec107 113 (by decide +kernel), show c107 115 = c 115 from hec107 115 (by decide +kernel)]; exact hs_F), (by rw [show i107 147 = i 147 from hei107 147 (by decide +kernel), show i107 156 = i 156 from hei107 156 (by decide +kernel), show c107 150 = c 150 from hec107 150 (by decide +kernel), show c107 144 = c 144 from hec107 144 (by decide +kernel), show c107 145 = c 145 from hec107 145 (by decide +kernel)]; exact PJ_en hs_P hxp107_0), (by rw [show i107 141 = i 141 from hei107 141 (by decide +kernel)]; exact htr), hM, hxp114_0, hxp114_1, (by rw [show i107 110 = i 110 from hei107 110 (by decide +kernel), show i107 111 = i 111 from hei107 111 (by decide +kernel), show i107 165 = i 165 from hei107 165 (by decide +kernel), show i107 124 = i 124 from hei107 124 (by decide +kernel), show c107 105 = c 105 from hec107 105 (by decide +kernel), show c107 108 = c 108 from hec107 108 (by decide +kernel), show c107 106 = c 106 from hec107 106 (by decide +kernel), show c107 113 = c 113 from hec107 113 (by decide +kernel), show c107 114 = c 114 from hec107 114 (by decide +kernel), show c107 115 = c 115 from hec107 115 (by decide +kernel), show c107 116 = c 116 from hec107 116 (by decide +kernel), show c107 117 = c 117 from hec107 117 (by decide +kernel), show c107 118 = c 118 from hec107 118 (by decide +kernel), show c107 119 = c 119 from hec107 119 (by decide +kernel), show c107 120 = c 120 from hec107 120 (by decide +kernel), show c107 121 = c 121 from hec107 121 (by decide +kernel), show c107 127 = c 127 from hec107 127 (by decide +kernel), show c107 129 = c 129 from hec107 129 (by decide +kernel), show c107 130 = c 130 from hec107 130 (by decide +kernel), show c107 131 = c 131 from hec107 131 (by decide +kernel), show c107 132 = c 132 from hec107 132 (by decide +kernel), show c107 133 = c 133 from hec107 133 (by decide +kernel), show c107 134 = c 134 from hec107 134 (by decide +kernel), show i114 2 = jm 2 from hei114 2 (by decide +kernel), show i114 5 = jm 5 from hei114 5 (by decide +kernel), show i114 64 = jm 64 from hei114 64 (by decide +kernel), show i114 8 = jm 8 from hei114 8 (by decide +kernel), show c114 3 = em 3 from hec114 3 (by decide +kernel), show c114 6 = em 6 from hec114 6 (by decide +kernel), show c114 9 = em 9 from hec114 9 (by decide +kernel), show c114 10 = em 10 from hec114 10 (by decide +kernel), show c114 11 = em 11 from hec114 11 (by decide +kernel), show c114 12 = em 12 from hec114 12 (by decide +kernel), show c114 13 = em 13 from hec114 13 (by decide +kernel)]; exact ⟨(LRel_su hR hxp107_2 hxp114_3 hag0 hag1 hag2), hPA, hKO, hSO, hSN, hDR, hRD⟩)⟩ hP hD hS (lv_sub hl [0, 1, 2, 3] rfl)

set_option maxHeartbeats 4000000 in
set_option maxRecDepth 100000 in
theorem law_make {p : Program} {l : Launch} {e : Env} {s : State} {m : MethodId} {below : List Frame} {meth : Method} {cd : Code} {b L : Nat} {xs : Nat → Int32} {D : va_G} {a : Nat → Nat} {t : Nat → ClassId} {o : Nat} {am : Nat → Nat} {tm : Nat → ClassId} {x3 : Int32} {cells slots : Nat} {sk : Value} {Z : va_W} (hx : p.tables.exec = Jvm.exec) (hb : cd.code = cL_law) (hml : cd.maxLocals = 4) (hown : s.vm.findClass RL = some m.cls) (hts : ∀ w ∈ wm_law, w.before #[Value.ref b] s = true) (hX : va_X b L xs s s.heap) (hbl : b < s.heap.size) (hL : L ≤ 3584) (hN : xN s) (hZ : xZ (a 186) s s.heap) (hKT : va_K D vwCl (xtT t) s) (hKM : va_K D vwCl (mT tm) s) (hcs : cells ≤ 600000 ∧ slots ≤ 7302249) (hx3 : 0 ≤ x3.toInt ∧ x3.toInt + 7 ≤ (L : Int)) (kk : LK p l e s m below meth cd b D sk a t Z o am tm x3 cells slots) (i : Nat → Int32) (q : Int64) (c : Nat → Nat → Int32) (d : Nat → Nat → Int64) (jm : Nat → Int32) (qm : Int64) (em : Nat → Nat → Int32) (dm : Nat → Nat → Int64) (H : Heap) (locs : List Loc) (ls : Array Slot) (hLI : LI i c jm em) (hP : va_P D vwCl (xwT sk a t i q c d ++ (Z ++ mW o am tm jm qm em dm)) H) (hD : va_D (fun q : Nat => s.heap.size ≤ q) (xwT sk a t i q c d ++ (Z ++ mW o am tm jm qm em dm))) (hS : va_S (fun q : Nat => s.heap.size ≤ q) s.heap H locs) (hl : lv_has ls 4 [(3, .int x3), (2, .ref o), (1, .ref (a 100)), (0, .ref b)]) : W p l e room_1 s m #[Value.ref b] below meth cd H locs cells slots (lw_Z below #[Value.ref b] s) (F0 m 262 ls []) := by
  have hbA : ¬ (fun q : Nat => s.heap.size ≤ q) b := Nat.not_le.mpr hbl
  have hA : ∀ q : Nat, s.heap.size ≤ q → (fun q : Nat => s.heap.size ≤ q) q := fun _ h => h
  obtain ⟨hI, hs_F, hs_P, htr, hM, hs_S, hs_J, hR⟩ := hLI
  have hI0 := hI
  have hM0 := hM
  obtain ⟨hR, hPA, hKO, hSO, hSN, hDR, hRD⟩ := hR
  have hRR := RR_of hI0 hs_F
  refine lv_aload_n hx hb dL_law_262 rfl (lv_at hl 2 rfl) ?_
  refine lv_aload_n hx hb dL_law_263 rfl (lv_at hl 3 rfl) ?_
  refine lv_iload_n hx hb dL_law_264 rfl (lv_at hl 0 rfl) ?_
  refine lv_iconst (v := 1) hx hb dL_law_265 (by decide +kernel) ?_
  refine lv_iadd hx hb dL_law_266 ?_
  refine lv_topi (fun x101 ex101 => ?_)
  have tx101 := ti_add (a := x3.toInt) (b := 1) ex101 rfl (by decide +kernel) (by omega) (by omega)
  refine va_sld hx hb hX hbl hbA hS (vp_in_iff.mpr (by have h9 : x101.toInt = (x3.toInt + 1) := tx101; omega)) dL_law_267 ?_
  refine lv_topi (fun x102 ex102 => ?_)
  refine lv_aload_n hx hb dL_law_268 rfl (lv_at hl 3 rfl) ?_
  refine lv_iload_n hx hb dL_law_269 rfl (lv_at hl 0 rfl) ?_
  refine lv_iconst (v := 2) hx hb dL_law_270 (by decide +kernel) ?_
  refine lv_iadd hx hb dL_law_271 ?_
  refine lv_topi (fun x103 ex103 => ?_)
  have tx103 := ti_add (a := x3.toInt) (b := 2) ex103 rfl (by decide +kernel) (by omega) (by omega)
  refine va_sld hx hb hX hbl hbA hS (vp_in_iff.mpr (by have h9 : x103.toInt = (x3.toInt + 2) := tx103; omega)) dL_law_272 ?_
  refine lv_topi (fun x104 ex104 => ?_)
  refine lc_i (wr := (Z ++ mW o am tm jm qm em dm)) (va_runV (As := [.int x102, .int x104]) (rest := []) ⟨hx, hb, hml, hown, hts⟩ (x_X11_make_e l D H.size sk a t i q c d x102 x104 hI ) (cwV 2 hts gm_law_X11_make_e_23 rfl rfl rfl (by decide +kernel) ⟨Nat.le_of_ble_eq_true rfl, Nat.le_of_ble_eq_true rfl⟩) (yB_V hN (xZ_k hZ hS hA) (xZ_n hZ (vD_l hD)) hKT (vP_l hP) (vD_l hD) (ci := 11) (q0 := 0) rfl rfl) rfl rfl hl.1 rfl (lv_room (Nat.le_of_ble_eq_true rfl)) dL_law_273 hcs) hS hA hP hD (fun r105 u105 H locs hw105 _ hP hD hS => ?_)
  obtain ⟨i105, q105, c105, d105⟩ := u105
  have hw105 : True ∧ xInv i105 c105 ∧ (∀ k, k ∉ ([111, 146, 148] : List Nat) → i105 k = i k) ∧ (∀ k, k ∉ ([108, 109] : List Nat) → c105 k = c k) ∧ (xEn (i 146) (i 148) (i105 146) (i105 148)) ∧ ((¬ (0 ≤ x102.toInt ∧ x102.toInt < (i 110).toInt ∧ 0 ≤ x104.toInt ∧ x104.toInt ≤ 99) ∧ r105.toInt = -1 ∧ (i105 111).toInt = (i 111).toInt) ∨ (0 ≤ x102.toInt ∧ x102.toInt < (i 110).toInt ∧ 0 ≤ x104.toInt ∧ x104.toInt ≤ 99 ∧ 30 ≤ (i 111).toInt ∧ r105.toInt = -2 ∧ (i105 111).toInt = (i 111).toInt) ∨ (0 ≤ x102.toInt ∧ x102.toInt < (i 110).toInt ∧ 0 ≤ x104.toInt ∧ x104.toInt ≤ 99 ∧ (i 111).toInt ≤ 29 ∧ r105.toInt = (i 111).toInt ∧ (i105 111).toInt = (i 111).toInt + 1)) ∧ (OU (c 108) (c105 108) x102 x104 (i 110) (i 111)) := hw105
  obtain ⟨hw105, hI, hei105, hec105, hxp105_0, hxp105_1, hxp105_2⟩ := hw105
  have hP : va_P D vwCl (xwT sk a t i105 q105 c105 d105 ++ (Z ++ mW o am tm jm qm em dm)) H := hP
  have hD : va_D (fun q : Nat => s.heap.size ≤ q) (xwT sk a t i105 q105 c105 d105 ++ (Z ++ mW o am tm jm qm em dm)) := hD
  refine lv_pop hx hb dL_law_276 rfl ?_
  refine lv_aload_n hx hb dL_law_277 rfl (lv_at hl 1 rfl) ?_
  refine lv_aload_n hx hb dL_law_278 rfl (lv_at hl 3 rfl) ?_
  refine lv_iload_n hx hb dL_law_279 rfl (lv_at hl 0 rfl) ?_
  refine lv_iconst (v := 1) hx hb dL_law_280 (by decide +kernel) ?_
  refine lv_iadd hx hb dL_law_281 ?_
  refine lv_topi (fun x106 ex106 => ?_)
  have tx106 := ti_add (a := x3.toInt) (b := 1) ex106 rfl (by decide +kernel) (by omega) (by omega)
  refine va_sld hx hb hX hbl hbA hS (vp_in_iff.mpr (by have h9 : x106.toInt = (x3.toInt + 1) := tx106; omega)) dL_law_282 ?_
  refine lv_topi (fun x107 ex107 => ?_)
  refine lv_aload_n hx hb dL_law_283 rfl (lv_at hl 3 rfl) ?_
  refine lv_iload_n hx hb dL_law_284 rfl (lv_at hl 0 rfl) ?_
  refine lv_iconst (v := 2) hx hb dL_law_285 (by decide +kernel) ?_
  refine lv_iadd hx hb dL_law_286 ?_
  refine lv_topi (fun x108 ex108 => ?_)
  have tx108 := ti_add (a := x3.toInt) (b := 2) ex108 rfl (by decide +kernel) (by omega) (by omega)
  refine va_sld hx hb hX hbl hbA hS (vp_in_iff.mpr (by have h9 : x108.toInt = (x3.toInt + 2) := tx108; omega)) dL_law_287 ?_
  refine lv_topi (fun x109 ex109 => ?_)
  have hP : va_P D vwCl ((xwT sk a t i105 q105 c105 d105 ++ Z) ++ mW o am tm jm qm em dm) H := by rw [List.append_assoc]; exact hP
  have hD : va_D (fun q : Nat => s.heap.size ≤ q) ((xwT sk a t i105 q105 c105 d105 ++ Z) ++ mW o am tm jm qm em dm) := by rw [List.append_assoc]; exact hD
  refine rc_i (wr := (xwT sk a t i105 q105 c105 d105 ++ Z)) (va_runV (As := [.int x107, .int x109]) (rest := []) ⟨hx, hb, hml, hown, hts⟩ (s_X12_make_e l D H.size o am tm jm qm em dm x107 x109 hM hs_S hs_J) (cwV 2 hts gm_law_X12_make_27 rfl rfl rfl (by decide +kernel) ⟨Nat.le_of_ble_eq_true rfl, Nat.le_of_ble_eq_true rfl⟩) (pB_V hKM (vP_r hP) (vD_r hD) (ci := 12) (q0 := 0) rfl rfl) rfl rfl hl.1 rfl (lv_room (Nat.le_of_ble_eq_true rfl)) dL_law_288 hcs) hS hA hP hD (fun r110 u110 H locs hw110 hP hD hS => ?_)
  obtain ⟨i110, q110, c110, d110⟩ := u110
  have hw110 : True ∧ mInv i110 c110 ∧ (∀ k, k ∉ ([5, 22, 27] : List Nat) → i110 k = jm k) ∧ (∀ k, k ∉ ([6, 7] : List Nat) → c110 k = em k) ∧ (SJ (c110 3) (c110 6) (c110 9) (c110 10) (c110 11) (c110 13) (i110 2).toInt (i110 5).toInt (i110 8).toInt) ∧ (TJ (c110 3) (c110 6) (c110 23) (c110 24) (c110 29) (c110 30) (i110 5).toInt (i110 22).toInt (i110 27).toInt) ∧ ((¬ (0 ≤ x107.toInt ∧ x107.toInt < (jm 2).toInt ∧ 0 ≤ x109.toInt ∧ x109.toInt ≤ 99) ∧ r110.toInt = -1 ∧ (i110 5).toInt = (jm 5).toInt) ∨ (0 ≤ x107.toInt ∧ x107.toInt < (jm 2).toInt ∧ 0 ≤ x109.toInt ∧ x109.toInt ≤ 99 ∧ 30 ≤ (jm 5).toInt ∧ r110.toInt = -2 ∧ (i110 5).toInt = (jm 5).toInt) ∨ (0 ≤ x107.toInt ∧ x107.toInt < (jm 2).toInt ∧ 0 ≤ x109.toInt ∧ x109.toInt ≤ 99 ∧ (jm 5).toInt ≤ 29 ∧ r110.toInt = (jm 5).toInt ∧ (i110 5).toInt = (jm 5).toInt + 1)) ∧ (OU (em 6) (c110 6) x107 x109 (jm 2) (jm 5)) := hw110
  obtain ⟨hw110, hM, hei110, hec110, hxp110_0, hxp110_1, hxp110_2, hxp110_3⟩ := hw110
  have hP : va_P D vwCl (xwT sk a t i105 q105 c105 d105 ++ (Z ++ mW o am tm i110 q110 c110 d110)) H := by rw [← List.append_assoc]; exact hP
  have hD : va_D (fun q : Nat => s.heap.size ≤ q) (xwT sk a t i105 q105 c105 d105 ++ (Z ++ mW o am tm i110 q110 c110 d110)) := by rw [← List.append_assoc]; exact hD
  have hag0 : x107.toInt = x102.toInt := congrArg Int32.toInt (by rw [ex107, ex106, ex102, ex101])
  have hag1 : x109.toInt = x104.toInt := congrArg Int32.toInt (by rw [ex109, ex108, ex104, ex103])
  refine lv_pop hx hb dL_law_291 rfl ?_
  refine lv_goto (tgt := 1461) hx hb dL_law_292 (by decide +kernel) ?_
  exact kk i105 q105 c105 d105 i110 q110 c110 d110 _ _ _ ⟨hI, (by rw [show c105 113 = c 113 from hec105 113 (by decide +kernel), show c105 115 = c 115 from hec105 115 (by decide +kernel)]; exact hs_F), (by rw [show i105 147 = i 147 from hei105 147 (by decide +kernel), show i105 156 = i 156 from hei105 156 (by decide +kernel), show c105 150 = c 150 from hec105 150 (by decide +kernel), show c105 144 = c 144 from hec105 144 (by decide +kernel), show c105 145 = c 145 from hec105 145 (by decide +kernel)]; exact PJ_en hs_P hxp105_0), (by rw [show i105 141 = i 141 from hei105 141 (by decide +kernel)]; exact htr), hM, hxp110_0, hxp110_1, (by rw [show i105 110 = i 110 from hei105 110 (by decide +kernel), show i105 165 = i 165 from hei105 165 (by decide +kernel), show i105 124 = i 124 from hei105 124 (by decide +kernel), show c105 107 = c 107 from hec105 107 (by decide +kernel), show c105 105 = c 105 from hec105 105 (by decide +kernel), show c105 106 = c 106 from hec105 106 (by decide +kernel), show c105 113 = c 113 from hec105 113 (by decide +kernel), show c105 114 = c 114 from hec105 114 (by decide +kernel), show c105 115 = c 115 from hec105 115 (by decide +kernel), show c105 116 = c 116 from hec105 116 (by decide +kernel), show c105 117 = c 117 from hec105 117 (by decide +kernel), show c105 118 = c 118 from hec105 118 (by decide +kernel), show c105 119 = c 119 from hec105 119 (by decide +kernel), show c105 120 = c 120 from hec105 120 (by decide +kernel), show c105 121 = c 121 from hec105 121 (by decide +kernel), show c105 127 = c 127 from hec105 127 (by decide +kernel), show c105 129 = c 129 from hec105 129 (by decide +kernel), show c105 130 = c 130 from hec105 130 (by decide +kernel), show c105 131 = c 131 from hec105 131 (by decide +kernel), show c105 132 = c 132 from hec105 132 (by decide +kernel), show c105 133 = c 133 from hec105 133 (by decide +kernel), show c105 134 = c 134 from hec105 134 (by decide +kernel), show i110 2 = jm 2 from hei110 2 (by decide +kernel), show i110 64 = jm 64 from hei110 64 (by decide +kernel), show i110 8 = jm 8 from hei110 8 (by decide +kernel), show c110 4 = em 4 from hec110 4 (by decide +kernel), show c110 3 = em 3 from hec110 3 (by decide +kernel), show c110 9 = em 9 from hec110 9 (by decide +kernel), show c110 10 = em 10 from hec110 10 (by decide +kernel), show c110 11 = em 11 from hec110 11 (by decide +kernel), show c110 12 = em 12 from hec110 12 (by decide +kernel), show c110 13 = em 13 from hec110 13 (by decide +kernel)]; exact ⟨⟨hR.1, (by have h1 := hxp105_1; have h2 := hxp110_2; have h50 := hag0; have h51 := hag1; have h52 := hR.1; have h53 := hR.2.1; have h54 := hR.2.2.1; omega), hR.2.2⟩, hPA, OU_e hKO hxp105_2 hxp110_3 hag0 hag1 hR.1 hR.2.1, hSO, hSN, DR_z hDR (SB_of hM0 hSN hRR hs_S hR.2.1) (zX_m hxp105_2 (by have h9 : 0 ≤ (i 111).toInt ∧ (i 111).toInt ≤ 30 := hI0.1 111; omega) (by have h9 := hxp105_1; omega)), RDS_z hRD (SB_of hM0 hSN hRR hs_S hR.2.1) (zX_m hxp105_2 (by have h9 : 0 ≤ (i 111).toInt ∧ (i 111).toInt ≤ 30 := hI0.1 111; omega) (by have h9 := hxp105_1; omega))⟩)⟩ hP hD hS (lv_sub hl [0, 1, 2, 3] rfl)

set_option maxHeartbeats 4000000 in
set_option maxRecDepth 100000 in
theorem law_is {p : Program} {l : Launch} {e : Env} {s : State} {m : MethodId} {below : List Frame} {meth : Method} {cd : Code} {b L : Nat} {xs : Nat → Int32} {D : va_G} {a : Nat → Nat} {t : Nat → ClassId} {o : Nat} {am : Nat → Nat} {tm : Nat → ClassId} {x3 : Int32} {cells slots : Nat} {sk : Value} {Z : va_W} (hx : p.tables.exec = Jvm.exec) (hb : cd.code = cL_law) (hml : cd.maxLocals = 4) (hown : s.vm.findClass RL = some m.cls) (hts : ∀ w ∈ wm_law, w.before #[Value.ref b] s = true) (hX : va_X b L xs s s.heap) (hbl : b < s.heap.size) (hL : L ≤ 3584) (hN : xN s) (hZ : xZ (a 186) s s.heap) (hKT : va_K D vwCl (xtT t) s) (hKM : va_K D vwCl (mT tm) s) (hcs : cells ≤ 600000 ∧ slots ≤ 7302249) (hx3 : 0 ≤ x3.toInt ∧ x3.toInt + 7 ≤ (L : Int)) (kk : LK p l e s m below meth cd b D sk a t Z o am tm x3 cells slots) (i : Nat → Int32) (q : Int64) (c : Nat → Nat → Int32) (d : Nat → Nat → Int64) (jm : Nat → Int32) (qm : Int64) (em : Nat → Nat → Int32) (dm : Nat → Nat → Int64) (H : Heap) (locs : List Loc) (ls : Array Slot) (hLI : LI i c jm em) (hP : va_P D vwCl (xwT sk a t i q c d ++ (Z ++ mW o am tm jm qm em dm)) H) (hD : va_D (fun q : Nat => s.heap.size ≤ q) (xwT sk a t i q c d ++ (Z ++ mW o am tm jm qm em dm))) (hS : va_S (fun q : Nat => s.heap.size ≤ q) s.heap H locs) (hl : lv_has ls 4 [(3, .int x3), (2, .ref o), (1, .ref (a 100)), (0, .ref b)]) : W p l e room_1 s m #[Value.ref b] below meth cd H locs cells slots (lw_Z below #[Value.ref b] s) (F0 m 295 ls []) := by
  have hbA : ¬ (fun q : Nat => s.heap.size ≤ q) b := Nat.not_le.mpr hbl
  have hA : ∀ q : Nat, s.heap.size ≤ q → (fun q : Nat => s.heap.size ≤ q) q := fun _ h => h
  obtain ⟨hI, hs_F, hs_P, htr, hM, hs_S, hs_J, hR⟩ := hLI
  have hI0 := hI
  have hM0 := hM
  obtain ⟨hR, hPA, hKO, hSO, hSN, hDR, hRD⟩ := hR
  have hRR := RR_of hI0 hs_F
  refine lv_aload_n hx hb dL_law_295 rfl (lv_at hl 2 rfl) ?_
  refine lv_aload_n hx hb dL_law_296 rfl (lv_at hl 3 rfl) ?_
  refine lv_iload_n hx hb dL_law_297 rfl (lv_at hl 0 rfl) ?_
  refine lv_iconst (v := 1) hx hb dL_law_298 (by decide +kernel) ?_
  refine lv_iadd hx hb dL_law_299 ?_
  refine lv_topi (fun x101 ex101 => ?_)
  have tx101 := ti_add (a := x3.toInt) (b := 1) ex101 rfl (by decide +kernel) (by omega) (by omega)
  refine va_sld hx hb hX hbl hbA hS (vp_in_iff.mpr (by have h9 : x101.toInt = (x3.toInt + 1) := tx101; omega)) dL_law_300 ?_
  refine lv_topi (fun x102 ex102 => ?_)
  refine lv_aload_n hx hb dL_law_301 rfl (lv_at hl 3 rfl) ?_
  refine lv_iload_n hx hb dL_law_302 rfl (lv_at hl 0 rfl) ?_
  refine lv_iconst (v := 2) hx hb dL_law_303 (by decide +kernel) ?_
  refine lv_iadd hx hb dL_law_304 ?_
  refine lv_topi (fun x103 ex103 => ?_)
  have tx103 := ti_add (a := x3.toInt) (b := 2) ex103 rfl (by decide +kernel) (by omega) (by omega)
  refine va_sld hx hb hX hbl hbA hS (vp_in_iff.mpr (by have h9 : x103.toInt = (x3.toInt + 2) := tx103; omega)) dL_law_305 ?_
  refine lv_topi (fun x104 ex104 => ?_)
  refine ro_calli (va_runV (As := [.int x102, .int x104]) (rest := []) ⟨hx, hb, hml, hown, hts⟩ (x_X11_is_e l D H.size sk a t i q c d x102 x104 hI (by rw [hPA]; exact PD_m hM)) (cwV 2 hts gm_law_X11_is_e_28 rfl rfl rfl (by decide +kernel) ⟨Nat.le_of_ble_eq_true rfl, Nat.le_of_ble_eq_true rfl⟩) (yA_V hN (xZ_k hZ hS hA) hKT (vP_l hP) (ci := 11) (q0 := 0) rfl rfl) rfl rfl hl.1 rfl (lv_room (Nat.le_of_ble_eq_true rfl)) dL_law_306 hcs) hS hA hP (fun r105 u105 H locs hw105 hP hS => ?_)
  have hw105 : (True ∧ (IsR (c 105) (c 108) x102 x104 (i 111).toInt (i 110).toInt r105)) := hw105
  obtain ⟨_, hr105_0⟩ := hw105
  refine lv_pop hx hb dL_law_309 rfl ?_
  refine lv_aload_n hx hb dL_law_310 rfl (lv_at hl 1 rfl) ?_
  refine lv_aload_n hx hb dL_law_311 rfl (lv_at hl 3 rfl) ?_
  refine lv_iload_n hx hb dL_law_312 rfl (lv_at hl 0 rfl) ?_
  refine lv_iconst (v := 1) hx hb dL_law_313 (by decide +kernel) ?_
  refine lv_iadd hx hb dL_law_314 ?_
  refine lv_topi (fun x106 ex106 => ?_)
  have tx106 := ti_add (a := x3.toInt) (b := 1) ex106 rfl (by decide +kernel) (by omega) (by omega)
  refine va_sld hx hb hX hbl hbA hS (vp_in_iff.mpr (by have h9 : x106.toInt = (x3.toInt + 1) := tx106; omega)) dL_law_315 ?_
  refine lv_topi (fun x107 ex107 => ?_)
  refine lv_aload_n hx hb dL_law_316 rfl (lv_at hl 3 rfl) ?_
  refine lv_iload_n hx hb dL_law_317 rfl (lv_at hl 0 rfl) ?_
  refine lv_iconst (v := 2) hx hb dL_law_318 (by decide +kernel) ?_
  refine lv_iadd hx hb dL_law_319 ?_
  refine lv_topi (fun x108 ex108 => ?_)
  have tx108 := ti_add (a := x3.toInt) (b := 2) ex108 rfl (by decide +kernel) (by omega) (by omega)
  refine va_sld hx hb hX hbl hbA hS (vp_in_iff.mpr (by have h9 : x108.toInt = (x3.toInt + 2) := tx108; omega)) dL_law_320 ?_
  refine lv_topi (fun x109 ex109 => ?_)
  have hP : va_P D vwCl ((xwT sk a t i q c d ++ Z) ++ mW o am tm jm qm em dm) H := by rw [List.append_assoc]; exact hP
  have hD : va_D (fun q : Nat => s.heap.size ≤ q) ((xwT sk a t i q c d ++ Z) ++ mW o am tm jm qm em dm) := by rw [List.append_assoc]; exact hD
  refine ro_calli (va_runV (As := [.int x107, .int x109]) (rest := []) ⟨hx, hb, hml, hown, hts⟩ (s_X12_is_e l D H.size o am tm jm qm em dm x107 x109 hM ) (cwV 2 hts gm_law_X12_is_31 rfl rfl rfl (by decide +kernel) ⟨Nat.le_of_ble_eq_true rfl, Nat.le_of_ble_eq_true rfl⟩) (pA_V hKM (vP_r hP) (ci := 12) (q0 := 0) rfl rfl) rfl rfl hl.1 rfl (lv_room (Nat.le_of_ble_eq_true rfl)) dL_law_321 hcs) hS hA hP (fun r110 u110 H locs hw110 hP hS => ?_)
  have hw110 : (True ∧ (IsR (em 3) (em 6) x107 x109 (jm 5).toInt (jm 2).toInt r110)) := hw110
  obtain ⟨_, hr110_0⟩ := hw110
  have hP : va_P D vwCl (xwT sk a t i q c d ++ (Z ++ mW o am tm jm qm em dm)) H := by rw [← List.append_assoc]; exact hP
  have hD : va_D (fun q : Nat => s.heap.size ≤ q) (xwT sk a t i q c d ++ (Z ++ mW o am tm jm qm em dm)) := by rw [← List.append_assoc]; exact hD
  have hag0 : x107.toInt = x102.toInt := congrArg Int32.toInt (by rw [ex107, ex106, ex102, ex101])
  have hag1 : x109.toInt = x104.toInt := congrArg Int32.toInt (by rw [ex109, ex108, ex104, ex103])
  refine lv_pop hx hb dL_law_324 rfl ?_
  refine lv_goto (tgt := 1461) hx hb dL_law_325 (by decide +kernel) ?_
  exact kk i q c d jm qm em dm _ _ _ ⟨hI, hs_F, hs_P, htr, hM, hs_S, hs_J, ⟨hR, hPA, hKO, hSO, hSN, hDR, hRD⟩⟩ hP hD hS (lv_sub hl [0, 1, 2, 3] rfl)

set_option maxHeartbeats 4000000 in
set_option maxRecDepth 100000 in
theorem law_bulk {p : Program} {l : Launch} {e : Env} {s : State} {m : MethodId} {below : List Frame} {meth : Method} {cd : Code} {b L : Nat} {xs : Nat → Int32} {D : va_G} {a : Nat → Nat} {t : Nat → ClassId} {o : Nat} {am : Nat → Nat} {tm : Nat → ClassId} {x3 : Int32} {cells slots : Nat} {sk : Value} {Z : va_W} (hx : p.tables.exec = Jvm.exec) (hb : cd.code = cL_law) (hml : cd.maxLocals = 4) (hown : s.vm.findClass RL = some m.cls) (hts : ∀ w ∈ wm_law, w.before #[Value.ref b] s = true) (hX : va_X b L xs s s.heap) (hbl : b < s.heap.size) (hL : L ≤ 3584) (hN : xN s) (hZ : xZ (a 186) s s.heap) (hKT : va_K D vwCl (xtT t) s) (hKM : va_K D vwCl (mT tm) s) (hcs : cells ≤ 600000 ∧ slots ≤ 7302249) (hx3 : 0 ≤ x3.toInt ∧ x3.toInt + 7 ≤ (L : Int)) (kk : LK p l e s m below meth cd b D sk a t Z o am tm x3 cells slots) (i : Nat → Int32) (q : Int64) (c : Nat → Nat → Int32) (d : Nat → Nat → Int64) (jm : Nat → Int32) (qm : Int64) (em : Nat → Nat → Int32) (dm : Nat → Nat → Int64) (H : Heap) (locs : List Loc) (ls : Array Slot) (hLI : LI i c jm em) (hP : va_P D vwCl (xwT sk a t i q c d ++ (Z ++ mW o am tm jm qm em dm)) H) (hD : va_D (fun q : Nat => s.heap.size ≤ q) (xwT sk a t i q c d ++ (Z ++ mW o am tm jm qm em dm))) (hS : va_S (fun q : Nat => s.heap.size ≤ q) s.heap H locs) (hl : lv_has ls 4 [(3, .int x3), (2, .ref o), (1, .ref (a 100)), (0, .ref b)]) : W p l e room_1 s m #[Value.ref b] below meth cd H locs cells slots (lw_Z below #[Value.ref b] s) (F0 m 328 ls []) := by
  have hbA : ¬ (fun q : Nat => s.heap.size ≤ q) b := Nat.not_le.mpr hbl
  have hA : ∀ q : Nat, s.heap.size ≤ q → (fun q : Nat => s.heap.size ≤ q) q := fun _ h => h
  obtain ⟨hI, hs_F, hs_P, htr, hM, hs_S, hs_J, hR⟩ := hLI
  have hI0 := hI
  have hM0 := hM
  obtain ⟨hR, hPA, hKO, hSO, hSN, hDR, hRD⟩ := hR
  have hRR := RR_of hI0 hs_F
  refine lv_aload_n hx hb dL_law_328 rfl (lv_at hl 2 rfl) ?_
  refine lv_aload_n hx hb dL_law_329 rfl (lv_at hl 3 rfl) ?_
  refine lv_iload_n hx hb dL_law_330 rfl (lv_at hl 0 rfl) ?_
  refine lv_iconst (v := 1) hx hb dL_law_331 (by decide +kernel) ?_
  refine lv_iadd hx hb dL_law_332 ?_
  refine lv_topi (fun x101 ex101 => ?_)
  have tx101 := ti_add (a := x3.toInt) (b := 1) ex101 rfl (by decide +kernel) (by omega) (by omega)
  refine va_sld hx hb hX hbl hbA hS (vp_in_iff.mpr (by have h9 : x101.toInt = (x3.toInt + 1) := tx101; omega)) dL_law_333 ?_
  refine lv_topi (fun x102 ex102 => ?_)
  refine lc_i (wr := (Z ++ mW o am tm jm qm em dm)) (va_runV (As := [.int x102]) (rest := []) ⟨hx, hb, hml, hown, hts⟩ (x_X11_bulk l D H.size sk a t i q c d x102 hI htr) (cwV 1 hts gm_law_X11_bulk_32 rfl rfl rfl (by decide +kernel) ⟨Nat.le_of_ble_eq_true rfl, Nat.le_of_ble_eq_true rfl⟩) (yB_V hN (xZ_k hZ hS hA) (xZ_n hZ (vD_l hD)) hKT (vP_l hP) (vD_l hD) (ci := 11) (q0 := 0) rfl rfl) rfl rfl hl.1 rfl (lv_room (Nat.le_of_ble_eq_true rfl)) dL_law_334 hcs) hS hA hP hD (fun r103 u103 H locs hw103 _ hP hD hS => ?_)
  obtain ⟨i103, q103, c103, d103⟩ := u103
  have hw103 : True ∧ xInv i103 c103 ∧ (∀ k, k ∉ ([102, 140, 141] : List Nat) → i103 k = i k) ∧ (∀ k, k ∉ ([101, 139] : List Nat) → c103 k = c k) ∧ ((i103 141).toInt = 0) := hw103
  obtain ⟨hw103, hI, hei103, hec103, hxp103_0⟩ := hw103
  have hP : va_P D vwCl (xwT sk a t i103 q103 c103 d103 ++ (Z ++ mW o am tm jm qm em dm)) H := hP
  have hD : va_D (fun q : Nat => s.heap.size ≤ q) (xwT sk a t i103 q103 c103 d103 ++ (Z ++ mW o am tm jm qm em dm)) := hD
  refine lv_pop hx hb dL_law_337 rfl ?_
  refine lv_aload_n hx hb dL_law_338 rfl (lv_at hl 1 rfl) ?_
  refine lv_aload_n hx hb dL_law_339 rfl (lv_at hl 3 rfl) ?_
  refine lv_iload_n hx hb dL_law_340 rfl (lv_at hl 0 rfl) ?_
  refine lv_iconst (v := 1) hx hb dL_law_341 (by decide +kernel) ?_
  refine lv_iadd hx hb dL_law_342 ?_
  refine lv_topi (fun x104 ex104 => ?_)
  have tx104 := ti_add (a := x3.toInt) (b := 1) ex104 rfl (by decide +kernel) (by omega) (by omega)
  refine va_sld hx hb hX hbl hbA hS (vp_in_iff.mpr (by have h9 : x104.toInt = (x3.toInt + 1) := tx104; omega)) dL_law_343 ?_
  refine lv_topi (fun x105 ex105 => ?_)
  have hP : va_P D vwCl ((xwT sk a t i103 q103 c103 d103 ++ Z) ++ mW o am tm jm qm em dm) H := by rw [List.append_assoc]; exact hP
  have hD : va_D (fun q : Nat => s.heap.size ≤ q) ((xwT sk a t i103 q103 c103 d103 ++ Z) ++ mW o am tm jm qm em dm) := by rw [List.append_assoc]; exact hD
  refine rc_i (wr := (xwT sk a t i103 q103 c103 d103 ++ Z)) (va_runV (As := [.int x105]) (rest := []) ⟨hx, hb, hml, hown, hts⟩ (s_X12_bulk l D H.size o am tm jm qm em dm x105 hM (gF_acy hs_S hs_J)) (cwV 1 hts gm_law_X12_bulk_35 rfl rfl rfl (by decide +kernel) ⟨Nat.le_of_ble_eq_true rfl, Nat.le_of_ble_eq_true rfl⟩) (pB_V hKM (vP_r hP) (vD_r hD) (ci := 12) (q0 := 0) rfl rfl) rfl rfl hl.1 rfl (lv_room (Nat.le_of_ble_eq_true rfl)) dL_law_344 hcs) hS hA hP hD (fun r106 u106 H locs hw106 hP hD hS => ?_)
  obtain ⟨i106, q106, c106, d106⟩ := u106
  have hw106 : True ∧ mInv i106 c106 ∧ (∀ k, k ∉ ([0, 33, 35, 36] : List Nat) → i106 k = jm k) ∧ (∀ k, k ∉ ([1, 34, 38, 39] : List Nat) → c106 k = em k) := hw106
  obtain ⟨hw106, hM, hei106, hec106⟩ := hw106
  have hP : va_P D vwCl (xwT sk a t i103 q103 c103 d103 ++ (Z ++ mW o am tm i106 q106 c106 d106)) H := by rw [← List.append_assoc]; exact hP
  have hD : va_D (fun q : Nat => s.heap.size ≤ q) (xwT sk a t i103 q103 c103 d103 ++ (Z ++ mW o am tm i106 q106 c106 d106)) := by rw [← List.append_assoc]; exact hD
  refine lv_pop hx hb dL_law_347 rfl ?_
  refine lv_goto (tgt := 1461) hx hb dL_law_348 (by decide +kernel) ?_
  exact kk i103 q103 c103 d103 i106 q106 c106 d106 _ _ _ ⟨hI, (by rw [show c103 113 = c 113 from hec103 113 (by decide +kernel), show c103 115 = c 115 from hec103 115 (by decide +kernel)]; exact hs_F), (by rw [show i103 146 = i 146 from hei103 146 (by decide +kernel), show i103 147 = i 147 from hei103 147 (by decide +kernel), show i103 148 = i 148 from hei103 148 (by decide +kernel), show i103 156 = i 156 from hei103 156 (by decide +kernel), show c103 144 = c 144 from hec103 144 (by decide +kernel), show c103 145 = c 145 from hec103 145 (by decide +kernel), show c103 150 = c 150 from hec103 150 (by decide +kernel)]; exact hs_P), hxp103_0, hM, (by rw [show c106 3 = em 3 from hec106 3 (by decide +kernel), show c106 6 = em 6 from hec106 6 (by decide +kernel), show c106 9 = em 9 from hec106 9 (by decide +kernel), show c106 10 = em 10 from hec106 10 (by decide +kernel), show c106 11 = em 11 from hec106 11 (by decide +kernel), show c106 13 = em 13 from hec106 13 (by decide +kernel), show i106 2 = jm 2 from hei106 2 (by decide +kernel), show i106 5 = jm 5 from hei106 5 (by decide +kernel), show i106 8 = jm 8 from hei106 8 (by decide +kernel)]; exact hs_S), (by rw [show c106 3 = em 3 from hec106 3 (by decide +kernel), show c106 6 = em 6 from hec106 6 (by decide +kernel), show c106 23 = em 23 from hec106 23 (by decide +kernel), show c106 24 = em 24 from hec106 24 (by decide +kernel), show c106 29 = em 29 from hec106 29 (by decide +kernel), show c106 30 = em 30 from hec106 30 (by decide +kernel), show i106 5 = jm 5 from hei106 5 (by decide +kernel), show i106 22 = jm 22 from hei106 22 (by decide +kernel), show i106 27 = jm 27 from hei106 27 (by decide +kernel)]; exact hs_J), (by rw [show i103 110 = i 110 from hei103 110 (by decide +kernel), show i103 111 = i 111 from hei103 111 (by decide +kernel), show i103 165 = i 165 from hei103 165 (by decide +kernel), show i103 124 = i 124 from hei103 124 (by decide +kernel), show c103 107 = c 107 from hec103 107 (by decide +kernel), show c103 105 = c 105 from hec103 105 (by decide +kernel), show c103 108 = c 108 from hec103 108 (by decide +kernel), show c103 106 = c 106 from hec103 106 (by decide +kernel), show c103 113 = c 113 from hec103 113 (by decide +kernel), show c103 114 = c 114 from hec103 114 (by decide +kernel), show c103 115 = c 115 from hec103 115 (by decide +kernel), show c103 116 = c 116 from hec103 116 (by decide +kernel), show c103 117 = c 117 from hec103 117 (by decide +kernel), show c103 118 = c 118 from hec103 118 (by decide +kernel), show c103 119 = c 119 from hec103 119 (by decide +kernel), show c103 120 = c 120 from hec103 120 (by decide +kernel), show c103 121 = c 121 from hec103 121 (by decide +kernel), show c103 127 = c 127 from hec103 127 (by decide +kernel), show c103 129 = c 129 from hec103 129 (by decide +kernel), show c103 130 = c 130 from hec103 130 (by decide +kernel), show c103 131 = c 131 from hec103 131 (by decide +kernel), show c103 132 = c 132 from hec103 132 (by decide +kernel), show c103 133 = c 133 from hec103 133 (by decide +kernel), show c103 134 = c 134 from hec103 134 (by decide +kernel), show i106 2 = jm 2 from hei106 2 (by decide +kernel), show i106 5 = jm 5 from hei106 5 (by decide +kernel), show i106 64 = jm 64 from hei106 64 (by decide +kernel), show i106 8 = jm 8 from hei106 8 (by decide +kernel), show c106 4 = em 4 from hec106 4 (by decide +kernel), show c106 3 = em 3 from hec106 3 (by decide +kernel), show c106 6 = em 6 from hec106 6 (by decide +kernel), show c106 9 = em 9 from hec106 9 (by decide +kernel), show c106 10 = em 10 from hec106 10 (by decide +kernel), show c106 11 = em 11 from hec106 11 (by decide +kernel), show c106 12 = em 12 from hec106 12 (by decide +kernel), show c106 13 = em 13 from hec106 13 (by decide +kernel)]; exact ⟨hR, hPA, hKO, hSO, hSN, hDR, hRD⟩)⟩ hP hD hS (lv_sub hl [0, 1, 2, 3] rfl)

set_option maxHeartbeats 4000000 in
set_option maxRecDepth 100000 in
theorem law_asked {p : Program} {l : Launch} {e : Env} {s : State} {m : MethodId} {below : List Frame} {meth : Method} {cd : Code} {b L : Nat} {xs : Nat → Int32} {D : va_G} {a : Nat → Nat} {t : Nat → ClassId} {o : Nat} {am : Nat → Nat} {tm : Nat → ClassId} {x3 : Int32} {cells slots : Nat} {sk : Value} {Z : va_W} (hx : p.tables.exec = Jvm.exec) (hb : cd.code = cL_law) (hml : cd.maxLocals = 4) (hown : s.vm.findClass RL = some m.cls) (hts : ∀ w ∈ wm_law, w.before #[Value.ref b] s = true) (hX : va_X b L xs s s.heap) (hbl : b < s.heap.size) (hL : L ≤ 3584) (hN : xN s) (hZ : xZ (a 186) s s.heap) (hKT : va_K D vwCl (xtT t) s) (hKM : va_K D vwCl (mT tm) s) (hcs : cells ≤ 600000 ∧ slots ≤ 7302249) (hx3 : 0 ≤ x3.toInt ∧ x3.toInt + 7 ≤ (L : Int)) (kk : LK p l e s m below meth cd b D sk a t Z o am tm x3 cells slots) (i : Nat → Int32) (q : Int64) (c : Nat → Nat → Int32) (d : Nat → Nat → Int64) (jm : Nat → Int32) (qm : Int64) (em : Nat → Nat → Int32) (dm : Nat → Nat → Int64) (H : Heap) (locs : List Loc) (ls : Array Slot) (hLI : LI i c jm em) (hP : va_P D vwCl (xwT sk a t i q c d ++ (Z ++ mW o am tm jm qm em dm)) H) (hD : va_D (fun q : Nat => s.heap.size ≤ q) (xwT sk a t i q c d ++ (Z ++ mW o am tm jm qm em dm))) (hS : va_S (fun q : Nat => s.heap.size ≤ q) s.heap H locs) (hl : lv_has ls 4 [(3, .int x3), (2, .ref o), (1, .ref (a 100)), (0, .ref b)]) : W p l e room_1 s m #[Value.ref b] below meth cd H locs cells slots (lw_Z below #[Value.ref b] s) (F0 m 351 ls []) := by
  have hbA : ¬ (fun q : Nat => s.heap.size ≤ q) b := Nat.not_le.mpr hbl
  have hA : ∀ q : Nat, s.heap.size ≤ q → (fun q : Nat => s.heap.size ≤ q) q := fun _ h => h
  obtain ⟨hI, hs_F, hs_P, htr, hM, hs_S, hs_J, hR⟩ := hLI
  have hI0 := hI
  have hM0 := hM
  obtain ⟨hR, hPA, hKO, hSO, hSN, hDR, hRD⟩ := hR
  have hRR := RR_of hI0 hs_F
  refine lv_aload_n hx hb dL_law_351 rfl (lv_at hl 2 rfl) ?_
  refine ro_calll (va_runV (As := []) (rest := []) ⟨hx, hb, hml, hown, hts⟩ (x_X11_asked l D H.size sk a t i q c d  hI ) (cwV 0 hts gm_law_X11_asked_36 rfl rfl rfl (by decide +kernel) ⟨Nat.le_of_ble_eq_true rfl, Nat.le_of_ble_eq_true rfl⟩) (yA_V hN (xZ_k hZ hS hA) hKT (vP_l hP) (ci := 11) (q0 := 0) rfl rfl) rfl rfl hl.1 rfl (lv_room (Nat.le_of_ble_eq_true rfl)) dL_law_352 hcs) hS hA hP (fun r101 u101 H locs hw101 hP hS => ?_)
  refine lv_pop2_2 hx hb dL_law_355 rfl ?_
  refine lv_aload_n hx hb dL_law_356 rfl (lv_at hl 1 rfl) ?_
  have hP : va_P D vwCl ((xwT sk a t i q c d ++ Z) ++ mW o am tm jm qm em dm) H := by rw [List.append_assoc]; exact hP
  have hD : va_D (fun q : Nat => s.heap.size ≤ q) ((xwT sk a t i q c d ++ Z) ++ mW o am tm jm qm em dm) := by rw [List.append_assoc]; exact hD
  refine ro_calll (va_runV (As := []) (rest := []) ⟨hx, hb, hml, hown, hts⟩ (s_X12_asked l D H.size o am tm jm qm em dm  hM ) (cwV 0 hts gm_law_X12_asked_40 rfl rfl rfl (by decide +kernel) ⟨Nat.le_of_ble_eq_true rfl, Nat.le_of_ble_eq_true rfl⟩) (pA_V hKM (vP_r hP) (ci := 12) (q0 := 0) rfl rfl) rfl rfl hl.1 rfl (lv_room (Nat.le_of_ble_eq_true rfl)) dL_law_357 hcs) hS hA hP (fun r102 u102 H locs hw102 hP hS => ?_)
  have hP : va_P D vwCl (xwT sk a t i q c d ++ (Z ++ mW o am tm jm qm em dm)) H := by rw [← List.append_assoc]; exact hP
  have hD : va_D (fun q : Nat => s.heap.size ≤ q) (xwT sk a t i q c d ++ (Z ++ mW o am tm jm qm em dm)) := by rw [← List.append_assoc]; exact hD
  refine lv_pop2_2 hx hb dL_law_360 rfl ?_
  refine lv_goto (tgt := 1461) hx hb dL_law_361 (by decide +kernel) ?_
  exact kk i q c d jm qm em dm _ _ _ ⟨hI, hs_F, hs_P, htr, hM, hs_S, hs_J, ⟨hR, hPA, hKO, hSO, hSN, hDR, hRD⟩⟩ hP hD hS (lv_sub hl [0, 1, 2, 3] rfl)

set_option maxHeartbeats 4000000 in
set_option maxRecDepth 100000 in
theorem law_trace {p : Program} {l : Launch} {e : Env} {s : State} {m : MethodId} {below : List Frame} {meth : Method} {cd : Code} {b L : Nat} {xs : Nat → Int32} {D : va_G} {a : Nat → Nat} {t : Nat → ClassId} {o : Nat} {am : Nat → Nat} {tm : Nat → ClassId} {x3 : Int32} {cells slots : Nat} {sk : Value} {Z : va_W} (hx : p.tables.exec = Jvm.exec) (hb : cd.code = cL_law) (hml : cd.maxLocals = 4) (hown : s.vm.findClass RL = some m.cls) (hts : ∀ w ∈ wm_law, w.before #[Value.ref b] s = true) (hX : va_X b L xs s s.heap) (hbl : b < s.heap.size) (hL : L ≤ 3584) (hN : xN s) (hZ : xZ (a 186) s s.heap) (hKT : va_K D vwCl (xtT t) s) (hKM : va_K D vwCl (mT tm) s) (hcs : cells ≤ 600000 ∧ slots ≤ 7302249) (hx3 : 0 ≤ x3.toInt ∧ x3.toInt + 7 ≤ (L : Int)) (kk : LK p l e s m below meth cd b D sk a t Z o am tm x3 cells slots) (i : Nat → Int32) (q : Int64) (c : Nat → Nat → Int32) (d : Nat → Nat → Int64) (jm : Nat → Int32) (qm : Int64) (em : Nat → Nat → Int32) (dm : Nat → Nat → Int64) (H : Heap) (locs : List Loc) (ls : Array Slot) (hLI : LI i c jm em) (hP : va_P D vwCl (xwT sk a t i q c d ++ (Z ++ mW o am tm jm qm em dm)) H) (hD : va_D (fun q : Nat => s.heap.size ≤ q) (xwT sk a t i q c d ++ (Z ++ mW o am tm jm qm em dm))) (hS : va_S (fun q : Nat => s.heap.size ≤ q) s.heap H locs) (hl : lv_has ls 4 [(3, .int x3), (2, .ref o), (1, .ref (a 100)), (0, .ref b)]) : W p l e room_1 s m #[Value.ref b] below meth cd H locs cells slots (lw_Z below #[Value.ref b] s) (F0 m 364 ls []) := by
  have hbA : ¬ (fun q : Nat => s.heap.size ≤ q) b := Nat.not_le.mpr hbl
  have hA : ∀ q : Nat, s.heap.size ≤ q → (fun q : Nat => s.heap.size ≤ q) q := fun _ h => h
  obtain ⟨hI, hs_F, hs_P, htr, hM, hs_S, hs_J, hR⟩ := hLI
  have hI0 := hI
  have hM0 := hM
  obtain ⟨hR, hPA, hKO, hSO, hSN, hDR, hRD⟩ := hR
  have hRR := RR_of hI0 hs_F
  refine lv_aload_n hx hb dL_law_364 rfl (lv_at hl 2 rfl) ?_
  refine lv_aload_n hx hb dL_law_365 rfl (lv_at hl 3 rfl) ?_
  refine lv_iload_n hx hb dL_law_366 rfl (lv_at hl 0 rfl) ?_
  refine lv_iconst (v := 1) hx hb dL_law_367 (by decide +kernel) ?_
  refine lv_iadd hx hb dL_law_368 ?_
  refine lv_topi (fun x101 ex101 => ?_)
  have tx101 := ti_add (a := x3.toInt) (b := 1) ex101 rfl (by decide +kernel) (by omega) (by omega)
  refine va_sld hx hb hX hbl hbA hS (vp_in_iff.mpr (by have h9 : x101.toInt = (x3.toInt + 1) := tx101; omega)) dL_law_369 ?_
  refine lv_topi (fun x102 ex102 => ?_)
  refine ro_calli (va_runV (As := [.int x102]) (rest := []) ⟨hx, hb, hml, hown, hts⟩ (x_X11_trace l D H.size sk a t i q c d x102 hI ) (cwV 1 hts gm_law_X11_trace_41 rfl rfl rfl (by decide +kernel) ⟨Nat.le_of_ble_eq_true rfl, Nat.le_of_ble_eq_true rfl⟩) (yA_V hN (xZ_k hZ hS hA) hKT (vP_l hP) (ci := 11) (q0 := 0) rfl rfl) rfl rfl hl.1 rfl (lv_room (Nat.le_of_ble_eq_true rfl)) dL_law_370 hcs) hS hA hP (fun r103 u103 H locs hw103 hP hS => ?_)
  refine lv_pop hx hb dL_law_373 rfl ?_
  refine lv_aload_n hx hb dL_law_374 rfl (lv_at hl 1 rfl) ?_
  refine lv_aload_n hx hb dL_law_375 rfl (lv_at hl 3 rfl) ?_
  refine lv_iload_n hx hb dL_law_376 rfl (lv_at hl 0 rfl) ?_
  refine lv_iconst (v := 1) hx hb dL_law_377 (by decide +kernel) ?_
  refine lv_iadd hx hb dL_law_378 ?_
  refine lv_topi (fun x104 ex104 => ?_)
  have tx104 := ti_add (a := x3.toInt) (b := 1) ex104 rfl (by decide +kernel) (by omega) (by omega)
  refine va_sld hx hb hX hbl hbA hS (vp_in_iff.mpr (by have h9 : x104.toInt = (x3.toInt + 1) := tx104; omega)) dL_law_379 ?_
  refine lv_topi (fun x105 ex105 => ?_)
  have hP : va_P D vwCl ((xwT sk a t i q c d ++ Z) ++ mW o am tm jm qm em dm) H := by rw [List.append_assoc]; exact hP
  have hD : va_D (fun q : Nat => s.heap.size ≤ q) ((xwT sk a t i q c d ++ Z) ++ mW o am tm jm qm em dm) := by rw [List.append_assoc]; exact hD
  refine ro_calli (va_runV (As := [.int x105]) (rest := []) ⟨hx, hb, hml, hown, hts⟩ (s_X12_trace l D H.size o am tm jm qm em dm x105 hM ) (cwV 1 hts gm_law_X12_trace_44 rfl rfl rfl (by decide +kernel) ⟨Nat.le_of_ble_eq_true rfl, Nat.le_of_ble_eq_true rfl⟩) (pA_V hKM (vP_r hP) (ci := 12) (q0 := 0) rfl rfl) rfl rfl hl.1 rfl (lv_room (Nat.le_of_ble_eq_true rfl)) dL_law_380 hcs) hS hA hP (fun r106 u106 H locs hw106 hP hS => ?_)
  have hP : va_P D vwCl (xwT sk a t i q c d ++ (Z ++ mW o am tm jm qm em dm)) H := by rw [← List.append_assoc]; exact hP
  have hD : va_D (fun q : Nat => s.heap.size ≤ q) (xwT sk a t i q c d ++ (Z ++ mW o am tm jm qm em dm)) := by rw [← List.append_assoc]; exact hD
  refine lv_pop hx hb dL_law_383 rfl ?_
  refine lv_goto (tgt := 1461) hx hb dL_law_384 (by decide +kernel) ?_
  exact kk i q c d jm qm em dm _ _ _ ⟨hI, hs_F, hs_P, htr, hM, hs_S, hs_J, ⟨hR, hPA, hKO, hSO, hSN, hDR, hRD⟩⟩ hP hD hS (lv_sub hl [0, 1, 2, 3] rfl)

set_option maxHeartbeats 4000000 in
set_option maxRecDepth 100000 in
theorem law_share {p : Program} {l : Launch} {e : Env} {s : State} {m : MethodId} {below : List Frame} {meth : Method} {cd : Code} {b L : Nat} {xs : Nat → Int32} {D : va_G} {a : Nat → Nat} {t : Nat → ClassId} {o : Nat} {am : Nat → Nat} {tm : Nat → ClassId} {x3 : Int32} {cells slots : Nat} {sk : Value} {Z : va_W} (hx : p.tables.exec = Jvm.exec) (hb : cd.code = cL_law) (hml : cd.maxLocals = 4) (hown : s.vm.findClass RL = some m.cls) (hts : ∀ w ∈ wm_law, w.before #[Value.ref b] s = true) (hX : va_X b L xs s s.heap) (hbl : b < s.heap.size) (hL : L ≤ 3584) (hN : xN s) (hZ : xZ (a 186) s s.heap) (hKT : va_K D vwCl (xtT t) s) (hKM : va_K D vwCl (mT tm) s) (hcs : cells ≤ 600000 ∧ slots ≤ 7302249) (hx3 : 0 ≤ x3.toInt ∧ x3.toInt + 7 ≤ (L : Int)) (kk : LK p l e s m below meth cd b D sk a t Z o am tm x3 cells slots) (i : Nat → Int32) (q : Int64) (c : Nat → Nat → Int32) (d : Nat → Nat → Int64) (jm : Nat → Int32) (qm : Int64) (em : Nat → Nat → Int32) (dm : Nat → Nat → Int64) (H : Heap) (locs : List Loc) (ls : Array Slot) (hLI : LI i c jm em) (hP : va_P D vwCl (xwT sk a t i q c d ++ (Z ++ mW o am tm jm qm em dm)) H) (hD : va_D (fun q : Nat => s.heap.size ≤ q) (xwT sk a t i q c d ++ (Z ++ mW o am tm jm qm em dm))) (hS : va_S (fun q : Nat => s.heap.size ≤ q) s.heap H locs) (hl : lv_has ls 4 [(3, .int x3), (2, .ref o), (1, .ref (a 100)), (0, .ref b)]) : W p l e room_1 s m #[Value.ref b] below meth cd H locs cells slots (lw_Z below #[Value.ref b] s) (F0 m 387 ls []) := by
  have hbA : ¬ (fun q : Nat => s.heap.size ≤ q) b := Nat.not_le.mpr hbl
  have hA : ∀ q : Nat, s.heap.size ≤ q → (fun q : Nat => s.heap.size ≤ q) q := fun _ h => h
  obtain ⟨hI, hs_F, hs_P, htr, hM, hs_S, hs_J, hR⟩ := hLI
  have hI0 := hI
  have hM0 := hM
  obtain ⟨hR, hPA, hKO, hSO, hSN, hDR, hRD⟩ := hR
  have hRR := RR_of hI0 hs_F
  refine lv_aload_n hx hb dL_law_387 rfl (lv_at hl 2 rfl) ?_
  refine lv_aload_n hx hb dL_law_388 rfl (lv_at hl 3 rfl) ?_
  refine lv_iload_n hx hb dL_law_389 rfl (lv_at hl 0 rfl) ?_
  refine lv_iconst (v := 1) hx hb dL_law_390 (by decide +kernel) ?_
  refine lv_iadd hx hb dL_law_391 ?_
  refine lv_topi (fun x101 ex101 => ?_)
  have tx101 := ti_add (a := x3.toInt) (b := 1) ex101 rfl (by decide +kernel) (by omega) (by omega)
  refine va_sld hx hb hX hbl hbA hS (vp_in_iff.mpr (by have h9 : x101.toInt = (x3.toInt + 1) := tx101; omega)) dL_law_392 ?_
  refine lv_topi (fun x102 ex102 => ?_)
  refine lv_aload_n hx hb dL_law_393 rfl (lv_at hl 3 rfl) ?_
  refine lv_iload_n hx hb dL_law_394 rfl (lv_at hl 0 rfl) ?_
  refine lv_iconst (v := 2) hx hb dL_law_395 (by decide +kernel) ?_
  refine lv_iadd hx hb dL_law_396 ?_
  refine lv_topi (fun x103 ex103 => ?_)
  have tx103 := ti_add (a := x3.toInt) (b := 2) ex103 rfl (by decide +kernel) (by omega) (by omega)
  refine va_sld hx hb hX hbl hbA hS (vp_in_iff.mpr (by have h9 : x103.toInt = (x3.toInt + 2) := tx103; omega)) dL_law_397 ?_
  refine lv_topi (fun x104 ex104 => ?_)
  refine lc_i (wr := (Z ++ mW o am tm jm qm em dm)) (va_runV (As := [.int x102, .int x104]) (rest := []) ⟨hx, hb, hml, hown, hts⟩ (x_X11_share l D H.size sk a t i q c d x102 x104 hI htr) (cwV 2 hts gm_law_X11_share_45 rfl rfl rfl (by decide +kernel) ⟨Nat.le_of_ble_eq_true rfl, Nat.le_of_ble_eq_true rfl⟩) (yB_V hN (xZ_k hZ hS hA) (xZ_n hZ (vD_l hD)) hKT (vP_l hP) (vD_l hD) (ci := 11) (q0 := 0) rfl rfl) rfl rfl hl.1 rfl (lv_room (Nat.le_of_ble_eq_true rfl)) dL_law_398 hcs) hS hA hP hD (fun r105 u105 H locs hw105 _ hP hD hS => ?_)
  obtain ⟨i105, q105, c105, d105⟩ := u105
  have hw105 : True ∧ xInv i105 c105 ∧ (∀ k, k ∉ ([102] : List Nat) → i105 k = i k) ∧ (∀ k, k ∉ ([101] : List Nat) → c105 k = c k) := hw105
  obtain ⟨hw105, hI, hei105, hec105⟩ := hw105
  have hP : va_P D vwCl (xwT sk a t i105 q105 c105 d105 ++ (Z ++ mW o am tm jm qm em dm)) H := hP
  have hD : va_D (fun q : Nat => s.heap.size ≤ q) (xwT sk a t i105 q105 c105 d105 ++ (Z ++ mW o am tm jm qm em dm)) := hD
  refine lv_pop hx hb dL_law_401 rfl ?_
  refine lv_aload_n hx hb dL_law_402 rfl (lv_at hl 1 rfl) ?_
  refine lv_aload_n hx hb dL_law_403 rfl (lv_at hl 3 rfl) ?_
  refine lv_iload_n hx hb dL_law_404 rfl (lv_at hl 0 rfl) ?_
  refine lv_iconst (v := 1) hx hb dL_law_405 (by decide +kernel) ?_
  refine lv_iadd hx hb dL_law_406 ?_
  refine lv_topi (fun x106 ex106 => ?_)
  have tx106 := ti_add (a := x3.toInt) (b := 1) ex106 rfl (by decide +kernel) (by omega) (by omega)
  refine va_sld hx hb hX hbl hbA hS (vp_in_iff.mpr (by have h9 : x106.toInt = (x3.toInt + 1) := tx106; omega)) dL_law_407 ?_
  refine lv_topi (fun x107 ex107 => ?_)
  refine lv_aload_n hx hb dL_law_408 rfl (lv_at hl 3 rfl) ?_
  refine lv_iload_n hx hb dL_law_409 rfl (lv_at hl 0 rfl) ?_
  refine lv_iconst (v := 2) hx hb dL_law_410 (by decide +kernel) ?_
  refine lv_iadd hx hb dL_law_411 ?_
  refine lv_topi (fun x108 ex108 => ?_)
  have tx108 := ti_add (a := x3.toInt) (b := 2) ex108 rfl (by decide +kernel) (by omega) (by omega)
  refine va_sld hx hb hX hbl hbA hS (vp_in_iff.mpr (by have h9 : x108.toInt = (x3.toInt + 2) := tx108; omega)) dL_law_412 ?_
  refine lv_topi (fun x109 ex109 => ?_)
  have hP : va_P D vwCl ((xwT sk a t i105 q105 c105 d105 ++ Z) ++ mW o am tm jm qm em dm) H := by rw [List.append_assoc]; exact hP
  have hD : va_D (fun q : Nat => s.heap.size ≤ q) ((xwT sk a t i105 q105 c105 d105 ++ Z) ++ mW o am tm jm qm em dm) := by rw [List.append_assoc]; exact hD
  refine rc_i (wr := (xwT sk a t i105 q105 c105 d105 ++ Z)) (va_runV (As := [.int x107, .int x109]) (rest := []) ⟨hx, hb, hml, hown, hts⟩ (s_X12_share l D H.size o am tm jm qm em dm x107 x109 hM (gF_acy hs_S hs_J)) (cwV 2 hts gm_law_X12_share_48 rfl rfl rfl (by decide +kernel) ⟨Nat.le_of_ble_eq_true rfl, Nat.le_of_ble_eq_true rfl⟩) (pB_V hKM (vP_r hP) (vD_r hD) (ci := 12) (q0 := 0) rfl rfl) rfl rfl hl.1 rfl (lv_room (Nat.le_of_ble_eq_true rfl)) dL_law_413 hcs) hS hA hP hD (fun r110 u110 H locs hw110 hP hD hS => ?_)
  obtain ⟨i110, q110, c110, d110⟩ := u110
  have hw110 : True ∧ mInv i110 c110 ∧ (∀ k, k ∉ ([0, 35, 36] : List Nat) → i110 k = jm k) ∧ (∀ k, k ∉ ([1, 34, 38, 39] : List Nat) → c110 k = em k) := hw110
  obtain ⟨hw110, hM, hei110, hec110⟩ := hw110
  have hP : va_P D vwCl (xwT sk a t i105 q105 c105 d105 ++ (Z ++ mW o am tm i110 q110 c110 d110)) H := by rw [← List.append_assoc]; exact hP
  have hD : va_D (fun q : Nat => s.heap.size ≤ q) (xwT sk a t i105 q105 c105 d105 ++ (Z ++ mW o am tm i110 q110 c110 d110)) := by rw [← List.append_assoc]; exact hD
  refine lv_pop hx hb dL_law_416 rfl ?_
  refine lv_goto (tgt := 1461) hx hb dL_law_417 (by decide +kernel) ?_
  exact kk i105 q105 c105 d105 i110 q110 c110 d110 _ _ _ ⟨hI, (by rw [show c105 113 = c 113 from hec105 113 (by decide +kernel), show c105 115 = c 115 from hec105 115 (by decide +kernel)]; exact hs_F), (by rw [show i105 146 = i 146 from hei105 146 (by decide +kernel), show i105 147 = i 147 from hei105 147 (by decide +kernel), show i105 148 = i 148 from hei105 148 (by decide +kernel), show i105 156 = i 156 from hei105 156 (by decide +kernel), show c105 144 = c 144 from hec105 144 (by decide +kernel), show c105 145 = c 145 from hec105 145 (by decide +kernel), show c105 150 = c 150 from hec105 150 (by decide +kernel)]; exact hs_P), (by rw [show i105 141 = i 141 from hei105 141 (by decide +kernel)]; exact htr), hM, (by rw [show c110 3 = em 3 from hec110 3 (by decide +kernel), show c110 6 = em 6 from hec110 6 (by decide +kernel), show c110 9 = em 9 from hec110 9 (by decide +kernel), show c110 10 = em 10 from hec110 10 (by decide +kernel), show c110 11 = em 11 from hec110 11 (by decide +kernel), show c110 13 = em 13 from hec110 13 (by decide +kernel), show i110 2 = jm 2 from hei110 2 (by decide +kernel), show i110 5 = jm 5 from hei110 5 (by decide +kernel), show i110 8 = jm 8 from hei110 8 (by decide +kernel)]; exact hs_S), (by rw [show c110 3 = em 3 from hec110 3 (by decide +kernel), show c110 6 = em 6 from hec110 6 (by decide +kernel), show c110 23 = em 23 from hec110 23 (by decide +kernel), show c110 24 = em 24 from hec110 24 (by decide +kernel), show c110 29 = em 29 from hec110 29 (by decide +kernel), show c110 30 = em 30 from hec110 30 (by decide +kernel), show i110 5 = jm 5 from hei110 5 (by decide +kernel), show i110 22 = jm 22 from hei110 22 (by decide +kernel), show i110 27 = jm 27 from hei110 27 (by decide +kernel)]; exact hs_J), (by rw [show i105 110 = i 110 from hei105 110 (by decide +kernel), show i105 111 = i 111 from hei105 111 (by decide +kernel), show i105 165 = i 165 from hei105 165 (by decide +kernel), show i105 124 = i 124 from hei105 124 (by decide +kernel), show c105 107 = c 107 from hec105 107 (by decide +kernel), show c105 105 = c 105 from hec105 105 (by decide +kernel), show c105 108 = c 108 from hec105 108 (by decide +kernel), show c105 106 = c 106 from hec105 106 (by decide +kernel), show c105 113 = c 113 from hec105 113 (by decide +kernel), show c105 114 = c 114 from hec105 114 (by decide +kernel), show c105 115 = c 115 from hec105 115 (by decide +kernel), show c105 116 = c 116 from hec105 116 (by decide +kernel), show c105 117 = c 117 from hec105 117 (by decide +kernel), show c105 118 = c 118 from hec105 118 (by decide +kernel), show c105 119 = c 119 from hec105 119 (by decide +kernel), show c105 120 = c 120 from hec105 120 (by decide +kernel), show c105 121 = c 121 from hec105 121 (by decide +kernel), show c105 127 = c 127 from hec105 127 (by decide +kernel), show c105 129 = c 129 from hec105 129 (by decide +kernel), show c105 130 = c 130 from hec105 130 (by decide +kernel), show c105 131 = c 131 from hec105 131 (by decide +kernel), show c105 132 = c 132 from hec105 132 (by decide +kernel), show c105 133 = c 133 from hec105 133 (by decide +kernel), show c105 134 = c 134 from hec105 134 (by decide +kernel), show i110 2 = jm 2 from hei110 2 (by decide +kernel), show i110 5 = jm 5 from hei110 5 (by decide +kernel), show i110 64 = jm 64 from hei110 64 (by decide +kernel), show i110 8 = jm 8 from hei110 8 (by decide +kernel), show c110 4 = em 4 from hec110 4 (by decide +kernel), show c110 3 = em 3 from hec110 3 (by decide +kernel), show c110 6 = em 6 from hec110 6 (by decide +kernel), show c110 9 = em 9 from hec110 9 (by decide +kernel), show c110 10 = em 10 from hec110 10 (by decide +kernel), show c110 11 = em 11 from hec110 11 (by decide +kernel), show c110 12 = em 12 from hec110 12 (by decide +kernel), show c110 13 = em 13 from hec110 13 (by decide +kernel)]; exact ⟨hR, hPA, hKO, hSO, hSN, hDR, hRD⟩)⟩ hP hD hS (lv_sub hl [0, 1, 2, 3] rfl)

set_option maxHeartbeats 4000000 in
set_option maxRecDepth 100000 in
theorem law_say {p : Program} {l : Launch} {e : Env} {s : State} {m : MethodId} {below : List Frame} {meth : Method} {cd : Code} {b L : Nat} {xs : Nat → Int32} {D : va_G} {a : Nat → Nat} {t : Nat → ClassId} {o : Nat} {am : Nat → Nat} {tm : Nat → ClassId} {x3 : Int32} {cells slots : Nat} {sk : Value} {Z : va_W} (hx : p.tables.exec = Jvm.exec) (hb : cd.code = cL_law) (hml : cd.maxLocals = 4) (hown : s.vm.findClass RL = some m.cls) (hts : ∀ w ∈ wm_law, w.before #[Value.ref b] s = true) (hX : va_X b L xs s s.heap) (hbl : b < s.heap.size) (hL : L ≤ 3584) (hN : xN s) (hZ : xZ (a 186) s s.heap) (hKT : va_K D vwCl (xtT t) s) (hKM : va_K D vwCl (mT tm) s) (hcs : cells ≤ 600000 ∧ slots ≤ 7302249) (hx3 : 0 ≤ x3.toInt ∧ x3.toInt + 7 ≤ (L : Int)) (kk : LK p l e s m below meth cd b D sk a t Z o am tm x3 cells slots) (i : Nat → Int32) (q : Int64) (c : Nat → Nat → Int32) (d : Nat → Nat → Int64) (jm : Nat → Int32) (qm : Int64) (em : Nat → Nat → Int32) (dm : Nat → Nat → Int64) (H : Heap) (locs : List Loc) (ls : Array Slot) (hLI : LI i c jm em) (hP : va_P D vwCl (xwT sk a t i q c d ++ (Z ++ mW o am tm jm qm em dm)) H) (hD : va_D (fun q : Nat => s.heap.size ≤ q) (xwT sk a t i q c d ++ (Z ++ mW o am tm jm qm em dm))) (hS : va_S (fun q : Nat => s.heap.size ≤ q) s.heap H locs) (hl : lv_has ls 4 [(3, .int x3), (2, .ref o), (1, .ref (a 100)), (0, .ref b)]) : W p l e room_1 s m #[Value.ref b] below meth cd H locs cells slots (lw_Z below #[Value.ref b] s) (F0 m 420 ls []) := by
  have hbA : ¬ (fun q : Nat => s.heap.size ≤ q) b := Nat.not_le.mpr hbl
  have hA : ∀ q : Nat, s.heap.size ≤ q → (fun q : Nat => s.heap.size ≤ q) q := fun _ h => h
  obtain ⟨hI, hs_F, hs_P, htr, hM, hs_S, hs_J, hR⟩ := hLI
  have hI0 := hI
  have hM0 := hM
  obtain ⟨hR, hPA, hKO, hSO, hSN, hDR, hRD⟩ := hR
  have hRR := RR_of hI0 hs_F
  refine lv_aload_n hx hb dL_law_420 rfl (lv_at hl 2 rfl) ?_
  refine lv_aload_n hx hb dL_law_421 rfl (lv_at hl 3 rfl) ?_
  refine lv_iload_n hx hb dL_law_422 rfl (lv_at hl 0 rfl) ?_
  refine lv_iconst (v := 1) hx hb dL_law_423 (by decide +kernel) ?_
  refine lv_iadd hx hb dL_law_424 ?_
  refine lv_topi (fun x101 ex101 => ?_)
  have tx101 := ti_add (a := x3.toInt) (b := 1) ex101 rfl (by decide +kernel) (by omega) (by omega)
  refine va_sld hx hb hX hbl hbA hS (vp_in_iff.mpr (by have h9 : x101.toInt = (x3.toInt + 1) := tx101; omega)) dL_law_425 ?_
  refine lv_topi (fun x102 ex102 => ?_)
  refine lv_aload_n hx hb dL_law_426 rfl (lv_at hl 3 rfl) ?_
  refine lv_iload_n hx hb dL_law_427 rfl (lv_at hl 0 rfl) ?_
  refine lv_iconst (v := 2) hx hb dL_law_428 (by decide +kernel) ?_
  refine lv_iadd hx hb dL_law_429 ?_
  refine lv_topi (fun x103 ex103 => ?_)
  have tx103 := ti_add (a := x3.toInt) (b := 2) ex103 rfl (by decide +kernel) (by omega) (by omega)
  refine va_sld hx hb hX hbl hbA hS (vp_in_iff.mpr (by have h9 : x103.toInt = (x3.toInt + 2) := tx103; omega)) dL_law_430 ?_
  refine lv_topi (fun x104 ex104 => ?_)
  refine lv_aload_n hx hb dL_law_431 rfl (lv_at hl 3 rfl) ?_
  refine lv_iload_n hx hb dL_law_432 rfl (lv_at hl 0 rfl) ?_
  refine lv_iconst (v := 3) hx hb dL_law_433 (by decide +kernel) ?_
  refine lv_iadd hx hb dL_law_434 ?_
  refine lv_topi (fun x105 ex105 => ?_)
  have tx105 := ti_add (a := x3.toInt) (b := 3) ex105 rfl (by decide +kernel) (by omega) (by omega)
  refine va_sld hx hb hX hbl hbA hS (vp_in_iff.mpr (by have h9 : x105.toInt = (x3.toInt + 3) := tx105; omega)) dL_law_435 ?_
  refine lv_topi (fun x106 ex106 => ?_)
  refine lv_aload_n hx hb dL_law_436 rfl (lv_at hl 3 rfl) ?_
  refine lv_iload_n hx hb dL_law_437 rfl (lv_at hl 0 rfl) ?_
  refine lv_iconst (v := 4) hx hb dL_law_438 (by decide +kernel) ?_
  refine lv_iadd hx hb dL_law_439 ?_
  refine lv_topi (fun x107 ex107 => ?_)
  have tx107 := ti_add (a := x3.toInt) (b := 4) ex107 rfl (by decide +kernel) (by omega) (by omega)
  refine va_sld hx hb hX hbl hbA hS (vp_in_iff.mpr (by have h9 : x107.toInt = (x3.toInt + 4) := tx107; omega)) dL_law_440 ?_
  refine lv_topi (fun x108 ex108 => ?_)
  refine lc_i (wr := (Z ++ mW o am tm jm qm em dm)) (va_runV (As := [.int x102, .int x104, .int x106, .int x108]) (rest := []) ⟨hx, hb, hml, hown, hts⟩ (x_X11_say_e l D H.size sk a t i q c d x102 x104 x106 x108 hI hs_F (Ac_hF hSN hRR hs_S)) (cwV 4 hts gm_law_X11_say_e_49 rfl rfl rfl (by decide +kernel) ⟨Nat.le_of_ble_eq_true rfl, Nat.le_of_ble_eq_true rfl⟩) (yB_V hN (xZ_k hZ hS hA) (xZ_n hZ (vD_l hD)) hKT (vP_l hP) (vD_l hD) (ci := 11) (q0 := 0) rfl rfl) rfl rfl hl.1 rfl (lv_room (Nat.le_of_ble_eq_true rfl)) dL_law_441 hcs) hS hA hP hD (fun r109 u109 H locs hw109 _ hP hD hS => ?_)
  obtain ⟨i109, q109, c109, d109⟩ := u109
  have hw109 : True ∧ xInv i109 c109 ∧ (∀ k, k ∉ ([102, 123, 124, 125, 146, 148] : List Nat) → i109 k = i k) ∧ (∀ k, k ∉ ([101, 113, 114, 115, 116, 117, 118, 119, 120, 121, 122, 127, 129, 130, 131, 132, 133, 134] : List Nat) → c109 k = c k) ∧ (xEn (i 146) (i 148) (i109 146) (i109 148)) ∧ (xFl (c109 113) (c109 115)) ∧ (SyW (AcX (c 113) (c 114) (c 115) (c 116) (c 117) (c 118) (c 119) (c 120) (c 121) (c 127) (i 124).toInt (i 111).toInt (c 106 (c 108 x104.toInt.toNat).toNatClampNeg).toInt (c 106 (c 108 x106.toInt.toNat).toNatClampNeg).toInt x102.toInt x104.toInt x106.toInt x108.toInt (lI x102 x108).toInt) (c 113) (c 114) (c 115) (c 116) (c 117) (c109 113) (c109 114) (c109 115) (c109 116) (c109 117) (i 124) (i109 124) x102 x104 x106 (lI x102 x108)) ∧ (PtW (AcX (c 113) (c 114) (c 115) (c 116) (c 117) (c 118) (c 119) (c 120) (c 121) (c 127) (i 124).toInt (i 111).toInt (c 106 (c 108 x104.toInt.toNat).toNatClampNeg).toInt (c 106 (c 108 x106.toInt.toNat).toNatClampNeg).toInt x102.toInt x104.toInt x106.toInt x108.toInt (lI x102 x108).toInt) (c 118) (c 119) (c 120) (c 121) (c 127) (c109 118) (c109 119) (c109 120) (c109 121) (c109 127) x102.toInt x104.toInt x106.toInt (lI x102 x108).toInt (i 124)) ∧ (RdQ (AcX (c 113) (c 114) (c 115) (c 116) (c 117) (c 118) (c 119) (c 120) (c 121) (c 127) (i 124).toInt (i 111).toInt (c 106 (c 108 x104.toInt.toNat).toNatClampNeg).toInt (c 106 (c 108 x106.toInt.toNat).toNatClampNeg).toInt x102.toInt x104.toInt x106.toInt x108.toInt (lI x102 x108).toInt) (zX (c 106) (c 108) (i 111).toInt) (c109 113) (c109 114) (c109 115) (c109 116) (c109 117) (c 129) (c 130) (c 131) (c 132) (c 133) (c 134) (c109 129) (c109 130) (c109 131) (c109 132) (c109 133) (c109 134) (i109 124).toInt x102.toInt) := hw109
  obtain ⟨hw109, hI, hei109, hec109, hxp109_0, hxp109_1, hxp109_2, hxp109_3, hxp109_4⟩ := hw109
  have hP : va_P D vwCl (xwT sk a t i109 q109 c109 d109 ++ (Z ++ mW o am tm jm qm em dm)) H := hP
  have hD : va_D (fun q : Nat => s.heap.size ≤ q) (xwT sk a t i109 q109 c109 d109 ++ (Z ++ mW o am tm jm qm em dm)) := hD
  refine lv_pop hx hb dL_law_444 rfl ?_
  refine lv_aload_n hx hb dL_law_445 rfl (lv_at hl 1 rfl) ?_
  refine lv_aload_n hx hb dL_law_446 rfl (lv_at hl 3 rfl) ?_
  refine lv_iload_n hx hb dL_law_447 rfl (lv_at hl 0 rfl) ?_
  refine lv_iconst (v := 1) hx hb dL_law_448 (by decide +kernel) ?_
  refine lv_iadd hx hb dL_law_449 ?_
  refine lv_topi (fun x110 ex110 => ?_)
  have tx110 := ti_add (a := x3.toInt) (b := 1) ex110 rfl (by decide +kernel) (by omega) (by omega)
  refine va_sld hx hb hX hbl hbA hS (vp_in_iff.mpr (by have h9 : x110.toInt = (x3.toInt + 1) := tx110; omega)) dL_law_450 ?_
  refine lv_topi (fun x111 ex111 => ?_)
  refine lv_aload_n hx hb dL_law_451 rfl (lv_at hl 3 rfl) ?_
  refine lv_iload_n hx hb dL_law_452 rfl (lv_at hl 0 rfl) ?_
  refine lv_iconst (v := 2) hx hb dL_law_453 (by decide +kernel) ?_
  refine lv_iadd hx hb dL_law_454 ?_
  refine lv_topi (fun x112 ex112 => ?_)
  have tx112 := ti_add (a := x3.toInt) (b := 2) ex112 rfl (by decide +kernel) (by omega) (by omega)
  refine va_sld hx hb hX hbl hbA hS (vp_in_iff.mpr (by have h9 : x112.toInt = (x3.toInt + 2) := tx112; omega)) dL_law_455 ?_
  refine lv_topi (fun x113 ex113 => ?_)
  refine lv_aload_n hx hb dL_law_456 rfl (lv_at hl 3 rfl) ?_
  refine lv_iload_n hx hb dL_law_457 rfl (lv_at hl 0 rfl) ?_
  refine lv_iconst (v := 3) hx hb dL_law_458 (by decide +kernel) ?_
  refine lv_iadd hx hb dL_law_459 ?_
  refine lv_topi (fun x114 ex114 => ?_)
  have tx114 := ti_add (a := x3.toInt) (b := 3) ex114 rfl (by decide +kernel) (by omega) (by omega)
  refine va_sld hx hb hX hbl hbA hS (vp_in_iff.mpr (by have h9 : x114.toInt = (x3.toInt + 3) := tx114; omega)) dL_law_460 ?_
  refine lv_topi (fun x115 ex115 => ?_)
  refine lv_aload_n hx hb dL_law_461 rfl (lv_at hl 3 rfl) ?_
  refine lv_iload_n hx hb dL_law_462 rfl (lv_at hl 0 rfl) ?_
  refine lv_iconst (v := 4) hx hb dL_law_463 (by decide +kernel) ?_
  refine lv_iadd hx hb dL_law_464 ?_
  refine lv_topi (fun x116 ex116 => ?_)
  have tx116 := ti_add (a := x3.toInt) (b := 4) ex116 rfl (by decide +kernel) (by omega) (by omega)
  refine va_sld hx hb hX hbl hbA hS (vp_in_iff.mpr (by have h9 : x116.toInt = (x3.toInt + 4) := tx116; omega)) dL_law_465 ?_
  refine lv_topi (fun x117 ex117 => ?_)
  have hP : va_P D vwCl ((xwT sk a t i109 q109 c109 d109 ++ Z) ++ mW o am tm jm qm em dm) H := by rw [List.append_assoc]; exact hP
  have hD : va_D (fun q : Nat => s.heap.size ≤ q) ((xwT sk a t i109 q109 c109 d109 ++ Z) ++ mW o am tm jm qm em dm) := by rw [List.append_assoc]; exact hD
  refine rc_i (wr := (xwT sk a t i109 q109 c109 d109 ++ Z)) (va_runV (As := [.int x111, .int x113, .int x115, .int x117]) (rest := []) ⟨hx, hb, hml, hown, hts⟩ (s_X12_say_e l D H.size o am tm jm qm em dm x111 x113 x115 x117 hM hs_S hs_J) (cwV 4 hts gm_law_X12_say_53 rfl rfl rfl (by decide +kernel) ⟨Nat.le_of_ble_eq_true rfl, Nat.le_of_ble_eq_true rfl⟩) (pB_V hKM (vP_r hP) (vD_r hD) (ci := 12) (q0 := 0) rfl rfl) rfl rfl hl.1 rfl (lv_room (Nat.le_of_ble_eq_true rfl)) dL_law_466 hcs) hS hA hP hD (fun r118 u118 H locs hw118 hP hD hS => ?_)
  obtain ⟨i118, q118, c118, d118⟩ := u118
  have hw118 : True ∧ mInv i118 c118 ∧ (∀ k, k ∉ ([0, 8, 15, 22, 27] : List Nat) → i118 k = jm k) ∧ (∀ k, k ∉ ([1, 9, 10, 11, 12, 13, 14] : List Nat) → c118 k = em k) ∧ (SJ (c118 3) (c118 6) (c118 9) (c118 10) (c118 11) (c118 13) (i118 2).toInt (i118 5).toInt (i118 8).toInt) ∧ (TJ (c118 3) (c118 6) (c118 23) (c118 24) (c118 29) (c118 30) (i118 5).toInt (i118 22).toInt (i118 27).toInt) ∧ (SyW (AcM (em 9) (em 10) (em 11) (em 12) (em 13) (jm 8).toInt (jm 5).toInt (kS (em 3) (em 6) x113.toInt) (kS (em 3) (em 6) x115.toInt) x111.toInt x113.toInt x115.toInt x117.toInt (lI x111 x117).toInt) (em 9) (em 10) (em 11) (em 12) (em 13) (c118 9) (c118 10) (c118 11) (c118 12) (c118 13) (jm 8) (i118 8) x111 x113 x115 (lI x111 x117)) := hw118
  obtain ⟨hw118, hM, hei118, hec118, hxp118_0, hxp118_1, hxp118_2⟩ := hw118
  have hP : va_P D vwCl (xwT sk a t i109 q109 c109 d109 ++ (Z ++ mW o am tm i118 q118 c118 d118)) H := by rw [← List.append_assoc]; exact hP
  have hD : va_D (fun q : Nat => s.heap.size ≤ q) (xwT sk a t i109 q109 c109 d109 ++ (Z ++ mW o am tm i118 q118 c118 d118)) := by rw [← List.append_assoc]; exact hD
  have hag0 : x111.toInt = x102.toInt := congrArg Int32.toInt (by rw [ex111, ex110, ex102, ex101])
  have hag1 : x113.toInt = x104.toInt := congrArg Int32.toInt (by rw [ex113, ex112, ex104, ex103])
  have hag2 : x115.toInt = x106.toInt := congrArg Int32.toInt (by rw [ex115, ex114, ex106, ex105])
  have hag3 : x117.toInt = x108.toInt := congrArg Int32.toInt (by rw [ex117, ex116, ex108, ex107])
  refine lv_pop hx hb dL_law_469 rfl ?_
  refine lv_goto (tgt := 1461) hx hb dL_law_470 (by decide +kernel) ?_
  exact kk i109 q109 c109 d109 i118 q118 c118 d118 _ _ _ ⟨hI, hxp109_1, (by rw [show i109 147 = i 147 from hei109 147 (by decide +kernel), show i109 156 = i 156 from hei109 156 (by decide +kernel), show c109 150 = c 150 from hec109 150 (by decide +kernel), show c109 144 = c 144 from hec109 144 (by decide +kernel), show c109 145 = c 145 from hec109 145 (by decide +kernel)]; exact PJ_en hs_P hxp109_0), (by rw [show i109 141 = i 141 from hei109 141 (by decide +kernel)]; exact htr), hM, hxp118_0, hxp118_1, (by rw [show i109 110 = i 110 from hei109 110 (by decide +kernel), show i109 111 = i 111 from hei109 111 (by decide +kernel), show i109 165 = i 165 from hei109 165 (by decide +kernel), show c109 107 = c 107 from hec109 107 (by decide +kernel), show c109 105 = c 105 from hec109 105 (by decide +kernel), show c109 108 = c 108 from hec109 108 (by decide +kernel), show c109 106 = c 106 from hec109 106 (by decide +kernel), show i118 2 = jm 2 from hei118 2 (by decide +kernel), show i118 5 = jm 5 from hei118 5 (by decide +kernel), show i118 64 = jm 64 from hei118 64 (by decide +kernel), show c118 4 = em 4 from hec118 4 (by decide +kernel), show c118 3 = em 3 from hec118 3 (by decide +kernel), show c118 6 = em 6 from hec118 6 (by decide +kernel)]; exact ⟨hR, hPA, hKO, hSO, SN_say hSN hRR (by have h9 : 0 ≤ (i 111).toInt ∧ (i 111).toInt ≤ 30 := hI0.1 111; omega) (by have h9 : 0 ≤ (i 124).toInt ∧ (i 124).toInt ≤ 200 := hI0.1 124; omega) hR.2.1 (fun hw9 => by rw [hag1]; exact xS_e (kn := i 110) (N := (jm 5).toInt) hSO hPA hKO (fun j hj => by have h9 := hs_S.1 j hj; have h8 := hR.1; omega) (fun j => (show 0 ≤ (em 6 j).toInt ∧ (em 6 j).toInt ≤ 23 from hM0.2 6 j).1) (by unfold WF at hw9; have h8 := hR.2.1; omega) (show 0 ≤ (c 106 _).toInt ∧ (c 106 _).toInt ≤ 5 from hI0.2 106 _)) (fun hw9 hf9 => by rw [hag2]; exact xS_e (kn := i 110) (N := (jm 5).toInt) hSO hPA hKO (fun j hj => by have h9 := hs_S.1 j hj; have h8 := hR.1; omega) (fun j => (show 0 ≤ (em 6 j).toInt ∧ (em 6 j).toInt ≤ 23 from hM0.2 6 j).1) (by unfold WF at hw9; have h8 := hR.2.1; omega) (show 0 ≤ (c 106 _).toInt ∧ (c 106 _).toInt ≤ 5 from hI0.2 106 _)) hag0 hag1 hag2 hag3 hxp109_2 hxp109_3 hxp118_2, DR_say hDR hSN.2.2.2.2.2.2 hRR (by have h9 : 0 ≤ (i 111).toInt ∧ (i 111).toInt ≤ 30 := hI0.1 111; omega) (by have h9 : 0 ≤ (i 124).toInt ∧ (i 124).toInt ≤ 200 := hI0.1 124; omega) (fun hw9 hf9 => (zX_e (by unfold WF at hw9; omega)).symm) hxp109_2, RD_say hRD (by have h9 : 0 ≤ (i 124).toInt ∧ (i 124).toInt ≤ 200 := hI0.1 124; omega) hxp109_2 hxp109_4⟩)⟩ hP hD hS (lv_sub hl [0, 1, 2, 3] rfl)

