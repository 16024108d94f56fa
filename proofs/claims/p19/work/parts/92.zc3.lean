set_option maxHeartbeats 4000000 in
set_option maxRecDepth 100000 in
theorem law_copy {p : Program} {l : Launch} {e : Env} {s : State} {m : MethodId} {below : List Frame} {meth : Method} {cd : Code} {b L : Nat} {xs : Nat → Int32} {D : va_G} {a : Nat → Nat} {t : Nat → ClassId} {o : Nat} {am : Nat → Nat} {tm : Nat → ClassId} {x3 : Int32} {cells slots : Nat} {sk : Value} {Z : va_W} (hx : p.tables.exec = Jvm.exec) (hb : cd.code = cL_law) (hml : cd.maxLocals = 4) (hown : s.vm.findClass RL = some m.cls) (hts : ∀ w ∈ wm_law, w.before #[Value.ref b] s = true) (hX : va_X b L xs s s.heap) (hbl : b < s.heap.size) (hL : L ≤ 3584) (hN : xN s) (hZ : xZ (a 186) s s.heap) (hKT : va_K D vwCl (xtT t) s) (hKM : va_K D vwCl (mT tm) s) (hcs : cells ≤ 600000 ∧ slots ≤ 7302249) (hx3 : 0 ≤ x3.toInt ∧ x3.toInt + 7 ≤ (L : Int)) (kk : LK p l e s m below meth cd b D sk a t Z o am tm x3 cells slots) (i : Nat → Int32) (q : Int64) (c : Nat → Nat → Int32) (d : Nat → Nat → Int64) (jm : Nat → Int32) (qm : Int64) (em : Nat → Nat → Int32) (dm : Nat → Nat → Int64) (H : Heap) (locs : List Loc) (ls : Array Slot) (hLI : LI i c jm em) (hP : va_P D vwCl (xwT sk a t i q c d ++ (Z ++ mW o am tm jm qm em dm)) H) (hD : va_D (fun q : Nat => s.heap.size ≤ q) (xwT sk a t i q c d ++ (Z ++ mW o am tm jm qm em dm))) (hS : va_S (fun q : Nat => s.heap.size ≤ q) s.heap H locs) (hl : lv_has ls 4 [(3, .int x3), (2, .ref o), (1, .ref (a 100)), (0, .ref b)]) : W p l e room_1 s m #[Value.ref b] below meth cd H locs cells slots (lw_Z below #[Value.ref b] s) (F0 m 1205 ls []) := by
  have hbA : ¬ (fun q : Nat => s.heap.size ≤ q) b := Nat.not_le.mpr hbl
  have hA : ∀ q : Nat, s.heap.size ≤ q → (fun q : Nat => s.heap.size ≤ q) q := fun _ h => h
  obtain ⟨hI, hs_F, hs_P, htr, hM, hs_S, hs_J, hR⟩ := hLI
  have hI0 := hI
  have hM0 := hM
  obtain ⟨hR, hPA, hKO, hSO, hSN, hDR, hRD⟩ := hR
  have hRR := RR_of hI0 hs_F
  refine lv_aload_n hx hb dL_law_1205 rfl (lv_at hl 2 rfl) ?_
  refine lv_aload_n hx hb dL_law_1206 rfl (lv_at hl 3 rfl) ?_
  refine lv_iload_n hx hb dL_law_1207 rfl (lv_at hl 0 rfl) ?_
  refine lv_iconst (v := 1) hx hb dL_law_1208 (by decide +kernel) ?_
  refine lv_iadd hx hb dL_law_1209 ?_
  refine lv_topi (fun x101 ex101 => ?_)
  have tx101 := ti_add (a := x3.toInt) (b := 1) ex101 rfl (by decide +kernel) (by omega) (by omega)
  refine va_sld hx hb hX hbl hbA hS (vp_in_iff.mpr (by have h9 : x101.toInt = (x3.toInt + 1) := tx101; omega)) dL_law_1210 ?_
  refine lv_topi (fun x102 ex102 => ?_)
  refine lv_aload_n hx hb dL_law_1211 rfl (lv_at hl 3 rfl) ?_
  refine lv_iload_n hx hb dL_law_1212 rfl (lv_at hl 0 rfl) ?_
  refine lv_iconst (v := 2) hx hb dL_law_1213 (by decide +kernel) ?_
  refine lv_iadd hx hb dL_law_1214 ?_
  refine lv_topi (fun x103 ex103 => ?_)
  have tx103 := ti_add (a := x3.toInt) (b := 2) ex103 rfl (by decide +kernel) (by omega) (by omega)
  refine va_sld hx hb hX hbl hbA hS (vp_in_iff.mpr (by have h9 : x103.toInt = (x3.toInt + 2) := tx103; omega)) dL_law_1215 ?_
  refine lv_topi (fun x104 ex104 => ?_)
  refine lv_aload_n hx hb dL_law_1216 rfl (lv_at hl 3 rfl) ?_
  refine lv_iload_n hx hb dL_law_1217 rfl (lv_at hl 0 rfl) ?_
  refine lv_iconst (v := 3) hx hb dL_law_1218 (by decide +kernel) ?_
  refine lv_iadd hx hb dL_law_1219 ?_
  refine lv_topi (fun x105 ex105 => ?_)
  have tx105 := ti_add (a := x3.toInt) (b := 3) ex105 rfl (by decide +kernel) (by omega) (by omega)
  refine va_sld hx hb hX hbl hbA hS (vp_in_iff.mpr (by have h9 : x105.toInt = (x3.toInt + 3) := tx105; omega)) dL_law_1220 ?_
  refine lv_topi (fun x106 ex106 => ?_)
  refine lv_aload_n hx hb dL_law_1221 rfl (lv_at hl 3 rfl) ?_
  refine lv_iload_n hx hb dL_law_1222 rfl (lv_at hl 0 rfl) ?_
  refine lv_iconst (v := 4) hx hb dL_law_1223 (by decide +kernel) ?_
  refine lv_iadd hx hb dL_law_1224 ?_
  refine lv_topi (fun x107 ex107 => ?_)
  have tx107 := ti_add (a := x3.toInt) (b := 4) ex107 rfl (by decide +kernel) (by omega) (by omega)
  refine va_sld hx hb hX hbl hbA hS (vp_in_iff.mpr (by have h9 : x107.toInt = (x3.toInt + 4) := tx107; omega)) dL_law_1225 ?_
  refine lv_topi (fun x108 ex108 => ?_)
  refine lv_aload_n hx hb dL_law_1226 rfl (lv_at hl 3 rfl) ?_
  refine lv_iload_n hx hb dL_law_1227 rfl (lv_at hl 0 rfl) ?_
  refine lv_iconst (v := 5) hx hb dL_law_1228 (by decide +kernel) ?_
  refine lv_iadd hx hb dL_law_1229 ?_
  refine lv_topi (fun x109 ex109 => ?_)
  have tx109 := ti_add (a := x3.toInt) (b := 5) ex109 rfl (by decide +kernel) (by omega) (by omega)
  refine va_sld hx hb hX hbl hbA hS (vp_in_iff.mpr (by have h9 : x109.toInt = (x3.toInt + 5) := tx109; omega)) dL_law_1230 ?_
  refine lv_topi (fun x110 ex110 => ?_)
  refine lv_aload_n hx hb dL_law_1231 rfl (lv_at hl 3 rfl) ?_
  refine lv_iload_n hx hb dL_law_1232 rfl (lv_at hl 0 rfl) ?_
  refine lv_bipush (v := 6) hx hb dL_law_1233 (by decide +kernel) ?_
  refine lv_iadd hx hb dL_law_1235 ?_
  refine lv_topi (fun x111 ex111 => ?_)
  have tx111 := ti_add (a := x3.toInt) (b := 6) ex111 rfl (by decide +kernel) (by omega) (by omega)
  refine va_sld hx hb hX hbl hbA hS (vp_in_iff.mpr (by have h9 : x111.toInt = (x3.toInt + 6) := tx111; omega)) dL_law_1236 ?_
  refine lv_topi (fun x112 ex112 => ?_)
  refine lc_i (wr := (Z ++ mW o am tm jm qm em dm)) (va_runV (As := [.int x102, .int x104, .int x106, .int x108, .int x110, .int x112]) (rest := []) ⟨hx, hb, hml, hown, hts⟩ (x_X11_copy l D H.size sk a t i q c d x102 x104 x106 x108 x110 x112 hI ) (cwV 6 hts gm_law_X11_copy_139 rfl rfl rfl (by decide +kernel) ⟨Nat.le_of_ble_eq_true rfl, Nat.le_of_ble_eq_true rfl⟩) (yB_V hN (xZ_k hZ hS hA) (xZ_n hZ (vD_l hD)) hKT (vP_l hP) (vD_l hD) (ci := 11) (q0 := 0) rfl rfl) rfl rfl hl.1 rfl (lv_room (Nat.le_of_ble_eq_true rfl)) dL_law_1237 hcs) hS hA hP hD (fun r113 u113 H locs hw113 _ hP hD hS => ?_)
  obtain ⟨i113, q113, c113, d113⟩ := u113
  have hw113 : True ∧ xInv i113 c113 ∧ (∀ k, k ∉ ([102] : List Nat) → i113 k = i k) ∧ (∀ k, k ∉ ([101] : List Nat) → c113 k = c k) := hw113
  obtain ⟨hw113, hI, hei113, hec113⟩ := hw113
  have hP : va_P D vwCl (xwT sk a t i113 q113 c113 d113 ++ (Z ++ mW o am tm jm qm em dm)) H := hP
  have hD : va_D (fun q : Nat => s.heap.size ≤ q) (xwT sk a t i113 q113 c113 d113 ++ (Z ++ mW o am tm jm qm em dm)) := hD
  refine lv_pop hx hb dL_law_1240 rfl ?_
  refine lv_aload_n hx hb dL_law_1241 rfl (lv_at hl 1 rfl) ?_
  refine lv_aload_n hx hb dL_law_1242 rfl (lv_at hl 3 rfl) ?_
  refine lv_iload_n hx hb dL_law_1243 rfl (lv_at hl 0 rfl) ?_
  refine lv_iconst (v := 1) hx hb dL_law_1244 (by decide +kernel) ?_
  refine lv_iadd hx hb dL_law_1245 ?_
  refine lv_topi (fun x114 ex114 => ?_)
  have tx114 := ti_add (a := x3.toInt) (b := 1) ex114 rfl (by decide +kernel) (by omega) (by omega)
  refine va_sld hx hb hX hbl hbA hS (vp_in_iff.mpr (by have h9 : x114.toInt = (x3.toInt + 1) := tx114; omega)) dL_law_1246 ?_
  refine lv_topi (fun x115 ex115 => ?_)
  refine lv_aload_n hx hb dL_law_1247 rfl (lv_at hl 3 rfl) ?_
  refine lv_iload_n hx hb dL_law_1248 rfl (lv_at hl 0 rfl) ?_
  refine lv_iconst (v := 2) hx hb dL_law_1249 (by decide +kernel) ?_
  refine lv_iadd hx hb dL_law_1250 ?_
  refine lv_topi (fun x116 ex116 => ?_)
  have tx116 := ti_add (a := x3.toInt) (b := 2) ex116 rfl (by decide +kernel) (by omega) (by omega)
  refine va_sld hx hb hX hbl hbA hS (vp_in_iff.mpr (by have h9 : x116.toInt = (x3.toInt + 2) := tx116; omega)) dL_law_1251 ?_
  refine lv_topi (fun x117 ex117 => ?_)
  refine lv_aload_n hx hb dL_law_1252 rfl (lv_at hl 3 rfl) ?_
  refine lv_iload_n hx hb dL_law_1253 rfl (lv_at hl 0 rfl) ?_
  refine lv_iconst (v := 3) hx hb dL_law_1254 (by decide +kernel) ?_
  refine lv_iadd hx hb dL_law_1255 ?_
  refine lv_topi (fun x118 ex118 => ?_)
  have tx118 := ti_add (a := x3.toInt) (b := 3) ex118 rfl (by decide +kernel) (by omega) (by omega)
  refine va_sld hx hb hX hbl hbA hS (vp_in_iff.mpr (by have h9 : x118.toInt = (x3.toInt + 3) := tx118; omega)) dL_law_1256 ?_
  refine lv_topi (fun x119 ex119 => ?_)
  refine lv_aload_n hx hb dL_law_1257 rfl (lv_at hl 3 rfl) ?_
  refine lv_iload_n hx hb dL_law_1258 rfl (lv_at hl 0 rfl) ?_
  refine lv_iconst (v := 4) hx hb dL_law_1259 (by decide +kernel) ?_
  refine lv_iadd hx hb dL_law_1260 ?_
  refine lv_topi (fun x120 ex120 => ?_)
  have tx120 := ti_add (a := x3.toInt) (b := 4) ex120 rfl (by decide +kernel) (by omega) (by omega)
  refine va_sld hx hb hX hbl hbA hS (vp_in_iff.mpr (by have h9 : x120.toInt = (x3.toInt + 4) := tx120; omega)) dL_law_1261 ?_
  refine lv_topi (fun x121 ex121 => ?_)
  refine lv_aload_n hx hb dL_law_1262 rfl (lv_at hl 3 rfl) ?_
  refine lv_iload_n hx hb dL_law_1263 rfl (lv_at hl 0 rfl) ?_
  refine lv_iconst (v := 5) hx hb dL_law_1264 (by decide +kernel) ?_
  refine lv_iadd hx hb dL_law_1265 ?_
  refine lv_topi (fun x122 ex122 => ?_)
  have tx122 := ti_add (a := x3.toInt) (b := 5) ex122 rfl (by decide +kernel) (by omega) (by omega)
  refine va_sld hx hb hX hbl hbA hS (vp_in_iff.mpr (by have h9 : x122.toInt = (x3.toInt + 5) := tx122; omega)) dL_law_1266 ?_
  refine lv_topi (fun x123 ex123 => ?_)
  refine lv_aload_n hx hb dL_law_1267 rfl (lv_at hl 3 rfl) ?_
  refine lv_iload_n hx hb dL_law_1268 rfl (lv_at hl 0 rfl) ?_
  refine lv_bipush (v := 6) hx hb dL_law_1269 (by decide +kernel) ?_
  refine lv_iadd hx hb dL_law_1271 ?_
  refine lv_topi (fun x124 ex124 => ?_)
  have tx124 := ti_add (a := x3.toInt) (b := 6) ex124 rfl (by decide +kernel) (by omega) (by omega)
  refine va_sld hx hb hX hbl hbA hS (vp_in_iff.mpr (by have h9 : x124.toInt = (x3.toInt + 6) := tx124; omega)) dL_law_1272 ?_
  refine lv_topi (fun x125 ex125 => ?_)
  have hP : va_P D vwCl ((xwT sk a t i113 q113 c113 d113 ++ Z) ++ mW o am tm jm qm em dm) H := by rw [List.append_assoc]; exact hP
  have hD : va_D (fun q : Nat => s.heap.size ≤ q) ((xwT sk a t i113 q113 c113 d113 ++ Z) ++ mW o am tm jm qm em dm) := by rw [List.append_assoc]; exact hD
  refine rc_i (wr := (xwT sk a t i113 q113 c113 d113 ++ Z)) (va_runV (As := [.int x115, .int x117, .int x119, .int x121, .int x123, .int x125]) (rest := []) ⟨hx, hb, hml, hown, hts⟩ (s_X12_copy l D H.size o am tm jm qm em dm x115 x117 x119 x121 x123 x125 hM ) (cwV 6 hts gm_law_X12_copy_143 rfl rfl rfl (by decide +kernel) ⟨Nat.le_of_ble_eq_true rfl, Nat.le_of_ble_eq_true rfl⟩) (pB_V hKM (vP_r hP) (vD_r hD) (ci := 12) (q0 := 0) rfl rfl) rfl rfl hl.1 rfl (lv_room (Nat.le_of_ble_eq_true rfl)) dL_law_1273 hcs) hS hA hP hD (fun r126 u126 H locs hw126 hP hD hS => ?_)
  obtain ⟨i126, q126, c126, d126⟩ := u126
  have hw126 : True ∧ mInv i126 c126 ∧ (∀ k, k ∉ ([0] : List Nat) → i126 k = jm k) ∧ (∀ k, k ∉ ([1] : List Nat) → c126 k = em k) := hw126
  obtain ⟨hw126, hM, hei126, hec126⟩ := hw126
  have hP : va_P D vwCl (xwT sk a t i113 q113 c113 d113 ++ (Z ++ mW o am tm i126 q126 c126 d126)) H := by rw [← List.append_assoc]; exact hP
  have hD : va_D (fun q : Nat => s.heap.size ≤ q) (xwT sk a t i113 q113 c113 d113 ++ (Z ++ mW o am tm i126 q126 c126 d126)) := by rw [← List.append_assoc]; exact hD
  refine lv_pop hx hb dL_law_1276 rfl ?_
  refine lv_goto (tgt := 1461) hx hb dL_law_1277 (by decide +kernel) ?_
  exact kk i113 q113 c113 d113 i126 q126 c126 d126 _ _ _ ⟨hI, (by rw [show c113 113 = c 113 from hec113 113 (by decide +kernel), show c113 115 = c 115 from hec113 115 (by decide +kernel)]; exact hs_F), (by rw [show i113 146 = i 146 from hei113 146 (by decide +kernel), show i113 147 = i 147 from hei113 147 (by decide +kernel), show i113 148 = i 148 from hei113 148 (by decide +kernel), show i113 156 = i 156 from hei113 156 (by decide +kernel), show c113 144 = c 144 from hec113 144 (by decide +kernel), show c113 145 = c 145 from hec113 145 (by decide +kernel), show c113 150 = c 150 from hec113 150 (by decide +kernel)]; exact hs_P), (by rw [show i113 141 = i 141 from hei113 141 (by decide +kernel)]; exact htr), hM, (by rw [show c126 3 = em 3 from hec126 3 (by decide +kernel), show c126 6 = em 6 from hec126 6 (by decide +kernel), show c126 9 = em 9 from hec126 9 (by decide +kernel), show c126 10 = em 10 from hec126 10 (by decide +kernel), show c126 11 = em 11 from hec126 11 (by decide +kernel), show c126 13 = em 13 from hec126 13 (by decide +kernel), show i126 2 = jm 2 from hei126 2 (by decide +kernel), show i126 5 = jm 5 from hei126 5 (by decide +kernel), show i126 8 = jm 8 from hei126 8 (by decide +kernel)]; exact hs_S), (by rw [show c126 3 = em 3 from hec126 3 (by decide +kernel), show c126 6 = em 6 from hec126 6 (by decide +kernel), show c126 23 = em 23 from hec126 23 (by decide +kernel), show c126 24 = em 24 from hec126 24 (by decide +kernel), show c126 29 = em 29 from hec126 29 (by decide +kernel), show c126 30 = em 30 from hec126 30 (by decide +kernel), show i126 5 = jm 5 from hei126 5 (by decide +kernel), show i126 22 = jm 22 from hei126 22 (by decide +kernel), show i126 27 = jm 27 from hei126 27 (by decide +kernel)]; exact hs_J), (by rw [show i113 110 = i 110 from hei113 110 (by decide +kernel), show i113 111 = i 111 from hei113 111 (by decide +kernel), show i113 165 = i 165 from hei113 165 (by decide +kernel), show i113 124 = i 124 from hei113 124 (by decide +kernel), show c113 107 = c 107 from hec113 107 (by decide +kernel), show c113 105 = c 105 from hec113 105 (by decide +kernel), show c113 108 = c 108 from hec113 108 (by decide +kernel), show c113 106 = c 106 from hec113 106 (by decide +kernel), show c113 113 = c 113 from hec113 113 (by decide +kernel), show c113 114 = c 114 from hec113 114 (by decide +kernel), show c113 115 = c 115 from hec113 115 (by decide +kernel), show c113 116 = c 116 from hec113 116 (by decide +kernel), show c113 117 = c 117 from hec113 117 (by decide +kernel), show c113 118 = c 118 from hec113 118 (by decide +kernel), show c113 119 = c 119 from hec113 119 (by decide +kernel), show c113 120 = c 120 from hec113 120 (by decide +kernel), show c113 121 = c 121 from hec113 121 (by decide +kernel), show c113 127 = c 127 from hec113 127 (by decide +kernel), show c113 129 = c 129 from hec113 129 (by decide +kernel), show c113 130 = c 130 from hec113 130 (by decide +kernel), show c113 131 = c 131 from hec113 131 (by decide +kernel), show c113 132 = c 132 from hec113 132 (by decide +kernel), show c113 133 = c 133 from hec113 133 (by decide +kernel), show c113 134 = c 134 from hec113 134 (by decide +kernel), show i126 2 = jm 2 from hei126 2 (by decide +kernel), show i126 5 = jm 5 from hei126 5 (by decide +kernel), show i126 64 = jm 64 from hei126 64 (by decide +kernel), show i126 8 = jm 8 from hei126 8 (by decide +kernel), show c126 4 = em 4 from hec126 4 (by decide +kernel), show c126 3 = em 3 from hec126 3 (by decide +kernel), show c126 6 = em 6 from hec126 6 (by decide +kernel), show c126 9 = em 9 from hec126 9 (by decide +kernel), show c126 10 = em 10 from hec126 10 (by decide +kernel), show c126 11 = em 11 from hec126 11 (by decide +kernel), show c126 12 = em 12 from hec126 12 (by decide +kernel), show c126 13 = em 13 from hec126 13 (by decide +kernel)]; exact ⟨hR, hPA, hKO, hSO, hSN, hDR, hRD⟩)⟩ hP hD hS (lv_sub hl [0, 1, 2, 3] rfl)

set_option maxHeartbeats 4000000 in
set_option maxRecDepth 100000 in
theorem law_cast {p : Program} {l : Launch} {e : Env} {s : State} {m : MethodId} {below : List Frame} {meth : Method} {cd : Code} {b L : Nat} {xs : Nat → Int32} {D : va_G} {a : Nat → Nat} {t : Nat → ClassId} {o : Nat} {am : Nat → Nat} {tm : Nat → ClassId} {x3 : Int32} {cells slots : Nat} {sk : Value} {Z : va_W} (hx : p.tables.exec = Jvm.exec) (hb : cd.code = cL_law) (hml : cd.maxLocals = 4) (hown : s.vm.findClass RL = some m.cls) (hts : ∀ w ∈ wm_law, w.before #[Value.ref b] s = true) (hX : va_X b L xs s s.heap) (hbl : b < s.heap.size) (hL : L ≤ 3584) (hN : xN s) (hZ : xZ (a 186) s s.heap) (hKT : va_K D vwCl (xtT t) s) (hKM : va_K D vwCl (mT tm) s) (hcs : cells ≤ 600000 ∧ slots ≤ 7302249) (hx3 : 0 ≤ x3.toInt ∧ x3.toInt + 7 ≤ (L : Int)) (kk : LK p l e s m below meth cd b D sk a t Z o am tm x3 cells slots) (i : Nat → Int32) (q : Int64) (c : Nat → Nat → Int32) (d : Nat → Nat → Int64) (jm : Nat → Int32) (qm : Int64) (em : Nat → Nat → Int32) (dm : Nat → Nat → Int64) (H : Heap) (locs : List Loc) (ls : Array Slot) (hLI : LI i c jm em) (hP : va_P D vwCl (xwT sk a t i q c d ++ (Z ++ mW o am tm jm qm em dm)) H) (hD : va_D (fun q : Nat => s.heap.size ≤ q) (xwT sk a t i q c d ++ (Z ++ mW o am tm jm qm em dm))) (hS : va_S (fun q : Nat => s.heap.size ≤ q) s.heap H locs) (hl : lv_has ls 4 [(3, .int x3), (2, .ref o), (1, .ref (a 100)), (0, .ref b)]) : W p l e room_1 s m #[Value.ref b] below meth cd H locs cells slots (lw_Z below #[Value.ref b] s) (F0 m 1280 ls []) := by
  have hbA : ¬ (fun q : Nat => s.heap.size ≤ q) b := Nat.not_le.mpr hbl
  have hA : ∀ q : Nat, s.heap.size ≤ q → (fun q : Nat => s.heap.size ≤ q) q := fun _ h => h
  obtain ⟨hI, hs_F, hs_P, htr, hM, hs_S, hs_J, hR⟩ := hLI
  have hI0 := hI
  have hM0 := hM
  obtain ⟨hR, hPA, hKO, hSO, hSN, hDR, hRD⟩ := hR
  have hRR := RR_of hI0 hs_F
  refine lv_aload_n hx hb dL_law_1280 rfl (lv_at hl 2 rfl) ?_
  refine lv_aload_n hx hb dL_law_1281 rfl (lv_at hl 3 rfl) ?_
  refine lv_iload_n hx hb dL_law_1282 rfl (lv_at hl 0 rfl) ?_
  refine lv_iconst (v := 1) hx hb dL_law_1283 (by decide +kernel) ?_
  refine lv_iadd hx hb dL_law_1284 ?_
  refine lv_topi (fun x101 ex101 => ?_)
  have tx101 := ti_add (a := x3.toInt) (b := 1) ex101 rfl (by decide +kernel) (by omega) (by omega)
  refine va_sld hx hb hX hbl hbA hS (vp_in_iff.mpr (by have h9 : x101.toInt = (x3.toInt + 1) := tx101; omega)) dL_law_1285 ?_
  refine lv_topi (fun x102 ex102 => ?_)
  refine lv_aload_n hx hb dL_law_1286 rfl (lv_at hl 3 rfl) ?_
  refine lv_iload_n hx hb dL_law_1287 rfl (lv_at hl 0 rfl) ?_
  refine lv_iconst (v := 2) hx hb dL_law_1288 (by decide +kernel) ?_
  refine lv_iadd hx hb dL_law_1289 ?_
  refine lv_topi (fun x103 ex103 => ?_)
  have tx103 := ti_add (a := x3.toInt) (b := 2) ex103 rfl (by decide +kernel) (by omega) (by omega)
  refine va_sld hx hb hX hbl hbA hS (vp_in_iff.mpr (by have h9 : x103.toInt = (x3.toInt + 2) := tx103; omega)) dL_law_1290 ?_
  refine lv_topi (fun x104 ex104 => ?_)
  refine lc_i (wr := (Z ++ mW o am tm jm qm em dm)) (va_runV (As := [.int x102, .int x104]) (rest := []) ⟨hx, hb, hml, hown, hts⟩ (x_X11_cast_e l D H.size sk a t i q c d x102 x104 hI ) (cwV 2 hts gm_law_X11_cast_e_144 rfl rfl rfl (by decide +kernel) ⟨Nat.le_of_ble_eq_true rfl, Nat.le_of_ble_eq_true rfl⟩) (yB_V hN (xZ_k hZ hS hA) (xZ_n hZ (vD_l hD)) hKT (vP_l hP) (vD_l hD) (ci := 11) (q0 := 0) rfl rfl) rfl rfl hl.1 rfl (lv_room (Nat.le_of_ble_eq_true rfl)) dL_law_1291 hcs) hS hA hP hD (fun r105 u105 H locs hw105 _ hP hD hS => ?_)
  obtain ⟨i105, q105, c105, d105⟩ := u105
  have hw105 : True ∧ xInv i105 c105 ∧ (∀ k, k ∉ ([102, 165] : List Nat) → i105 k = i k) ∧ (∀ k, k ∉ ([101, 162, 163] : List Nat) → c105 k = c k) ∧ ((¬ (1 ≤ x102.toInt ∧ x102.toInt ≤ 5 ∧ x104.toInt ≤ 12) ∧ r105.toInt = -1 ∧ (i105 165).toInt = (i 165).toInt) ∨ (1 ≤ x102.toInt ∧ x102.toInt ≤ 5 ∧ x104.toInt ≤ 12 ∧ 10 ≤ (i 165).toInt ∧ r105.toInt = -2 ∧ (i105 165).toInt = (i 165).toInt) ∨ (1 ≤ x102.toInt ∧ x102.toInt ≤ 5 ∧ x104.toInt ≤ 12 ∧ (i 165).toInt ≤ 9 ∧ x104.toInt < 0 ∧ r105.toInt = -3 ∧ (i105 165).toInt = (i 165).toInt) ∨ (1 ≤ x102.toInt ∧ x102.toInt ≤ 5 ∧ x104.toInt ≤ 12 ∧ (i 165).toInt ≤ 9 ∧ 0 ≤ x104.toInt ∧ r105.toInt = (i 165).toInt ∧ (i105 165).toInt = (i 165).toInt + 1)) := hw105
  obtain ⟨hw105, hI, hei105, hec105, hxp105_0⟩ := hw105
  have hP : va_P D vwCl (xwT sk a t i105 q105 c105 d105 ++ (Z ++ mW o am tm jm qm em dm)) H := hP
  have hD : va_D (fun q : Nat => s.heap.size ≤ q) (xwT sk a t i105 q105 c105 d105 ++ (Z ++ mW o am tm jm qm em dm)) := hD
  refine lv_pop hx hb dL_law_1294 rfl ?_
  refine lv_aload_n hx hb dL_law_1295 rfl (lv_at hl 1 rfl) ?_
  refine lv_aload_n hx hb dL_law_1296 rfl (lv_at hl 3 rfl) ?_
  refine lv_iload_n hx hb dL_law_1297 rfl (lv_at hl 0 rfl) ?_
  refine lv_iconst (v := 1) hx hb dL_law_1298 (by decide +kernel) ?_
  refine lv_iadd hx hb dL_law_1299 ?_
  refine lv_topi (fun x106 ex106 => ?_)
  have tx106 := ti_add (a := x3.toInt) (b := 1) ex106 rfl (by decide +kernel) (by omega) (by omega)
  refine va_sld hx hb hX hbl hbA hS (vp_in_iff.mpr (by have h9 : x106.toInt = (x3.toInt + 1) := tx106; omega)) dL_law_1300 ?_
  refine lv_topi (fun x107 ex107 => ?_)
  refine lv_aload_n hx hb dL_law_1301 rfl (lv_at hl 3 rfl) ?_
  refine lv_iload_n hx hb dL_law_1302 rfl (lv_at hl 0 rfl) ?_
  refine lv_iconst (v := 2) hx hb dL_law_1303 (by decide +kernel) ?_
  refine lv_iadd hx hb dL_law_1304 ?_
  refine lv_topi (fun x108 ex108 => ?_)
  have tx108 := ti_add (a := x3.toInt) (b := 2) ex108 rfl (by decide +kernel) (by omega) (by omega)
  refine va_sld hx hb hX hbl hbA hS (vp_in_iff.mpr (by have h9 : x108.toInt = (x3.toInt + 2) := tx108; omega)) dL_law_1305 ?_
  refine lv_topi (fun x109 ex109 => ?_)
  have hP : va_P D vwCl ((xwT sk a t i105 q105 c105 d105 ++ Z) ++ mW o am tm jm qm em dm) H := by rw [List.append_assoc]; exact hP
  have hD : va_D (fun q : Nat => s.heap.size ≤ q) ((xwT sk a t i105 q105 c105 d105 ++ Z) ++ mW o am tm jm qm em dm) := by rw [List.append_assoc]; exact hD
  refine rc_i (wr := (xwT sk a t i105 q105 c105 d105 ++ Z)) (va_runV (As := [.int x107, .int x109]) (rest := []) ⟨hx, hb, hml, hown, hts⟩ (s_X12_cast_e l D H.size o am tm jm qm em dm x107 x109 hM ) (cwV 2 hts gm_law_X12_cast_147 rfl rfl rfl (by decide +kernel) ⟨Nat.le_of_ble_eq_true rfl, Nat.le_of_ble_eq_true rfl⟩) (pB_V hKM (vP_r hP) (vD_r hD) (ci := 12) (q0 := 0) rfl rfl) rfl rfl hl.1 rfl (lv_room (Nat.le_of_ble_eq_true rfl)) dL_law_1306 hcs) hS hA hP hD (fun r110 u110 H locs hw110 hP hD hS => ?_)
  obtain ⟨i110, q110, c110, d110⟩ := u110
  have hw110 : True ∧ mInv i110 c110 ∧ (∀ k, k ∉ ([0, 64] : List Nat) → i110 k = jm k) ∧ (∀ k, k ∉ ([1, 65, 66, 67] : List Nat) → c110 k = em k) ∧ ((¬ (1 ≤ x107.toInt ∧ x107.toInt ≤ 5 ∧ x109.toInt ≤ 12) ∧ r110.toInt = -1 ∧ (i110 64).toInt = (jm 64).toInt) ∨ (1 ≤ x107.toInt ∧ x107.toInt ≤ 5 ∧ x109.toInt ≤ 12 ∧ 10 ≤ (jm 64).toInt ∧ r110.toInt = -2 ∧ (i110 64).toInt = (jm 64).toInt) ∨ (1 ≤ x107.toInt ∧ x107.toInt ≤ 5 ∧ x109.toInt ≤ 12 ∧ (jm 64).toInt ≤ 9 ∧ x109.toInt < 0 ∧ r110.toInt = -3 ∧ (i110 64).toInt = (jm 64).toInt) ∨ (1 ≤ x107.toInt ∧ x107.toInt ≤ 5 ∧ x109.toInt ≤ 12 ∧ (jm 64).toInt ≤ 9 ∧ 0 ≤ x109.toInt ∧ r110.toInt = (jm 64).toInt ∧ (i110 64).toInt = (jm 64).toInt + 1)) := hw110
  obtain ⟨hw110, hM, hei110, hec110, hxp110_0⟩ := hw110
  have hP : va_P D vwCl (xwT sk a t i105 q105 c105 d105 ++ (Z ++ mW o am tm i110 q110 c110 d110)) H := by rw [← List.append_assoc]; exact hP
  have hD : va_D (fun q : Nat => s.heap.size ≤ q) (xwT sk a t i105 q105 c105 d105 ++ (Z ++ mW o am tm i110 q110 c110 d110)) := by rw [← List.append_assoc]; exact hD
  have hag0 : x107.toInt = x102.toInt := congrArg Int32.toInt (by rw [ex107, ex106, ex102, ex101])
  have hag1 : x109.toInt = x104.toInt := congrArg Int32.toInt (by rw [ex109, ex108, ex104, ex103])
  refine lv_pop hx hb dL_law_1309 rfl ?_
  refine lv_goto (tgt := 1461) hx hb dL_law_1310 (by decide +kernel) ?_
  exact kk i105 q105 c105 d105 i110 q110 c110 d110 _ _ _ ⟨hI, (by rw [show c105 113 = c 113 from hec105 113 (by decide +kernel), show c105 115 = c 115 from hec105 115 (by decide +kernel)]; exact hs_F), (by rw [show i105 146 = i 146 from hei105 146 (by decide +kernel), show i105 147 = i 147 from hei105 147 (by decide +kernel), show i105 148 = i 148 from hei105 148 (by decide +kernel), show i105 156 = i 156 from hei105 156 (by decide +kernel), show c105 144 = c 144 from hec105 144 (by decide +kernel), show c105 145 = c 145 from hec105 145 (by decide +kernel), show c105 150 = c 150 from hec105 150 (by decide +kernel)]; exact hs_P), (by rw [show i105 141 = i 141 from hei105 141 (by decide +kernel)]; exact htr), hM, (by rw [show c110 3 = em 3 from hec110 3 (by decide +kernel), show c110 6 = em 6 from hec110 6 (by decide +kernel), show c110 9 = em 9 from hec110 9 (by decide +kernel), show c110 10 = em 10 from hec110 10 (by decide +kernel), show c110 11 = em 11 from hec110 11 (by decide +kernel), show c110 13 = em 13 from hec110 13 (by decide +kernel), show i110 2 = jm 2 from hei110 2 (by decide +kernel), show i110 5 = jm 5 from hei110 5 (by decide +kernel), show i110 8 = jm 8 from hei110 8 (by decide +kernel)]; exact hs_S), (by rw [show c110 3 = em 3 from hec110 3 (by decide +kernel), show c110 6 = em 6 from hec110 6 (by decide +kernel), show c110 23 = em 23 from hec110 23 (by decide +kernel), show c110 24 = em 24 from hec110 24 (by decide +kernel), show c110 29 = em 29 from hec110 29 (by decide +kernel), show c110 30 = em 30 from hec110 30 (by decide +kernel), show i110 5 = jm 5 from hei110 5 (by decide +kernel), show i110 22 = jm 22 from hei110 22 (by decide +kernel), show i110 27 = jm 27 from hei110 27 (by decide +kernel)]; exact hs_J), (by rw [show i105 110 = i 110 from hei105 110 (by decide +kernel), show i105 111 = i 111 from hei105 111 (by decide +kernel), show i105 124 = i 124 from hei105 124 (by decide +kernel), show c105 107 = c 107 from hec105 107 (by decide +kernel), show c105 105 = c 105 from hec105 105 (by decide +kernel), show c105 108 = c 108 from hec105 108 (by decide +kernel), show c105 106 = c 106 from hec105 106 (by decide +kernel), show c105 113 = c 113 from hec105 113 (by decide +kernel), show c105 114 = c 114 from hec105 114 (by decide +kernel), show c105 115 = c 115 from hec105 115 (by decide +kernel), show c105 116 = c 116 from hec105 116 (by decide +kernel), show c105 117 = c 117 from hec105 117 (by decide +kernel), show c105 118 = c 118 from hec105 118 (by decide +kernel), show c105 119 = c 119 from hec105 119 (by decide +kernel), show c105 120 = c 120 from hec105 120 (by decide +kernel), show c105 121 = c 121 from hec105 121 (by decide +kernel), show c105 127 = c 127 from hec105 127 (by decide +kernel), show c105 129 = c 129 from hec105 129 (by decide +kernel), show c105 130 = c 130 from hec105 130 (by decide +kernel), show c105 131 = c 131 from hec105 131 (by decide +kernel), show c105 132 = c 132 from hec105 132 (by decide +kernel), show c105 133 = c 133 from hec105 133 (by decide +kernel), show c105 134 = c 134 from hec105 134 (by decide +kernel), show i110 2 = jm 2 from hei110 2 (by decide +kernel), show i110 5 = jm 5 from hei110 5 (by decide +kernel), show i110 8 = jm 8 from hei110 8 (by decide +kernel), show c110 4 = em 4 from hec110 4 (by decide +kernel), show c110 3 = em 3 from hec110 3 (by decide +kernel), show c110 6 = em 6 from hec110 6 (by decide +kernel), show c110 9 = em 9 from hec110 9 (by decide +kernel), show c110 10 = em 10 from hec110 10 (by decide +kernel), show c110 11 = em 11 from hec110 11 (by decide +kernel), show c110 12 = em 12 from hec110 12 (by decide +kernel), show c110 13 = em 13 from hec110 13 (by decide +kernel)]; exact ⟨⟨hR.1, hR.2.1, (by have h1 := hxp105_0; have h2 := hxp110_0; have h50 := hag0; have h51 := hag1; have h52 := hR.1; have h53 := hR.2.1; have h54 := hR.2.2.1; omega), hR.2.2.2⟩, hPA, hKO, hSO, hSN, hDR, hRD⟩)⟩ hP hD hS (lv_sub hl [0, 1, 2, 3] rfl)

set_option maxHeartbeats 4000000 in
set_option maxRecDepth 100000 in
theorem law_role {p : Program} {l : Launch} {e : Env} {s : State} {m : MethodId} {below : List Frame} {meth : Method} {cd : Code} {b L : Nat} {xs : Nat → Int32} {D : va_G} {a : Nat → Nat} {t : Nat → ClassId} {o : Nat} {am : Nat → Nat} {tm : Nat → ClassId} {x3 : Int32} {cells slots : Nat} {sk : Value} {Z : va_W} (hx : p.tables.exec = Jvm.exec) (hb : cd.code = cL_law) (hml : cd.maxLocals = 4) (hown : s.vm.findClass RL = some m.cls) (hts : ∀ w ∈ wm_law, w.before #[Value.ref b] s = true) (hX : va_X b L xs s s.heap) (hbl : b < s.heap.size) (hL : L ≤ 3584) (hN : xN s) (hZ : xZ (a 186) s s.heap) (hKT : va_K D vwCl (xtT t) s) (hKM : va_K D vwCl (mT tm) s) (hcs : cells ≤ 600000 ∧ slots ≤ 7302249) (hx3 : 0 ≤ x3.toInt ∧ x3.toInt + 7 ≤ (L : Int)) (kk : LK p l e s m below meth cd b D sk a t Z o am tm x3 cells slots) (i : Nat → Int32) (q : Int64) (c : Nat → Nat → Int32) (d : Nat → Nat → Int64) (jm : Nat → Int32) (qm : Int64) (em : Nat → Nat → Int32) (dm : Nat → Nat → Int64) (H : Heap) (locs : List Loc) (ls : Array Slot) (hLI : LI i c jm em) (hP : va_P D vwCl (xwT sk a t i q c d ++ (Z ++ mW o am tm jm qm em dm)) H) (hD : va_D (fun q : Nat => s.heap.size ≤ q) (xwT sk a t i q c d ++ (Z ++ mW o am tm jm qm em dm))) (hS : va_S (fun q : Nat => s.heap.size ≤ q) s.heap H locs) (hl : lv_has ls 4 [(3, .int x3), (2, .ref o), (1, .ref (a 100)), (0, .ref b)]) : W p l e room_1 s m #[Value.ref b] below meth cd H locs cells slots (lw_Z below #[Value.ref b] s) (F0 m 1313 ls []) := by
  have hbA : ¬ (fun q : Nat => s.heap.size ≤ q) b := Nat.not_le.mpr hbl
  have hA : ∀ q : Nat, s.heap.size ≤ q → (fun q : Nat => s.heap.size ≤ q) q := fun _ h => h
  obtain ⟨hI, hs_F, hs_P, htr, hM, hs_S, hs_J, hR⟩ := hLI
  have hI0 := hI
  have hM0 := hM
  obtain ⟨hR, hPA, hKO, hSO, hSN, hDR, hRD⟩ := hR
  have hRR := RR_of hI0 hs_F
  refine lv_aload_n hx hb dL_law_1313 rfl (lv_at hl 2 rfl) ?_
  refine lv_aload_n hx hb dL_law_1314 rfl (lv_at hl 3 rfl) ?_
  refine lv_iload_n hx hb dL_law_1315 rfl (lv_at hl 0 rfl) ?_
  refine lv_iconst (v := 1) hx hb dL_law_1316 (by decide +kernel) ?_
  refine lv_iadd hx hb dL_law_1317 ?_
  refine lv_topi (fun x101 ex101 => ?_)
  have tx101 := ti_add (a := x3.toInt) (b := 1) ex101 rfl (by decide +kernel) (by omega) (by omega)
  refine va_sld hx hb hX hbl hbA hS (vp_in_iff.mpr (by have h9 : x101.toInt = (x3.toInt + 1) := tx101; omega)) dL_law_1318 ?_
  refine lv_topi (fun x102 ex102 => ?_)
  refine lv_aload_n hx hb dL_law_1319 rfl (lv_at hl 3 rfl) ?_
  refine lv_iload_n hx hb dL_law_1320 rfl (lv_at hl 0 rfl) ?_
  refine lv_iconst (v := 2) hx hb dL_law_1321 (by decide +kernel) ?_
  refine lv_iadd hx hb dL_law_1322 ?_
  refine lv_topi (fun x103 ex103 => ?_)
  have tx103 := ti_add (a := x3.toInt) (b := 2) ex103 rfl (by decide +kernel) (by omega) (by omega)
  refine va_sld hx hb hX hbl hbA hS (vp_in_iff.mpr (by have h9 : x103.toInt = (x3.toInt + 2) := tx103; omega)) dL_law_1323 ?_
  refine lv_topi (fun x104 ex104 => ?_)
  refine lv_aload_n hx hb dL_law_1324 rfl (lv_at hl 3 rfl) ?_
  refine lv_iload_n hx hb dL_law_1325 rfl (lv_at hl 0 rfl) ?_
  refine lv_iconst (v := 3) hx hb dL_law_1326 (by decide +kernel) ?_
  refine lv_iadd hx hb dL_law_1327 ?_
  refine lv_topi (fun x105 ex105 => ?_)
  have tx105 := ti_add (a := x3.toInt) (b := 3) ex105 rfl (by decide +kernel) (by omega) (by omega)
  refine va_sld hx hb hX hbl hbA hS (vp_in_iff.mpr (by have h9 : x105.toInt = (x3.toInt + 3) := tx105; omega)) dL_law_1328 ?_
  refine lv_topi (fun x106 ex106 => ?_)
  refine lc_i (wr := (Z ++ mW o am tm jm qm em dm)) (va_runV (As := [.int x102, .int x104, .int x106]) (rest := []) ⟨hx, hb, hml, hown, hts⟩ (x_X11_role l D H.size sk a t i q c d x102 x104 x106 hI ) (cwV 3 hts gm_law_X11_role_148 rfl rfl rfl (by decide +kernel) ⟨Nat.le_of_ble_eq_true rfl, Nat.le_of_ble_eq_true rfl⟩) (yB_V hN (xZ_k hZ hS hA) (xZ_n hZ (vD_l hD)) hKT (vP_l hP) (vD_l hD) (ci := 11) (q0 := 0) rfl rfl) rfl rfl hl.1 rfl (lv_room (Nat.le_of_ble_eq_true rfl)) dL_law_1329 hcs) hS hA hP hD (fun r107 u107 H locs hw107 _ hP hD hS => ?_)
  obtain ⟨i107, q107, c107, d107⟩ := u107
  have hw107 : True ∧ xInv i107 c107 ∧ (∀ k, k ∉ ([102] : List Nat) → i107 k = i k) ∧ (∀ k, k ∉ ([101, 164] : List Nat) → c107 k = c k) := hw107
  obtain ⟨hw107, hI, hei107, hec107⟩ := hw107
  have hP : va_P D vwCl (xwT sk a t i107 q107 c107 d107 ++ (Z ++ mW o am tm jm qm em dm)) H := hP
  have hD : va_D (fun q : Nat => s.heap.size ≤ q) (xwT sk a t i107 q107 c107 d107 ++ (Z ++ mW o am tm jm qm em dm)) := hD
  refine lv_pop hx hb dL_law_1332 rfl ?_
  refine lv_aload_n hx hb dL_law_1333 rfl (lv_at hl 1 rfl) ?_
  refine lv_aload_n hx hb dL_law_1334 rfl (lv_at hl 3 rfl) ?_
  refine lv_iload_n hx hb dL_law_1335 rfl (lv_at hl 0 rfl) ?_
  refine lv_iconst (v := 1) hx hb dL_law_1336 (by decide +kernel) ?_
  refine lv_iadd hx hb dL_law_1337 ?_
  refine lv_topi (fun x108 ex108 => ?_)
  have tx108 := ti_add (a := x3.toInt) (b := 1) ex108 rfl (by decide +kernel) (by omega) (by omega)
  refine va_sld hx hb hX hbl hbA hS (vp_in_iff.mpr (by have h9 : x108.toInt = (x3.toInt + 1) := tx108; omega)) dL_law_1338 ?_
  refine lv_topi (fun x109 ex109 => ?_)
  refine lv_aload_n hx hb dL_law_1339 rfl (lv_at hl 3 rfl) ?_
  refine lv_iload_n hx hb dL_law_1340 rfl (lv_at hl 0 rfl) ?_
  refine lv_iconst (v := 2) hx hb dL_law_1341 (by decide +kernel) ?_
  refine lv_iadd hx hb dL_law_1342 ?_
  refine lv_topi (fun x110 ex110 => ?_)
  have tx110 := ti_add (a := x3.toInt) (b := 2) ex110 rfl (by decide +kernel) (by omega) (by omega)
  refine va_sld hx hb hX hbl hbA hS (vp_in_iff.mpr (by have h9 : x110.toInt = (x3.toInt + 2) := tx110; omega)) dL_law_1343 ?_
  refine lv_topi (fun x111 ex111 => ?_)
  refine lv_aload_n hx hb dL_law_1344 rfl (lv_at hl 3 rfl) ?_
  refine lv_iload_n hx hb dL_law_1345 rfl (lv_at hl 0 rfl) ?_
  refine lv_iconst (v := 3) hx hb dL_law_1346 (by decide +kernel) ?_
  refine lv_iadd hx hb dL_law_1347 ?_
  refine lv_topi (fun x112 ex112 => ?_)
  have tx112 := ti_add (a := x3.toInt) (b := 3) ex112 rfl (by decide +kernel) (by omega) (by omega)
  refine va_sld hx hb hX hbl hbA hS (vp_in_iff.mpr (by have h9 : x112.toInt = (x3.toInt + 3) := tx112; omega)) dL_law_1348 ?_
  refine lv_topi (fun x113 ex113 => ?_)
  have hP : va_P D vwCl ((xwT sk a t i107 q107 c107 d107 ++ Z) ++ mW o am tm jm qm em dm) H := by rw [List.append_assoc]; exact hP
  have hD : va_D (fun q : Nat => s.heap.size ≤ q) ((xwT sk a t i107 q107 c107 d107 ++ Z) ++ mW o am tm jm qm em dm) := by rw [List.append_assoc]; exact hD
  refine rc_i (wr := (xwT sk a t i107 q107 c107 d107 ++ Z)) (va_runV (As := [.int x109, .int x111, .int x113]) (rest := []) ⟨hx, hb, hml, hown, hts⟩ (s_X12_role l D H.size o am tm jm qm em dm x109 x111 x113 hM ) (cwV 3 hts gm_law_X12_role_151 rfl rfl rfl (by decide +kernel) ⟨Nat.le_of_ble_eq_true rfl, Nat.le_of_ble_eq_true rfl⟩) (pB_V hKM (vP_r hP) (vD_r hD) (ci := 12) (q0 := 0) rfl rfl) rfl rfl hl.1 rfl (lv_room (Nat.le_of_ble_eq_true rfl)) dL_law_1349 hcs) hS hA hP hD (fun r114 u114 H locs hw114 hP hD hS => ?_)
  obtain ⟨i114, q114, c114, d114⟩ := u114
  have hw114 : True ∧ mInv i114 c114 ∧ (∀ k, k ∉ ([0] : List Nat) → i114 k = jm k) ∧ (∀ k, k ∉ ([1, 67] : List Nat) → c114 k = em k) := hw114
  obtain ⟨hw114, hM, hei114, hec114⟩ := hw114
  have hP : va_P D vwCl (xwT sk a t i107 q107 c107 d107 ++ (Z ++ mW o am tm i114 q114 c114 d114)) H := by rw [← List.append_assoc]; exact hP
  have hD : va_D (fun q : Nat => s.heap.size ≤ q) (xwT sk a t i107 q107 c107 d107 ++ (Z ++ mW o am tm i114 q114 c114 d114)) := by rw [← List.append_assoc]; exact hD
  refine lv_pop hx hb dL_law_1352 rfl ?_
  refine lv_goto (tgt := 1461) hx hb dL_law_1353 (by decide +kernel) ?_
  exact kk i107 q107 c107 d107 i114 q114 c114 d114 _ _ _ ⟨hI, (by rw [show c107 113 = c 113 from hec107 113 (by decide +kernel), show c107 115 = c 115 from hec107 115 (by decide +kernel)]; exact hs_F), (by rw [show i107 146 = i 146 from hei107 146 (by decide +kernel), show i107 147 = i 147 from hei107 147 (by decide +kernel), show i107 148 = i 148 from hei107 148 (by decide +kernel), show i107 156 = i 156 from hei107 156 (by decide +kernel), show c107 144 = c 144 from hec107 144 (by decide +kernel), show c107 145 = c 145 from hec107 145 (by decide +kernel), show c107 150 = c 150 from hec107 150 (by decide +kernel)]; exact hs_P), (by rw [show i107 141 = i 141 from hei107 141 (by decide +kernel)]; exact htr), hM, (by rw [show c114 3 = em 3 from hec114 3 (by decide +kernel), show c114 6 = em 6 from hec114 6 (by decide +kernel), show c114 9 = em 9 from hec114 9 (by decide +kernel), show c114 10 = em 10 from hec114 10 (by decide +kernel), show c114 11 = em 11 from hec114 11 (by decide +kernel), show c114 13 = em 13 from hec114 13 (by decide +kernel), show i114 2 = jm 2 from hei114 2 (by decide +kernel), show i114 5 = jm 5 from hei114 5 (by decide +kernel), show i114 8 = jm 8 from hei114 8 (by decide +kernel)]; exact hs_S), (by rw [show c114 3 = em 3 from hec114 3 (by decide +kernel), show c114 6 = em 6 from hec114 6 (by decide +kernel), show c114 23 = em 23 from hec114 23 (by decide +kernel), show c114 24 = em 24 from hec114 24 (by decide +kernel), show c114 29 = em 29 from hec114 29 (by decide +kernel), show c114 30 = em 30 from hec114 30 (by decide +kernel), show i114 5 = jm 5 from hei114 5 (by decide +kernel), show i114 22 = jm 22 from hei114 22 (by decide +kernel), show i114 27 = jm 27 from hei114 27 (by decide +kernel)]; exact hs_J), (by rw [show i107 110 = i 110 from hei107 110 (by decide +kernel), show i107 111 = i 111 from hei107 111 (by decide +kernel), show i107 165 = i 165 from hei107 165 (by decide +kernel), show i107 124 = i 124 from hei107 124 (by decide +kernel), show c107 107 = c 107 from hec107 107 (by decide +kernel), show c107 105 = c 105 from hec107 105 (by decide +kernel), show c107 108 = c 108 from hec107 108 (by decide +kernel), show c107 106 = c 106 from hec107 106 (by decide +kernel), show c107 113 = c 113 from hec107 113 (by decide +kernel), show c107 114 = c 114 from hec107 114 (by decide +kernel), show c107 115 = c 115 from hec107 115 (by decide +kernel), show c107 116 = c 116 from hec107 116 (by decide +kernel), show c107 117 = c 117 from hec107 117 (by decide +kernel), show c107 118 = c 118 from hec107 118 (by decide +kernel), show c107 119 = c 119 from hec107 119 (by decide +kernel), show c107 120 = c 120 from hec107 120 (by decide +kernel), show c107 121 = c 121 from hec107 121 (by decide +kernel), show c107 127 = c 127 from hec107 127 (by decide +kernel), show c107 129 = c 129 from hec107 129 (by decide +kernel), show c107 130 = c 130 from hec107 130 (by decide +kernel), show c107 131 = c 131 from hec107 131 (by decide +kernel), show c107 132 = c 132 from hec107 132 (by decide +kernel), show c107 133 = c 133 from hec107 133 (by decide +kernel), show c107 134 = c 134 from hec107 134 (by decide +kernel), show i114 2 = jm 2 from hei114 2 (by decide +kernel), show i114 5 = jm 5 from hei114 5 (by decide +kernel), show i114 64 = jm 64 from hei114 64 (by decide +kernel), show i114 8 = jm 8 from hei114 8 (by decide +kernel), show c114 4 = em 4 from hec114 4 (by decide +kernel), show c114 3 = em 3 from hec114 3 (by decide +kernel), show c114 6 = em 6 from hec114 6 (by decide +kernel), show c114 9 = em 9 from hec114 9 (by decide +kernel), show c114 10 = em 10 from hec114 10 (by decide +kernel), show c114 11 = em 11 from hec114 11 (by decide +kernel), show c114 12 = em 12 from hec114 12 (by decide +kernel), show c114 13 = em 13 from hec114 13 (by decide +kernel)]; exact ⟨hR, hPA, hKO, hSO, hSN, hDR, hRD⟩)⟩ hP hD hS (lv_sub hl [0, 1, 2, 3] rfl)

set_option maxHeartbeats 4000000 in
set_option maxRecDepth 100000 in
theorem law_who {p : Program} {l : Launch} {e : Env} {s : State} {m : MethodId} {below : List Frame} {meth : Method} {cd : Code} {b L : Nat} {xs : Nat → Int32} {D : va_G} {a : Nat → Nat} {t : Nat → ClassId} {o : Nat} {am : Nat → Nat} {tm : Nat → ClassId} {x3 : Int32} {cells slots : Nat} {sk : Value} {Z : va_W} (hx : p.tables.exec = Jvm.exec) (hb : cd.code = cL_law) (hml : cd.maxLocals = 4) (hown : s.vm.findClass RL = some m.cls) (hts : ∀ w ∈ wm_law, w.before #[Value.ref b] s = true) (hX : va_X b L xs s s.heap) (hbl : b < s.heap.size) (hL : L ≤ 3584) (hN : xN s) (hZ : xZ (a 186) s s.heap) (hKT : va_K D vwCl (xtT t) s) (hKM : va_K D vwCl (mT tm) s) (hcs : cells ≤ 600000 ∧ slots ≤ 7302249) (hx3 : 0 ≤ x3.toInt ∧ x3.toInt + 7 ≤ (L : Int)) (kk : LK p l e s m below meth cd b D sk a t Z o am tm x3 cells slots) (i : Nat → Int32) (q : Int64) (c : Nat → Nat → Int32) (d : Nat → Nat → Int64) (jm : Nat → Int32) (qm : Int64) (em : Nat → Nat → Int32) (dm : Nat → Nat → Int64) (H : Heap) (locs : List Loc) (ls : Array Slot) (hLI : LI i c jm em) (hP : va_P D vwCl (xwT sk a t i q c d ++ (Z ++ mW o am tm jm qm em dm)) H) (hD : va_D (fun q : Nat => s.heap.size ≤ q) (xwT sk a t i q c d ++ (Z ++ mW o am tm jm qm em dm))) (hS : va_S (fun q : Nat => s.heap.size ≤ q) s.heap H locs) (hl : lv_has ls 4 [(3, .int x3), (2, .ref o), (1, .ref (a 100)), (0, .ref b)]) : W p l e room_1 s m #[Value.ref b] below meth cd H locs cells slots (lw_Z below #[Value.ref b] s) (F0 m 1356 ls []) := by
  have hbA : ¬ (fun q : Nat => s.heap.size ≤ q) b := Nat.not_le.mpr hbl
  have hA : ∀ q : Nat, s.heap.size ≤ q → (fun q : Nat => s.heap.size ≤ q) q := fun _ h => h
  obtain ⟨hI, hs_F, hs_P, htr, hM, hs_S, hs_J, hR⟩ := hLI
  have hI0 := hI
  have hM0 := hM
  obtain ⟨hR, hPA, hKO, hSO, hSN, hDR, hRD⟩ := hR
  have hRR := RR_of hI0 hs_F
  refine lv_aload_n hx hb dL_law_1356 rfl (lv_at hl 2 rfl) ?_
  refine lv_aload_n hx hb dL_law_1357 rfl (lv_at hl 3 rfl) ?_
  refine lv_iload_n hx hb dL_law_1358 rfl (lv_at hl 0 rfl) ?_
  refine lv_iconst (v := 1) hx hb dL_law_1359 (by decide +kernel) ?_
  refine lv_iadd hx hb dL_law_1360 ?_
  refine lv_topi (fun x101 ex101 => ?_)
  have tx101 := ti_add (a := x3.toInt) (b := 1) ex101 rfl (by decide +kernel) (by omega) (by omega)
  refine va_sld hx hb hX hbl hbA hS (vp_in_iff.mpr (by have h9 : x101.toInt = (x3.toInt + 1) := tx101; omega)) dL_law_1361 ?_
  refine lv_topi (fun x102 ex102 => ?_)
  refine lv_aload_n hx hb dL_law_1362 rfl (lv_at hl 3 rfl) ?_
  refine lv_iload_n hx hb dL_law_1363 rfl (lv_at hl 0 rfl) ?_
  refine lv_iconst (v := 2) hx hb dL_law_1364 (by decide +kernel) ?_
  refine lv_iadd hx hb dL_law_1365 ?_
  refine lv_topi (fun x103 ex103 => ?_)
  have tx103 := ti_add (a := x3.toInt) (b := 2) ex103 rfl (by decide +kernel) (by omega) (by omega)
  refine va_sld hx hb hX hbl hbA hS (vp_in_iff.mpr (by have h9 : x103.toInt = (x3.toInt + 2) := tx103; omega)) dL_law_1366 ?_
  refine lv_topi (fun x104 ex104 => ?_)
  refine lc_i (wr := (Z ++ mW o am tm jm qm em dm)) (va_runV (As := [.int x102, .int x104]) (rest := []) ⟨hx, hb, hml, hown, hts⟩ (x_X11_who l D H.size sk a t i q c d x102 x104 hI ) (cwV 2 hts gm_law_X11_who_152 rfl rfl rfl (by decide +kernel) ⟨Nat.le_of_ble_eq_true rfl, Nat.le_of_ble_eq_true rfl⟩) (yB_V hN (xZ_k hZ hS hA) (xZ_n hZ (vD_l hD)) hKT (vP_l hP) (vD_l hD) (ci := 11) (q0 := 0) rfl rfl) rfl rfl hl.1 rfl (lv_room (Nat.le_of_ble_eq_true rfl)) dL_law_1367 hcs) hS hA hP hD (fun r105 u105 H locs hw105 _ hP hD hS => ?_)
  obtain ⟨i105, q105, c105, d105⟩ := u105
  have hw105 : True ∧ xInv i105 c105 ∧ (∀ k, k ∉ ([102] : List Nat) → i105 k = i k) ∧ (∀ k, k ∉ ([101] : List Nat) → c105 k = c k) := hw105
  obtain ⟨hw105, hI, hei105, hec105⟩ := hw105
  have hP : va_P D vwCl (xwT sk a t i105 q105 c105 d105 ++ (Z ++ mW o am tm jm qm em dm)) H := hP
  have hD : va_D (fun q : Nat => s.heap.size ≤ q) (xwT sk a t i105 q105 c105 d105 ++ (Z ++ mW o am tm jm qm em dm)) := hD
  refine lv_pop hx hb dL_law_1370 rfl ?_
  refine lv_aload_n hx hb dL_law_1371 rfl (lv_at hl 1 rfl) ?_
  refine lv_aload_n hx hb dL_law_1372 rfl (lv_at hl 3 rfl) ?_
  refine lv_iload_n hx hb dL_law_1373 rfl (lv_at hl 0 rfl) ?_
  refine lv_iconst (v := 1) hx hb dL_law_1374 (by decide +kernel) ?_
  refine lv_iadd hx hb dL_law_1375 ?_
  refine lv_topi (fun x106 ex106 => ?_)
  have tx106 := ti_add (a := x3.toInt) (b := 1) ex106 rfl (by decide +kernel) (by omega) (by omega)
  refine va_sld hx hb hX hbl hbA hS (vp_in_iff.mpr (by have h9 : x106.toInt = (x3.toInt + 1) := tx106; omega)) dL_law_1376 ?_
  refine lv_topi (fun x107 ex107 => ?_)
  refine lv_aload_n hx hb dL_law_1377 rfl (lv_at hl 3 rfl) ?_
  refine lv_iload_n hx hb dL_law_1378 rfl (lv_at hl 0 rfl) ?_
  refine lv_iconst (v := 2) hx hb dL_law_1379 (by decide +kernel) ?_
  refine lv_iadd hx hb dL_law_1380 ?_
  refine lv_topi (fun x108 ex108 => ?_)
  have tx108 := ti_add (a := x3.toInt) (b := 2) ex108 rfl (by decide +kernel) (by omega) (by omega)
  refine va_sld hx hb hX hbl hbA hS (vp_in_iff.mpr (by have h9 : x108.toInt = (x3.toInt + 2) := tx108; omega)) dL_law_1381 ?_
  refine lv_topi (fun x109 ex109 => ?_)
  have hP : va_P D vwCl ((xwT sk a t i105 q105 c105 d105 ++ Z) ++ mW o am tm jm qm em dm) H := by rw [List.append_assoc]; exact hP
  have hD : va_D (fun q : Nat => s.heap.size ≤ q) ((xwT sk a t i105 q105 c105 d105 ++ Z) ++ mW o am tm jm qm em dm) := by rw [List.append_assoc]; exact hD
  refine rc_i (wr := (xwT sk a t i105 q105 c105 d105 ++ Z)) (va_runV (As := [.int x107, .int x109]) (rest := []) ⟨hx, hb, hml, hown, hts⟩ (s_X12_who l D H.size o am tm jm qm em dm x107 x109 hM ) (cwV 2 hts gm_law_X12_who_155 rfl rfl rfl (by decide +kernel) ⟨Nat.le_of_ble_eq_true rfl, Nat.le_of_ble_eq_true rfl⟩) (pB_V hKM (vP_r hP) (vD_r hD) (ci := 12) (q0 := 0) rfl rfl) rfl rfl hl.1 rfl (lv_room (Nat.le_of_ble_eq_true rfl)) dL_law_1382 hcs) hS hA hP hD (fun r110 u110 H locs hw110 hP hD hS => ?_)
  obtain ⟨i110, q110, c110, d110⟩ := u110
  have hw110 : True ∧ mInv i110 c110 ∧ (∀ k, k ∉ ([0] : List Nat) → i110 k = jm k) ∧ (∀ k, k ∉ ([1] : List Nat) → c110 k = em k) := hw110
  obtain ⟨hw110, hM, hei110, hec110⟩ := hw110
  have hP : va_P D vwCl (xwT sk a t i105 q105 c105 d105 ++ (Z ++ mW o am tm i110 q110 c110 d110)) H := by rw [← List.append_assoc]; exact hP
  have hD : va_D (fun q : Nat => s.heap.size ≤ q) (xwT sk a t i105 q105 c105 d105 ++ (Z ++ mW o am tm i110 q110 c110 d110)) := by rw [← List.append_assoc]; exact hD
  refine lv_pop hx hb dL_law_1385 rfl ?_
  refine lv_goto (tgt := 1461) hx hb dL_law_1386 (by decide +kernel) ?_
  exact kk i105 q105 c105 d105 i110 q110 c110 d110 _ _ _ ⟨hI, (by rw [show c105 113 = c 113 from hec105 113 (by decide +kernel), show c105 115 = c 115 from hec105 115 (by decide +kernel)]; exact hs_F), (by rw [show i105 146 = i 146 from hei105 146 (by decide +kernel), show i105 147 = i 147 from hei105 147 (by decide +kernel), show i105 148 = i 148 from hei105 148 (by decide +kernel), show i105 156 = i 156 from hei105 156 (by decide +kernel), show c105 144 = c 144 from hec105 144 (by decide +kernel), show c105 145 = c 145 from hec105 145 (by decide +kernel), show c105 150 = c 150 from hec105 150 (by decide +kernel)]; exact hs_P), (by rw [show i105 141 = i 141 from hei105 141 (by decide +kernel)]; exact htr), hM, (by rw [show c110 3 = em 3 from hec110 3 (by decide +kernel), show c110 6 = em 6 from hec110 6 (by decide +kernel), show c110 9 = em 9 from hec110 9 (by decide +kernel), show c110 10 = em 10 from hec110 10 (by decide +kernel), show c110 11 = em 11 from hec110 11 (by decide +kernel), show c110 13 = em 13 from hec110 13 (by decide +kernel), show i110 2 = jm 2 from hei110 2 (by decide +kernel), show i110 5 = jm 5 from hei110 5 (by decide +kernel), show i110 8 = jm 8 from hei110 8 (by decide +kernel)]; exact hs_S), (by rw [show c110 3 = em 3 from hec110 3 (by decide +kernel), show c110 6 = em 6 from hec110 6 (by decide +kernel), show c110 23 = em 23 from hec110 23 (by decide +kernel), show c110 24 = em 24 from hec110 24 (by decide +kernel), show c110 29 = em 29 from hec110 29 (by decide +kernel), show c110 30 = em 30 from hec110 30 (by decide +kernel), show i110 5 = jm 5 from hei110 5 (by decide +kernel), show i110 22 = jm 22 from hei110 22 (by decide +kernel), show i110 27 = jm 27 from hei110 27 (by decide +kernel)]; exact hs_J), (by rw [show i105 110 = i 110 from hei105 110 (by decide +kernel), show i105 111 = i 111 from hei105 111 (by decide +kernel), show i105 165 = i 165 from hei105 165 (by decide +kernel), show i105 124 = i 124 from hei105 124 (by decide +kernel), show c105 107 = c 107 from hec105 107 (by decide +kernel), show c105 105 = c 105 from hec105 105 (by decide +kernel), show c105 108 = c 108 from hec105 108 (by decide +kernel), show c105 106 = c 106 from hec105 106 (by decide +kernel), show c105 113 = c 113 from hec105 113 (by decide +kernel), show c105 114 = c 114 from hec105 114 (by decide +kernel), show c105 115 = c 115 from hec105 115 (by decide +kernel), show c105 116 = c 116 from hec105 116 (by decide +kernel), show c105 117 = c 117 from hec105 117 (by decide +kernel), show c105 118 = c 118 from hec105 118 (by decide +kernel), show c105 119 = c 119 from hec105 119 (by decide +kernel), show c105 120 = c 120 from hec105 120 (by decide +kernel), show c105 121 = c 121 from hec105 121 (by decide +kernel), show c105 127 = c 127 from hec105 127 (by decide +kernel), show c105 129 = c 129 from hec105 129 (by decide +kernel), show c105 130 = c 130 from hec105 130 (by decide +kernel), show c105 131 = c 131 from hec105 131 (by decide +kernel), show c105 132 = c 132 from hec105 132 (by decide +kernel), show c105 133 = c 133 from hec105 133 (by decide +kernel), show c105 134 = c 134 from hec105 134 (by decide +kernel), show i110 2 = jm 2 from hei110 2 (by decide +kernel), show i110 5 = jm 5 from hei110 5 (by decide +kernel), show i110 64 = jm 64 from hei110 64 (by decide +kernel), show i110 8 = jm 8 from hei110 8 (by decide +kernel), show c110 4 = em 4 from hec110 4 (by decide +kernel), show c110 3 = em 3 from hec110 3 (by decide +kernel), show c110 6 = em 6 from hec110 6 (by decide +kernel), show c110 9 = em 9 from hec110 9 (by decide +kernel), show c110 10 = em 10 from hec110 10 (by decide +kernel), show c110 11 = em 11 from hec110 11 (by decide +kernel), show c110 12 = em 12 from hec110 12 (by decide +kernel), show c110 13 = em 13 from hec110 13 (by decide +kernel)]; exact ⟨hR, hPA, hKO, hSO, hSN, hDR, hRD⟩)⟩ hP hD hS (lv_sub hl [0, 1, 2, 3] rfl)

set_option maxHeartbeats 4000000 in
set_option maxRecDepth 100000 in
theorem law_finding {p : Program} {l : Launch} {e : Env} {s : State} {m : MethodId} {below : List Frame} {meth : Method} {cd : Code} {b L : Nat} {xs : Nat → Int32} {D : va_G} {a : Nat → Nat} {t : Nat → ClassId} {o : Nat} {am : Nat → Nat} {tm : Nat → ClassId} {x3 : Int32} {cells slots : Nat} {sk : Value} {Z : va_W} (hx : p.tables.exec = Jvm.exec) (hb : cd.code = cL_law) (hml : cd.maxLocals = 4) (hown : s.vm.findClass RL = some m.cls) (hts : ∀ w ∈ wm_law, w.before #[Value.ref b] s = true) (hX : va_X b L xs s s.heap) (hbl : b < s.heap.size) (hL : L ≤ 3584) (hN : xN s) (hZ : xZ (a 186) s s.heap) (hKT : va_K D vwCl (xtT t) s) (hKM : va_K D vwCl (mT tm) s) (hcs : cells ≤ 600000 ∧ slots ≤ 7302249) (hx3 : 0 ≤ x3.toInt ∧ x3.toInt + 7 ≤ (L : Int)) (kk : LK p l e s m below meth cd b D sk a t Z o am tm x3 cells slots) (i : Nat → Int32) (q : Int64) (c : Nat → Nat → Int32) (d : Nat → Nat → Int64) (jm : Nat → Int32) (qm : Int64) (em : Nat → Nat → Int32) (dm : Nat → Nat → Int64) (H : Heap) (locs : List Loc) (ls : Array Slot) (hLI : LI i c jm em) (hP : va_P D vwCl (xwT sk a t i q c d ++ (Z ++ mW o am tm jm qm em dm)) H) (hD : va_D (fun q : Nat => s.heap.size ≤ q) (xwT sk a t i q c d ++ (Z ++ mW o am tm jm qm em dm))) (hS : va_S (fun q : Nat => s.heap.size ≤ q) s.heap H locs) (hl : lv_has ls 4 [(3, .int x3), (2, .ref o), (1, .ref (a 100)), (0, .ref b)]) : W p l e room_1 s m #[Value.ref b] below meth cd H locs cells slots (lw_Z below #[Value.ref b] s) (F0 m 1412 ls []) := by
  have hbA : ¬ (fun q : Nat => s.heap.size ≤ q) b := Nat.not_le.mpr hbl
  have hA : ∀ q : Nat, s.heap.size ≤ q → (fun q : Nat => s.heap.size ≤ q) q := fun _ h => h
  obtain ⟨hI, hs_F, hs_P, htr, hM, hs_S, hs_J, hR⟩ := hLI
  have hI0 := hI
  have hM0 := hM
  obtain ⟨hR, hPA, hKO, hSO, hSN, hDR, hRD⟩ := hR
  have hRR := RR_of hI0 hs_F
  refine lv_aload_n hx hb dL_law_1412 rfl (lv_at hl 2 rfl) ?_
  refine ro_calli (va_runV (As := []) (rest := []) ⟨hx, hb, hml, hown, hts⟩ (x_X11_finding l D H.size sk a t i q c d  hI ) (cwV 0 hts gm_law_X11_finding_160 rfl rfl rfl (by decide +kernel) ⟨Nat.le_of_ble_eq_true rfl, Nat.le_of_ble_eq_true rfl⟩) (yA_V hN (xZ_k hZ hS hA) hKT (vP_l hP) (ci := 11) (q0 := 0) rfl rfl) rfl rfl hl.1 rfl (lv_room (Nat.le_of_ble_eq_true rfl)) dL_law_1413 hcs) hS hA hP (fun r101 u101 H locs hw101 hP hS => ?_)
  refine lv_pop hx hb dL_law_1416 rfl ?_
  refine lv_aload_n hx hb dL_law_1417 rfl (lv_at hl 1 rfl) ?_
  have hP : va_P D vwCl ((xwT sk a t i q c d ++ Z) ++ mW o am tm jm qm em dm) H := by rw [List.append_assoc]; exact hP
  have hD : va_D (fun q : Nat => s.heap.size ≤ q) ((xwT sk a t i q c d ++ Z) ++ mW o am tm jm qm em dm) := by rw [List.append_assoc]; exact hD
  refine ro_calli (va_runV (As := []) (rest := []) ⟨hx, hb, hml, hown, hts⟩ (s_X12_finding l D H.size o am tm jm qm em dm  hM ) (cwV 0 hts gm_law_X12_finding_163 rfl rfl rfl (by decide +kernel) ⟨Nat.le_of_ble_eq_true rfl, Nat.le_of_ble_eq_true rfl⟩) (pA_V hKM (vP_r hP) (ci := 12) (q0 := 0) rfl rfl) rfl rfl hl.1 rfl (lv_room (Nat.le_of_ble_eq_true rfl)) dL_law_1418 hcs) hS hA hP (fun r102 u102 H locs hw102 hP hS => ?_)
  have hP : va_P D vwCl (xwT sk a t i q c d ++ (Z ++ mW o am tm jm qm em dm)) H := by rw [← List.append_assoc]; exact hP
  have hD : va_D (fun q : Nat => s.heap.size ≤ q) (xwT sk a t i q c d ++ (Z ++ mW o am tm jm qm em dm)) := by rw [← List.append_assoc]; exact hD
  refine lv_pop hx hb dL_law_1421 rfl ?_
  refine lv_goto (tgt := 1461) hx hb dL_law_1422 (by decide +kernel) ?_
  exact kk i q c d jm qm em dm _ _ _ ⟨hI, hs_F, hs_P, htr, hM, hs_S, hs_J, ⟨hR, hPA, hKO, hSO, hSN, hDR, hRD⟩⟩ hP hD hS (lv_sub hl [0, 1, 2, 3] rfl)

set_option maxHeartbeats 4000000 in
set_option maxRecDepth 100000 in
theorem law_findings {p : Program} {l : Launch} {e : Env} {s : State} {m : MethodId} {below : List Frame} {meth : Method} {cd : Code} {b L : Nat} {xs : Nat → Int32} {D : va_G} {a : Nat → Nat} {t : Nat → ClassId} {o : Nat} {am : Nat → Nat} {tm : Nat → ClassId} {x3 : Int32} {cells slots : Nat} {sk : Value} {Z : va_W} (hx : p.tables.exec = Jvm.exec) (hb : cd.code = cL_law) (hml : cd.maxLocals = 4) (hown : s.vm.findClass RL = some m.cls) (hts : ∀ w ∈ wm_law, w.before #[Value.ref b] s = true) (hX : va_X b L xs s s.heap) (hbl : b < s.heap.size) (hL : L ≤ 3584) (hN : xN s) (hZ : xZ (a 186) s s.heap) (hKT : va_K D vwCl (xtT t) s) (hKM : va_K D vwCl (mT tm) s) (hcs : cells ≤ 600000 ∧ slots ≤ 7302249) (hx3 : 0 ≤ x3.toInt ∧ x3.toInt + 7 ≤ (L : Int)) (kk : LK p l e s m below meth cd b D sk a t Z o am tm x3 cells slots) (i : Nat → Int32) (q : Int64) (c : Nat → Nat → Int32) (d : Nat → Nat → Int64) (jm : Nat → Int32) (qm : Int64) (em : Nat → Nat → Int32) (dm : Nat → Nat → Int64) (H : Heap) (locs : List Loc) (ls : Array Slot) (hLI : LI i c jm em) (hP : va_P D vwCl (xwT sk a t i q c d ++ (Z ++ mW o am tm jm qm em dm)) H) (hD : va_D (fun q : Nat => s.heap.size ≤ q) (xwT sk a t i q c d ++ (Z ++ mW o am tm jm qm em dm))) (hS : va_S (fun q : Nat => s.heap.size ≤ q) s.heap H locs) (hl : lv_has ls 4 [(3, .int x3), (2, .ref o), (1, .ref (a 100)), (0, .ref b)]) : W p l e room_1 s m #[Value.ref b] below meth cd H locs cells slots (lw_Z below #[Value.ref b] s) (F0 m 1425 ls []) := by
  have hbA : ¬ (fun q : Nat => s.heap.size ≤ q) b := Nat.not_le.mpr hbl
  have hA : ∀ q : Nat, s.heap.size ≤ q → (fun q : Nat => s.heap.size ≤ q) q := fun _ h => h
  obtain ⟨hI, hs_F, hs_P, htr, hM, hs_S, hs_J, hR⟩ := hLI
  have hI0 := hI
  have hM0 := hM
  obtain ⟨hR, hPA, hKO, hSO, hSN, hDR, hRD⟩ := hR
  have hRR := RR_of hI0 hs_F
  refine lv_aload_n hx hb dL_law_1425 rfl (lv_at hl 2 rfl) ?_
  refine lv_aload_n hx hb dL_law_1426 rfl (lv_at hl 3 rfl) ?_
  refine lv_iload_n hx hb dL_law_1427 rfl (lv_at hl 0 rfl) ?_
  refine lv_iconst (v := 1) hx hb dL_law_1428 (by decide +kernel) ?_
  refine lv_iadd hx hb dL_law_1429 ?_
  refine lv_topi (fun x101 ex101 => ?_)
  have tx101 := ti_add (a := x3.toInt) (b := 1) ex101 rfl (by decide +kernel) (by omega) (by omega)
  refine va_sld hx hb hX hbl hbA hS (vp_in_iff.mpr (by have h9 : x101.toInt = (x3.toInt + 1) := tx101; omega)) dL_law_1430 ?_
  refine lv_topi (fun x102 ex102 => ?_)
  refine ro_calli (va_runV (As := [.int x102]) (rest := []) ⟨hx, hb, hml, hown, hts⟩ (x_X11_findings l D H.size sk a t i q c d x102 hI ) (cwV 1 hts gm_law_X11_findings_164 rfl rfl rfl (by decide +kernel) ⟨Nat.le_of_ble_eq_true rfl, Nat.le_of_ble_eq_true rfl⟩) (yA_V hN (xZ_k hZ hS hA) hKT (vP_l hP) (ci := 11) (q0 := 0) rfl rfl) rfl rfl hl.1 rfl (lv_room (Nat.le_of_ble_eq_true rfl)) dL_law_1431 hcs) hS hA hP (fun r103 u103 H locs hw103 hP hS => ?_)
  refine lv_pop hx hb dL_law_1434 rfl ?_
  refine lv_aload_n hx hb dL_law_1435 rfl (lv_at hl 1 rfl) ?_
  refine lv_aload_n hx hb dL_law_1436 rfl (lv_at hl 3 rfl) ?_
  refine lv_iload_n hx hb dL_law_1437 rfl (lv_at hl 0 rfl) ?_
  refine lv_iconst (v := 1) hx hb dL_law_1438 (by decide +kernel) ?_
  refine lv_iadd hx hb dL_law_1439 ?_
  refine lv_topi (fun x104 ex104 => ?_)
  have tx104 := ti_add (a := x3.toInt) (b := 1) ex104 rfl (by decide +kernel) (by omega) (by omega)
  refine va_sld hx hb hX hbl hbA hS (vp_in_iff.mpr (by have h9 : x104.toInt = (x3.toInt + 1) := tx104; omega)) dL_law_1440 ?_
  refine lv_topi (fun x105 ex105 => ?_)
  have hP : va_P D vwCl ((xwT sk a t i q c d ++ Z) ++ mW o am tm jm qm em dm) H := by rw [List.append_assoc]; exact hP
  have hD : va_D (fun q : Nat => s.heap.size ≤ q) ((xwT sk a t i q c d ++ Z) ++ mW o am tm jm qm em dm) := by rw [List.append_assoc]; exact hD
  refine ro_calli (va_runV (As := [.int x105]) (rest := []) ⟨hx, hb, hml, hown, hts⟩ (s_X12_findings l D H.size o am tm jm qm em dm x105 hM ) (cwV 1 hts gm_law_X12_findings_167 rfl rfl rfl (by decide +kernel) ⟨Nat.le_of_ble_eq_true rfl, Nat.le_of_ble_eq_true rfl⟩) (pA_V hKM (vP_r hP) (ci := 12) (q0 := 0) rfl rfl) rfl rfl hl.1 rfl (lv_room (Nat.le_of_ble_eq_true rfl)) dL_law_1441 hcs) hS hA hP (fun r106 u106 H locs hw106 hP hS => ?_)
  have hP : va_P D vwCl (xwT sk a t i q c d ++ (Z ++ mW o am tm jm qm em dm)) H := by rw [← List.append_assoc]; exact hP
  have hD : va_D (fun q : Nat => s.heap.size ≤ q) (xwT sk a t i q c d ++ (Z ++ mW o am tm jm qm em dm)) := by rw [← List.append_assoc]; exact hD
  refine lv_pop hx hb dL_law_1444 rfl ?_
  refine lv_goto (tgt := 1461) hx hb dL_law_1445 (by decide +kernel) ?_
  exact kk i q c d jm qm em dm _ _ _ ⟨hI, hs_F, hs_P, htr, hM, hs_S, hs_J, ⟨hR, hPA, hKO, hSO, hSN, hDR, hRD⟩⟩ hP hD hS (lv_sub hl [0, 1, 2, 3] rfl)

set_option maxHeartbeats 4000000 in
set_option maxRecDepth 100000 in
theorem law_digest {p : Program} {l : Launch} {e : Env} {s : State} {m : MethodId} {below : List Frame} {meth : Method} {cd : Code} {b L : Nat} {xs : Nat → Int32} {D : va_G} {a : Nat → Nat} {t : Nat → ClassId} {o : Nat} {am : Nat → Nat} {tm : Nat → ClassId} {x3 : Int32} {cells slots : Nat} {sk : Value} {Z : va_W} (hx : p.tables.exec = Jvm.exec) (hb : cd.code = cL_law) (hml : cd.maxLocals = 4) (hown : s.vm.findClass RL = some m.cls) (hts : ∀ w ∈ wm_law, w.before #[Value.ref b] s = true) (hX : va_X b L xs s s.heap) (hbl : b < s.heap.size) (hL : L ≤ 3584) (hN : xN s) (hZ : xZ (a 186) s s.heap) (hKT : va_K D vwCl (xtT t) s) (hKM : va_K D vwCl (mT tm) s) (hcs : cells ≤ 600000 ∧ slots ≤ 7302249) (hx3 : 0 ≤ x3.toInt ∧ x3.toInt + 7 ≤ (L : Int)) (kk : LK p l e s m below meth cd b D sk a t Z o am tm x3 cells slots) (i : Nat → Int32) (q : Int64) (c : Nat → Nat → Int32) (d : Nat → Nat → Int64) (jm : Nat → Int32) (qm : Int64) (em : Nat → Nat → Int32) (dm : Nat → Nat → Int64) (H : Heap) (locs : List Loc) (ls : Array Slot) (hLI : LI i c jm em) (hP : va_P D vwCl (xwT sk a t i q c d ++ (Z ++ mW o am tm jm qm em dm)) H) (hD : va_D (fun q : Nat => s.heap.size ≤ q) (xwT sk a t i q c d ++ (Z ++ mW o am tm jm qm em dm))) (hS : va_S (fun q : Nat => s.heap.size ≤ q) s.heap H locs) (hl : lv_has ls 4 [(3, .int x3), (2, .ref o), (1, .ref (a 100)), (0, .ref b)]) : W p l e room_1 s m #[Value.ref b] below meth cd H locs cells slots (lw_Z below #[Value.ref b] s) (F0 m 1448 ls []) := by
  have hbA : ¬ (fun q : Nat => s.heap.size ≤ q) b := Nat.not_le.mpr hbl
  have hA : ∀ q : Nat, s.heap.size ≤ q → (fun q : Nat => s.heap.size ≤ q) q := fun _ h => h
  obtain ⟨hI, hs_F, hs_P, htr, hM, hs_S, hs_J, hR⟩ := hLI
  have hI0 := hI
  have hM0 := hM
  obtain ⟨hR, hPA, hKO, hSO, hSN, hDR, hRD⟩ := hR
  have hRR := RR_of hI0 hs_F
  refine lv_aload_n hx hb dL_law_1448 rfl (lv_at hl 2 rfl) ?_
  refine ro_calll (va_runV (As := []) (rest := []) ⟨hx, hb, hml, hown, hts⟩ (x_X11_digest l D H.size sk a t i q c d  hI ) (cwV 0 hts gm_law_X11_digest_168 rfl rfl rfl (by decide +kernel) ⟨Nat.le_of_ble_eq_true rfl, Nat.le_of_ble_eq_true rfl⟩) (yA_V hN (xZ_k hZ hS hA) hKT (vP_l hP) (ci := 11) (q0 := 0) rfl rfl) rfl rfl hl.1 rfl (lv_room (Nat.le_of_ble_eq_true rfl)) dL_law_1449 hcs) hS hA hP (fun r101 u101 H locs hw101 hP hS => ?_)
  refine lv_pop2_2 hx hb dL_law_1452 rfl ?_
  refine lv_aload_n hx hb dL_law_1453 rfl (lv_at hl 1 rfl) ?_
  have hP : va_P D vwCl ((xwT sk a t i q c d ++ Z) ++ mW o am tm jm qm em dm) H := by rw [List.append_assoc]; exact hP
  have hD : va_D (fun q : Nat => s.heap.size ≤ q) ((xwT sk a t i q c d ++ Z) ++ mW o am tm jm qm em dm) := by rw [List.append_assoc]; exact hD
  refine rc_l (wr := (xwT sk a t i q c d ++ Z)) (va_runV (As := []) (rest := []) ⟨hx, hb, hml, hown, hts⟩ (s_X12_digest l D H.size o am tm jm qm em dm  hM hs_S hs_J) (cwV 0 hts gm_law_X12_digest_171 rfl rfl rfl (by decide +kernel) ⟨Nat.le_of_ble_eq_true rfl, Nat.le_of_ble_eq_true rfl⟩) (pB_V hKM (vP_r hP) (vD_r hD) (ci := 12) (q0 := 0) rfl rfl) rfl rfl hl.1 rfl (lv_room (Nat.le_of_ble_eq_true rfl)) dL_law_1454 hcs) hS hA hP hD (fun r102 u102 H locs hw102 hP hD hS => ?_)
  obtain ⟨i102, q102, c102, d102⟩ := u102
  have hw102 : True ∧ mInv i102 c102 ∧ (∀ k, k ∉ ([40, 41, 42] : List Nat) → i102 k = jm k) ∧ (∀ k, k ∉ ([43, 44, 45, 46, 47, 48, 49] : List Nat) → c102 k = em k) := hw102
  obtain ⟨hw102, hM, hei102, hec102⟩ := hw102
  have hP : va_P D vwCl (xwT sk a t i q c d ++ (Z ++ mW o am tm i102 q102 c102 d102)) H := by rw [← List.append_assoc]; exact hP
  have hD : va_D (fun q : Nat => s.heap.size ≤ q) (xwT sk a t i q c d ++ (Z ++ mW o am tm i102 q102 c102 d102)) := by rw [← List.append_assoc]; exact hD
  refine lv_pop2_2 hx hb dL_law_1457 rfl ?_
  refine lv_goto (tgt := 1461) hx hb dL_law_1458 (by decide +kernel) ?_
  exact kk i q c d i102 q102 c102 d102 _ _ _ ⟨hI, hs_F, hs_P, htr, hM, (by rw [show c102 3 = em 3 from hec102 3 (by decide +kernel), show c102 6 = em 6 from hec102 6 (by decide +kernel), show c102 9 = em 9 from hec102 9 (by decide +kernel), show c102 10 = em 10 from hec102 10 (by decide +kernel), show c102 11 = em 11 from hec102 11 (by decide +kernel), show c102 13 = em 13 from hec102 13 (by decide +kernel), show i102 2 = jm 2 from hei102 2 (by decide +kernel), show i102 5 = jm 5 from hei102 5 (by decide +kernel), show i102 8 = jm 8 from hei102 8 (by decide +kernel)]; exact hs_S), (by rw [show c102 3 = em 3 from hec102 3 (by decide +kernel), show c102 6 = em 6 from hec102 6 (by decide +kernel), show c102 23 = em 23 from hec102 23 (by decide +kernel), show c102 24 = em 24 from hec102 24 (by decide +kernel), show c102 29 = em 29 from hec102 29 (by decide +kernel), show c102 30 = em 30 from hec102 30 (by decide +kernel), show i102 5 = jm 5 from hei102 5 (by decide +kernel), show i102 22 = jm 22 from hei102 22 (by decide +kernel), show i102 27 = jm 27 from hei102 27 (by decide +kernel)]; exact hs_J), (by rw [show i102 2 = jm 2 from hei102 2 (by decide +kernel), show i102 5 = jm 5 from hei102 5 (by decide +kernel), show i102 64 = jm 64 from hei102 64 (by decide +kernel), show i102 8 = jm 8 from hei102 8 (by decide +kernel), show c102 4 = em 4 from hec102 4 (by decide +kernel), show c102 3 = em 3 from hec102 3 (by decide +kernel), show c102 6 = em 6 from hec102 6 (by decide +kernel), show c102 9 = em 9 from hec102 9 (by decide +kernel), show c102 10 = em 10 from hec102 10 (by decide +kernel), show c102 11 = em 11 from hec102 11 (by decide +kernel), show c102 12 = em 12 from hec102 12 (by decide +kernel), show c102 13 = em 13 from hec102 13 (by decide +kernel)]; exact ⟨hR, hPA, hKO, hSO, hSN, hDR, hRD⟩)⟩ hP hD hS (lv_sub hl [0, 1, 2, 3] rfl)

