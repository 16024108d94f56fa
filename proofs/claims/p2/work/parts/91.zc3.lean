set_option maxHeartbeats 4000000 in
set_option maxRecDepth 100000 in
theorem law_copy {p : Program} {l : Launch} {e : Env} {s : State} {m : MethodId} {below : List Frame} {meth : Method} {cd : Code} {b L : Nat} {xs : Nat → Int32} {D : va_G} {a : Nat → Nat} {t : Nat → ClassId} {o : Nat} {am : Nat → Nat} {tm : Nat → ClassId} {x3 : Int32} {cells slots : Nat} {sk : Value} {Z : va_W} (hx : p.tables.exec = Jvm.exec) (hb : cd.code = cL_law) (hml : cd.maxLocals = 4) (hown : s.vm.findClass RL = some m.cls) (hts : ∀ w ∈ wm_law, w.before #[Value.ref b] s = true) (hX : va_X b L xs s s.heap) (hbl : b < s.heap.size) (hL : L ≤ 3584) (hN : xN s) (hZ : xZ (a 186) s s.heap) (hKT : va_K D vwCl (xtT t) s) (hKM : va_K D vwCl (mT tm) s) (hcs : cells ≤ 600000 ∧ slots ≤ 7302249) (hx3 : 0 ≤ x3.toInt ∧ x3.toInt + 7 ≤ (L : Int)) (kk : LK p l e s m below meth cd b D sk a t Z o am tm x3 cells slots) (i : Nat → Int32) (q : Int64) (c : Nat → Nat → Int32) (d : Nat → Nat → Int64) (jm : Nat → Int32) (qm : Int64) (em : Nat → Nat → Int32) (dm : Nat → Nat → Int64) (H : Heap) (locs : List Loc) (ls : Array Slot) (hLI : LI i c jm em) (hP : va_P D vwCl (xwT sk a t i q c d ++ (Z ++ mW o am tm jm qm em dm)) H) (hD : va_D (fun q : Nat => s.heap.size ≤ q) (xwT sk a t i q c d ++ (Z ++ mW o am tm jm qm em dm))) (hS : va_S (fun q : Nat => s.heap.size ≤ q) s.heap H locs) (hl : lv_has ls 4 [(3, .int x3), (2, .ref o), (1, .ref (a 100)), (0, .ref b)]) : W p l e room_1 s m #[Value.ref b] below meth cd H locs cells slots (lw_Z below #[Value.ref b] s) (F0 m 1205 ls []) := by
  have hbA : ¬ (fun q : Nat => s.heap.size ≤ q) b := Nat.not_le.mpr hbl
  have hA : ∀ q : Nat, s.heap.size ≤ q → (fun q : Nat => s.heap.size ≤ q) q := fun _ h => h
  obtain ⟨hI, hs_F, hs_P, htr, hM, hs_S, hs_J, hR⟩ := hLI
  refine lv_aload_n hx hb dL_law_1205 rfl (lv_at hl 2 rfl) ?_
  refine lv_aload_n hx hb dL_law_1206 rfl (lv_at hl 3 rfl) ?_
  refine lv_iload_n hx hb dL_law_1207 rfl (lv_at hl 0 rfl) ?_
  refine lv_iconst (v := 1) hx hb dL_law_1208 (by decide) ?_
  refine lv_iadd hx hb dL_law_1209 ?_
  refine lv_topi (fun x1 ex1 => ?_)
  have tx1 := ti_add (a := x3.toInt) (b := 1) ex1 rfl (by decide) (by omega) (by omega)
  refine va_sld hx hb hX hbl hbA hS (vp_in_iff.mpr (by have h9 : x1.toInt = (x3.toInt + 1) := tx1; omega)) dL_law_1210 ?_
  refine lv_topi (fun x2 ex2 => ?_)
  refine lv_aload_n hx hb dL_law_1211 rfl (lv_at hl 3 rfl) ?_
  refine lv_iload_n hx hb dL_law_1212 rfl (lv_at hl 0 rfl) ?_
  refine lv_iconst (v := 2) hx hb dL_law_1213 (by decide) ?_
  refine lv_iadd hx hb dL_law_1214 ?_
  refine lv_topi (fun x3 ex3 => ?_)
  have tx3 := ti_add (a := x3.toInt) (b := 2) ex3 rfl (by decide) (by omega) (by omega)
  refine va_sld hx hb hX hbl hbA hS (vp_in_iff.mpr (by have h9 : x3.toInt = (x3.toInt + 2) := tx3; omega)) dL_law_1215 ?_
  refine lv_topi (fun x4 ex4 => ?_)
  refine lv_aload_n hx hb dL_law_1216 rfl (lv_at hl 3 rfl) ?_
  refine lv_iload_n hx hb dL_law_1217 rfl (lv_at hl 0 rfl) ?_
  refine lv_iconst (v := 3) hx hb dL_law_1218 (by decide) ?_
  refine lv_iadd hx hb dL_law_1219 ?_
  refine lv_topi (fun x5 ex5 => ?_)
  have tx5 := ti_add (a := x3.toInt) (b := 3) ex5 rfl (by decide) (by omega) (by omega)
  refine va_sld hx hb hX hbl hbA hS (vp_in_iff.mpr (by have h9 : x5.toInt = (x3.toInt + 3) := tx5; omega)) dL_law_1220 ?_
  refine lv_topi (fun x6 ex6 => ?_)
  refine lv_aload_n hx hb dL_law_1221 rfl (lv_at hl 3 rfl) ?_
  refine lv_iload_n hx hb dL_law_1222 rfl (lv_at hl 0 rfl) ?_
  refine lv_iconst (v := 4) hx hb dL_law_1223 (by decide) ?_
  refine lv_iadd hx hb dL_law_1224 ?_
  refine lv_topi (fun x7 ex7 => ?_)
  have tx7 := ti_add (a := x3.toInt) (b := 4) ex7 rfl (by decide) (by omega) (by omega)
  refine va_sld hx hb hX hbl hbA hS (vp_in_iff.mpr (by have h9 : x7.toInt = (x3.toInt + 4) := tx7; omega)) dL_law_1225 ?_
  refine lv_topi (fun x8 ex8 => ?_)
  refine lv_aload_n hx hb dL_law_1226 rfl (lv_at hl 3 rfl) ?_
  refine lv_iload_n hx hb dL_law_1227 rfl (lv_at hl 0 rfl) ?_
  refine lv_iconst (v := 5) hx hb dL_law_1228 (by decide) ?_
  refine lv_iadd hx hb dL_law_1229 ?_
  refine lv_topi (fun x9 ex9 => ?_)
  have tx9 := ti_add (a := x3.toInt) (b := 5) ex9 rfl (by decide) (by omega) (by omega)
  refine va_sld hx hb hX hbl hbA hS (vp_in_iff.mpr (by have h9 : x9.toInt = (x3.toInt + 5) := tx9; omega)) dL_law_1230 ?_
  refine lv_topi (fun x10 ex10 => ?_)
  refine lv_aload_n hx hb dL_law_1231 rfl (lv_at hl 3 rfl) ?_
  refine lv_iload_n hx hb dL_law_1232 rfl (lv_at hl 0 rfl) ?_
  refine lv_bipush (v := 6) hx hb dL_law_1233 (by decide) ?_
  refine lv_iadd hx hb dL_law_1235 ?_
  refine lv_topi (fun x11 ex11 => ?_)
  have tx11 := ti_add (a := x3.toInt) (b := 6) ex11 rfl (by decide) (by omega) (by omega)
  refine va_sld hx hb hX hbl hbA hS (vp_in_iff.mpr (by have h9 : x11.toInt = (x3.toInt + 6) := tx11; omega)) dL_law_1236 ?_
  refine lv_topi (fun x12 ex12 => ?_)
  refine lc_i (wr := (Z ++ mW o am tm jm qm em dm)) (va_runV (As := [.int x2, .int x4, .int x6, .int x8, .int x10, .int x12]) (rest := []) ⟨hx, hb, hml, hown, hts⟩ (x_X11_copy l D H.size sk a t i q c d x2 x4 x6 x8 x10 x12 hI ) (cwV 6 hts gm_law_X11_copy_139 rfl rfl rfl (by decide +kernel) ⟨Nat.le_of_ble_eq_true rfl, Nat.le_of_ble_eq_true rfl⟩) (yB_V hN (xZ_k hZ hS hA) (xZ_n hZ (vD_l hD)) hKT (vP_l hP) (vD_l hD) (ci := 11) (q0 := 0) rfl rfl) rfl rfl hl.1 rfl (lv_room (Nat.le_of_ble_eq_true rfl)) dL_law_1237 hcs) hS hA hP hD (fun r13 u13 H locs hw13 _ hP hD hS => ?_)
  obtain ⟨i13, q13, c13, d13⟩ := u13
  have hw13 : True ∧ xInv i13 c13 ∧ (∀ k, k ∉ ([102] : List Nat) → i13 k = i k) ∧ (∀ k, k ∉ ([101] : List Nat) → c13 k = c k) := hw13
  obtain ⟨hw13, hI, hei13, hec13⟩ := hw13
  have hP : va_P D vwCl (xwT sk a t i13 q13 c13 d13 ++ (Z ++ mW o am tm jm qm em dm)) H := hP
  have hD : va_D (fun q : Nat => s.heap.size ≤ q) (xwT sk a t i13 q13 c13 d13 ++ (Z ++ mW o am tm jm qm em dm)) := hD
  refine lv_pop hx hb dL_law_1240 rfl ?_
  refine lv_aload_n hx hb dL_law_1241 rfl (lv_at hl 1 rfl) ?_
  refine lv_aload_n hx hb dL_law_1242 rfl (lv_at hl 3 rfl) ?_
  refine lv_iload_n hx hb dL_law_1243 rfl (lv_at hl 0 rfl) ?_
  refine lv_iconst (v := 1) hx hb dL_law_1244 (by decide) ?_
  refine lv_iadd hx hb dL_law_1245 ?_
  refine lv_topi (fun x14 ex14 => ?_)
  have tx14 := ti_add (a := x3.toInt) (b := 1) ex14 rfl (by decide) (by omega) (by omega)
  refine va_sld hx hb hX hbl hbA hS (vp_in_iff.mpr (by have h9 : x14.toInt = (x3.toInt + 1) := tx14; omega)) dL_law_1246 ?_
  refine lv_topi (fun x15 ex15 => ?_)
  refine lv_aload_n hx hb dL_law_1247 rfl (lv_at hl 3 rfl) ?_
  refine lv_iload_n hx hb dL_law_1248 rfl (lv_at hl 0 rfl) ?_
  refine lv_iconst (v := 2) hx hb dL_law_1249 (by decide) ?_
  refine lv_iadd hx hb dL_law_1250 ?_
  refine lv_topi (fun x16 ex16 => ?_)
  have tx16 := ti_add (a := x3.toInt) (b := 2) ex16 rfl (by decide) (by omega) (by omega)
  refine va_sld hx hb hX hbl hbA hS (vp_in_iff.mpr (by have h9 : x16.toInt = (x3.toInt + 2) := tx16; omega)) dL_law_1251 ?_
  refine lv_topi (fun x17 ex17 => ?_)
  refine lv_aload_n hx hb dL_law_1252 rfl (lv_at hl 3 rfl) ?_
  refine lv_iload_n hx hb dL_law_1253 rfl (lv_at hl 0 rfl) ?_
  refine lv_iconst (v := 3) hx hb dL_law_1254 (by decide) ?_
  refine lv_iadd hx hb dL_law_1255 ?_
  refine lv_topi (fun x18 ex18 => ?_)
  have tx18 := ti_add (a := x3.toInt) (b := 3) ex18 rfl (by decide) (by omega) (by omega)
  refine va_sld hx hb hX hbl hbA hS (vp_in_iff.mpr (by have h9 : x18.toInt = (x3.toInt + 3) := tx18; omega)) dL_law_1256 ?_
  refine lv_topi (fun x19 ex19 => ?_)
  refine lv_aload_n hx hb dL_law_1257 rfl (lv_at hl 3 rfl) ?_
  refine lv_iload_n hx hb dL_law_1258 rfl (lv_at hl 0 rfl) ?_
  refine lv_iconst (v := 4) hx hb dL_law_1259 (by decide) ?_
  refine lv_iadd hx hb dL_law_1260 ?_
  refine lv_topi (fun x20 ex20 => ?_)
  have tx20 := ti_add (a := x3.toInt) (b := 4) ex20 rfl (by decide) (by omega) (by omega)
  refine va_sld hx hb hX hbl hbA hS (vp_in_iff.mpr (by have h9 : x20.toInt = (x3.toInt + 4) := tx20; omega)) dL_law_1261 ?_
  refine lv_topi (fun x21 ex21 => ?_)
  refine lv_aload_n hx hb dL_law_1262 rfl (lv_at hl 3 rfl) ?_
  refine lv_iload_n hx hb dL_law_1263 rfl (lv_at hl 0 rfl) ?_
  refine lv_iconst (v := 5) hx hb dL_law_1264 (by decide) ?_
  refine lv_iadd hx hb dL_law_1265 ?_
  refine lv_topi (fun x22 ex22 => ?_)
  have tx22 := ti_add (a := x3.toInt) (b := 5) ex22 rfl (by decide) (by omega) (by omega)
  refine va_sld hx hb hX hbl hbA hS (vp_in_iff.mpr (by have h9 : x22.toInt = (x3.toInt + 5) := tx22; omega)) dL_law_1266 ?_
  refine lv_topi (fun x23 ex23 => ?_)
  refine lv_aload_n hx hb dL_law_1267 rfl (lv_at hl 3 rfl) ?_
  refine lv_iload_n hx hb dL_law_1268 rfl (lv_at hl 0 rfl) ?_
  refine lv_bipush (v := 6) hx hb dL_law_1269 (by decide) ?_
  refine lv_iadd hx hb dL_law_1271 ?_
  refine lv_topi (fun x24 ex24 => ?_)
  have tx24 := ti_add (a := x3.toInt) (b := 6) ex24 rfl (by decide) (by omega) (by omega)
  refine va_sld hx hb hX hbl hbA hS (vp_in_iff.mpr (by have h9 : x24.toInt = (x3.toInt + 6) := tx24; omega)) dL_law_1272 ?_
  refine lv_topi (fun x25 ex25 => ?_)
  have hP : va_P D vwCl ((xwT sk a t i13 q13 c13 d13 ++ Z) ++ mW o am tm jm qm em dm) H := by rw [List.append_assoc]; exact hP
  have hD : va_D (fun q : Nat => s.heap.size ≤ q) ((xwT sk a t i13 q13 c13 d13 ++ Z) ++ mW o am tm jm qm em dm) := by rw [List.append_assoc]; exact hD
  refine rc_i (wr := (xwT sk a t i13 q13 c13 d13 ++ Z)) (va_runV (As := [.int x15, .int x17, .int x19, .int x21, .int x23, .int x25]) (rest := []) ⟨hx, hb, hml, hown, hts⟩ (s_X12_copy l D H.size o am tm jm qm em dm x15 x17 x19 x21 x23 x25 hM ) (cwV 6 hts gm_law_X12_copy_143 rfl rfl rfl (by decide +kernel) ⟨Nat.le_of_ble_eq_true rfl, Nat.le_of_ble_eq_true rfl⟩) (pB_V hKM (vP_r hP) (vD_r hD) (ci := 12) (q0 := 0) rfl rfl) rfl rfl hl.1 rfl (lv_room (Nat.le_of_ble_eq_true rfl)) dL_law_1273 hcs) hS hA hP hD (fun r26 u26 H locs hw26 hP hD hS => ?_)
  obtain ⟨i26, q26, c26, d26⟩ := u26
  have hw26 : True ∧ mInv i26 c26 ∧ (∀ k, k ∉ ([0] : List Nat) → i26 k = jm k) ∧ (∀ k, k ∉ ([1] : List Nat) → c26 k = em k) := hw26
  obtain ⟨hw26, hM, hei26, hec26⟩ := hw26
  have hP : va_P D vwCl (xwT sk a t i13 q13 c13 d13 ++ (Z ++ mW o am tm i26 q26 c26 d26)) H := by rw [← List.append_assoc]; exact hP
  have hD : va_D (fun q : Nat => s.heap.size ≤ q) (xwT sk a t i13 q13 c13 d13 ++ (Z ++ mW o am tm i26 q26 c26 d26)) := by rw [← List.append_assoc]; exact hD
  refine lv_pop hx hb dL_law_1276 rfl ?_
  refine lv_goto (tgt := 1461) hx hb dL_law_1277 (by decide) ?_
  exact kk i13 q13 c13 d13 i26 q26 c26 d26 _ _ _ ⟨hI, (by rw [show c13 113 = c 113 from hec13 113 (by decide), show c13 115 = c 115 from hec13 115 (by decide)]; exact hs_F), (by rw [show i13 146 = i 146 from hei13 146 (by decide), show i13 147 = i 147 from hei13 147 (by decide), show i13 148 = i 148 from hei13 148 (by decide), show i13 156 = i 156 from hei13 156 (by decide), show c13 144 = c 144 from hec13 144 (by decide), show c13 145 = c 145 from hec13 145 (by decide), show c13 150 = c 150 from hec13 150 (by decide)]; exact hs_P), (by rw [show i13 141 = i 141 from hei13 141 (by decide)]; exact htr), hM, (by rw [show c26 3 = em 3 from hec26 3 (by decide), show c26 6 = em 6 from hec26 6 (by decide), show c26 9 = em 9 from hec26 9 (by decide), show c26 10 = em 10 from hec26 10 (by decide), show c26 11 = em 11 from hec26 11 (by decide), show c26 13 = em 13 from hec26 13 (by decide), show i26 2 = jm 2 from hei26 2 (by decide), show i26 5 = jm 5 from hei26 5 (by decide), show i26 8 = jm 8 from hei26 8 (by decide)]; exact hs_S), (by rw [show c26 3 = em 3 from hec26 3 (by decide), show c26 6 = em 6 from hec26 6 (by decide), show c26 23 = em 23 from hec26 23 (by decide), show c26 24 = em 24 from hec26 24 (by decide), show c26 29 = em 29 from hec26 29 (by decide), show c26 30 = em 30 from hec26 30 (by decide), show i26 5 = jm 5 from hei26 5 (by decide), show i26 22 = jm 22 from hei26 22 (by decide), show i26 27 = jm 27 from hei26 27 (by decide)]; exact hs_J), (by rw [show i13 110 = i 110 from hei13 110 (by decide), show i26 2 = jm 2 from hei26 2 (by decide)]; exact hR)⟩ hP hD hS (lv_sub hl [0, 1, 2, 3] rfl)

set_option maxHeartbeats 4000000 in
set_option maxRecDepth 100000 in
theorem law_cast {p : Program} {l : Launch} {e : Env} {s : State} {m : MethodId} {below : List Frame} {meth : Method} {cd : Code} {b L : Nat} {xs : Nat → Int32} {D : va_G} {a : Nat → Nat} {t : Nat → ClassId} {o : Nat} {am : Nat → Nat} {tm : Nat → ClassId} {x3 : Int32} {cells slots : Nat} {sk : Value} {Z : va_W} (hx : p.tables.exec = Jvm.exec) (hb : cd.code = cL_law) (hml : cd.maxLocals = 4) (hown : s.vm.findClass RL = some m.cls) (hts : ∀ w ∈ wm_law, w.before #[Value.ref b] s = true) (hX : va_X b L xs s s.heap) (hbl : b < s.heap.size) (hL : L ≤ 3584) (hN : xN s) (hZ : xZ (a 186) s s.heap) (hKT : va_K D vwCl (xtT t) s) (hKM : va_K D vwCl (mT tm) s) (hcs : cells ≤ 600000 ∧ slots ≤ 7302249) (hx3 : 0 ≤ x3.toInt ∧ x3.toInt + 7 ≤ (L : Int)) (kk : LK p l e s m below meth cd b D sk a t Z o am tm x3 cells slots) (i : Nat → Int32) (q : Int64) (c : Nat → Nat → Int32) (d : Nat → Nat → Int64) (jm : Nat → Int32) (qm : Int64) (em : Nat → Nat → Int32) (dm : Nat → Nat → Int64) (H : Heap) (locs : List Loc) (ls : Array Slot) (hLI : LI i c jm em) (hP : va_P D vwCl (xwT sk a t i q c d ++ (Z ++ mW o am tm jm qm em dm)) H) (hD : va_D (fun q : Nat => s.heap.size ≤ q) (xwT sk a t i q c d ++ (Z ++ mW o am tm jm qm em dm))) (hS : va_S (fun q : Nat => s.heap.size ≤ q) s.heap H locs) (hl : lv_has ls 4 [(3, .int x3), (2, .ref o), (1, .ref (a 100)), (0, .ref b)]) : W p l e room_1 s m #[Value.ref b] below meth cd H locs cells slots (lw_Z below #[Value.ref b] s) (F0 m 1280 ls []) := by
  have hbA : ¬ (fun q : Nat => s.heap.size ≤ q) b := Nat.not_le.mpr hbl
  have hA : ∀ q : Nat, s.heap.size ≤ q → (fun q : Nat => s.heap.size ≤ q) q := fun _ h => h
  obtain ⟨hI, hs_F, hs_P, htr, hM, hs_S, hs_J, hR⟩ := hLI
  refine lv_aload_n hx hb dL_law_1280 rfl (lv_at hl 2 rfl) ?_
  refine lv_aload_n hx hb dL_law_1281 rfl (lv_at hl 3 rfl) ?_
  refine lv_iload_n hx hb dL_law_1282 rfl (lv_at hl 0 rfl) ?_
  refine lv_iconst (v := 1) hx hb dL_law_1283 (by decide) ?_
  refine lv_iadd hx hb dL_law_1284 ?_
  refine lv_topi (fun x1 ex1 => ?_)
  have tx1 := ti_add (a := x3.toInt) (b := 1) ex1 rfl (by decide) (by omega) (by omega)
  refine va_sld hx hb hX hbl hbA hS (vp_in_iff.mpr (by have h9 : x1.toInt = (x3.toInt + 1) := tx1; omega)) dL_law_1285 ?_
  refine lv_topi (fun x2 ex2 => ?_)
  refine lv_aload_n hx hb dL_law_1286 rfl (lv_at hl 3 rfl) ?_
  refine lv_iload_n hx hb dL_law_1287 rfl (lv_at hl 0 rfl) ?_
  refine lv_iconst (v := 2) hx hb dL_law_1288 (by decide) ?_
  refine lv_iadd hx hb dL_law_1289 ?_
  refine lv_topi (fun x3 ex3 => ?_)
  have tx3 := ti_add (a := x3.toInt) (b := 2) ex3 rfl (by decide) (by omega) (by omega)
  refine va_sld hx hb hX hbl hbA hS (vp_in_iff.mpr (by have h9 : x3.toInt = (x3.toInt + 2) := tx3; omega)) dL_law_1290 ?_
  refine lv_topi (fun x4 ex4 => ?_)
  refine lc_i (wr := (Z ++ mW o am tm jm qm em dm)) (va_runV (As := [.int x2, .int x4]) (rest := []) ⟨hx, hb, hml, hown, hts⟩ (x_X11_cast l D H.size sk a t i q c d x2 x4 hI ) (cwV 2 hts gm_law_X11_cast_144 rfl rfl rfl (by decide +kernel) ⟨Nat.le_of_ble_eq_true rfl, Nat.le_of_ble_eq_true rfl⟩) (yB_V hN (xZ_k hZ hS hA) (xZ_n hZ (vD_l hD)) hKT (vP_l hP) (vD_l hD) (ci := 11) (q0 := 0) rfl rfl) rfl rfl hl.1 rfl (lv_room (Nat.le_of_ble_eq_true rfl)) dL_law_1291 hcs) hS hA hP hD (fun r5 u5 H locs hw5 _ hP hD hS => ?_)
  obtain ⟨i5, q5, c5, d5⟩ := u5
  have hw5 : True ∧ xInv i5 c5 ∧ (∀ k, k ∉ ([102, 165] : List Nat) → i5 k = i k) ∧ (∀ k, k ∉ ([101, 162, 163] : List Nat) → c5 k = c k) := hw5
  obtain ⟨hw5, hI, hei5, hec5⟩ := hw5
  have hP : va_P D vwCl (xwT sk a t i5 q5 c5 d5 ++ (Z ++ mW o am tm jm qm em dm)) H := hP
  have hD : va_D (fun q : Nat => s.heap.size ≤ q) (xwT sk a t i5 q5 c5 d5 ++ (Z ++ mW o am tm jm qm em dm)) := hD
  refine lv_pop hx hb dL_law_1294 rfl ?_
  refine lv_aload_n hx hb dL_law_1295 rfl (lv_at hl 1 rfl) ?_
  refine lv_aload_n hx hb dL_law_1296 rfl (lv_at hl 3 rfl) ?_
  refine lv_iload_n hx hb dL_law_1297 rfl (lv_at hl 0 rfl) ?_
  refine lv_iconst (v := 1) hx hb dL_law_1298 (by decide) ?_
  refine lv_iadd hx hb dL_law_1299 ?_
  refine lv_topi (fun x6 ex6 => ?_)
  have tx6 := ti_add (a := x3.toInt) (b := 1) ex6 rfl (by decide) (by omega) (by omega)
  refine va_sld hx hb hX hbl hbA hS (vp_in_iff.mpr (by have h9 : x6.toInt = (x3.toInt + 1) := tx6; omega)) dL_law_1300 ?_
  refine lv_topi (fun x7 ex7 => ?_)
  refine lv_aload_n hx hb dL_law_1301 rfl (lv_at hl 3 rfl) ?_
  refine lv_iload_n hx hb dL_law_1302 rfl (lv_at hl 0 rfl) ?_
  refine lv_iconst (v := 2) hx hb dL_law_1303 (by decide) ?_
  refine lv_iadd hx hb dL_law_1304 ?_
  refine lv_topi (fun x8 ex8 => ?_)
  have tx8 := ti_add (a := x3.toInt) (b := 2) ex8 rfl (by decide) (by omega) (by omega)
  refine va_sld hx hb hX hbl hbA hS (vp_in_iff.mpr (by have h9 : x8.toInt = (x3.toInt + 2) := tx8; omega)) dL_law_1305 ?_
  refine lv_topi (fun x9 ex9 => ?_)
  have hP : va_P D vwCl ((xwT sk a t i5 q5 c5 d5 ++ Z) ++ mW o am tm jm qm em dm) H := by rw [List.append_assoc]; exact hP
  have hD : va_D (fun q : Nat => s.heap.size ≤ q) ((xwT sk a t i5 q5 c5 d5 ++ Z) ++ mW o am tm jm qm em dm) := by rw [List.append_assoc]; exact hD
  refine rc_i (wr := (xwT sk a t i5 q5 c5 d5 ++ Z)) (va_runV (As := [.int x7, .int x9]) (rest := []) ⟨hx, hb, hml, hown, hts⟩ (s_X12_cast l D H.size o am tm jm qm em dm x7 x9 hM ) (cwV 2 hts gm_law_X12_cast_147 rfl rfl rfl (by decide +kernel) ⟨Nat.le_of_ble_eq_true rfl, Nat.le_of_ble_eq_true rfl⟩) (pB_V hKM (vP_r hP) (vD_r hD) (ci := 12) (q0 := 0) rfl rfl) rfl rfl hl.1 rfl (lv_room (Nat.le_of_ble_eq_true rfl)) dL_law_1306 hcs) hS hA hP hD (fun r10 u10 H locs hw10 hP hD hS => ?_)
  obtain ⟨i10, q10, c10, d10⟩ := u10
  have hw10 : True ∧ mInv i10 c10 ∧ (∀ k, k ∉ ([0, 64] : List Nat) → i10 k = jm k) ∧ (∀ k, k ∉ ([1, 65, 66, 67] : List Nat) → c10 k = em k) := hw10
  obtain ⟨hw10, hM, hei10, hec10⟩ := hw10
  have hP : va_P D vwCl (xwT sk a t i5 q5 c5 d5 ++ (Z ++ mW o am tm i10 q10 c10 d10)) H := by rw [← List.append_assoc]; exact hP
  have hD : va_D (fun q : Nat => s.heap.size ≤ q) (xwT sk a t i5 q5 c5 d5 ++ (Z ++ mW o am tm i10 q10 c10 d10)) := by rw [← List.append_assoc]; exact hD
  refine lv_pop hx hb dL_law_1309 rfl ?_
  refine lv_goto (tgt := 1461) hx hb dL_law_1310 (by decide) ?_
  exact kk i5 q5 c5 d5 i10 q10 c10 d10 _ _ _ ⟨hI, (by rw [show c5 113 = c 113 from hec5 113 (by decide), show c5 115 = c 115 from hec5 115 (by decide)]; exact hs_F), (by rw [show i5 146 = i 146 from hei5 146 (by decide), show i5 147 = i 147 from hei5 147 (by decide), show i5 148 = i 148 from hei5 148 (by decide), show i5 156 = i 156 from hei5 156 (by decide), show c5 144 = c 144 from hec5 144 (by decide), show c5 145 = c 145 from hec5 145 (by decide), show c5 150 = c 150 from hec5 150 (by decide)]; exact hs_P), (by rw [show i5 141 = i 141 from hei5 141 (by decide)]; exact htr), hM, (by rw [show c10 3 = em 3 from hec10 3 (by decide), show c10 6 = em 6 from hec10 6 (by decide), show c10 9 = em 9 from hec10 9 (by decide), show c10 10 = em 10 from hec10 10 (by decide), show c10 11 = em 11 from hec10 11 (by decide), show c10 13 = em 13 from hec10 13 (by decide), show i10 2 = jm 2 from hei10 2 (by decide), show i10 5 = jm 5 from hei10 5 (by decide), show i10 8 = jm 8 from hei10 8 (by decide)]; exact hs_S), (by rw [show c10 3 = em 3 from hec10 3 (by decide), show c10 6 = em 6 from hec10 6 (by decide), show c10 23 = em 23 from hec10 23 (by decide), show c10 24 = em 24 from hec10 24 (by decide), show c10 29 = em 29 from hec10 29 (by decide), show c10 30 = em 30 from hec10 30 (by decide), show i10 5 = jm 5 from hei10 5 (by decide), show i10 22 = jm 22 from hei10 22 (by decide), show i10 27 = jm 27 from hei10 27 (by decide)]; exact hs_J), (by rw [show i5 110 = i 110 from hei5 110 (by decide), show i10 2 = jm 2 from hei10 2 (by decide)]; exact hR)⟩ hP hD hS (lv_sub hl [0, 1, 2, 3] rfl)

set_option maxHeartbeats 4000000 in
set_option maxRecDepth 100000 in
theorem law_role {p : Program} {l : Launch} {e : Env} {s : State} {m : MethodId} {below : List Frame} {meth : Method} {cd : Code} {b L : Nat} {xs : Nat → Int32} {D : va_G} {a : Nat → Nat} {t : Nat → ClassId} {o : Nat} {am : Nat → Nat} {tm : Nat → ClassId} {x3 : Int32} {cells slots : Nat} {sk : Value} {Z : va_W} (hx : p.tables.exec = Jvm.exec) (hb : cd.code = cL_law) (hml : cd.maxLocals = 4) (hown : s.vm.findClass RL = some m.cls) (hts : ∀ w ∈ wm_law, w.before #[Value.ref b] s = true) (hX : va_X b L xs s s.heap) (hbl : b < s.heap.size) (hL : L ≤ 3584) (hN : xN s) (hZ : xZ (a 186) s s.heap) (hKT : va_K D vwCl (xtT t) s) (hKM : va_K D vwCl (mT tm) s) (hcs : cells ≤ 600000 ∧ slots ≤ 7302249) (hx3 : 0 ≤ x3.toInt ∧ x3.toInt + 7 ≤ (L : Int)) (kk : LK p l e s m below meth cd b D sk a t Z o am tm x3 cells slots) (i : Nat → Int32) (q : Int64) (c : Nat → Nat → Int32) (d : Nat → Nat → Int64) (jm : Nat → Int32) (qm : Int64) (em : Nat → Nat → Int32) (dm : Nat → Nat → Int64) (H : Heap) (locs : List Loc) (ls : Array Slot) (hLI : LI i c jm em) (hP : va_P D vwCl (xwT sk a t i q c d ++ (Z ++ mW o am tm jm qm em dm)) H) (hD : va_D (fun q : Nat => s.heap.size ≤ q) (xwT sk a t i q c d ++ (Z ++ mW o am tm jm qm em dm))) (hS : va_S (fun q : Nat => s.heap.size ≤ q) s.heap H locs) (hl : lv_has ls 4 [(3, .int x3), (2, .ref o), (1, .ref (a 100)), (0, .ref b)]) : W p l e room_1 s m #[Value.ref b] below meth cd H locs cells slots (lw_Z below #[Value.ref b] s) (F0 m 1313 ls []) := by
  have hbA : ¬ (fun q : Nat => s.heap.size ≤ q) b := Nat.not_le.mpr hbl
  have hA : ∀ q : Nat, s.heap.size ≤ q → (fun q : Nat => s.heap.size ≤ q) q := fun _ h => h
  obtain ⟨hI, hs_F, hs_P, htr, hM, hs_S, hs_J, hR⟩ := hLI
  refine lv_aload_n hx hb dL_law_1313 rfl (lv_at hl 2 rfl) ?_
  refine lv_aload_n hx hb dL_law_1314 rfl (lv_at hl 3 rfl) ?_
  refine lv_iload_n hx hb dL_law_1315 rfl (lv_at hl 0 rfl) ?_
  refine lv_iconst (v := 1) hx hb dL_law_1316 (by decide) ?_
  refine lv_iadd hx hb dL_law_1317 ?_
  refine lv_topi (fun x1 ex1 => ?_)
  have tx1 := ti_add (a := x3.toInt) (b := 1) ex1 rfl (by decide) (by omega) (by omega)
  refine va_sld hx hb hX hbl hbA hS (vp_in_iff.mpr (by have h9 : x1.toInt = (x3.toInt + 1) := tx1; omega)) dL_law_1318 ?_
  refine lv_topi (fun x2 ex2 => ?_)
  refine lv_aload_n hx hb dL_law_1319 rfl (lv_at hl 3 rfl) ?_
  refine lv_iload_n hx hb dL_law_1320 rfl (lv_at hl 0 rfl) ?_
  refine lv_iconst (v := 2) hx hb dL_law_1321 (by decide) ?_
  refine lv_iadd hx hb dL_law_1322 ?_
  refine lv_topi (fun x3 ex3 => ?_)
  have tx3 := ti_add (a := x3.toInt) (b := 2) ex3 rfl (by decide) (by omega) (by omega)
  refine va_sld hx hb hX hbl hbA hS (vp_in_iff.mpr (by have h9 : x3.toInt = (x3.toInt + 2) := tx3; omega)) dL_law_1323 ?_
  refine lv_topi (fun x4 ex4 => ?_)
  refine lv_aload_n hx hb dL_law_1324 rfl (lv_at hl 3 rfl) ?_
  refine lv_iload_n hx hb dL_law_1325 rfl (lv_at hl 0 rfl) ?_
  refine lv_iconst (v := 3) hx hb dL_law_1326 (by decide) ?_
  refine lv_iadd hx hb dL_law_1327 ?_
  refine lv_topi (fun x5 ex5 => ?_)
  have tx5 := ti_add (a := x3.toInt) (b := 3) ex5 rfl (by decide) (by omega) (by omega)
  refine va_sld hx hb hX hbl hbA hS (vp_in_iff.mpr (by have h9 : x5.toInt = (x3.toInt + 3) := tx5; omega)) dL_law_1328 ?_
  refine lv_topi (fun x6 ex6 => ?_)
  refine lc_i (wr := (Z ++ mW o am tm jm qm em dm)) (va_runV (As := [.int x2, .int x4, .int x6]) (rest := []) ⟨hx, hb, hml, hown, hts⟩ (x_X11_role l D H.size sk a t i q c d x2 x4 x6 hI ) (cwV 3 hts gm_law_X11_role_148 rfl rfl rfl (by decide +kernel) ⟨Nat.le_of_ble_eq_true rfl, Nat.le_of_ble_eq_true rfl⟩) (yB_V hN (xZ_k hZ hS hA) (xZ_n hZ (vD_l hD)) hKT (vP_l hP) (vD_l hD) (ci := 11) (q0 := 0) rfl rfl) rfl rfl hl.1 rfl (lv_room (Nat.le_of_ble_eq_true rfl)) dL_law_1329 hcs) hS hA hP hD (fun r7 u7 H locs hw7 _ hP hD hS => ?_)
  obtain ⟨i7, q7, c7, d7⟩ := u7
  have hw7 : True ∧ xInv i7 c7 ∧ (∀ k, k ∉ ([102] : List Nat) → i7 k = i k) ∧ (∀ k, k ∉ ([101, 164] : List Nat) → c7 k = c k) := hw7
  obtain ⟨hw7, hI, hei7, hec7⟩ := hw7
  have hP : va_P D vwCl (xwT sk a t i7 q7 c7 d7 ++ (Z ++ mW o am tm jm qm em dm)) H := hP
  have hD : va_D (fun q : Nat => s.heap.size ≤ q) (xwT sk a t i7 q7 c7 d7 ++ (Z ++ mW o am tm jm qm em dm)) := hD
  refine lv_pop hx hb dL_law_1332 rfl ?_
  refine lv_aload_n hx hb dL_law_1333 rfl (lv_at hl 1 rfl) ?_
  refine lv_aload_n hx hb dL_law_1334 rfl (lv_at hl 3 rfl) ?_
  refine lv_iload_n hx hb dL_law_1335 rfl (lv_at hl 0 rfl) ?_
  refine lv_iconst (v := 1) hx hb dL_law_1336 (by decide) ?_
  refine lv_iadd hx hb dL_law_1337 ?_
  refine lv_topi (fun x8 ex8 => ?_)
  have tx8 := ti_add (a := x3.toInt) (b := 1) ex8 rfl (by decide) (by omega) (by omega)
  refine va_sld hx hb hX hbl hbA hS (vp_in_iff.mpr (by have h9 : x8.toInt = (x3.toInt + 1) := tx8; omega)) dL_law_1338 ?_
  refine lv_topi (fun x9 ex9 => ?_)
  refine lv_aload_n hx hb dL_law_1339 rfl (lv_at hl 3 rfl) ?_
  refine lv_iload_n hx hb dL_law_1340 rfl (lv_at hl 0 rfl) ?_
  refine lv_iconst (v := 2) hx hb dL_law_1341 (by decide) ?_
  refine lv_iadd hx hb dL_law_1342 ?_
  refine lv_topi (fun x10 ex10 => ?_)
  have tx10 := ti_add (a := x3.toInt) (b := 2) ex10 rfl (by decide) (by omega) (by omega)
  refine va_sld hx hb hX hbl hbA hS (vp_in_iff.mpr (by have h9 : x10.toInt = (x3.toInt + 2) := tx10; omega)) dL_law_1343 ?_
  refine lv_topi (fun x11 ex11 => ?_)
  refine lv_aload_n hx hb dL_law_1344 rfl (lv_at hl 3 rfl) ?_
  refine lv_iload_n hx hb dL_law_1345 rfl (lv_at hl 0 rfl) ?_
  refine lv_iconst (v := 3) hx hb dL_law_1346 (by decide) ?_
  refine lv_iadd hx hb dL_law_1347 ?_
  refine lv_topi (fun x12 ex12 => ?_)
  have tx12 := ti_add (a := x3.toInt) (b := 3) ex12 rfl (by decide) (by omega) (by omega)
  refine va_sld hx hb hX hbl hbA hS (vp_in_iff.mpr (by have h9 : x12.toInt = (x3.toInt + 3) := tx12; omega)) dL_law_1348 ?_
  refine lv_topi (fun x13 ex13 => ?_)
  have hP : va_P D vwCl ((xwT sk a t i7 q7 c7 d7 ++ Z) ++ mW o am tm jm qm em dm) H := by rw [List.append_assoc]; exact hP
  have hD : va_D (fun q : Nat => s.heap.size ≤ q) ((xwT sk a t i7 q7 c7 d7 ++ Z) ++ mW o am tm jm qm em dm) := by rw [List.append_assoc]; exact hD
  refine rc_i (wr := (xwT sk a t i7 q7 c7 d7 ++ Z)) (va_runV (As := [.int x9, .int x11, .int x13]) (rest := []) ⟨hx, hb, hml, hown, hts⟩ (s_X12_role l D H.size o am tm jm qm em dm x9 x11 x13 hM ) (cwV 3 hts gm_law_X12_role_151 rfl rfl rfl (by decide +kernel) ⟨Nat.le_of_ble_eq_true rfl, Nat.le_of_ble_eq_true rfl⟩) (pB_V hKM (vP_r hP) (vD_r hD) (ci := 12) (q0 := 0) rfl rfl) rfl rfl hl.1 rfl (lv_room (Nat.le_of_ble_eq_true rfl)) dL_law_1349 hcs) hS hA hP hD (fun r14 u14 H locs hw14 hP hD hS => ?_)
  obtain ⟨i14, q14, c14, d14⟩ := u14
  have hw14 : True ∧ mInv i14 c14 ∧ (∀ k, k ∉ ([0] : List Nat) → i14 k = jm k) ∧ (∀ k, k ∉ ([1, 67] : List Nat) → c14 k = em k) := hw14
  obtain ⟨hw14, hM, hei14, hec14⟩ := hw14
  have hP : va_P D vwCl (xwT sk a t i7 q7 c7 d7 ++ (Z ++ mW o am tm i14 q14 c14 d14)) H := by rw [← List.append_assoc]; exact hP
  have hD : va_D (fun q : Nat => s.heap.size ≤ q) (xwT sk a t i7 q7 c7 d7 ++ (Z ++ mW o am tm i14 q14 c14 d14)) := by rw [← List.append_assoc]; exact hD
  refine lv_pop hx hb dL_law_1352 rfl ?_
  refine lv_goto (tgt := 1461) hx hb dL_law_1353 (by decide) ?_
  exact kk i7 q7 c7 d7 i14 q14 c14 d14 _ _ _ ⟨hI, (by rw [show c7 113 = c 113 from hec7 113 (by decide), show c7 115 = c 115 from hec7 115 (by decide)]; exact hs_F), (by rw [show i7 146 = i 146 from hei7 146 (by decide), show i7 147 = i 147 from hei7 147 (by decide), show i7 148 = i 148 from hei7 148 (by decide), show i7 156 = i 156 from hei7 156 (by decide), show c7 144 = c 144 from hec7 144 (by decide), show c7 145 = c 145 from hec7 145 (by decide), show c7 150 = c 150 from hec7 150 (by decide)]; exact hs_P), (by rw [show i7 141 = i 141 from hei7 141 (by decide)]; exact htr), hM, (by rw [show c14 3 = em 3 from hec14 3 (by decide), show c14 6 = em 6 from hec14 6 (by decide), show c14 9 = em 9 from hec14 9 (by decide), show c14 10 = em 10 from hec14 10 (by decide), show c14 11 = em 11 from hec14 11 (by decide), show c14 13 = em 13 from hec14 13 (by decide), show i14 2 = jm 2 from hei14 2 (by decide), show i14 5 = jm 5 from hei14 5 (by decide), show i14 8 = jm 8 from hei14 8 (by decide)]; exact hs_S), (by rw [show c14 3 = em 3 from hec14 3 (by decide), show c14 6 = em 6 from hec14 6 (by decide), show c14 23 = em 23 from hec14 23 (by decide), show c14 24 = em 24 from hec14 24 (by decide), show c14 29 = em 29 from hec14 29 (by decide), show c14 30 = em 30 from hec14 30 (by decide), show i14 5 = jm 5 from hei14 5 (by decide), show i14 22 = jm 22 from hei14 22 (by decide), show i14 27 = jm 27 from hei14 27 (by decide)]; exact hs_J), (by rw [show i7 110 = i 110 from hei7 110 (by decide), show i14 2 = jm 2 from hei14 2 (by decide)]; exact hR)⟩ hP hD hS (lv_sub hl [0, 1, 2, 3] rfl)

set_option maxHeartbeats 4000000 in
set_option maxRecDepth 100000 in
theorem law_who {p : Program} {l : Launch} {e : Env} {s : State} {m : MethodId} {below : List Frame} {meth : Method} {cd : Code} {b L : Nat} {xs : Nat → Int32} {D : va_G} {a : Nat → Nat} {t : Nat → ClassId} {o : Nat} {am : Nat → Nat} {tm : Nat → ClassId} {x3 : Int32} {cells slots : Nat} {sk : Value} {Z : va_W} (hx : p.tables.exec = Jvm.exec) (hb : cd.code = cL_law) (hml : cd.maxLocals = 4) (hown : s.vm.findClass RL = some m.cls) (hts : ∀ w ∈ wm_law, w.before #[Value.ref b] s = true) (hX : va_X b L xs s s.heap) (hbl : b < s.heap.size) (hL : L ≤ 3584) (hN : xN s) (hZ : xZ (a 186) s s.heap) (hKT : va_K D vwCl (xtT t) s) (hKM : va_K D vwCl (mT tm) s) (hcs : cells ≤ 600000 ∧ slots ≤ 7302249) (hx3 : 0 ≤ x3.toInt ∧ x3.toInt + 7 ≤ (L : Int)) (kk : LK p l e s m below meth cd b D sk a t Z o am tm x3 cells slots) (i : Nat → Int32) (q : Int64) (c : Nat → Nat → Int32) (d : Nat → Nat → Int64) (jm : Nat → Int32) (qm : Int64) (em : Nat → Nat → Int32) (dm : Nat → Nat → Int64) (H : Heap) (locs : List Loc) (ls : Array Slot) (hLI : LI i c jm em) (hP : va_P D vwCl (xwT sk a t i q c d ++ (Z ++ mW o am tm jm qm em dm)) H) (hD : va_D (fun q : Nat => s.heap.size ≤ q) (xwT sk a t i q c d ++ (Z ++ mW o am tm jm qm em dm))) (hS : va_S (fun q : Nat => s.heap.size ≤ q) s.heap H locs) (hl : lv_has ls 4 [(3, .int x3), (2, .ref o), (1, .ref (a 100)), (0, .ref b)]) : W p l e room_1 s m #[Value.ref b] below meth cd H locs cells slots (lw_Z below #[Value.ref b] s) (F0 m 1356 ls []) := by
  have hbA : ¬ (fun q : Nat => s.heap.size ≤ q) b := Nat.not_le.mpr hbl
  have hA : ∀ q : Nat, s.heap.size ≤ q → (fun q : Nat => s.heap.size ≤ q) q := fun _ h => h
  obtain ⟨hI, hs_F, hs_P, htr, hM, hs_S, hs_J, hR⟩ := hLI
  refine lv_aload_n hx hb dL_law_1356 rfl (lv_at hl 2 rfl) ?_
  refine lv_aload_n hx hb dL_law_1357 rfl (lv_at hl 3 rfl) ?_
  refine lv_iload_n hx hb dL_law_1358 rfl (lv_at hl 0 rfl) ?_
  refine lv_iconst (v := 1) hx hb dL_law_1359 (by decide) ?_
  refine lv_iadd hx hb dL_law_1360 ?_
  refine lv_topi (fun x1 ex1 => ?_)
  have tx1 := ti_add (a := x3.toInt) (b := 1) ex1 rfl (by decide) (by omega) (by omega)
  refine va_sld hx hb hX hbl hbA hS (vp_in_iff.mpr (by have h9 : x1.toInt = (x3.toInt + 1) := tx1; omega)) dL_law_1361 ?_
  refine lv_topi (fun x2 ex2 => ?_)
  refine lv_aload_n hx hb dL_law_1362 rfl (lv_at hl 3 rfl) ?_
  refine lv_iload_n hx hb dL_law_1363 rfl (lv_at hl 0 rfl) ?_
  refine lv_iconst (v := 2) hx hb dL_law_1364 (by decide) ?_
  refine lv_iadd hx hb dL_law_1365 ?_
  refine lv_topi (fun x3 ex3 => ?_)
  have tx3 := ti_add (a := x3.toInt) (b := 2) ex3 rfl (by decide) (by omega) (by omega)
  refine va_sld hx hb hX hbl hbA hS (vp_in_iff.mpr (by have h9 : x3.toInt = (x3.toInt + 2) := tx3; omega)) dL_law_1366 ?_
  refine lv_topi (fun x4 ex4 => ?_)
  refine lc_i (wr := (Z ++ mW o am tm jm qm em dm)) (va_runV (As := [.int x2, .int x4]) (rest := []) ⟨hx, hb, hml, hown, hts⟩ (x_X11_who l D H.size sk a t i q c d x2 x4 hI ) (cwV 2 hts gm_law_X11_who_152 rfl rfl rfl (by decide +kernel) ⟨Nat.le_of_ble_eq_true rfl, Nat.le_of_ble_eq_true rfl⟩) (yB_V hN (xZ_k hZ hS hA) (xZ_n hZ (vD_l hD)) hKT (vP_l hP) (vD_l hD) (ci := 11) (q0 := 0) rfl rfl) rfl rfl hl.1 rfl (lv_room (Nat.le_of_ble_eq_true rfl)) dL_law_1367 hcs) hS hA hP hD (fun r5 u5 H locs hw5 _ hP hD hS => ?_)
  obtain ⟨i5, q5, c5, d5⟩ := u5
  have hw5 : True ∧ xInv i5 c5 ∧ (∀ k, k ∉ ([102] : List Nat) → i5 k = i k) ∧ (∀ k, k ∉ ([101] : List Nat) → c5 k = c k) := hw5
  obtain ⟨hw5, hI, hei5, hec5⟩ := hw5
  have hP : va_P D vwCl (xwT sk a t i5 q5 c5 d5 ++ (Z ++ mW o am tm jm qm em dm)) H := hP
  have hD : va_D (fun q : Nat => s.heap.size ≤ q) (xwT sk a t i5 q5 c5 d5 ++ (Z ++ mW o am tm jm qm em dm)) := hD
  refine lv_pop hx hb dL_law_1370 rfl ?_
  refine lv_aload_n hx hb dL_law_1371 rfl (lv_at hl 1 rfl) ?_
  refine lv_aload_n hx hb dL_law_1372 rfl (lv_at hl 3 rfl) ?_
  refine lv_iload_n hx hb dL_law_1373 rfl (lv_at hl 0 rfl) ?_
  refine lv_iconst (v := 1) hx hb dL_law_1374 (by decide) ?_
  refine lv_iadd hx hb dL_law_1375 ?_
  refine lv_topi (fun x6 ex6 => ?_)
  have tx6 := ti_add (a := x3.toInt) (b := 1) ex6 rfl (by decide) (by omega) (by omega)
  refine va_sld hx hb hX hbl hbA hS (vp_in_iff.mpr (by have h9 : x6.toInt = (x3.toInt + 1) := tx6; omega)) dL_law_1376 ?_
  refine lv_topi (fun x7 ex7 => ?_)
  refine lv_aload_n hx hb dL_law_1377 rfl (lv_at hl 3 rfl) ?_
  refine lv_iload_n hx hb dL_law_1378 rfl (lv_at hl 0 rfl) ?_
  refine lv_iconst (v := 2) hx hb dL_law_1379 (by decide) ?_
  refine lv_iadd hx hb dL_law_1380 ?_
  refine lv_topi (fun x8 ex8 => ?_)
  have tx8 := ti_add (a := x3.toInt) (b := 2) ex8 rfl (by decide) (by omega) (by omega)
  refine va_sld hx hb hX hbl hbA hS (vp_in_iff.mpr (by have h9 : x8.toInt = (x3.toInt + 2) := tx8; omega)) dL_law_1381 ?_
  refine lv_topi (fun x9 ex9 => ?_)
  have hP : va_P D vwCl ((xwT sk a t i5 q5 c5 d5 ++ Z) ++ mW o am tm jm qm em dm) H := by rw [List.append_assoc]; exact hP
  have hD : va_D (fun q : Nat => s.heap.size ≤ q) ((xwT sk a t i5 q5 c5 d5 ++ Z) ++ mW o am tm jm qm em dm) := by rw [List.append_assoc]; exact hD
  refine rc_i (wr := (xwT sk a t i5 q5 c5 d5 ++ Z)) (va_runV (As := [.int x7, .int x9]) (rest := []) ⟨hx, hb, hml, hown, hts⟩ (s_X12_who l D H.size o am tm jm qm em dm x7 x9 hM ) (cwV 2 hts gm_law_X12_who_155 rfl rfl rfl (by decide +kernel) ⟨Nat.le_of_ble_eq_true rfl, Nat.le_of_ble_eq_true rfl⟩) (pB_V hKM (vP_r hP) (vD_r hD) (ci := 12) (q0 := 0) rfl rfl) rfl rfl hl.1 rfl (lv_room (Nat.le_of_ble_eq_true rfl)) dL_law_1382 hcs) hS hA hP hD (fun r10 u10 H locs hw10 hP hD hS => ?_)
  obtain ⟨i10, q10, c10, d10⟩ := u10
  have hw10 : True ∧ mInv i10 c10 ∧ (∀ k, k ∉ ([0] : List Nat) → i10 k = jm k) ∧ (∀ k, k ∉ ([1] : List Nat) → c10 k = em k) := hw10
  obtain ⟨hw10, hM, hei10, hec10⟩ := hw10
  have hP : va_P D vwCl (xwT sk a t i5 q5 c5 d5 ++ (Z ++ mW o am tm i10 q10 c10 d10)) H := by rw [← List.append_assoc]; exact hP
  have hD : va_D (fun q : Nat => s.heap.size ≤ q) (xwT sk a t i5 q5 c5 d5 ++ (Z ++ mW o am tm i10 q10 c10 d10)) := by rw [← List.append_assoc]; exact hD
  refine lv_pop hx hb dL_law_1385 rfl ?_
  refine lv_goto (tgt := 1461) hx hb dL_law_1386 (by decide) ?_
  exact kk i5 q5 c5 d5 i10 q10 c10 d10 _ _ _ ⟨hI, (by rw [show c5 113 = c 113 from hec5 113 (by decide), show c5 115 = c 115 from hec5 115 (by decide)]; exact hs_F), (by rw [show i5 146 = i 146 from hei5 146 (by decide), show i5 147 = i 147 from hei5 147 (by decide), show i5 148 = i 148 from hei5 148 (by decide), show i5 156 = i 156 from hei5 156 (by decide), show c5 144 = c 144 from hec5 144 (by decide), show c5 145 = c 145 from hec5 145 (by decide), show c5 150 = c 150 from hec5 150 (by decide)]; exact hs_P), (by rw [show i5 141 = i 141 from hei5 141 (by decide)]; exact htr), hM, (by rw [show c10 3 = em 3 from hec10 3 (by decide), show c10 6 = em 6 from hec10 6 (by decide), show c10 9 = em 9 from hec10 9 (by decide), show c10 10 = em 10 from hec10 10 (by decide), show c10 11 = em 11 from hec10 11 (by decide), show c10 13 = em 13 from hec10 13 (by decide), show i10 2 = jm 2 from hei10 2 (by decide), show i10 5 = jm 5 from hei10 5 (by decide), show i10 8 = jm 8 from hei10 8 (by decide)]; exact hs_S), (by rw [show c10 3 = em 3 from hec10 3 (by decide), show c10 6 = em 6 from hec10 6 (by decide), show c10 23 = em 23 from hec10 23 (by decide), show c10 24 = em 24 from hec10 24 (by decide), show c10 29 = em 29 from hec10 29 (by decide), show c10 30 = em 30 from hec10 30 (by decide), show i10 5 = jm 5 from hei10 5 (by decide), show i10 22 = jm 22 from hei10 22 (by decide), show i10 27 = jm 27 from hei10 27 (by decide)]; exact hs_J), (by rw [show i5 110 = i 110 from hei5 110 (by decide), show i10 2 = jm 2 from hei10 2 (by decide)]; exact hR)⟩ hP hD hS (lv_sub hl [0, 1, 2, 3] rfl)

set_option maxHeartbeats 4000000 in
set_option maxRecDepth 100000 in
theorem law_finding {p : Program} {l : Launch} {e : Env} {s : State} {m : MethodId} {below : List Frame} {meth : Method} {cd : Code} {b L : Nat} {xs : Nat → Int32} {D : va_G} {a : Nat → Nat} {t : Nat → ClassId} {o : Nat} {am : Nat → Nat} {tm : Nat → ClassId} {x3 : Int32} {cells slots : Nat} {sk : Value} {Z : va_W} (hx : p.tables.exec = Jvm.exec) (hb : cd.code = cL_law) (hml : cd.maxLocals = 4) (hown : s.vm.findClass RL = some m.cls) (hts : ∀ w ∈ wm_law, w.before #[Value.ref b] s = true) (hX : va_X b L xs s s.heap) (hbl : b < s.heap.size) (hL : L ≤ 3584) (hN : xN s) (hZ : xZ (a 186) s s.heap) (hKT : va_K D vwCl (xtT t) s) (hKM : va_K D vwCl (mT tm) s) (hcs : cells ≤ 600000 ∧ slots ≤ 7302249) (hx3 : 0 ≤ x3.toInt ∧ x3.toInt + 7 ≤ (L : Int)) (kk : LK p l e s m below meth cd b D sk a t Z o am tm x3 cells slots) (i : Nat → Int32) (q : Int64) (c : Nat → Nat → Int32) (d : Nat → Nat → Int64) (jm : Nat → Int32) (qm : Int64) (em : Nat → Nat → Int32) (dm : Nat → Nat → Int64) (H : Heap) (locs : List Loc) (ls : Array Slot) (hLI : LI i c jm em) (hP : va_P D vwCl (xwT sk a t i q c d ++ (Z ++ mW o am tm jm qm em dm)) H) (hD : va_D (fun q : Nat => s.heap.size ≤ q) (xwT sk a t i q c d ++ (Z ++ mW o am tm jm qm em dm))) (hS : va_S (fun q : Nat => s.heap.size ≤ q) s.heap H locs) (hl : lv_has ls 4 [(3, .int x3), (2, .ref o), (1, .ref (a 100)), (0, .ref b)]) : W p l e room_1 s m #[Value.ref b] below meth cd H locs cells slots (lw_Z below #[Value.ref b] s) (F0 m 1412 ls []) := by
  have hbA : ¬ (fun q : Nat => s.heap.size ≤ q) b := Nat.not_le.mpr hbl
  have hA : ∀ q : Nat, s.heap.size ≤ q → (fun q : Nat => s.heap.size ≤ q) q := fun _ h => h
  obtain ⟨hI, hs_F, hs_P, htr, hM, hs_S, hs_J, hR⟩ := hLI
  refine lv_aload_n hx hb dL_law_1412 rfl (lv_at hl 2 rfl) ?_
  refine ro_calli (va_runV (As := []) (rest := []) ⟨hx, hb, hml, hown, hts⟩ (x_X11_finding l D H.size sk a t i q c d  hI ) (cwV 0 hts gm_law_X11_finding_160 rfl rfl rfl (by decide +kernel) ⟨Nat.le_of_ble_eq_true rfl, Nat.le_of_ble_eq_true rfl⟩) (yA_V hN (xZ_k hZ hS hA) hKT (vP_l hP) (ci := 11) (q0 := 0) rfl rfl) rfl rfl hl.1 rfl (lv_room (Nat.le_of_ble_eq_true rfl)) dL_law_1413 hcs) hS hA hP (fun r1 u1 H locs hw1 hP hS => ?_)
  refine lv_pop hx hb dL_law_1416 rfl ?_
  refine lv_aload_n hx hb dL_law_1417 rfl (lv_at hl 1 rfl) ?_
  have hP : va_P D vwCl ((xwT sk a t i q c d ++ Z) ++ mW o am tm jm qm em dm) H := by rw [List.append_assoc]; exact hP
  have hD : va_D (fun q : Nat => s.heap.size ≤ q) ((xwT sk a t i q c d ++ Z) ++ mW o am tm jm qm em dm) := by rw [List.append_assoc]; exact hD
  refine ro_calli (va_runV (As := []) (rest := []) ⟨hx, hb, hml, hown, hts⟩ (s_X12_finding l D H.size o am tm jm qm em dm  hM ) (cwV 0 hts gm_law_X12_finding_163 rfl rfl rfl (by decide +kernel) ⟨Nat.le_of_ble_eq_true rfl, Nat.le_of_ble_eq_true rfl⟩) (pA_V hKM (vP_r hP) (ci := 12) (q0 := 0) rfl rfl) rfl rfl hl.1 rfl (lv_room (Nat.le_of_ble_eq_true rfl)) dL_law_1418 hcs) hS hA hP (fun r2 u2 H locs hw2 hP hS => ?_)
  have hP : va_P D vwCl (xwT sk a t i q c d ++ (Z ++ mW o am tm jm qm em dm)) H := by rw [← List.append_assoc]; exact hP
  have hD : va_D (fun q : Nat => s.heap.size ≤ q) (xwT sk a t i q c d ++ (Z ++ mW o am tm jm qm em dm)) := by rw [← List.append_assoc]; exact hD
  refine lv_pop hx hb dL_law_1421 rfl ?_
  refine lv_goto (tgt := 1461) hx hb dL_law_1422 (by decide) ?_
  exact kk i q c d jm qm em dm _ _ _ ⟨hI, hs_F, hs_P, htr, hM, hs_S, hs_J, hR⟩ hP hD hS (lv_sub hl [0, 1, 2, 3] rfl)

set_option maxHeartbeats 4000000 in
set_option maxRecDepth 100000 in
theorem law_findings {p : Program} {l : Launch} {e : Env} {s : State} {m : MethodId} {below : List Frame} {meth : Method} {cd : Code} {b L : Nat} {xs : Nat → Int32} {D : va_G} {a : Nat → Nat} {t : Nat → ClassId} {o : Nat} {am : Nat → Nat} {tm : Nat → ClassId} {x3 : Int32} {cells slots : Nat} {sk : Value} {Z : va_W} (hx : p.tables.exec = Jvm.exec) (hb : cd.code = cL_law) (hml : cd.maxLocals = 4) (hown : s.vm.findClass RL = some m.cls) (hts : ∀ w ∈ wm_law, w.before #[Value.ref b] s = true) (hX : va_X b L xs s s.heap) (hbl : b < s.heap.size) (hL : L ≤ 3584) (hN : xN s) (hZ : xZ (a 186) s s.heap) (hKT : va_K D vwCl (xtT t) s) (hKM : va_K D vwCl (mT tm) s) (hcs : cells ≤ 600000 ∧ slots ≤ 7302249) (hx3 : 0 ≤ x3.toInt ∧ x3.toInt + 7 ≤ (L : Int)) (kk : LK p l e s m below meth cd b D sk a t Z o am tm x3 cells slots) (i : Nat → Int32) (q : Int64) (c : Nat → Nat → Int32) (d : Nat → Nat → Int64) (jm : Nat → Int32) (qm : Int64) (em : Nat → Nat → Int32) (dm : Nat → Nat → Int64) (H : Heap) (locs : List Loc) (ls : Array Slot) (hLI : LI i c jm em) (hP : va_P D vwCl (xwT sk a t i q c d ++ (Z ++ mW o am tm jm qm em dm)) H) (hD : va_D (fun q : Nat => s.heap.size ≤ q) (xwT sk a t i q c d ++ (Z ++ mW o am tm jm qm em dm))) (hS : va_S (fun q : Nat => s.heap.size ≤ q) s.heap H locs) (hl : lv_has ls 4 [(3, .int x3), (2, .ref o), (1, .ref (a 100)), (0, .ref b)]) : W p l e room_1 s m #[Value.ref b] below meth cd H locs cells slots (lw_Z below #[Value.ref b] s) (F0 m 1425 ls []) := by
  have hbA : ¬ (fun q : Nat => s.heap.size ≤ q) b := Nat.not_le.mpr hbl
  have hA : ∀ q : Nat, s.heap.size ≤ q → (fun q : Nat => s.heap.size ≤ q) q := fun _ h => h
  obtain ⟨hI, hs_F, hs_P, htr, hM, hs_S, hs_J, hR⟩ := hLI
  refine lv_aload_n hx hb dL_law_1425 rfl (lv_at hl 2 rfl) ?_
  refine lv_aload_n hx hb dL_law_1426 rfl (lv_at hl 3 rfl) ?_
  refine lv_iload_n hx hb dL_law_1427 rfl (lv_at hl 0 rfl) ?_
  refine lv_iconst (v := 1) hx hb dL_law_1428 (by decide) ?_
  refine lv_iadd hx hb dL_law_1429 ?_
  refine lv_topi (fun x1 ex1 => ?_)
  have tx1 := ti_add (a := x3.toInt) (b := 1) ex1 rfl (by decide) (by omega) (by omega)
  refine va_sld hx hb hX hbl hbA hS (vp_in_iff.mpr (by have h9 : x1.toInt = (x3.toInt + 1) := tx1; omega)) dL_law_1430 ?_
  refine lv_topi (fun x2 ex2 => ?_)
  refine ro_calli (va_runV (As := [.int x2]) (rest := []) ⟨hx, hb, hml, hown, hts⟩ (x_X11_findings l D H.size sk a t i q c d x2 hI ) (cwV 1 hts gm_law_X11_findings_164 rfl rfl rfl (by decide +kernel) ⟨Nat.le_of_ble_eq_true rfl, Nat.le_of_ble_eq_true rfl⟩) (yA_V hN (xZ_k hZ hS hA) hKT (vP_l hP) (ci := 11) (q0 := 0) rfl rfl) rfl rfl hl.1 rfl (lv_room (Nat.le_of_ble_eq_true rfl)) dL_law_1431 hcs) hS hA hP (fun r3 u3 H locs hw3 hP hS => ?_)
  refine lv_pop hx hb dL_law_1434 rfl ?_
  refine lv_aload_n hx hb dL_law_1435 rfl (lv_at hl 1 rfl) ?_
  refine lv_aload_n hx hb dL_law_1436 rfl (lv_at hl 3 rfl) ?_
  refine lv_iload_n hx hb dL_law_1437 rfl (lv_at hl 0 rfl) ?_
  refine lv_iconst (v := 1) hx hb dL_law_1438 (by decide) ?_
  refine lv_iadd hx hb dL_law_1439 ?_
  refine lv_topi (fun x4 ex4 => ?_)
  have tx4 := ti_add (a := x3.toInt) (b := 1) ex4 rfl (by decide) (by omega) (by omega)
  refine va_sld hx hb hX hbl hbA hS (vp_in_iff.mpr (by have h9 : x4.toInt = (x3.toInt + 1) := tx4; omega)) dL_law_1440 ?_
  refine lv_topi (fun x5 ex5 => ?_)
  have hP : va_P D vwCl ((xwT sk a t i q c d ++ Z) ++ mW o am tm jm qm em dm) H := by rw [List.append_assoc]; exact hP
  have hD : va_D (fun q : Nat => s.heap.size ≤ q) ((xwT sk a t i q c d ++ Z) ++ mW o am tm jm qm em dm) := by rw [List.append_assoc]; exact hD
  refine ro_calli (va_runV (As := [.int x5]) (rest := []) ⟨hx, hb, hml, hown, hts⟩ (s_X12_findings l D H.size o am tm jm qm em dm x5 hM ) (cwV 1 hts gm_law_X12_findings_167 rfl rfl rfl (by decide +kernel) ⟨Nat.le_of_ble_eq_true rfl, Nat.le_of_ble_eq_true rfl⟩) (pA_V hKM (vP_r hP) (ci := 12) (q0 := 0) rfl rfl) rfl rfl hl.1 rfl (lv_room (Nat.le_of_ble_eq_true rfl)) dL_law_1441 hcs) hS hA hP (fun r6 u6 H locs hw6 hP hS => ?_)
  have hP : va_P D vwCl (xwT sk a t i q c d ++ (Z ++ mW o am tm jm qm em dm)) H := by rw [← List.append_assoc]; exact hP
  have hD : va_D (fun q : Nat => s.heap.size ≤ q) (xwT sk a t i q c d ++ (Z ++ mW o am tm jm qm em dm)) := by rw [← List.append_assoc]; exact hD
  refine lv_pop hx hb dL_law_1444 rfl ?_
  refine lv_goto (tgt := 1461) hx hb dL_law_1445 (by decide) ?_
  exact kk i q c d jm qm em dm _ _ _ ⟨hI, hs_F, hs_P, htr, hM, hs_S, hs_J, hR⟩ hP hD hS (lv_sub hl [0, 1, 2, 3] rfl)

set_option maxHeartbeats 4000000 in
set_option maxRecDepth 100000 in
theorem law_digest {p : Program} {l : Launch} {e : Env} {s : State} {m : MethodId} {below : List Frame} {meth : Method} {cd : Code} {b L : Nat} {xs : Nat → Int32} {D : va_G} {a : Nat → Nat} {t : Nat → ClassId} {o : Nat} {am : Nat → Nat} {tm : Nat → ClassId} {x3 : Int32} {cells slots : Nat} {sk : Value} {Z : va_W} (hx : p.tables.exec = Jvm.exec) (hb : cd.code = cL_law) (hml : cd.maxLocals = 4) (hown : s.vm.findClass RL = some m.cls) (hts : ∀ w ∈ wm_law, w.before #[Value.ref b] s = true) (hX : va_X b L xs s s.heap) (hbl : b < s.heap.size) (hL : L ≤ 3584) (hN : xN s) (hZ : xZ (a 186) s s.heap) (hKT : va_K D vwCl (xtT t) s) (hKM : va_K D vwCl (mT tm) s) (hcs : cells ≤ 600000 ∧ slots ≤ 7302249) (hx3 : 0 ≤ x3.toInt ∧ x3.toInt + 7 ≤ (L : Int)) (kk : LK p l e s m below meth cd b D sk a t Z o am tm x3 cells slots) (i : Nat → Int32) (q : Int64) (c : Nat → Nat → Int32) (d : Nat → Nat → Int64) (jm : Nat → Int32) (qm : Int64) (em : Nat → Nat → Int32) (dm : Nat → Nat → Int64) (H : Heap) (locs : List Loc) (ls : Array Slot) (hLI : LI i c jm em) (hP : va_P D vwCl (xwT sk a t i q c d ++ (Z ++ mW o am tm jm qm em dm)) H) (hD : va_D (fun q : Nat => s.heap.size ≤ q) (xwT sk a t i q c d ++ (Z ++ mW o am tm jm qm em dm))) (hS : va_S (fun q : Nat => s.heap.size ≤ q) s.heap H locs) (hl : lv_has ls 4 [(3, .int x3), (2, .ref o), (1, .ref (a 100)), (0, .ref b)]) : W p l e room_1 s m #[Value.ref b] below meth cd H locs cells slots (lw_Z below #[Value.ref b] s) (F0 m 1448 ls []) := by
  have hbA : ¬ (fun q : Nat => s.heap.size ≤ q) b := Nat.not_le.mpr hbl
  have hA : ∀ q : Nat, s.heap.size ≤ q → (fun q : Nat => s.heap.size ≤ q) q := fun _ h => h
  obtain ⟨hI, hs_F, hs_P, htr, hM, hs_S, hs_J, hR⟩ := hLI
  refine lv_aload_n hx hb dL_law_1448 rfl (lv_at hl 2 rfl) ?_
  refine ro_calll (va_runV (As := []) (rest := []) ⟨hx, hb, hml, hown, hts⟩ (x_X11_digest l D H.size sk a t i q c d  hI ) (cwV 0 hts gm_law_X11_digest_168 rfl rfl rfl (by decide +kernel) ⟨Nat.le_of_ble_eq_true rfl, Nat.le_of_ble_eq_true rfl⟩) (yA_V hN (xZ_k hZ hS hA) hKT (vP_l hP) (ci := 11) (q0 := 0) rfl rfl) rfl rfl hl.1 rfl (lv_room (Nat.le_of_ble_eq_true rfl)) dL_law_1449 hcs) hS hA hP (fun r1 u1 H locs hw1 hP hS => ?_)
  refine lv_pop2_2 hx hb dL_law_1452 rfl ?_
  refine lv_aload_n hx hb dL_law_1453 rfl (lv_at hl 1 rfl) ?_
  have hP : va_P D vwCl ((xwT sk a t i q c d ++ Z) ++ mW o am tm jm qm em dm) H := by rw [List.append_assoc]; exact hP
  have hD : va_D (fun q : Nat => s.heap.size ≤ q) ((xwT sk a t i q c d ++ Z) ++ mW o am tm jm qm em dm) := by rw [List.append_assoc]; exact hD
  refine rc_l (wr := (xwT sk a t i q c d ++ Z)) (va_runV (As := []) (rest := []) ⟨hx, hb, hml, hown, hts⟩ (s_X12_digest l D H.size o am tm jm qm em dm  hM hs_S hs_J) (cwV 0 hts gm_law_X12_digest_171 rfl rfl rfl (by decide +kernel) ⟨Nat.le_of_ble_eq_true rfl, Nat.le_of_ble_eq_true rfl⟩) (pB_V hKM (vP_r hP) (vD_r hD) (ci := 12) (q0 := 0) rfl rfl) rfl rfl hl.1 rfl (lv_room (Nat.le_of_ble_eq_true rfl)) dL_law_1454 hcs) hS hA hP hD (fun r2 u2 H locs hw2 hP hD hS => ?_)
  obtain ⟨i2, q2, c2, d2⟩ := u2
  have hw2 : True ∧ mInv i2 c2 ∧ (∀ k, k ∉ ([40, 41, 42] : List Nat) → i2 k = jm k) ∧ (∀ k, k ∉ ([43, 44, 45, 46, 47, 48, 49] : List Nat) → c2 k = em k) := hw2
  obtain ⟨hw2, hM, hei2, hec2⟩ := hw2
  have hP : va_P D vwCl (xwT sk a t i q c d ++ (Z ++ mW o am tm i2 q2 c2 d2)) H := by rw [← List.append_assoc]; exact hP
  have hD : va_D (fun q : Nat => s.heap.size ≤ q) (xwT sk a t i q c d ++ (Z ++ mW o am tm i2 q2 c2 d2)) := by rw [← List.append_assoc]; exact hD
  refine lv_pop2_2 hx hb dL_law_1457 rfl ?_
  refine lv_goto (tgt := 1461) hx hb dL_law_1458 (by decide) ?_
  exact kk i q c d i2 q2 c2 d2 _ _ _ ⟨hI, hs_F, hs_P, htr, hM, (by rw [show c2 3 = em 3 from hec2 3 (by decide), show c2 6 = em 6 from hec2 6 (by decide), show c2 9 = em 9 from hec2 9 (by decide), show c2 10 = em 10 from hec2 10 (by decide), show c2 11 = em 11 from hec2 11 (by decide), show c2 13 = em 13 from hec2 13 (by decide), show i2 2 = jm 2 from hei2 2 (by decide), show i2 5 = jm 5 from hei2 5 (by decide), show i2 8 = jm 8 from hei2 8 (by decide)]; exact hs_S), (by rw [show c2 3 = em 3 from hec2 3 (by decide), show c2 6 = em 6 from hec2 6 (by decide), show c2 23 = em 23 from hec2 23 (by decide), show c2 24 = em 24 from hec2 24 (by decide), show c2 29 = em 29 from hec2 29 (by decide), show c2 30 = em 30 from hec2 30 (by decide), show i2 5 = jm 5 from hei2 5 (by decide), show i2 22 = jm 22 from hei2 22 (by decide), show i2 27 = jm 27 from hei2 27 (by decide)]; exact hs_J), (by rw [show i2 2 = jm 2 from hei2 2 (by decide)]; exact hR)⟩ hP hD hS (lv_sub hl [0, 1, 2, 3] rfl)

