set_option maxHeartbeats 4000000 in
set_option maxRecDepth 100000 in
theorem law_seek_s {p : Program} {l : Launch} {e : Env} {s : State} {m : MethodId} {below : List Frame} {meth : Method} {cd : Code} {b L : Nat} {xs : Nat → Int32} {D : va_G} {a : Nat → Nat} {t : Nat → ClassId} {o : Nat} {am : Nat → Nat} {tm : Nat → ClassId} {x3 : Int32} {cells slots : Nat} {az : Nat → Nat} {tz : Nat → ClassId} (hx : p.tables.exec = Jvm.exec) (hb : cd.code = cL_law) (hml : cd.maxLocals = 4) (hown : s.vm.findClass RL = some m.cls) (hts : ∀ w ∈ wm_law, w.before #[Value.ref b] s = true) (hX : va_X b L xs s s.heap) (hbl : b < s.heap.size) (hL : L ≤ 3584) (hN : xN s) (hZ : xZ (a 186) s s.heap) (hKT : va_K D vwCl (xtT t) s) (hKM : va_K D vwCl (mT tm) s) (hcs : cells ≤ 600000 ∧ slots ≤ 7302249) (hx3 : 0 ≤ x3.toInt ∧ x3.toInt + 7 ≤ (L : Int)) (hKZ : va_K D vwCl (xtZ tz) s) (i : Nat → Int32) (q : Int64) (c : Nat → Nat → Int32) (d : Nat → Nat → Int64) (jm : Nat → Int32) (qm : Int64) (em : Nat → Nat → Int32) (dm : Nat → Nat → Int64) (iz : Nat → Int32) (cz : Nat → Nat → Int32) (dz : Nat → Nat → Int64) (H : Heap) (locs : List Loc) (ls : Array Slot) (kkS : LKS p l e s m below meth cd b D az tz a t o am tm x3 cells slots) (hIz : xInv iz cz) (hLI : LI i c jm em) (hP : va_P D vwCl (xwT (.ref (az 166)) a t i q c d ++ (xwZ .null (fun k => if k < 166 then a k else az k) tz iz 0 cz dz ++ mW o am tm jm qm em dm)) H) (hD : va_D (fun q : Nat => s.heap.size ≤ q) (xwT (.ref (az 166)) a t i q c d ++ (xwZ .null (fun k => if k < 166 then a k else az k) tz iz 0 cz dz ++ mW o am tm jm qm em dm))) (hS : va_S (fun q : Nat => s.heap.size ≤ q) s.heap H locs) (hl : lv_has ls 4 [(3, .int x3), (2, .ref o), (1, .ref (a 100)), (0, .ref b)]) : W p l e room_1 s m #[Value.ref b] below meth cd H locs cells slots (lw_Z below #[Value.ref b] s) (F0 m 960 ls []) := by
  have hbA : ¬ (fun q : Nat => s.heap.size ≤ q) b := Nat.not_le.mpr hbl
  have hA : ∀ q : Nat, s.heap.size ≤ q → (fun q : Nat => s.heap.size ≤ q) q := fun _ h => h
  obtain ⟨hI, hs_F, hs_P, htr, hM, hs_S, hs_J, hR⟩ := hLI
  have hI0 := hI
  have hM0 := hM
  obtain ⟨hR, hPA, hKO, hSO, hSN, hDR, hRD⟩ := hR
  have hRR := RR_of hI0 hs_F
  have hIU : xInv (fun k => if k < 166 then i k else iz k) (fun k => if k < 166 then c k else cz k) := xInv_m hI hIz
  have hKU : va_K D vwCl (xtU (fun k => if k < 166 then t k else if k = 186 then t 186 else tz k)) s := hKT.app hKZ
  have hPU : va_P D vwCl ((xwU (.ref (az 166)) (fun k => if k < 166 then a k else if k = 186 then a 186 else az k) (fun k => if k < 166 then t k else if k = 186 then t 186 else tz k) (fun k => if k < 166 then i k else iz k) q (fun k => if k < 166 then c k else cz k) d) ++ mW o am tm jm qm em dm) H := by rw [← List.append_assoc] at hP; exact hP
  have hDU : va_D (fun q : Nat => s.heap.size ≤ q) ((xwU (.ref (az 166)) (fun k => if k < 166 then a k else if k = 186 then a 186 else az k) (fun k => if k < 166 then t k else if k = 186 then t 186 else tz k) (fun k => if k < 166 then i k else iz k) q (fun k => if k < 166 then c k else cz k) d) ++ mW o am tm jm qm em dm) := by rw [← List.append_assoc] at hD; exact hD
  refine lv_aload_n hx hb dL_law_960 rfl (lv_at hl 2 rfl) ?_
  refine lv_aload_n hx hb dL_law_961 rfl (lv_at hl 3 rfl) ?_
  refine lv_iload_n hx hb dL_law_962 rfl (lv_at hl 0 rfl) ?_
  refine lv_iconst (v := 1) hx hb dL_law_963 (by decide +kernel) ?_
  refine lv_iadd hx hb dL_law_964 ?_
  refine lv_topi (fun x101 ex101 => ?_)
  have tx101 := ti_add (a := x3.toInt) (b := 1) ex101 rfl (by decide +kernel) (by omega) (by omega)
  refine va_sld hx hb hX hbl hbA hS (vp_in_iff.mpr (by have h9 : x101.toInt = (x3.toInt + 1) := tx101; omega)) dL_law_965 ?_
  refine lv_topi (fun x102 ex102 => ?_)
  refine lv_aload_n hx hb dL_law_966 rfl (lv_at hl 3 rfl) ?_
  refine lv_iload_n hx hb dL_law_967 rfl (lv_at hl 0 rfl) ?_
  refine lv_iconst (v := 2) hx hb dL_law_968 (by decide +kernel) ?_
  refine lv_iadd hx hb dL_law_969 ?_
  refine lv_topi (fun x103 ex103 => ?_)
  have tx103 := ti_add (a := x3.toInt) (b := 2) ex103 rfl (by decide +kernel) (by omega) (by omega)
  refine va_sld hx hb hX hbl hbA hS (vp_in_iff.mpr (by have h9 : x103.toInt = (x3.toInt + 2) := tx103; omega)) dL_law_970 ?_
  refine lv_topi (fun x104 ex104 => ?_)
  refine lv_aload_n hx hb dL_law_971 rfl (lv_at hl 3 rfl) ?_
  refine lv_iload_n hx hb dL_law_972 rfl (lv_at hl 0 rfl) ?_
  refine lv_iconst (v := 3) hx hb dL_law_973 (by decide +kernel) ?_
  refine lv_iadd hx hb dL_law_974 ?_
  refine lv_topi (fun x105 ex105 => ?_)
  have tx105 := ti_add (a := x3.toInt) (b := 3) ex105 rfl (by decide +kernel) (by omega) (by omega)
  refine va_sld hx hb hX hbl hbA hS (vp_in_iff.mpr (by have h9 : x105.toInt = (x3.toInt + 3) := tx105; omega)) dL_law_975 ?_
  refine lv_topi (fun x106 ex106 => ?_)
  refine lc_i (wr := mW o am tm jm qm em dm) (va_runV (As := [.int x102, .int x104, .int x106]) (rest := []) ⟨hx, hb, hml, hown, hts⟩ (x_X11_seek_s l D H.size (fun k => if k < 166 then a k else if k = 186 then a 186 else az k) (fun k => if k < 166 then t k else if k = 186 then t 186 else tz k) (fun k => if k < 166 then i k else iz k) q (fun k => if k < 166 then c k else cz k) d x102 x104 x106 hIU htr hs_P) (cwV 3 hts gm_law_X11_seek_s_116 rfl rfl rfl (by decide +kernel) ⟨Nat.le_of_ble_eq_true rfl, Nat.le_of_ble_eq_true rfl⟩) (yB_V hN (xZ_k hZ hS hA) (xZ_n hZ (vD_l hDU)) hKU (vP_l hPU) (vD_l hDU) (ci := 11) (q0 := 0) rfl rfl) rfl rfl hl.1 rfl (lv_room (Nat.le_of_ble_eq_true rfl)) dL_law_976 hcs) hS hA hPU hDU (fun r107 u107 H locs hw107 _ hP hD hS => ?_)
  obtain ⟨i107, q107, c107, d107⟩ := u107
  have hw107 : True ∧ xInv i107 c107 ∧ (∀ k, k ∉ ([173, 174, 175, 176, 177, 183, 185] : List Nat) → i107 k = (fun k => if k < 166 then i k else iz k) k) ∧ (∀ k, k ∉ ([167, 168, 169, 170, 171, 172, 179, 181, 182] : List Nat) → c107 k = (fun k => if k < 166 then c k else cz k) k) := hw107
  obtain ⟨hw107, hI, hei107, hec107⟩ := hw107
  have hP : va_P D vwCl (xwT (.ref (az 166)) a t i107 q107 c107 d107 ++ (xwZ .null (fun k => if k < 166 then a k else az k) tz i107 0 c107 d107 ++ mW o am tm jm qm em dm)) H := by rw [← List.append_assoc]; exact hP
  have hD : va_D (fun q : Nat => s.heap.size ≤ q) (xwT (.ref (az 166)) a t i107 q107 c107 d107 ++ (xwZ .null (fun k => if k < 166 then a k else az k) tz i107 0 c107 d107 ++ mW o am tm jm qm em dm)) := by rw [← List.append_assoc]; exact hD
  refine lv_pop hx hb dL_law_979 rfl ?_
  refine lv_aload_n hx hb dL_law_980 rfl (lv_at hl 1 rfl) ?_
  refine lv_aload_n hx hb dL_law_981 rfl (lv_at hl 3 rfl) ?_
  refine lv_iload_n hx hb dL_law_982 rfl (lv_at hl 0 rfl) ?_
  refine lv_iconst (v := 1) hx hb dL_law_983 (by decide +kernel) ?_
  refine lv_iadd hx hb dL_law_984 ?_
  refine lv_topi (fun x108 ex108 => ?_)
  have tx108 := ti_add (a := x3.toInt) (b := 1) ex108 rfl (by decide +kernel) (by omega) (by omega)
  refine va_sld hx hb hX hbl hbA hS (vp_in_iff.mpr (by have h9 : x108.toInt = (x3.toInt + 1) := tx108; omega)) dL_law_985 ?_
  refine lv_topi (fun x109 ex109 => ?_)
  refine lv_aload_n hx hb dL_law_986 rfl (lv_at hl 3 rfl) ?_
  refine lv_iload_n hx hb dL_law_987 rfl (lv_at hl 0 rfl) ?_
  refine lv_iconst (v := 2) hx hb dL_law_988 (by decide +kernel) ?_
  refine lv_iadd hx hb dL_law_989 ?_
  refine lv_topi (fun x110 ex110 => ?_)
  have tx110 := ti_add (a := x3.toInt) (b := 2) ex110 rfl (by decide +kernel) (by omega) (by omega)
  refine va_sld hx hb hX hbl hbA hS (vp_in_iff.mpr (by have h9 : x110.toInt = (x3.toInt + 2) := tx110; omega)) dL_law_990 ?_
  refine lv_topi (fun x111 ex111 => ?_)
  refine lv_aload_n hx hb dL_law_991 rfl (lv_at hl 3 rfl) ?_
  refine lv_iload_n hx hb dL_law_992 rfl (lv_at hl 0 rfl) ?_
  refine lv_iconst (v := 3) hx hb dL_law_993 (by decide +kernel) ?_
  refine lv_iadd hx hb dL_law_994 ?_
  refine lv_topi (fun x112 ex112 => ?_)
  have tx112 := ti_add (a := x3.toInt) (b := 3) ex112 rfl (by decide +kernel) (by omega) (by omega)
  refine va_sld hx hb hX hbl hbA hS (vp_in_iff.mpr (by have h9 : x112.toInt = (x3.toInt + 3) := tx112; omega)) dL_law_995 ?_
  refine lv_topi (fun x113 ex113 => ?_)
  have hP : va_P D vwCl ((xwT (.ref (az 166)) a t i107 q107 c107 d107 ++ (xwZ .null (fun k => if k < 166 then a k else az k) tz i107 0 c107 d107)) ++ mW o am tm jm qm em dm) H := by rw [List.append_assoc]; exact hP
  have hD : va_D (fun q : Nat => s.heap.size ≤ q) ((xwT (.ref (az 166)) a t i107 q107 c107 d107 ++ (xwZ .null (fun k => if k < 166 then a k else az k) tz i107 0 c107 d107)) ++ mW o am tm jm qm em dm) := by rw [List.append_assoc]; exact hD
  refine rc_i (wr := (xwT (.ref (az 166)) a t i107 q107 c107 d107 ++ (xwZ .null (fun k => if k < 166 then a k else az k) tz i107 0 c107 d107))) (va_runV (As := [.int x109, .int x111, .int x113]) (rest := []) ⟨hx, hb, hml, hown, hts⟩ (s_X12_seek l D H.size o am tm jm qm em dm x109 x111 x113 hM hs_S hs_J) (cwV 3 hts gm_law_X12_seek_119 rfl rfl rfl (by decide +kernel) ⟨Nat.le_of_ble_eq_true rfl, Nat.le_of_ble_eq_true rfl⟩) (pB_V hKM (vP_r hP) (vD_r hD) (ci := 12) (q0 := 0) rfl rfl) rfl rfl hl.1 rfl (lv_room (Nat.le_of_ble_eq_true rfl)) dL_law_996 hcs) hS hA hP hD (fun r114 u114 H locs hw114 hP hD hS => ?_)
  obtain ⟨i114, q114, c114, d114⟩ := u114
  have hw114 : True ∧ mInv i114 c114 ∧ (∀ k, k ∉ ([16, 17, 18, 19, 35, 36, 40, 41, 42, 50, 57, 58, 59] : List Nat) → i114 k = jm k) ∧ (∀ k, k ∉ ([23, 24, 25, 26, 34, 38, 39, 43, 44, 45, 46, 47, 48, 49, 51, 52, 53, 54, 55, 56] : List Nat) → c114 k = em k) ∧ (SJ (c114 3) (c114 6) (c114 9) (c114 10) (c114 11) (c114 13) (i114 2).toInt (i114 5).toInt (i114 8).toInt) ∧ (TJ (c114 3) (c114 6) (c114 23) (c114 24) (c114 29) (c114 30) (i114 5).toInt (i114 22).toInt (i114 27).toInt) := hw114
  obtain ⟨hw114, hM, hei114, hec114, hxp114_0, hxp114_1⟩ := hw114
  have hP : va_P D vwCl (xwT (.ref (az 166)) a t i107 q107 c107 d107 ++ ((xwZ .null (fun k => if k < 166 then a k else az k) tz i107 0 c107 d107) ++ mW o am tm i114 q114 c114 d114)) H := by rw [← List.append_assoc]; exact hP
  have hD : va_D (fun q : Nat => s.heap.size ≤ q) (xwT (.ref (az 166)) a t i107 q107 c107 d107 ++ ((xwZ .null (fun k => if k < 166 then a k else az k) tz i107 0 c107 d107) ++ mW o am tm i114 q114 c114 d114)) := by rw [← List.append_assoc]; exact hD
  refine lv_pop hx hb dL_law_999 rfl ?_
  refine lv_goto (tgt := 1461) hx hb dL_law_1000 (by decide +kernel) ?_
  exact kkS i107 q107 c107 d107 i107 c107 d107 i114 q114 c114 d114 _ _ _ ⟨hI, (by rw [show c107 113 = c 113 from hec107 113 (by decide +kernel), show c107 115 = c 115 from hec107 115 (by decide +kernel)]; exact hs_F), (by rw [show i107 146 = i 146 from hei107 146 (by decide +kernel), show i107 147 = i 147 from hei107 147 (by decide +kernel), show i107 148 = i 148 from hei107 148 (by decide +kernel), show i107 156 = i 156 from hei107 156 (by decide +kernel), show c107 144 = c 144 from hec107 144 (by decide +kernel), show c107 145 = c 145 from hec107 145 (by decide +kernel), show c107 150 = c 150 from hec107 150 (by decide +kernel)]; exact hs_P), (by rw [show i107 141 = i 141 from hei107 141 (by decide +kernel)]; exact htr), hM, hxp114_0, hxp114_1, (by rw [show i107 110 = i 110 from hei107 110 (by decide +kernel), show i107 111 = i 111 from hei107 111 (by decide +kernel), show i107 165 = i 165 from hei107 165 (by decide +kernel), show i107 124 = i 124 from hei107 124 (by decide +kernel), show c107 107 = c 107 from hec107 107 (by decide +kernel), show c107 105 = c 105 from hec107 105 (by decide +kernel), show c107 108 = c 108 from hec107 108 (by decide +kernel), show c107 106 = c 106 from hec107 106 (by decide +kernel), show c107 113 = c 113 from hec107 113 (by decide +kernel), show c107 114 = c 114 from hec107 114 (by decide +kernel), show c107 115 = c 115 from hec107 115 (by decide +kernel), show c107 116 = c 116 from hec107 116 (by decide +kernel), show c107 117 = c 117 from hec107 117 (by decide +kernel), show c107 118 = c 118 from hec107 118 (by decide +kernel), show c107 119 = c 119 from hec107 119 (by decide +kernel), show c107 120 = c 120 from hec107 120 (by decide +kernel), show c107 121 = c 121 from hec107 121 (by decide +kernel), show c107 127 = c 127 from hec107 127 (by decide +kernel), show c107 129 = c 129 from hec107 129 (by decide +kernel), show c107 130 = c 130 from hec107 130 (by decide +kernel), show c107 131 = c 131 from hec107 131 (by decide +kernel), show c107 132 = c 132 from hec107 132 (by decide +kernel), show c107 133 = c 133 from hec107 133 (by decide +kernel), show c107 134 = c 134 from hec107 134 (by decide +kernel), show i114 2 = jm 2 from hei114 2 (by decide +kernel), show i114 5 = jm 5 from hei114 5 (by decide +kernel), show i114 64 = jm 64 from hei114 64 (by decide +kernel), show i114 8 = jm 8 from hei114 8 (by decide +kernel), show c114 4 = em 4 from hec114 4 (by decide +kernel), show c114 3 = em 3 from hec114 3 (by decide +kernel), show c114 6 = em 6 from hec114 6 (by decide +kernel), show c114 9 = em 9 from hec114 9 (by decide +kernel), show c114 10 = em 10 from hec114 10 (by decide +kernel), show c114 11 = em 11 from hec114 11 (by decide +kernel), show c114 12 = em 12 from hec114 12 (by decide +kernel), show c114 13 = em 13 from hec114 13 (by decide +kernel)]; exact ⟨hR, hPA, hKO, hSO, hSN, hDR, hRD⟩)⟩ hI hP hD hS (lv_sub hl [0, 1, 2, 3] rfl)

set_option maxHeartbeats 4000000 in
set_option maxRecDepth 100000 in
theorem law_seek_n {p : Program} {l : Launch} {e : Env} {s : State} {m : MethodId} {below : List Frame} {meth : Method} {cd : Code} {b L : Nat} {xs : Nat → Int32} {D : va_G} {a : Nat → Nat} {t : Nat → ClassId} {o : Nat} {am : Nat → Nat} {tm : Nat → ClassId} {x3 : Int32} (hx : p.tables.exec = Jvm.exec) (hb : cd.code = cL_law) (hml : cd.maxLocals = 4) (hown : s.vm.findClass RL = some m.cls) (hts : ∀ w ∈ wm_law, w.before #[Value.ref b] s = true) (hX : va_X b L xs s s.heap) (hbl : b < s.heap.size) (hL : L ≤ 3584) (hN : xN s) (hZ : xZ (a 186) s s.heap) (hKT : va_K D vwCl (xtT t) s) (hKM : va_K D vwCl (mT tm) s) (hx3 : 0 ≤ x3.toInt ∧ x3.toInt + 7 ≤ (L : Int)) (kk : LK p l e s m below meth cd b D .null a t [] o am tm x3 98 48488) (kkS : ∀ (az : Nat → Nat) (tz : Nat → ClassId) (i : Nat → Int32) (q : Int64) (c : Nat → Nat → Int32) (d : Nat → Nat → Int64) (iz : Nat → Int32) (cz : Nat → Nat → Int32) (dz : Nat → Nat → Int64) (jm : Nat → Int32) (qm : Int64) (em : Nat → Nat → Int32) (dm : Nat → Nat → Int64) (H : Heap) (locs : List Loc) (ls : Array Slot), LI i c jm em → xInv iz cz → va_K D vwCl (xtZ tz) s → va_P D vwCl (xwT (.ref (az 166)) a t i q c d ++ (xwZ .null (fun k => if k < 166 then a k else az k) tz iz 0 cz dz ++ mW o am tm jm qm em dm)) H → va_D (fun q : Nat => s.heap.size ≤ q) (xwT (.ref (az 166)) a t i q c d ++ (xwZ .null (fun k => if k < 166 then a k else az k) tz iz 0 cz dz ++ mW o am tm jm qm em dm)) → va_S (fun q : Nat => s.heap.size ≤ q) s.heap H locs → lv_has ls 4 [(3, .int x3), (2, .ref o), (1, .ref (a 100)), (0, .ref b)] → W p l e room_1 s m #[Value.ref b] below meth cd H locs 111 59832 (lw_Z below #[Value.ref b] s) (F0 m 1461 ls [])) (i : Nat → Int32) (q : Int64) (c : Nat → Nat → Int32) (d : Nat → Nat → Int64) (jm : Nat → Int32) (qm : Int64) (em : Nat → Nat → Int32) (dm : Nat → Nat → Int64) (H : Heap) (locs : List Loc) (ls : Array Slot) (hLI : LI i c jm em) (hP : va_P D vwCl (xwT .null a t i q c d ++ (([] : va_W) ++ mW o am tm jm qm em dm)) H) (hD : va_D (fun q : Nat => s.heap.size ≤ q) (xwT .null a t i q c d ++ (([] : va_W) ++ mW o am tm jm qm em dm))) (hS : va_S (fun q : Nat => s.heap.size ≤ q) s.heap H locs) (hl : lv_has ls 4 [(3, .int x3), (2, .ref o), (1, .ref (a 100)), (0, .ref b)]) : W p l e room_1 s m #[Value.ref b] below meth cd H locs 98 48488 (lw_Z below #[Value.ref b] s) (F0 m 960 ls []) := by
  have hcs : 98 ≤ 600000 ∧ 48488 ≤ 7302249 := ⟨by omega, by omega⟩
  have hbA : ¬ (fun q : Nat => s.heap.size ≤ q) b := Nat.not_le.mpr hbl
  have hA : ∀ q : Nat, s.heap.size ≤ q → (fun q : Nat => s.heap.size ≤ q) q := fun _ h => h
  obtain ⟨hI, hs_F, hs_P, htr, hM, hs_S, hs_J, hR⟩ := hLI
  have hI0 := hI
  have hM0 := hM
  obtain ⟨hR, hPA, hKO, hSO, hSN, hDR, hRD⟩ := hR
  have hRR := RR_of hI0 hs_F
  refine lv_aload_n hx hb dL_law_960 rfl (lv_at hl 2 rfl) ?_
  refine lv_aload_n hx hb dL_law_961 rfl (lv_at hl 3 rfl) ?_
  refine lv_iload_n hx hb dL_law_962 rfl (lv_at hl 0 rfl) ?_
  refine lv_iconst (v := 1) hx hb dL_law_963 (by decide +kernel) ?_
  refine lv_iadd hx hb dL_law_964 ?_
  refine lv_topi (fun x101 ex101 => ?_)
  have tx101 := ti_add (a := x3.toInt) (b := 1) ex101 rfl (by decide +kernel) (by omega) (by omega)
  refine va_sld hx hb hX hbl hbA hS (vp_in_iff.mpr (by have h9 : x101.toInt = (x3.toInt + 1) := tx101; omega)) dL_law_965 ?_
  refine lv_topi (fun x102 ex102 => ?_)
  refine lv_aload_n hx hb dL_law_966 rfl (lv_at hl 3 rfl) ?_
  refine lv_iload_n hx hb dL_law_967 rfl (lv_at hl 0 rfl) ?_
  refine lv_iconst (v := 2) hx hb dL_law_968 (by decide +kernel) ?_
  refine lv_iadd hx hb dL_law_969 ?_
  refine lv_topi (fun x103 ex103 => ?_)
  have tx103 := ti_add (a := x3.toInt) (b := 2) ex103 rfl (by decide +kernel) (by omega) (by omega)
  refine va_sld hx hb hX hbl hbA hS (vp_in_iff.mpr (by have h9 : x103.toInt = (x3.toInt + 2) := tx103; omega)) dL_law_970 ?_
  refine lv_topi (fun x104 ex104 => ?_)
  refine lv_aload_n hx hb dL_law_971 rfl (lv_at hl 3 rfl) ?_
  refine lv_iload_n hx hb dL_law_972 rfl (lv_at hl 0 rfl) ?_
  refine lv_iconst (v := 3) hx hb dL_law_973 (by decide +kernel) ?_
  refine lv_iadd hx hb dL_law_974 ?_
  refine lv_topi (fun x105 ex105 => ?_)
  have tx105 := ti_add (a := x3.toInt) (b := 3) ex105 rfl (by decide +kernel) (by omega) (by omega)
  refine va_sld hx hb hX hbl hbA hS (vp_in_iff.mpr (by have h9 : x105.toInt = (x3.toInt + 3) := tx105; omega)) dL_law_975 ?_
  refine lv_topi (fun x106 ex106 => ?_)
  by_cases hac : 0 ≤ x102.toInt ∧ x102.toInt < (i 111).toInt ∧ 0 ≤ x104.toInt ∧ x104.toInt < (i 111).toInt ∧ 0 ≤ x106.toInt ∧ x106.toInt ≤ 300 ∧ ¬ (i 146).toInt = 0
  · refine lc_i (wr := (([] : va_W) ++ mW o am tm jm qm em dm)) (va_runV (As := [.int x102, .int x104, .int x106]) (rest := []) ⟨hx, hb, hml, hown, hts⟩ (x_X11_seek_m2 l D H.size a t i q c d x102 x104 x106 hI hac htr hs_P) (cwV 3 hts gm_law_X11_seek_m_116 rfl rfl rfl (by decide +kernel) ⟨Nat.le_of_ble_eq_true rfl, Nat.le_of_ble_eq_true rfl⟩) (yB_V hN (xZ_k hZ hS hA) (xZ_n hZ (vD_l hD)) hKT (vP_l hP) (vD_l hD) (ci := 11) (q0 := 0) rfl rfl) rfl rfl hl.1 rfl (lv_room (Nat.le_of_ble_eq_true rfl)) dL_law_976 ⟨Nat.le_of_ble_eq_true rfl, Nat.le_of_ble_eq_true rfl⟩) hS hA hP hD (fun r107 u107 H locs hw107 hKZ hP hD hS => ?_)
    obtain ⟨az, tz, iz, cz, q107, d107⟩ := u107
    have hIz : xInv iz cz := hw107
    refine W.widen (k := 111) (n := 59832) (Nat.le_of_ble_eq_true rfl) (Nat.le_of_ble_eq_true rfl) ?_
    have hP : va_P D vwCl (xwT (.ref (az 166)) a t i q107 c d107 ++ (xwZ .null (fun k => if k < 166 then a k else az k) tz iz 0 cz d107 ++ mW o am tm jm qm em dm)) H := by rw [← List.append_assoc]; exact hP
    have hD : va_D (fun q : Nat => s.heap.size ≤ q) (xwT (.ref (az 166)) a t i q107 c d107 ++ (xwZ .null (fun k => if k < 166 then a k else az k) tz iz 0 cz d107 ++ mW o am tm jm qm em dm)) := by rw [← List.append_assoc]; exact hD
    refine lv_pop hx hb dL_law_979 rfl ?_
    refine lv_aload_n hx hb dL_law_980 rfl (lv_at hl 1 rfl) ?_
    refine lv_aload_n hx hb dL_law_981 rfl (lv_at hl 3 rfl) ?_
    refine lv_iload_n hx hb dL_law_982 rfl (lv_at hl 0 rfl) ?_
    refine lv_iconst (v := 1) hx hb dL_law_983 (by decide +kernel) ?_
    refine lv_iadd hx hb dL_law_984 ?_
    refine lv_topi (fun x108 ex108 => ?_)
    have tx108 := ti_add (a := x3.toInt) (b := 1) ex108 rfl (by decide +kernel) (by omega) (by omega)
    refine va_sld hx hb hX hbl hbA hS (vp_in_iff.mpr (by have h9 : x108.toInt = (x3.toInt + 1) := tx108; omega)) dL_law_985 ?_
    refine lv_topi (fun x109 ex109 => ?_)
    refine lv_aload_n hx hb dL_law_986 rfl (lv_at hl 3 rfl) ?_
    refine lv_iload_n hx hb dL_law_987 rfl (lv_at hl 0 rfl) ?_
    refine lv_iconst (v := 2) hx hb dL_law_988 (by decide +kernel) ?_
    refine lv_iadd hx hb dL_law_989 ?_
    refine lv_topi (fun x110 ex110 => ?_)
    have tx110 := ti_add (a := x3.toInt) (b := 2) ex110 rfl (by decide +kernel) (by omega) (by omega)
    refine va_sld hx hb hX hbl hbA hS (vp_in_iff.mpr (by have h9 : x110.toInt = (x3.toInt + 2) := tx110; omega)) dL_law_990 ?_
    refine lv_topi (fun x111 ex111 => ?_)
    refine lv_aload_n hx hb dL_law_991 rfl (lv_at hl 3 rfl) ?_
    refine lv_iload_n hx hb dL_law_992 rfl (lv_at hl 0 rfl) ?_
    refine lv_iconst (v := 3) hx hb dL_law_993 (by decide +kernel) ?_
    refine lv_iadd hx hb dL_law_994 ?_
    refine lv_topi (fun x112 ex112 => ?_)
    have tx112 := ti_add (a := x3.toInt) (b := 3) ex112 rfl (by decide +kernel) (by omega) (by omega)
    refine va_sld hx hb hX hbl hbA hS (vp_in_iff.mpr (by have h9 : x112.toInt = (x3.toInt + 3) := tx112; omega)) dL_law_995 ?_
    refine lv_topi (fun x113 ex113 => ?_)
    have hP : va_P D vwCl ((xwT (.ref (az 166)) a t i q107 c d107 ++ (xwZ .null (fun k => if k < 166 then a k else az k) tz iz 0 cz d107)) ++ mW o am tm jm qm em dm) H := by rw [List.append_assoc]; exact hP
    have hD : va_D (fun q : Nat => s.heap.size ≤ q) ((xwT (.ref (az 166)) a t i q107 c d107 ++ (xwZ .null (fun k => if k < 166 then a k else az k) tz iz 0 cz d107)) ++ mW o am tm jm qm em dm) := by rw [List.append_assoc]; exact hD
    refine rc_i (wr := (xwT (.ref (az 166)) a t i q107 c d107 ++ (xwZ .null (fun k => if k < 166 then a k else az k) tz iz 0 cz d107))) (va_runV (As := [.int x109, .int x111, .int x113]) (rest := []) ⟨hx, hb, hml, hown, hts⟩ (s_X12_seek l D H.size o am tm jm qm em dm x109 x111 x113 hM hs_S hs_J) (cwV 3 hts gm_law_X12_seek_119 rfl rfl rfl (by decide +kernel) ⟨Nat.le_of_ble_eq_true rfl, Nat.le_of_ble_eq_true rfl⟩) (pB_V hKM (vP_r hP) (vD_r hD) (ci := 12) (q0 := 0) rfl rfl) rfl rfl hl.1 rfl (lv_room (Nat.le_of_ble_eq_true rfl)) dL_law_996 ⟨Nat.le_of_ble_eq_true rfl, Nat.le_of_ble_eq_true rfl⟩) hS hA hP hD (fun r114 u114 H locs hw114 hP hD hS => ?_)
    obtain ⟨i114, q114, c114, d114⟩ := u114
    have hw114 : True ∧ mInv i114 c114 ∧ (∀ k, k ∉ ([16, 17, 18, 19, 35, 36, 40, 41, 42, 50, 57, 58, 59] : List Nat) → i114 k = jm k) ∧ (∀ k, k ∉ ([23, 24, 25, 26, 34, 38, 39, 43, 44, 45, 46, 47, 48, 49, 51, 52, 53, 54, 55, 56] : List Nat) → c114 k = em k) ∧ (SJ (c114 3) (c114 6) (c114 9) (c114 10) (c114 11) (c114 13) (i114 2).toInt (i114 5).toInt (i114 8).toInt) ∧ (TJ (c114 3) (c114 6) (c114 23) (c114 24) (c114 29) (c114 30) (i114 5).toInt (i114 22).toInt (i114 27).toInt) := hw114
    obtain ⟨hw114, hM, hei114, hec114, hxp114_0, hxp114_1⟩ := hw114
    have hP : va_P D vwCl (xwT (.ref (az 166)) a t i q107 c d107 ++ ((xwZ .null (fun k => if k < 166 then a k else az k) tz iz 0 cz d107) ++ mW o am tm i114 q114 c114 d114)) H := by rw [← List.append_assoc]; exact hP
    have hD : va_D (fun q : Nat => s.heap.size ≤ q) (xwT (.ref (az 166)) a t i q107 c d107 ++ ((xwZ .null (fun k => if k < 166 then a k else az k) tz iz 0 cz d107) ++ mW o am tm i114 q114 c114 d114)) := by rw [← List.append_assoc]; exact hD
    refine lv_pop hx hb dL_law_999 rfl ?_
    refine lv_goto (tgt := 1461) hx hb dL_law_1000 (by decide +kernel) ?_
    exact kkS az tz i q107 c d107 iz cz d107 i114 q114 c114 d114 _ _ _ ⟨hI, hs_F, hs_P, htr, hM, hxp114_0, hxp114_1, (by rw [show i114 2 = jm 2 from hei114 2 (by decide +kernel), show i114 5 = jm 5 from hei114 5 (by decide +kernel), show i114 64 = jm 64 from hei114 64 (by decide +kernel), show i114 8 = jm 8 from hei114 8 (by decide +kernel), show c114 4 = em 4 from hec114 4 (by decide +kernel), show c114 3 = em 3 from hec114 3 (by decide +kernel), show c114 6 = em 6 from hec114 6 (by decide +kernel), show c114 9 = em 9 from hec114 9 (by decide +kernel), show c114 10 = em 10 from hec114 10 (by decide +kernel), show c114 11 = em 11 from hec114 11 (by decide +kernel), show c114 12 = em 12 from hec114 12 (by decide +kernel), show c114 13 = em 13 from hec114 13 (by decide +kernel)]; exact ⟨hR, hPA, hKO, hSO, hSN, hDR, hRD⟩)⟩ hIz hKZ hP hD hS (lv_sub hl [0, 1, 2, 3] rfl)
  · have hno := hac
    refine ro_calli (va_runV (As := [.int x102, .int x104, .int x106]) (rest := []) ⟨hx, hb, hml, hown, hts⟩ (x_X11_seek_r l D H.size a t i q c d x102 x104 x106 hI hno) (cwV 3 hts gm_law_X11_seek_r_116 rfl rfl rfl (by decide +kernel) ⟨Nat.le_of_ble_eq_true rfl, Nat.le_of_ble_eq_true rfl⟩) (yA_V hN (xZ_k hZ hS hA) hKT (vP_l hP) (ci := 11) (q0 := 0) rfl rfl) rfl rfl hl.1 rfl (lv_room (Nat.le_of_ble_eq_true rfl)) dL_law_976 hcs) hS hA hP (fun r115 u115 H locs hw115 hP hS => ?_)
    refine lv_pop hx hb dL_law_979 rfl ?_
    refine lv_aload_n hx hb dL_law_980 rfl (lv_at hl 1 rfl) ?_
    refine lv_aload_n hx hb dL_law_981 rfl (lv_at hl 3 rfl) ?_
    refine lv_iload_n hx hb dL_law_982 rfl (lv_at hl 0 rfl) ?_
    refine lv_iconst (v := 1) hx hb dL_law_983 (by decide +kernel) ?_
    refine lv_iadd hx hb dL_law_984 ?_
    refine lv_topi (fun x116 ex116 => ?_)
    have tx116 := ti_add (a := x3.toInt) (b := 1) ex116 rfl (by decide +kernel) (by omega) (by omega)
    refine va_sld hx hb hX hbl hbA hS (vp_in_iff.mpr (by have h9 : x116.toInt = (x3.toInt + 1) := tx116; omega)) dL_law_985 ?_
    refine lv_topi (fun x117 ex117 => ?_)
    refine lv_aload_n hx hb dL_law_986 rfl (lv_at hl 3 rfl) ?_
    refine lv_iload_n hx hb dL_law_987 rfl (lv_at hl 0 rfl) ?_
    refine lv_iconst (v := 2) hx hb dL_law_988 (by decide +kernel) ?_
    refine lv_iadd hx hb dL_law_989 ?_
    refine lv_topi (fun x118 ex118 => ?_)
    have tx118 := ti_add (a := x3.toInt) (b := 2) ex118 rfl (by decide +kernel) (by omega) (by omega)
    refine va_sld hx hb hX hbl hbA hS (vp_in_iff.mpr (by have h9 : x118.toInt = (x3.toInt + 2) := tx118; omega)) dL_law_990 ?_
    refine lv_topi (fun x119 ex119 => ?_)
    refine lv_aload_n hx hb dL_law_991 rfl (lv_at hl 3 rfl) ?_
    refine lv_iload_n hx hb dL_law_992 rfl (lv_at hl 0 rfl) ?_
    refine lv_iconst (v := 3) hx hb dL_law_993 (by decide +kernel) ?_
    refine lv_iadd hx hb dL_law_994 ?_
    refine lv_topi (fun x120 ex120 => ?_)
    have tx120 := ti_add (a := x3.toInt) (b := 3) ex120 rfl (by decide +kernel) (by omega) (by omega)
    refine va_sld hx hb hX hbl hbA hS (vp_in_iff.mpr (by have h9 : x120.toInt = (x3.toInt + 3) := tx120; omega)) dL_law_995 ?_
    refine lv_topi (fun x121 ex121 => ?_)
    have hP : va_P D vwCl ((xwT .null a t i q c d ++ ([] : va_W)) ++ mW o am tm jm qm em dm) H := by rw [List.append_assoc]; exact hP
    have hD : va_D (fun q : Nat => s.heap.size ≤ q) ((xwT .null a t i q c d ++ ([] : va_W)) ++ mW o am tm jm qm em dm) := by rw [List.append_assoc]; exact hD
    refine rc_i (wr := (xwT .null a t i q c d ++ ([] : va_W))) (va_runV (As := [.int x117, .int x119, .int x121]) (rest := []) ⟨hx, hb, hml, hown, hts⟩ (s_X12_seek l D H.size o am tm jm qm em dm x117 x119 x121 hM hs_S hs_J) (cwV 3 hts gm_law_X12_seek_119 rfl rfl rfl (by decide +kernel) ⟨Nat.le_of_ble_eq_true rfl, Nat.le_of_ble_eq_true rfl⟩) (pB_V hKM (vP_r hP) (vD_r hD) (ci := 12) (q0 := 0) rfl rfl) rfl rfl hl.1 rfl (lv_room (Nat.le_of_ble_eq_true rfl)) dL_law_996 hcs) hS hA hP hD (fun r122 u122 H locs hw122 hP hD hS => ?_)
    obtain ⟨i122, q122, c122, d122⟩ := u122
    have hw122 : True ∧ mInv i122 c122 ∧ (∀ k, k ∉ ([16, 17, 18, 19, 35, 36, 40, 41, 42, 50, 57, 58, 59] : List Nat) → i122 k = jm k) ∧ (∀ k, k ∉ ([23, 24, 25, 26, 34, 38, 39, 43, 44, 45, 46, 47, 48, 49, 51, 52, 53, 54, 55, 56] : List Nat) → c122 k = em k) ∧ (SJ (c122 3) (c122 6) (c122 9) (c122 10) (c122 11) (c122 13) (i122 2).toInt (i122 5).toInt (i122 8).toInt) ∧ (TJ (c122 3) (c122 6) (c122 23) (c122 24) (c122 29) (c122 30) (i122 5).toInt (i122 22).toInt (i122 27).toInt) := hw122
    obtain ⟨hw122, hM, hei122, hec122, hxp122_0, hxp122_1⟩ := hw122
    have hP : va_P D vwCl (xwT .null a t i q c d ++ (([] : va_W) ++ mW o am tm i122 q122 c122 d122)) H := by rw [← List.append_assoc]; exact hP
    have hD : va_D (fun q : Nat => s.heap.size ≤ q) (xwT .null a t i q c d ++ (([] : va_W) ++ mW o am tm i122 q122 c122 d122)) := by rw [← List.append_assoc]; exact hD
    refine lv_pop hx hb dL_law_999 rfl ?_
    refine lv_goto (tgt := 1461) hx hb dL_law_1000 (by decide +kernel) ?_
    exact kk i q c d i122 q122 c122 d122 _ _ _ ⟨hI, hs_F, hs_P, htr, hM, hxp122_0, hxp122_1, (by rw [show i122 2 = jm 2 from hei122 2 (by decide +kernel), show i122 5 = jm 5 from hei122 5 (by decide +kernel), show i122 64 = jm 64 from hei122 64 (by decide +kernel), show i122 8 = jm 8 from hei122 8 (by decide +kernel), show c122 4 = em 4 from hec122 4 (by decide +kernel), show c122 3 = em 3 from hec122 3 (by decide +kernel), show c122 6 = em 6 from hec122 6 (by decide +kernel), show c122 9 = em 9 from hec122 9 (by decide +kernel), show c122 10 = em 10 from hec122 10 (by decide +kernel), show c122 11 = em 11 from hec122 11 (by decide +kernel), show c122 12 = em 12 from hec122 12 (by decide +kernel), show c122 13 = em 13 from hec122 13 (by decide +kernel)]; exact ⟨hR, hPA, hKO, hSO, hSN, hDR, hRD⟩)⟩ hP hD hS (lv_sub hl [0, 1, 2, 3] rfl)

set_option maxHeartbeats 4000000 in
set_option maxRecDepth 100000 in
theorem law_sought_s {p : Program} {l : Launch} {e : Env} {s : State} {m : MethodId} {below : List Frame} {meth : Method} {cd : Code} {b L : Nat} {xs : Nat → Int32} {D : va_G} {a : Nat → Nat} {t : Nat → ClassId} {o : Nat} {am : Nat → Nat} {tm : Nat → ClassId} {x3 : Int32} {cells slots : Nat} {az : Nat → Nat} {tz : Nat → ClassId} (hx : p.tables.exec = Jvm.exec) (hb : cd.code = cL_law) (hml : cd.maxLocals = 4) (hown : s.vm.findClass RL = some m.cls) (hts : ∀ w ∈ wm_law, w.before #[Value.ref b] s = true) (hX : va_X b L xs s s.heap) (hbl : b < s.heap.size) (hL : L ≤ 3584) (hN : xN s) (hZ : xZ (a 186) s s.heap) (hKT : va_K D vwCl (xtT t) s) (hKM : va_K D vwCl (mT tm) s) (hcs : cells ≤ 600000 ∧ slots ≤ 7302249) (hx3 : 0 ≤ x3.toInt ∧ x3.toInt + 7 ≤ (L : Int)) (hKZ : va_K D vwCl (xtZ tz) s) (i : Nat → Int32) (q : Int64) (c : Nat → Nat → Int32) (d : Nat → Nat → Int64) (jm : Nat → Int32) (qm : Int64) (em : Nat → Nat → Int32) (dm : Nat → Nat → Int64) (iz : Nat → Int32) (cz : Nat → Nat → Int32) (dz : Nat → Nat → Int64) (H : Heap) (locs : List Loc) (ls : Array Slot) (kk : LK p l e s m below meth cd b D (.ref (az 166)) a t (xwZ .null (fun k => if k < 166 then a k else az k) tz iz 0 cz dz) o am tm x3 cells slots) (hIz : xInv iz cz) (hLI : LI i c jm em) (hP : va_P D vwCl (xwT (.ref (az 166)) a t i q c d ++ (xwZ .null (fun k => if k < 166 then a k else az k) tz iz 0 cz dz ++ mW o am tm jm qm em dm)) H) (hD : va_D (fun q : Nat => s.heap.size ≤ q) (xwT (.ref (az 166)) a t i q c d ++ (xwZ .null (fun k => if k < 166 then a k else az k) tz iz 0 cz dz ++ mW o am tm jm qm em dm))) (hS : va_S (fun q : Nat => s.heap.size ≤ q) s.heap H locs) (hl : lv_has ls 4 [(3, .int x3), (2, .ref o), (1, .ref (a 100)), (0, .ref b)]) : W p l e room_1 s m #[Value.ref b] below meth cd H locs cells slots (lw_Z below #[Value.ref b] s) (F0 m 1003 ls []) := by
  have hbA : ¬ (fun q : Nat => s.heap.size ≤ q) b := Nat.not_le.mpr hbl
  have hA : ∀ q : Nat, s.heap.size ≤ q → (fun q : Nat => s.heap.size ≤ q) q := fun _ h => h
  obtain ⟨hI, hs_F, hs_P, htr, hM, hs_S, hs_J, hR⟩ := hLI
  have hI0 := hI
  have hM0 := hM
  obtain ⟨hR, hPA, hKO, hSO, hSN, hDR, hRD⟩ := hR
  have hRR := RR_of hI0 hs_F
  have hIU : xInv (fun k => if k < 166 then i k else iz k) (fun k => if k < 166 then c k else cz k) := xInv_m hI hIz
  have hKU : va_K D vwCl (xtU (fun k => if k < 166 then t k else if k = 186 then t 186 else tz k)) s := hKT.app hKZ
  have hPU : va_P D vwCl (xwU (.ref (az 166)) (fun k => if k < 166 then a k else if k = 186 then a 186 else az k) (fun k => if k < 166 then t k else if k = 186 then t 186 else tz k) (fun k => if k < 166 then i k else iz k) q (fun k => if k < 166 then c k else cz k) d) H := by rw [← List.append_assoc] at hP; exact vP_l hP
  refine lv_aload_n hx hb dL_law_1003 rfl (lv_at hl 2 rfl) ?_
  refine lv_aload_n hx hb dL_law_1004 rfl (lv_at hl 3 rfl) ?_
  refine lv_iload_n hx hb dL_law_1005 rfl (lv_at hl 0 rfl) ?_
  refine lv_iconst (v := 1) hx hb dL_law_1006 (by decide +kernel) ?_
  refine lv_iadd hx hb dL_law_1007 ?_
  refine lv_topi (fun x101 ex101 => ?_)
  have tx101 := ti_add (a := x3.toInt) (b := 1) ex101 rfl (by decide +kernel) (by omega) (by omega)
  refine va_sld hx hb hX hbl hbA hS (vp_in_iff.mpr (by have h9 : x101.toInt = (x3.toInt + 1) := tx101; omega)) dL_law_1008 ?_
  refine lv_topi (fun x102 ex102 => ?_)
  refine lv_aload_n hx hb dL_law_1009 rfl (lv_at hl 3 rfl) ?_
  refine lv_iload_n hx hb dL_law_1010 rfl (lv_at hl 0 rfl) ?_
  refine lv_iconst (v := 2) hx hb dL_law_1011 (by decide +kernel) ?_
  refine lv_iadd hx hb dL_law_1012 ?_
  refine lv_topi (fun x103 ex103 => ?_)
  have tx103 := ti_add (a := x3.toInt) (b := 2) ex103 rfl (by decide +kernel) (by omega) (by omega)
  refine va_sld hx hb hX hbl hbA hS (vp_in_iff.mpr (by have h9 : x103.toInt = (x3.toInt + 2) := tx103; omega)) dL_law_1013 ?_
  refine lv_topi (fun x104 ex104 => ?_)
  refine ro_calli (va_runV (As := [.int x102, .int x104]) (rest := []) ⟨hx, hb, hml, hown, hts⟩ (x_X11_sought_s l D H.size (fun k => if k < 166 then a k else if k = 186 then a 186 else az k) (fun k => if k < 166 then t k else if k = 186 then t 186 else tz k) (fun k => if k < 166 then i k else iz k) q (fun k => if k < 166 then c k else cz k) d x102 x104 hIU ) (cwV 2 hts gm_law_X11_sought_s_120 rfl rfl rfl (by decide +kernel) ⟨Nat.le_of_ble_eq_true rfl, Nat.le_of_ble_eq_true rfl⟩) (yA_V hN (xZ_k hZ hS hA) hKU hPU (ci := 11) (q0 := 0) rfl rfl) rfl rfl hl.1 rfl (lv_room (Nat.le_of_ble_eq_true rfl)) dL_law_1014 hcs) hS hA hP (fun r105 u105 H locs hw105 hP hS => ?_)
  refine lv_pop hx hb dL_law_1017 rfl ?_
  refine lv_aload_n hx hb dL_law_1018 rfl (lv_at hl 1 rfl) ?_
  refine lv_aload_n hx hb dL_law_1019 rfl (lv_at hl 3 rfl) ?_
  refine lv_iload_n hx hb dL_law_1020 rfl (lv_at hl 0 rfl) ?_
  refine lv_iconst (v := 1) hx hb dL_law_1021 (by decide +kernel) ?_
  refine lv_iadd hx hb dL_law_1022 ?_
  refine lv_topi (fun x106 ex106 => ?_)
  have tx106 := ti_add (a := x3.toInt) (b := 1) ex106 rfl (by decide +kernel) (by omega) (by omega)
  refine va_sld hx hb hX hbl hbA hS (vp_in_iff.mpr (by have h9 : x106.toInt = (x3.toInt + 1) := tx106; omega)) dL_law_1023 ?_
  refine lv_topi (fun x107 ex107 => ?_)
  refine lv_aload_n hx hb dL_law_1024 rfl (lv_at hl 3 rfl) ?_
  refine lv_iload_n hx hb dL_law_1025 rfl (lv_at hl 0 rfl) ?_
  refine lv_iconst (v := 2) hx hb dL_law_1026 (by decide +kernel) ?_
  refine lv_iadd hx hb dL_law_1027 ?_
  refine lv_topi (fun x108 ex108 => ?_)
  have tx108 := ti_add (a := x3.toInt) (b := 2) ex108 rfl (by decide +kernel) (by omega) (by omega)
  refine va_sld hx hb hX hbl hbA hS (vp_in_iff.mpr (by have h9 : x108.toInt = (x3.toInt + 2) := tx108; omega)) dL_law_1028 ?_
  refine lv_topi (fun x109 ex109 => ?_)
  have hP : va_P D vwCl ((xwT (.ref (az 166)) a t i q c d ++ (xwZ .null (fun k => if k < 166 then a k else az k) tz iz 0 cz dz)) ++ mW o am tm jm qm em dm) H := by rw [List.append_assoc]; exact hP
  have hD : va_D (fun q : Nat => s.heap.size ≤ q) ((xwT (.ref (az 166)) a t i q c d ++ (xwZ .null (fun k => if k < 166 then a k else az k) tz iz 0 cz dz)) ++ mW o am tm jm qm em dm) := by rw [List.append_assoc]; exact hD
  refine ro_calli (va_runV (As := [.int x107, .int x109]) (rest := []) ⟨hx, hb, hml, hown, hts⟩ (s_X12_sought l D H.size o am tm jm qm em dm x107 x109 hM ) (cwV 2 hts gm_law_X12_sought_123 rfl rfl rfl (by decide +kernel) ⟨Nat.le_of_ble_eq_true rfl, Nat.le_of_ble_eq_true rfl⟩) (pA_V hKM (vP_r hP) (ci := 12) (q0 := 0) rfl rfl) rfl rfl hl.1 rfl (lv_room (Nat.le_of_ble_eq_true rfl)) dL_law_1029 hcs) hS hA hP (fun r110 u110 H locs hw110 hP hS => ?_)
  have hP : va_P D vwCl (xwT (.ref (az 166)) a t i q c d ++ ((xwZ .null (fun k => if k < 166 then a k else az k) tz iz 0 cz dz) ++ mW o am tm jm qm em dm)) H := by rw [← List.append_assoc]; exact hP
  have hD : va_D (fun q : Nat => s.heap.size ≤ q) (xwT (.ref (az 166)) a t i q c d ++ ((xwZ .null (fun k => if k < 166 then a k else az k) tz iz 0 cz dz) ++ mW o am tm jm qm em dm)) := by rw [← List.append_assoc]; exact hD
  refine lv_pop hx hb dL_law_1032 rfl ?_
  refine lv_goto (tgt := 1461) hx hb dL_law_1033 (by decide +kernel) ?_
  exact kk i q c d jm qm em dm _ _ _ ⟨hI, hs_F, hs_P, htr, hM, hs_S, hs_J, ⟨hR, hPA, hKO, hSO, hSN, hDR, hRD⟩⟩ hP hD hS (lv_sub hl [0, 1, 2, 3] rfl)

set_option maxHeartbeats 4000000 in
set_option maxRecDepth 100000 in
theorem law_sought_n {p : Program} {l : Launch} {e : Env} {s : State} {m : MethodId} {below : List Frame} {meth : Method} {cd : Code} {b L : Nat} {xs : Nat → Int32} {D : va_G} {a : Nat → Nat} {t : Nat → ClassId} {o : Nat} {am : Nat → Nat} {tm : Nat → ClassId} {x3 : Int32} {cells slots : Nat} (hx : p.tables.exec = Jvm.exec) (hb : cd.code = cL_law) (hml : cd.maxLocals = 4) (hown : s.vm.findClass RL = some m.cls) (hts : ∀ w ∈ wm_law, w.before #[Value.ref b] s = true) (hX : va_X b L xs s s.heap) (hbl : b < s.heap.size) (hL : L ≤ 3584) (hN : xN s) (hZ : xZ (a 186) s s.heap) (hKT : va_K D vwCl (xtT t) s) (hKM : va_K D vwCl (mT tm) s) (hcs : cells ≤ 600000 ∧ slots ≤ 7302249) (hx3 : 0 ≤ x3.toInt ∧ x3.toInt + 7 ≤ (L : Int)) (kk : LK p l e s m below meth cd b D .null a t [] o am tm x3 cells slots) (i : Nat → Int32) (q : Int64) (c : Nat → Nat → Int32) (d : Nat → Nat → Int64) (jm : Nat → Int32) (qm : Int64) (em : Nat → Nat → Int32) (dm : Nat → Nat → Int64) (H : Heap) (locs : List Loc) (ls : Array Slot) (hLI : LI i c jm em) (hP : va_P D vwCl (xwT .null a t i q c d ++ (([] : va_W) ++ mW o am tm jm qm em dm)) H) (hD : va_D (fun q : Nat => s.heap.size ≤ q) (xwT .null a t i q c d ++ (([] : va_W) ++ mW o am tm jm qm em dm))) (hS : va_S (fun q : Nat => s.heap.size ≤ q) s.heap H locs) (hl : lv_has ls 4 [(3, .int x3), (2, .ref o), (1, .ref (a 100)), (0, .ref b)]) : W p l e room_1 s m #[Value.ref b] below meth cd H locs cells slots (lw_Z below #[Value.ref b] s) (F0 m 1003 ls []) := by
  have hbA : ¬ (fun q : Nat => s.heap.size ≤ q) b := Nat.not_le.mpr hbl
  have hA : ∀ q : Nat, s.heap.size ≤ q → (fun q : Nat => s.heap.size ≤ q) q := fun _ h => h
  obtain ⟨hI, hs_F, hs_P, htr, hM, hs_S, hs_J, hR⟩ := hLI
  have hI0 := hI
  have hM0 := hM
  obtain ⟨hR, hPA, hKO, hSO, hSN, hDR, hRD⟩ := hR
  have hRR := RR_of hI0 hs_F
  refine lv_aload_n hx hb dL_law_1003 rfl (lv_at hl 2 rfl) ?_
  refine lv_aload_n hx hb dL_law_1004 rfl (lv_at hl 3 rfl) ?_
  refine lv_iload_n hx hb dL_law_1005 rfl (lv_at hl 0 rfl) ?_
  refine lv_iconst (v := 1) hx hb dL_law_1006 (by decide +kernel) ?_
  refine lv_iadd hx hb dL_law_1007 ?_
  refine lv_topi (fun x101 ex101 => ?_)
  have tx101 := ti_add (a := x3.toInt) (b := 1) ex101 rfl (by decide +kernel) (by omega) (by omega)
  refine va_sld hx hb hX hbl hbA hS (vp_in_iff.mpr (by have h9 : x101.toInt = (x3.toInt + 1) := tx101; omega)) dL_law_1008 ?_
  refine lv_topi (fun x102 ex102 => ?_)
  refine lv_aload_n hx hb dL_law_1009 rfl (lv_at hl 3 rfl) ?_
  refine lv_iload_n hx hb dL_law_1010 rfl (lv_at hl 0 rfl) ?_
  refine lv_iconst (v := 2) hx hb dL_law_1011 (by decide +kernel) ?_
  refine lv_iadd hx hb dL_law_1012 ?_
  refine lv_topi (fun x103 ex103 => ?_)
  have tx103 := ti_add (a := x3.toInt) (b := 2) ex103 rfl (by decide +kernel) (by omega) (by omega)
  refine va_sld hx hb hX hbl hbA hS (vp_in_iff.mpr (by have h9 : x103.toInt = (x3.toInt + 2) := tx103; omega)) dL_law_1013 ?_
  refine lv_topi (fun x104 ex104 => ?_)
  refine ro_calli (va_runV (As := [.int x102, .int x104]) (rest := []) ⟨hx, hb, hml, hown, hts⟩ (x_X11_sought_n l D H.size a t i q c d x102 x104 hI ) (cwV 2 hts gm_law_X11_sought_n_120 rfl rfl rfl (by decide +kernel) ⟨Nat.le_of_ble_eq_true rfl, Nat.le_of_ble_eq_true rfl⟩) (yA_V hN (xZ_k hZ hS hA) hKT (vP_l hP) (ci := 11) (q0 := 0) rfl rfl) rfl rfl hl.1 rfl (lv_room (Nat.le_of_ble_eq_true rfl)) dL_law_1014 hcs) hS hA hP (fun r105 u105 H locs hw105 hP hS => ?_)
  refine lv_pop hx hb dL_law_1017 rfl ?_
  refine lv_aload_n hx hb dL_law_1018 rfl (lv_at hl 1 rfl) ?_
  refine lv_aload_n hx hb dL_law_1019 rfl (lv_at hl 3 rfl) ?_
  refine lv_iload_n hx hb dL_law_1020 rfl (lv_at hl 0 rfl) ?_
  refine lv_iconst (v := 1) hx hb dL_law_1021 (by decide +kernel) ?_
  refine lv_iadd hx hb dL_law_1022 ?_
  refine lv_topi (fun x106 ex106 => ?_)
  have tx106 := ti_add (a := x3.toInt) (b := 1) ex106 rfl (by decide +kernel) (by omega) (by omega)
  refine va_sld hx hb hX hbl hbA hS (vp_in_iff.mpr (by have h9 : x106.toInt = (x3.toInt + 1) := tx106; omega)) dL_law_1023 ?_
  refine lv_topi (fun x107 ex107 => ?_)
  refine lv_aload_n hx hb dL_law_1024 rfl (lv_at hl 3 rfl) ?_
  refine lv_iload_n hx hb dL_law_1025 rfl (lv_at hl 0 rfl) ?_
  refine lv_iconst (v := 2) hx hb dL_law_1026 (by decide +kernel) ?_
  refine lv_iadd hx hb dL_law_1027 ?_
  refine lv_topi (fun x108 ex108 => ?_)
  have tx108 := ti_add (a := x3.toInt) (b := 2) ex108 rfl (by decide +kernel) (by omega) (by omega)
  refine va_sld hx hb hX hbl hbA hS (vp_in_iff.mpr (by have h9 : x108.toInt = (x3.toInt + 2) := tx108; omega)) dL_law_1028 ?_
  refine lv_topi (fun x109 ex109 => ?_)
  have hP : va_P D vwCl ((xwT .null a t i q c d ++ ([] : va_W)) ++ mW o am tm jm qm em dm) H := by rw [List.append_assoc]; exact hP
  have hD : va_D (fun q : Nat => s.heap.size ≤ q) ((xwT .null a t i q c d ++ ([] : va_W)) ++ mW o am tm jm qm em dm) := by rw [List.append_assoc]; exact hD
  refine ro_calli (va_runV (As := [.int x107, .int x109]) (rest := []) ⟨hx, hb, hml, hown, hts⟩ (s_X12_sought l D H.size o am tm jm qm em dm x107 x109 hM ) (cwV 2 hts gm_law_X12_sought_123 rfl rfl rfl (by decide +kernel) ⟨Nat.le_of_ble_eq_true rfl, Nat.le_of_ble_eq_true rfl⟩) (pA_V hKM (vP_r hP) (ci := 12) (q0 := 0) rfl rfl) rfl rfl hl.1 rfl (lv_room (Nat.le_of_ble_eq_true rfl)) dL_law_1029 hcs) hS hA hP (fun r110 u110 H locs hw110 hP hS => ?_)
  have hP : va_P D vwCl (xwT .null a t i q c d ++ (([] : va_W) ++ mW o am tm jm qm em dm)) H := by rw [← List.append_assoc]; exact hP
  have hD : va_D (fun q : Nat => s.heap.size ≤ q) (xwT .null a t i q c d ++ (([] : va_W) ++ mW o am tm jm qm em dm)) := by rw [← List.append_assoc]; exact hD
  refine lv_pop hx hb dL_law_1032 rfl ?_
  refine lv_goto (tgt := 1461) hx hb dL_law_1033 (by decide +kernel) ?_
  exact kk i q c d jm qm em dm _ _ _ ⟨hI, hs_F, hs_P, htr, hM, hs_S, hs_J, ⟨hR, hPA, hKO, hSO, hSN, hDR, hRD⟩⟩ hP hD hS (lv_sub hl [0, 1, 2, 3] rfl)

set_option maxHeartbeats 4000000 in
set_option maxRecDepth 100000 in
theorem law_count_s {p : Program} {l : Launch} {e : Env} {s : State} {m : MethodId} {below : List Frame} {meth : Method} {cd : Code} {b L : Nat} {xs : Nat → Int32} {D : va_G} {a : Nat → Nat} {t : Nat → ClassId} {o : Nat} {am : Nat → Nat} {tm : Nat → ClassId} {x3 : Int32} {cells slots : Nat} {az : Nat → Nat} {tz : Nat → ClassId} (hx : p.tables.exec = Jvm.exec) (hb : cd.code = cL_law) (hml : cd.maxLocals = 4) (hown : s.vm.findClass RL = some m.cls) (hts : ∀ w ∈ wm_law, w.before #[Value.ref b] s = true) (hX : va_X b L xs s s.heap) (hbl : b < s.heap.size) (hL : L ≤ 3584) (hN : xN s) (hZ : xZ (a 186) s s.heap) (hKT : va_K D vwCl (xtT t) s) (hKM : va_K D vwCl (mT tm) s) (hcs : cells ≤ 600000 ∧ slots ≤ 7302249) (hx3 : 0 ≤ x3.toInt ∧ x3.toInt + 7 ≤ (L : Int)) (hKZ : va_K D vwCl (xtZ tz) s) (i : Nat → Int32) (q : Int64) (c : Nat → Nat → Int32) (d : Nat → Nat → Int64) (jm : Nat → Int32) (qm : Int64) (em : Nat → Nat → Int32) (dm : Nat → Nat → Int64) (iz : Nat → Int32) (cz : Nat → Nat → Int32) (dz : Nat → Nat → Int64) (H : Heap) (locs : List Loc) (ls : Array Slot) (kk : LK p l e s m below meth cd b D (.ref (az 166)) a t (xwZ .null (fun k => if k < 166 then a k else az k) tz iz 0 cz dz) o am tm x3 cells slots) (hIz : xInv iz cz) (hLI : LI i c jm em) (hP : va_P D vwCl (xwT (.ref (az 166)) a t i q c d ++ (xwZ .null (fun k => if k < 166 then a k else az k) tz iz 0 cz dz ++ mW o am tm jm qm em dm)) H) (hD : va_D (fun q : Nat => s.heap.size ≤ q) (xwT (.ref (az 166)) a t i q c d ++ (xwZ .null (fun k => if k < 166 then a k else az k) tz iz 0 cz dz ++ mW o am tm jm qm em dm))) (hS : va_S (fun q : Nat => s.heap.size ≤ q) s.heap H locs) (hl : lv_has ls 4 [(3, .int x3), (2, .ref o), (1, .ref (a 100)), (0, .ref b)]) : W p l e room_1 s m #[Value.ref b] below meth cd H locs cells slots (lw_Z below #[Value.ref b] s) (F0 m 1389 ls []) := by
  have hbA : ¬ (fun q : Nat => s.heap.size ≤ q) b := Nat.not_le.mpr hbl
  have hA : ∀ q : Nat, s.heap.size ≤ q → (fun q : Nat => s.heap.size ≤ q) q := fun _ h => h
  obtain ⟨hI, hs_F, hs_P, htr, hM, hs_S, hs_J, hR⟩ := hLI
  have hI0 := hI
  have hM0 := hM
  obtain ⟨hR, hPA, hKO, hSO, hSN, hDR, hRD⟩ := hR
  have hRR := RR_of hI0 hs_F
  have hIU : xInv (fun k => if k < 166 then i k else iz k) (fun k => if k < 166 then c k else cz k) := xInv_m hI hIz
  have hKU : va_K D vwCl (xtU (fun k => if k < 166 then t k else if k = 186 then t 186 else tz k)) s := hKT.app hKZ
  have hPU : va_P D vwCl (xwU (.ref (az 166)) (fun k => if k < 166 then a k else if k = 186 then a 186 else az k) (fun k => if k < 166 then t k else if k = 186 then t 186 else tz k) (fun k => if k < 166 then i k else iz k) q (fun k => if k < 166 then c k else cz k) d) H := by rw [← List.append_assoc] at hP; exact vP_l hP
  refine lv_aload_n hx hb dL_law_1389 rfl (lv_at hl 2 rfl) ?_
  refine lv_aload_n hx hb dL_law_1390 rfl (lv_at hl 3 rfl) ?_
  refine lv_iload_n hx hb dL_law_1391 rfl (lv_at hl 0 rfl) ?_
  refine lv_iconst (v := 1) hx hb dL_law_1392 (by decide +kernel) ?_
  refine lv_iadd hx hb dL_law_1393 ?_
  refine lv_topi (fun x101 ex101 => ?_)
  have tx101 := ti_add (a := x3.toInt) (b := 1) ex101 rfl (by decide +kernel) (by omega) (by omega)
  refine va_sld hx hb hX hbl hbA hS (vp_in_iff.mpr (by have h9 : x101.toInt = (x3.toInt + 1) := tx101; omega)) dL_law_1394 ?_
  refine lv_topi (fun x102 ex102 => ?_)
  refine ro_calli (va_runV (As := [.int x102]) (rest := []) ⟨hx, hb, hml, hown, hts⟩ (x_X11_count_s l D H.size (fun k => if k < 166 then a k else if k = 186 then a 186 else az k) (fun k => if k < 166 then t k else if k = 186 then t 186 else tz k) (fun k => if k < 166 then i k else iz k) q (fun k => if k < 166 then c k else cz k) d x102 hIU ) (cwV 1 hts gm_law_X11_count_s_156 rfl rfl rfl (by decide +kernel) ⟨Nat.le_of_ble_eq_true rfl, Nat.le_of_ble_eq_true rfl⟩) (yA_V hN (xZ_k hZ hS hA) hKU hPU (ci := 11) (q0 := 0) rfl rfl) rfl rfl hl.1 rfl (lv_room (Nat.le_of_ble_eq_true rfl)) dL_law_1395 hcs) hS hA hP (fun r103 u103 H locs hw103 hP hS => ?_)
  refine lv_pop hx hb dL_law_1398 rfl ?_
  refine lv_aload_n hx hb dL_law_1399 rfl (lv_at hl 1 rfl) ?_
  refine lv_aload_n hx hb dL_law_1400 rfl (lv_at hl 3 rfl) ?_
  refine lv_iload_n hx hb dL_law_1401 rfl (lv_at hl 0 rfl) ?_
  refine lv_iconst (v := 1) hx hb dL_law_1402 (by decide +kernel) ?_
  refine lv_iadd hx hb dL_law_1403 ?_
  refine lv_topi (fun x104 ex104 => ?_)
  have tx104 := ti_add (a := x3.toInt) (b := 1) ex104 rfl (by decide +kernel) (by omega) (by omega)
  refine va_sld hx hb hX hbl hbA hS (vp_in_iff.mpr (by have h9 : x104.toInt = (x3.toInt + 1) := tx104; omega)) dL_law_1404 ?_
  refine lv_topi (fun x105 ex105 => ?_)
  have hP : va_P D vwCl ((xwT (.ref (az 166)) a t i q c d ++ (xwZ .null (fun k => if k < 166 then a k else az k) tz iz 0 cz dz)) ++ mW o am tm jm qm em dm) H := by rw [List.append_assoc]; exact hP
  have hD : va_D (fun q : Nat => s.heap.size ≤ q) ((xwT (.ref (az 166)) a t i q c d ++ (xwZ .null (fun k => if k < 166 then a k else az k) tz iz 0 cz dz)) ++ mW o am tm jm qm em dm) := by rw [List.append_assoc]; exact hD
  refine ro_calli (va_runV (As := [.int x105]) (rest := []) ⟨hx, hb, hml, hown, hts⟩ (s_X12_count l D H.size o am tm jm qm em dm x105 hM ) (cwV 1 hts gm_law_X12_count_159 rfl rfl rfl (by decide +kernel) ⟨Nat.le_of_ble_eq_true rfl, Nat.le_of_ble_eq_true rfl⟩) (pA_V hKM (vP_r hP) (ci := 12) (q0 := 0) rfl rfl) rfl rfl hl.1 rfl (lv_room (Nat.le_of_ble_eq_true rfl)) dL_law_1405 hcs) hS hA hP (fun r106 u106 H locs hw106 hP hS => ?_)
  have hP : va_P D vwCl (xwT (.ref (az 166)) a t i q c d ++ ((xwZ .null (fun k => if k < 166 then a k else az k) tz iz 0 cz dz) ++ mW o am tm jm qm em dm)) H := by rw [← List.append_assoc]; exact hP
  have hD : va_D (fun q : Nat => s.heap.size ≤ q) (xwT (.ref (az 166)) a t i q c d ++ ((xwZ .null (fun k => if k < 166 then a k else az k) tz iz 0 cz dz) ++ mW o am tm jm qm em dm)) := by rw [← List.append_assoc]; exact hD
  refine lv_pop hx hb dL_law_1408 rfl ?_
  refine lv_goto (tgt := 1461) hx hb dL_law_1409 (by decide +kernel) ?_
  exact kk i q c d jm qm em dm _ _ _ ⟨hI, hs_F, hs_P, htr, hM, hs_S, hs_J, ⟨hR, hPA, hKO, hSO, hSN, hDR, hRD⟩⟩ hP hD hS (lv_sub hl [0, 1, 2, 3] rfl)

set_option maxHeartbeats 4000000 in
set_option maxRecDepth 100000 in
theorem law_count_n {p : Program} {l : Launch} {e : Env} {s : State} {m : MethodId} {below : List Frame} {meth : Method} {cd : Code} {b L : Nat} {xs : Nat → Int32} {D : va_G} {a : Nat → Nat} {t : Nat → ClassId} {o : Nat} {am : Nat → Nat} {tm : Nat → ClassId} {x3 : Int32} {cells slots : Nat} (hx : p.tables.exec = Jvm.exec) (hb : cd.code = cL_law) (hml : cd.maxLocals = 4) (hown : s.vm.findClass RL = some m.cls) (hts : ∀ w ∈ wm_law, w.before #[Value.ref b] s = true) (hX : va_X b L xs s s.heap) (hbl : b < s.heap.size) (hL : L ≤ 3584) (hN : xN s) (hZ : xZ (a 186) s s.heap) (hKT : va_K D vwCl (xtT t) s) (hKM : va_K D vwCl (mT tm) s) (hcs : cells ≤ 600000 ∧ slots ≤ 7302249) (hx3 : 0 ≤ x3.toInt ∧ x3.toInt + 7 ≤ (L : Int)) (kk : LK p l e s m below meth cd b D .null a t [] o am tm x3 cells slots) (i : Nat → Int32) (q : Int64) (c : Nat → Nat → Int32) (d : Nat → Nat → Int64) (jm : Nat → Int32) (qm : Int64) (em : Nat → Nat → Int32) (dm : Nat → Nat → Int64) (H : Heap) (locs : List Loc) (ls : Array Slot) (hLI : LI i c jm em) (hP : va_P D vwCl (xwT .null a t i q c d ++ (([] : va_W) ++ mW o am tm jm qm em dm)) H) (hD : va_D (fun q : Nat => s.heap.size ≤ q) (xwT .null a t i q c d ++ (([] : va_W) ++ mW o am tm jm qm em dm))) (hS : va_S (fun q : Nat => s.heap.size ≤ q) s.heap H locs) (hl : lv_has ls 4 [(3, .int x3), (2, .ref o), (1, .ref (a 100)), (0, .ref b)]) : W p l e room_1 s m #[Value.ref b] below meth cd H locs cells slots (lw_Z below #[Value.ref b] s) (F0 m 1389 ls []) := by
  have hbA : ¬ (fun q : Nat => s.heap.size ≤ q) b := Nat.not_le.mpr hbl
  have hA : ∀ q : Nat, s.heap.size ≤ q → (fun q : Nat => s.heap.size ≤ q) q := fun _ h => h
  obtain ⟨hI, hs_F, hs_P, htr, hM, hs_S, hs_J, hR⟩ := hLI
  have hI0 := hI
  have hM0 := hM
  obtain ⟨hR, hPA, hKO, hSO, hSN, hDR, hRD⟩ := hR
  have hRR := RR_of hI0 hs_F
  refine lv_aload_n hx hb dL_law_1389 rfl (lv_at hl 2 rfl) ?_
  refine lv_aload_n hx hb dL_law_1390 rfl (lv_at hl 3 rfl) ?_
  refine lv_iload_n hx hb dL_law_1391 rfl (lv_at hl 0 rfl) ?_
  refine lv_iconst (v := 1) hx hb dL_law_1392 (by decide +kernel) ?_
  refine lv_iadd hx hb dL_law_1393 ?_
  refine lv_topi (fun x101 ex101 => ?_)
  have tx101 := ti_add (a := x3.toInt) (b := 1) ex101 rfl (by decide +kernel) (by omega) (by omega)
  refine va_sld hx hb hX hbl hbA hS (vp_in_iff.mpr (by have h9 : x101.toInt = (x3.toInt + 1) := tx101; omega)) dL_law_1394 ?_
  refine lv_topi (fun x102 ex102 => ?_)
  refine ro_calli (va_runV (As := [.int x102]) (rest := []) ⟨hx, hb, hml, hown, hts⟩ (x_X11_count_n l D H.size a t i q c d x102 hI ) (cwV 1 hts gm_law_X11_count_n_156 rfl rfl rfl (by decide +kernel) ⟨Nat.le_of_ble_eq_true rfl, Nat.le_of_ble_eq_true rfl⟩) (yA_V hN (xZ_k hZ hS hA) hKT (vP_l hP) (ci := 11) (q0 := 0) rfl rfl) rfl rfl hl.1 rfl (lv_room (Nat.le_of_ble_eq_true rfl)) dL_law_1395 hcs) hS hA hP (fun r103 u103 H locs hw103 hP hS => ?_)
  refine lv_pop hx hb dL_law_1398 rfl ?_
  refine lv_aload_n hx hb dL_law_1399 rfl (lv_at hl 1 rfl) ?_
  refine lv_aload_n hx hb dL_law_1400 rfl (lv_at hl 3 rfl) ?_
  refine lv_iload_n hx hb dL_law_1401 rfl (lv_at hl 0 rfl) ?_
  refine lv_iconst (v := 1) hx hb dL_law_1402 (by decide +kernel) ?_
  refine lv_iadd hx hb dL_law_1403 ?_
  refine lv_topi (fun x104 ex104 => ?_)
  have tx104 := ti_add (a := x3.toInt) (b := 1) ex104 rfl (by decide +kernel) (by omega) (by omega)
  refine va_sld hx hb hX hbl hbA hS (vp_in_iff.mpr (by have h9 : x104.toInt = (x3.toInt + 1) := tx104; omega)) dL_law_1404 ?_
  refine lv_topi (fun x105 ex105 => ?_)
  have hP : va_P D vwCl ((xwT .null a t i q c d ++ ([] : va_W)) ++ mW o am tm jm qm em dm) H := by rw [List.append_assoc]; exact hP
  have hD : va_D (fun q : Nat => s.heap.size ≤ q) ((xwT .null a t i q c d ++ ([] : va_W)) ++ mW o am tm jm qm em dm) := by rw [List.append_assoc]; exact hD
  refine ro_calli (va_runV (As := [.int x105]) (rest := []) ⟨hx, hb, hml, hown, hts⟩ (s_X12_count l D H.size o am tm jm qm em dm x105 hM ) (cwV 1 hts gm_law_X12_count_159 rfl rfl rfl (by decide +kernel) ⟨Nat.le_of_ble_eq_true rfl, Nat.le_of_ble_eq_true rfl⟩) (pA_V hKM (vP_r hP) (ci := 12) (q0 := 0) rfl rfl) rfl rfl hl.1 rfl (lv_room (Nat.le_of_ble_eq_true rfl)) dL_law_1405 hcs) hS hA hP (fun r106 u106 H locs hw106 hP hS => ?_)
  have hP : va_P D vwCl (xwT .null a t i q c d ++ (([] : va_W) ++ mW o am tm jm qm em dm)) H := by rw [← List.append_assoc]; exact hP
  have hD : va_D (fun q : Nat => s.heap.size ≤ q) (xwT .null a t i q c d ++ (([] : va_W) ++ mW o am tm jm qm em dm)) := by rw [← List.append_assoc]; exact hD
  refine lv_pop hx hb dL_law_1408 rfl ?_
  refine lv_goto (tgt := 1461) hx hb dL_law_1409 (by decide +kernel) ?_
  exact kk i q c d jm qm em dm _ _ _ ⟨hI, hs_F, hs_P, htr, hM, hs_S, hs_J, ⟨hR, hPA, hKO, hSO, hSN, hDR, hRD⟩⟩ hP hD hS (lv_sub hl [0, 1, 2, 3] rfl)

