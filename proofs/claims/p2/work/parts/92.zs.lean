set_option maxHeartbeats 4000000 in
set_option maxRecDepth 100000 in
theorem law_seek_s {p : Program} {l : Launch} {e : Env} {s : State} {m : MethodId} {below : List Frame} {meth : Method} {cd : Code} {b L : Nat} {xs : Nat → Int32} {D : va_G} {a : Nat → Nat} {t : Nat → ClassId} {o : Nat} {am : Nat → Nat} {tm : Nat → ClassId} {x3 : Int32} {cells slots : Nat} {az : Nat → Nat} {tz : Nat → ClassId} (hx : p.tables.exec = Jvm.exec) (hb : cd.code = cL_law) (hml : cd.maxLocals = 4) (hown : s.vm.findClass RL = some m.cls) (hts : ∀ w ∈ wm_law, w.before #[Value.ref b] s = true) (hX : va_X b L xs s s.heap) (hbl : b < s.heap.size) (hL : L ≤ 3584) (hN : xN s) (hZ : xZ (a 186) s s.heap) (hKT : va_K D vwCl (xtT t) s) (hKM : va_K D vwCl (mT tm) s) (hcs : cells ≤ 600000 ∧ slots ≤ 7302249) (hx3 : 0 ≤ x3.toInt ∧ x3.toInt + 7 ≤ (L : Int)) (hKZ : va_K D vwCl (xtZ tz) s) (i : Nat → Int32) (q : Int64) (c : Nat → Nat → Int32) (d : Nat → Nat → Int64) (jm : Nat → Int32) (qm : Int64) (em : Nat → Nat → Int32) (dm : Nat → Nat → Int64) (iz : Nat → Int32) (cz : Nat → Nat → Int32) (dz : Nat → Nat → Int64) (H : Heap) (locs : List Loc) (ls : Array Slot) (kkS : LKS p l e s m below meth cd b D az tz a t o am tm x3 cells slots) (hIz : xInv iz cz) (hLI : LI i c jm em) (hP : va_P D vwCl (xwT (.ref (az 166)) a t i q c d ++ (xwZ .null az tz iz 0 cz dz ++ mW o am tm jm qm em dm)) H) (hD : va_D (fun q : Nat => s.heap.size ≤ q) (xwT (.ref (az 166)) a t i q c d ++ (xwZ .null az tz iz 0 cz dz ++ mW o am tm jm qm em dm))) (hS : va_S (fun q : Nat => s.heap.size ≤ q) s.heap H locs) (hl : lv_has ls 4 [(3, .int x3), (2, .ref o), (1, .ref (a 100)), (0, .ref b)]) : W p l e room_1 s m #[Value.ref b] below meth cd H locs cells slots (lw_Z below #[Value.ref b] s) (F0 m 960 ls []) := by
  have hbA : ¬ (fun q : Nat => s.heap.size ≤ q) b := Nat.not_le.mpr hbl
  have hA : ∀ q : Nat, s.heap.size ≤ q → (fun q : Nat => s.heap.size ≤ q) q := fun _ h => h
  obtain ⟨hI, hs_F, hs_P, htr, hM, hs_S, hs_J, hR⟩ := hLI
  have hIU : xInv (fun k => if k < 166 then i k else iz k) (fun k => if k < 166 then c k else cz k) := xInv_m hI hIz
  have hKU : va_K D vwCl (xtU (fun k => if k < 166 then t k else if k = 186 then t 186 else tz k)) s := hKT.app hKZ
  have hPU : va_P D vwCl ((xwU (.ref (az 166)) (fun k => if k < 166 then a k else if k = 186 then a 186 else az k) (fun k => if k < 166 then t k else if k = 186 then t 186 else tz k) (fun k => if k < 166 then i k else iz k) q (fun k => if k < 166 then c k else cz k) d) ++ mW o am tm jm qm em dm) H := by rw [← List.append_assoc] at hP; exact hP
  have hDU : va_D (fun q : Nat => s.heap.size ≤ q) ((xwU (.ref (az 166)) (fun k => if k < 166 then a k else if k = 186 then a 186 else az k) (fun k => if k < 166 then t k else if k = 186 then t 186 else tz k) (fun k => if k < 166 then i k else iz k) q (fun k => if k < 166 then c k else cz k) d) ++ mW o am tm jm qm em dm) := by rw [← List.append_assoc] at hD; exact hD
  refine lv_aload_n hx hb dL_law_960 rfl (lv_at hl 2 rfl) ?_
  refine lv_aload_n hx hb dL_law_961 rfl (lv_at hl 3 rfl) ?_
  refine lv_iload_n hx hb dL_law_962 rfl (lv_at hl 0 rfl) ?_
  refine lv_iconst (v := 1) hx hb dL_law_963 (by decide) ?_
  refine lv_iadd hx hb dL_law_964 ?_
  refine lv_topi (fun x1 ex1 => ?_)
  have tx1 := ti_add (a := x3.toInt) (b := 1) ex1 rfl (by decide) (by omega) (by omega)
  refine va_sld hx hb hX hbl hbA hS (vp_in_iff.mpr (by have h9 : x1.toInt = (x3.toInt + 1) := tx1; omega)) dL_law_965 ?_
  refine lv_topi (fun x2 ex2 => ?_)
  refine lv_aload_n hx hb dL_law_966 rfl (lv_at hl 3 rfl) ?_
  refine lv_iload_n hx hb dL_law_967 rfl (lv_at hl 0 rfl) ?_
  refine lv_iconst (v := 2) hx hb dL_law_968 (by decide) ?_
  refine lv_iadd hx hb dL_law_969 ?_
  refine lv_topi (fun x3 ex3 => ?_)
  have tx3 := ti_add (a := x3.toInt) (b := 2) ex3 rfl (by decide) (by omega) (by omega)
  refine va_sld hx hb hX hbl hbA hS (vp_in_iff.mpr (by have h9 : x3.toInt = (x3.toInt + 2) := tx3; omega)) dL_law_970 ?_
  refine lv_topi (fun x4 ex4 => ?_)
  refine lv_aload_n hx hb dL_law_971 rfl (lv_at hl 3 rfl) ?_
  refine lv_iload_n hx hb dL_law_972 rfl (lv_at hl 0 rfl) ?_
  refine lv_iconst (v := 3) hx hb dL_law_973 (by decide) ?_
  refine lv_iadd hx hb dL_law_974 ?_
  refine lv_topi (fun x5 ex5 => ?_)
  have tx5 := ti_add (a := x3.toInt) (b := 3) ex5 rfl (by decide) (by omega) (by omega)
  refine va_sld hx hb hX hbl hbA hS (vp_in_iff.mpr (by have h9 : x5.toInt = (x3.toInt + 3) := tx5; omega)) dL_law_975 ?_
  refine lv_topi (fun x6 ex6 => ?_)
  refine lc_i (wr := mW o am tm jm qm em dm) (va_runV (As := [.int x2, .int x4, .int x6]) (rest := []) ⟨hx, hb, hml, hown, hts⟩ (x_X11_seek_s l D H.size (fun k => if k < 166 then a k else if k = 186 then a 186 else az k) (fun k => if k < 166 then t k else if k = 186 then t 186 else tz k) (fun k => if k < 166 then i k else iz k) q (fun k => if k < 166 then c k else cz k) d x2 x4 x6 hIU htr hs_P) (cwV 3 hts gm_law_X11_seek_s_116 rfl rfl rfl (by decide +kernel) ⟨Nat.le_of_ble_eq_true rfl, Nat.le_of_ble_eq_true rfl⟩) (yB_V hN (xZ_k hZ hS hA) (xZ_n hZ (vD_l hDU)) hKU (vP_l hPU) (vD_l hDU) (ci := 11) (q0 := 0) rfl rfl) rfl rfl hl.1 rfl (lv_room (Nat.le_of_ble_eq_true rfl)) dL_law_976 hcs) hS hA hPU hDU (fun r7 u7 H locs hw7 _ hP hD hS => ?_)
  obtain ⟨i7, q7, c7, d7⟩ := u7
  have hw7 : True ∧ xInv i7 c7 ∧ (∀ k, k ∉ ([173, 174, 175, 176, 177, 183, 185] : List Nat) → i7 k = (fun k => if k < 166 then i k else iz k) k) ∧ (∀ k, k ∉ ([167, 168, 169, 170, 171, 172, 179, 181, 182] : List Nat) → c7 k = (fun k => if k < 166 then c k else cz k) k) := hw7
  obtain ⟨hw7, hI, hei7, hec7⟩ := hw7
  have hP : va_P D vwCl (xwT (.ref (az 166)) a t i7 q7 c7 d7 ++ (xwZ .null az tz i7 0 c7 d7 ++ mW o am tm jm qm em dm)) H := by rw [← List.append_assoc]; exact hP
  have hD : va_D (fun q : Nat => s.heap.size ≤ q) (xwT (.ref (az 166)) a t i7 q7 c7 d7 ++ (xwZ .null az tz i7 0 c7 d7 ++ mW o am tm jm qm em dm)) := by rw [← List.append_assoc]; exact hD
  refine lv_pop hx hb dL_law_979 rfl ?_
  refine lv_aload_n hx hb dL_law_980 rfl (lv_at hl 1 rfl) ?_
  refine lv_aload_n hx hb dL_law_981 rfl (lv_at hl 3 rfl) ?_
  refine lv_iload_n hx hb dL_law_982 rfl (lv_at hl 0 rfl) ?_
  refine lv_iconst (v := 1) hx hb dL_law_983 (by decide) ?_
  refine lv_iadd hx hb dL_law_984 ?_
  refine lv_topi (fun x8 ex8 => ?_)
  have tx8 := ti_add (a := x3.toInt) (b := 1) ex8 rfl (by decide) (by omega) (by omega)
  refine va_sld hx hb hX hbl hbA hS (vp_in_iff.mpr (by have h9 : x8.toInt = (x3.toInt + 1) := tx8; omega)) dL_law_985 ?_
  refine lv_topi (fun x9 ex9 => ?_)
  refine lv_aload_n hx hb dL_law_986 rfl (lv_at hl 3 rfl) ?_
  refine lv_iload_n hx hb dL_law_987 rfl (lv_at hl 0 rfl) ?_
  refine lv_iconst (v := 2) hx hb dL_law_988 (by decide) ?_
  refine lv_iadd hx hb dL_law_989 ?_
  refine lv_topi (fun x10 ex10 => ?_)
  have tx10 := ti_add (a := x3.toInt) (b := 2) ex10 rfl (by decide) (by omega) (by omega)
  refine va_sld hx hb hX hbl hbA hS (vp_in_iff.mpr (by have h9 : x10.toInt = (x3.toInt + 2) := tx10; omega)) dL_law_990 ?_
  refine lv_topi (fun x11 ex11 => ?_)
  refine lv_aload_n hx hb dL_law_991 rfl (lv_at hl 3 rfl) ?_
  refine lv_iload_n hx hb dL_law_992 rfl (lv_at hl 0 rfl) ?_
  refine lv_iconst (v := 3) hx hb dL_law_993 (by decide) ?_
  refine lv_iadd hx hb dL_law_994 ?_
  refine lv_topi (fun x12 ex12 => ?_)
  have tx12 := ti_add (a := x3.toInt) (b := 3) ex12 rfl (by decide) (by omega) (by omega)
  refine va_sld hx hb hX hbl hbA hS (vp_in_iff.mpr (by have h9 : x12.toInt = (x3.toInt + 3) := tx12; omega)) dL_law_995 ?_
  refine lv_topi (fun x13 ex13 => ?_)
  have hP : va_P D vwCl ((xwT (.ref (az 166)) a t i7 q7 c7 d7 ++ (xwZ .null az tz i7 0 c7 d7)) ++ mW o am tm jm qm em dm) H := by rw [List.append_assoc]; exact hP
  have hD : va_D (fun q : Nat => s.heap.size ≤ q) ((xwT (.ref (az 166)) a t i7 q7 c7 d7 ++ (xwZ .null az tz i7 0 c7 d7)) ++ mW o am tm jm qm em dm) := by rw [List.append_assoc]; exact hD
  refine rc_i (wr := (xwT (.ref (az 166)) a t i7 q7 c7 d7 ++ (xwZ .null az tz i7 0 c7 d7))) (va_runV (As := [.int x9, .int x11, .int x13]) (rest := []) ⟨hx, hb, hml, hown, hts⟩ (s_X12_seek l D H.size o am tm jm qm em dm x9 x11 x13 hM hs_S hs_J) (cwV 3 hts gm_law_X12_seek_119 rfl rfl rfl (by decide +kernel) ⟨Nat.le_of_ble_eq_true rfl, Nat.le_of_ble_eq_true rfl⟩) (pB_V hKM (vP_r hP) (vD_r hD) (ci := 12) (q0 := 0) rfl rfl) rfl rfl hl.1 rfl (lv_room (Nat.le_of_ble_eq_true rfl)) dL_law_996 hcs) hS hA hP hD (fun r14 u14 H locs hw14 hP hD hS => ?_)
  obtain ⟨i14, q14, c14, d14⟩ := u14
  have hw14 : True ∧ mInv i14 c14 ∧ (∀ k, k ∉ ([16, 17, 18, 19, 35, 36, 40, 41, 42, 50, 57, 58, 59] : List Nat) → i14 k = jm k) ∧ (∀ k, k ∉ ([23, 24, 25, 26, 34, 38, 39, 43, 44, 45, 46, 47, 48, 49, 51, 52, 53, 54, 55, 56] : List Nat) → c14 k = em k) ∧ (SJ (c14 3) (c14 6) (c14 9) (c14 10) (c14 11) (c14 13) (i14 2).toInt (i14 5).toInt (i14 8).toInt) ∧ (TJ (c14 3) (c14 6) (c14 23) (c14 24) (c14 29) (c14 30) (i14 5).toInt (i14 22).toInt (i14 27).toInt) := hw14
  obtain ⟨hw14, hM, hei14, hec14, hxp14_0, hxp14_1⟩ := hw14
  have hP : va_P D vwCl (xwT (.ref (az 166)) a t i7 q7 c7 d7 ++ ((xwZ .null az tz i7 0 c7 d7) ++ mW o am tm i14 q14 c14 d14)) H := by rw [← List.append_assoc]; exact hP
  have hD : va_D (fun q : Nat => s.heap.size ≤ q) (xwT (.ref (az 166)) a t i7 q7 c7 d7 ++ ((xwZ .null az tz i7 0 c7 d7) ++ mW o am tm i14 q14 c14 d14)) := by rw [← List.append_assoc]; exact hD
  refine lv_pop hx hb dL_law_999 rfl ?_
  refine lv_goto (tgt := 1461) hx hb dL_law_1000 (by decide) ?_
  exact kkS i7 q7 c7 d7 i7 c7 d7 i14 q14 c14 d14 _ _ _ ⟨hI, (by rw [show c7 113 = c 113 from hec7 113 (by decide), show c7 115 = c 115 from hec7 115 (by decide)]; exact hs_F), (by rw [show i7 146 = i 146 from hei7 146 (by decide), show i7 147 = i 147 from hei7 147 (by decide), show i7 148 = i 148 from hei7 148 (by decide), show i7 156 = i 156 from hei7 156 (by decide), show c7 144 = c 144 from hec7 144 (by decide), show c7 145 = c 145 from hec7 145 (by decide), show c7 150 = c 150 from hec7 150 (by decide)]; exact hs_P), (by rw [show i7 141 = i 141 from hei7 141 (by decide)]; exact htr), hM, hxp14_0, hxp14_1, (by rw [show i7 110 = i 110 from hei7 110 (by decide), show i14 2 = jm 2 from hei14 2 (by decide)]; exact hR)⟩ hI hP hD hS (lv_sub hl [0, 1, 2, 3] rfl)

set_option maxHeartbeats 4000000 in
set_option maxRecDepth 100000 in
theorem law_seek_n {p : Program} {l : Launch} {e : Env} {s : State} {m : MethodId} {below : List Frame} {meth : Method} {cd : Code} {b L : Nat} {xs : Nat → Int32} {D : va_G} {a : Nat → Nat} {t : Nat → ClassId} {o : Nat} {am : Nat → Nat} {tm : Nat → ClassId} {x3 : Int32} (hx : p.tables.exec = Jvm.exec) (hb : cd.code = cL_law) (hml : cd.maxLocals = 4) (hown : s.vm.findClass RL = some m.cls) (hts : ∀ w ∈ wm_law, w.before #[Value.ref b] s = true) (hX : va_X b L xs s s.heap) (hbl : b < s.heap.size) (hL : L ≤ 3584) (hN : xN s) (hZ : xZ (a 186) s s.heap) (hKT : va_K D vwCl (xtT t) s) (hKM : va_K D vwCl (mT tm) s) (hx3 : 0 ≤ x3.toInt ∧ x3.toInt + 7 ≤ (L : Int)) (kk : LK p l e s m below meth cd b D .null a t [] o am tm x3 98 48488) (kkS : ∀ (az : Nat → Nat) (tz : Nat → ClassId) (i : Nat → Int32) (q : Int64) (c : Nat → Nat → Int32) (d : Nat → Nat → Int64) (iz : Nat → Int32) (cz : Nat → Nat → Int32) (dz : Nat → Nat → Int64) (jm : Nat → Int32) (qm : Int64) (em : Nat → Nat → Int32) (dm : Nat → Nat → Int64) (H : Heap) (locs : List Loc) (ls : Array Slot), LI i c jm em → xInv iz cz → va_K D vwCl (xtZ tz) s → va_P D vwCl (xwT (.ref (az 166)) a t i q c d ++ (xwZ .null az tz iz 0 cz dz ++ mW o am tm jm qm em dm)) H → va_D (fun q : Nat => s.heap.size ≤ q) (xwT (.ref (az 166)) a t i q c d ++ (xwZ .null az tz iz 0 cz dz ++ mW o am tm jm qm em dm)) → va_S (fun q : Nat => s.heap.size ≤ q) s.heap H locs → lv_has ls 4 [(3, .int x3), (2, .ref o), (1, .ref (a 100)), (0, .ref b)] → W p l e room_1 s m #[Value.ref b] below meth cd H locs 111 59832 (lw_Z below #[Value.ref b] s) (F0 m 1461 ls [])) (i : Nat → Int32) (q : Int64) (c : Nat → Nat → Int32) (d : Nat → Nat → Int64) (jm : Nat → Int32) (qm : Int64) (em : Nat → Nat → Int32) (dm : Nat → Nat → Int64) (H : Heap) (locs : List Loc) (ls : Array Slot) (hLI : LI i c jm em) (hP : va_P D vwCl (xwT .null a t i q c d ++ (([] : va_W) ++ mW o am tm jm qm em dm)) H) (hD : va_D (fun q : Nat => s.heap.size ≤ q) (xwT .null a t i q c d ++ (([] : va_W) ++ mW o am tm jm qm em dm))) (hS : va_S (fun q : Nat => s.heap.size ≤ q) s.heap H locs) (hl : lv_has ls 4 [(3, .int x3), (2, .ref o), (1, .ref (a 100)), (0, .ref b)]) : W p l e room_1 s m #[Value.ref b] below meth cd H locs 98 48488 (lw_Z below #[Value.ref b] s) (F0 m 960 ls []) := by
  have hcs : 98 ≤ 600000 ∧ 48488 ≤ 7302249 := ⟨by omega, by omega⟩
  have hbA : ¬ (fun q : Nat => s.heap.size ≤ q) b := Nat.not_le.mpr hbl
  have hA : ∀ q : Nat, s.heap.size ≤ q → (fun q : Nat => s.heap.size ≤ q) q := fun _ h => h
  obtain ⟨hI, hs_F, hs_P, htr, hM, hs_S, hs_J, hR⟩ := hLI
  refine lv_aload_n hx hb dL_law_960 rfl (lv_at hl 2 rfl) ?_
  refine lv_aload_n hx hb dL_law_961 rfl (lv_at hl 3 rfl) ?_
  refine lv_iload_n hx hb dL_law_962 rfl (lv_at hl 0 rfl) ?_
  refine lv_iconst (v := 1) hx hb dL_law_963 (by decide) ?_
  refine lv_iadd hx hb dL_law_964 ?_
  refine lv_topi (fun x1 ex1 => ?_)
  have tx1 := ti_add (a := x3.toInt) (b := 1) ex1 rfl (by decide) (by omega) (by omega)
  refine va_sld hx hb hX hbl hbA hS (vp_in_iff.mpr (by have h9 : x1.toInt = (x3.toInt + 1) := tx1; omega)) dL_law_965 ?_
  refine lv_topi (fun x2 ex2 => ?_)
  refine lv_aload_n hx hb dL_law_966 rfl (lv_at hl 3 rfl) ?_
  refine lv_iload_n hx hb dL_law_967 rfl (lv_at hl 0 rfl) ?_
  refine lv_iconst (v := 2) hx hb dL_law_968 (by decide) ?_
  refine lv_iadd hx hb dL_law_969 ?_
  refine lv_topi (fun x3 ex3 => ?_)
  have tx3 := ti_add (a := x3.toInt) (b := 2) ex3 rfl (by decide) (by omega) (by omega)
  refine va_sld hx hb hX hbl hbA hS (vp_in_iff.mpr (by have h9 : x3.toInt = (x3.toInt + 2) := tx3; omega)) dL_law_970 ?_
  refine lv_topi (fun x4 ex4 => ?_)
  refine lv_aload_n hx hb dL_law_971 rfl (lv_at hl 3 rfl) ?_
  refine lv_iload_n hx hb dL_law_972 rfl (lv_at hl 0 rfl) ?_
  refine lv_iconst (v := 3) hx hb dL_law_973 (by decide) ?_
  refine lv_iadd hx hb dL_law_974 ?_
  refine lv_topi (fun x5 ex5 => ?_)
  have tx5 := ti_add (a := x3.toInt) (b := 3) ex5 rfl (by decide) (by omega) (by omega)
  refine va_sld hx hb hX hbl hbA hS (vp_in_iff.mpr (by have h9 : x5.toInt = (x3.toInt + 3) := tx5; omega)) dL_law_975 ?_
  refine lv_topi (fun x6 ex6 => ?_)
  by_cases hac : 0 ≤ x2.toInt ∧ x2.toInt < (i 111).toInt ∧ 0 ≤ x4.toInt ∧ x4.toInt < (i 111).toInt ∧ 0 ≤ x6.toInt ∧ x6.toInt ≤ 300 ∧ ¬ (i 146).toInt = 0
  · refine lc_i (wr := (([] : va_W) ++ mW o am tm jm qm em dm)) (va_runV (As := [.int x2, .int x4, .int x6]) (rest := []) ⟨hx, hb, hml, hown, hts⟩ (x_X11_seek_m l D H.size a t i q c d x2 x4 x6 hI hac htr hs_P) (cwV 3 hts gm_law_X11_seek_m_116 rfl rfl rfl (by decide +kernel) ⟨Nat.le_of_ble_eq_true rfl, Nat.le_of_ble_eq_true rfl⟩) (yB_V hN (xZ_k hZ hS hA) (xZ_n hZ (vD_l hD)) hKT (vP_l hP) (vD_l hD) (ci := 11) (q0 := 0) rfl rfl) rfl rfl hl.1 rfl (lv_room (Nat.le_of_ble_eq_true rfl)) dL_law_976 ⟨Nat.le_of_ble_eq_true rfl, Nat.le_of_ble_eq_true rfl⟩) hS hA hP hD (fun r7 u7 H locs hw7 hKZ hP hD hS => ?_)
    obtain ⟨az, tz, iz, cz, q7, d7⟩ := u7
    have hIz : xInv iz cz := hw7
    refine W.widen (k := 111) (n := 59832) (Nat.le_of_ble_eq_true rfl) (Nat.le_of_ble_eq_true rfl) ?_
    have hP : va_P D vwCl (xwT (.ref (az 166)) a t i q7 c d7 ++ (xwZ .null az tz iz 0 cz d7 ++ mW o am tm jm qm em dm)) H := by rw [← List.append_assoc]; exact hP
    have hD : va_D (fun q : Nat => s.heap.size ≤ q) (xwT (.ref (az 166)) a t i q7 c d7 ++ (xwZ .null az tz iz 0 cz d7 ++ mW o am tm jm qm em dm)) := by rw [← List.append_assoc]; exact hD
    refine lv_pop hx hb dL_law_979 rfl ?_
    refine lv_aload_n hx hb dL_law_980 rfl (lv_at hl 1 rfl) ?_
    refine lv_aload_n hx hb dL_law_981 rfl (lv_at hl 3 rfl) ?_
    refine lv_iload_n hx hb dL_law_982 rfl (lv_at hl 0 rfl) ?_
    refine lv_iconst (v := 1) hx hb dL_law_983 (by decide) ?_
    refine lv_iadd hx hb dL_law_984 ?_
    refine lv_topi (fun x8 ex8 => ?_)
    have tx8 := ti_add (a := x3.toInt) (b := 1) ex8 rfl (by decide) (by omega) (by omega)
    refine va_sld hx hb hX hbl hbA hS (vp_in_iff.mpr (by have h9 : x8.toInt = (x3.toInt + 1) := tx8; omega)) dL_law_985 ?_
    refine lv_topi (fun x9 ex9 => ?_)
    refine lv_aload_n hx hb dL_law_986 rfl (lv_at hl 3 rfl) ?_
    refine lv_iload_n hx hb dL_law_987 rfl (lv_at hl 0 rfl) ?_
    refine lv_iconst (v := 2) hx hb dL_law_988 (by decide) ?_
    refine lv_iadd hx hb dL_law_989 ?_
    refine lv_topi (fun x10 ex10 => ?_)
    have tx10 := ti_add (a := x3.toInt) (b := 2) ex10 rfl (by decide) (by omega) (by omega)
    refine va_sld hx hb hX hbl hbA hS (vp_in_iff.mpr (by have h9 : x10.toInt = (x3.toInt + 2) := tx10; omega)) dL_law_990 ?_
    refine lv_topi (fun x11 ex11 => ?_)
    refine lv_aload_n hx hb dL_law_991 rfl (lv_at hl 3 rfl) ?_
    refine lv_iload_n hx hb dL_law_992 rfl (lv_at hl 0 rfl) ?_
    refine lv_iconst (v := 3) hx hb dL_law_993 (by decide) ?_
    refine lv_iadd hx hb dL_law_994 ?_
    refine lv_topi (fun x12 ex12 => ?_)
    have tx12 := ti_add (a := x3.toInt) (b := 3) ex12 rfl (by decide) (by omega) (by omega)
    refine va_sld hx hb hX hbl hbA hS (vp_in_iff.mpr (by have h9 : x12.toInt = (x3.toInt + 3) := tx12; omega)) dL_law_995 ?_
    refine lv_topi (fun x13 ex13 => ?_)
    have hP : va_P D vwCl ((xwT (.ref (az 166)) a t i q7 c d7 ++ (xwZ .null az tz iz 0 cz d7)) ++ mW o am tm jm qm em dm) H := by rw [List.append_assoc]; exact hP
    have hD : va_D (fun q : Nat => s.heap.size ≤ q) ((xwT (.ref (az 166)) a t i q7 c d7 ++ (xwZ .null az tz iz 0 cz d7)) ++ mW o am tm jm qm em dm) := by rw [List.append_assoc]; exact hD
    refine rc_i (wr := (xwT (.ref (az 166)) a t i q7 c d7 ++ (xwZ .null az tz iz 0 cz d7))) (va_runV (As := [.int x9, .int x11, .int x13]) (rest := []) ⟨hx, hb, hml, hown, hts⟩ (s_X12_seek l D H.size o am tm jm qm em dm x9 x11 x13 hM hs_S hs_J) (cwV 3 hts gm_law_X12_seek_119 rfl rfl rfl (by decide +kernel) ⟨Nat.le_of_ble_eq_true rfl, Nat.le_of_ble_eq_true rfl⟩) (pB_V hKM (vP_r hP) (vD_r hD) (ci := 12) (q0 := 0) rfl rfl) rfl rfl hl.1 rfl (lv_room (Nat.le_of_ble_eq_true rfl)) dL_law_996 ⟨Nat.le_of_ble_eq_true rfl, Nat.le_of_ble_eq_true rfl⟩) hS hA hP hD (fun r14 u14 H locs hw14 hP hD hS => ?_)
    obtain ⟨i14, q14, c14, d14⟩ := u14
    have hw14 : True ∧ mInv i14 c14 ∧ (∀ k, k ∉ ([16, 17, 18, 19, 35, 36, 40, 41, 42, 50, 57, 58, 59] : List Nat) → i14 k = jm k) ∧ (∀ k, k ∉ ([23, 24, 25, 26, 34, 38, 39, 43, 44, 45, 46, 47, 48, 49, 51, 52, 53, 54, 55, 56] : List Nat) → c14 k = em k) ∧ (SJ (c14 3) (c14 6) (c14 9) (c14 10) (c14 11) (c14 13) (i14 2).toInt (i14 5).toInt (i14 8).toInt) ∧ (TJ (c14 3) (c14 6) (c14 23) (c14 24) (c14 29) (c14 30) (i14 5).toInt (i14 22).toInt (i14 27).toInt) := hw14
    obtain ⟨hw14, hM, hei14, hec14, hxp14_0, hxp14_1⟩ := hw14
    have hP : va_P D vwCl (xwT (.ref (az 166)) a t i q7 c d7 ++ ((xwZ .null az tz iz 0 cz d7) ++ mW o am tm i14 q14 c14 d14)) H := by rw [← List.append_assoc]; exact hP
    have hD : va_D (fun q : Nat => s.heap.size ≤ q) (xwT (.ref (az 166)) a t i q7 c d7 ++ ((xwZ .null az tz iz 0 cz d7) ++ mW o am tm i14 q14 c14 d14)) := by rw [← List.append_assoc]; exact hD
    refine lv_pop hx hb dL_law_999 rfl ?_
    refine lv_goto (tgt := 1461) hx hb dL_law_1000 (by decide) ?_
    exact kkS az tz i q7 c d7 iz cz d7 i14 q14 c14 d14 _ _ _ ⟨hI, hs_F, hs_P, htr, hM, hxp14_0, hxp14_1, (by rw [show i14 2 = jm 2 from hei14 2 (by decide)]; exact hR)⟩ hIz hKZ hP hD hS (lv_sub hl [0, 1, 2, 3] rfl)
  · have hno := hac
    refine ro_calli (va_runV (As := [.int x2, .int x4, .int x6]) (rest := []) ⟨hx, hb, hml, hown, hts⟩ (x_X11_seek_r l D H.size a t i q c d x2 x4 x6 hI hno) (cwV 3 hts gm_law_X11_seek_r_116 rfl rfl rfl (by decide +kernel) ⟨Nat.le_of_ble_eq_true rfl, Nat.le_of_ble_eq_true rfl⟩) (yA_V hN (xZ_k hZ hS hA) hKT (vP_l hP) (ci := 11) (q0 := 0) rfl rfl) rfl rfl hl.1 rfl (lv_room (Nat.le_of_ble_eq_true rfl)) dL_law_976 hcs) hS hA hP (fun r15 u15 H locs hw15 hP hS => ?_)
    refine lv_pop hx hb dL_law_979 rfl ?_
    refine lv_aload_n hx hb dL_law_980 rfl (lv_at hl 1 rfl) ?_
    refine lv_aload_n hx hb dL_law_981 rfl (lv_at hl 3 rfl) ?_
    refine lv_iload_n hx hb dL_law_982 rfl (lv_at hl 0 rfl) ?_
    refine lv_iconst (v := 1) hx hb dL_law_983 (by decide) ?_
    refine lv_iadd hx hb dL_law_984 ?_
    refine lv_topi (fun x16 ex16 => ?_)
    have tx16 := ti_add (a := x3.toInt) (b := 1) ex16 rfl (by decide) (by omega) (by omega)
    refine va_sld hx hb hX hbl hbA hS (vp_in_iff.mpr (by have h9 : x16.toInt = (x3.toInt + 1) := tx16; omega)) dL_law_985 ?_
    refine lv_topi (fun x17 ex17 => ?_)
    refine lv_aload_n hx hb dL_law_986 rfl (lv_at hl 3 rfl) ?_
    refine lv_iload_n hx hb dL_law_987 rfl (lv_at hl 0 rfl) ?_
    refine lv_iconst (v := 2) hx hb dL_law_988 (by decide) ?_
    refine lv_iadd hx hb dL_law_989 ?_
    refine lv_topi (fun x18 ex18 => ?_)
    have tx18 := ti_add (a := x3.toInt) (b := 2) ex18 rfl (by decide) (by omega) (by omega)
    refine va_sld hx hb hX hbl hbA hS (vp_in_iff.mpr (by have h9 : x18.toInt = (x3.toInt + 2) := tx18; omega)) dL_law_990 ?_
    refine lv_topi (fun x19 ex19 => ?_)
    refine lv_aload_n hx hb dL_law_991 rfl (lv_at hl 3 rfl) ?_
    refine lv_iload_n hx hb dL_law_992 rfl (lv_at hl 0 rfl) ?_
    refine lv_iconst (v := 3) hx hb dL_law_993 (by decide) ?_
    refine lv_iadd hx hb dL_law_994 ?_
    refine lv_topi (fun x20 ex20 => ?_)
    have tx20 := ti_add (a := x3.toInt) (b := 3) ex20 rfl (by decide) (by omega) (by omega)
    refine va_sld hx hb hX hbl hbA hS (vp_in_iff.mpr (by have h9 : x20.toInt = (x3.toInt + 3) := tx20; omega)) dL_law_995 ?_
    refine lv_topi (fun x21 ex21 => ?_)
    have hP : va_P D vwCl ((xwT .null a t i q c d ++ ([] : va_W)) ++ mW o am tm jm qm em dm) H := by rw [List.append_assoc]; exact hP
    have hD : va_D (fun q : Nat => s.heap.size ≤ q) ((xwT .null a t i q c d ++ ([] : va_W)) ++ mW o am tm jm qm em dm) := by rw [List.append_assoc]; exact hD
    refine rc_i (wr := (xwT .null a t i q c d ++ ([] : va_W))) (va_runV (As := [.int x17, .int x19, .int x21]) (rest := []) ⟨hx, hb, hml, hown, hts⟩ (s_X12_seek l D H.size o am tm jm qm em dm x17 x19 x21 hM hs_S hs_J) (cwV 3 hts gm_law_X12_seek_119 rfl rfl rfl (by decide +kernel) ⟨Nat.le_of_ble_eq_true rfl, Nat.le_of_ble_eq_true rfl⟩) (pB_V hKM (vP_r hP) (vD_r hD) (ci := 12) (q0 := 0) rfl rfl) rfl rfl hl.1 rfl (lv_room (Nat.le_of_ble_eq_true rfl)) dL_law_996 hcs) hS hA hP hD (fun r22 u22 H locs hw22 hP hD hS => ?_)
    obtain ⟨i22, q22, c22, d22⟩ := u22
    have hw22 : True ∧ mInv i22 c22 ∧ (∀ k, k ∉ ([16, 17, 18, 19, 35, 36, 40, 41, 42, 50, 57, 58, 59] : List Nat) → i22 k = jm k) ∧ (∀ k, k ∉ ([23, 24, 25, 26, 34, 38, 39, 43, 44, 45, 46, 47, 48, 49, 51, 52, 53, 54, 55, 56] : List Nat) → c22 k = em k) ∧ (SJ (c22 3) (c22 6) (c22 9) (c22 10) (c22 11) (c22 13) (i22 2).toInt (i22 5).toInt (i22 8).toInt) ∧ (TJ (c22 3) (c22 6) (c22 23) (c22 24) (c22 29) (c22 30) (i22 5).toInt (i22 22).toInt (i22 27).toInt) := hw22
    obtain ⟨hw22, hM, hei22, hec22, hxp22_0, hxp22_1⟩ := hw22
    have hP : va_P D vwCl (xwT .null a t i q c d ++ (([] : va_W) ++ mW o am tm i22 q22 c22 d22)) H := by rw [← List.append_assoc]; exact hP
    have hD : va_D (fun q : Nat => s.heap.size ≤ q) (xwT .null a t i q c d ++ (([] : va_W) ++ mW o am tm i22 q22 c22 d22)) := by rw [← List.append_assoc]; exact hD
    refine lv_pop hx hb dL_law_999 rfl ?_
    refine lv_goto (tgt := 1461) hx hb dL_law_1000 (by decide) ?_
    exact kk i q c d i22 q22 c22 d22 _ _ _ ⟨hI, hs_F, hs_P, htr, hM, hxp22_0, hxp22_1, (by rw [show i22 2 = jm 2 from hei22 2 (by decide)]; exact hR)⟩ hP hD hS (lv_sub hl [0, 1, 2, 3] rfl)

set_option maxHeartbeats 4000000 in
set_option maxRecDepth 100000 in
theorem law_sought_s {p : Program} {l : Launch} {e : Env} {s : State} {m : MethodId} {below : List Frame} {meth : Method} {cd : Code} {b L : Nat} {xs : Nat → Int32} {D : va_G} {a : Nat → Nat} {t : Nat → ClassId} {o : Nat} {am : Nat → Nat} {tm : Nat → ClassId} {x3 : Int32} {cells slots : Nat} {az : Nat → Nat} {tz : Nat → ClassId} (hx : p.tables.exec = Jvm.exec) (hb : cd.code = cL_law) (hml : cd.maxLocals = 4) (hown : s.vm.findClass RL = some m.cls) (hts : ∀ w ∈ wm_law, w.before #[Value.ref b] s = true) (hX : va_X b L xs s s.heap) (hbl : b < s.heap.size) (hL : L ≤ 3584) (hN : xN s) (hZ : xZ (a 186) s s.heap) (hKT : va_K D vwCl (xtT t) s) (hKM : va_K D vwCl (mT tm) s) (hcs : cells ≤ 600000 ∧ slots ≤ 7302249) (hx3 : 0 ≤ x3.toInt ∧ x3.toInt + 7 ≤ (L : Int)) (hKZ : va_K D vwCl (xtZ tz) s) (i : Nat → Int32) (q : Int64) (c : Nat → Nat → Int32) (d : Nat → Nat → Int64) (jm : Nat → Int32) (qm : Int64) (em : Nat → Nat → Int32) (dm : Nat → Nat → Int64) (iz : Nat → Int32) (cz : Nat → Nat → Int32) (dz : Nat → Nat → Int64) (H : Heap) (locs : List Loc) (ls : Array Slot) (kk : LK p l e s m below meth cd b D (.ref (az 166)) a t (xwZ .null az tz iz 0 cz dz) o am tm x3 cells slots) (hIz : xInv iz cz) (hLI : LI i c jm em) (hP : va_P D vwCl (xwT (.ref (az 166)) a t i q c d ++ (xwZ .null az tz iz 0 cz dz ++ mW o am tm jm qm em dm)) H) (hD : va_D (fun q : Nat => s.heap.size ≤ q) (xwT (.ref (az 166)) a t i q c d ++ (xwZ .null az tz iz 0 cz dz ++ mW o am tm jm qm em dm))) (hS : va_S (fun q : Nat => s.heap.size ≤ q) s.heap H locs) (hl : lv_has ls 4 [(3, .int x3), (2, .ref o), (1, .ref (a 100)), (0, .ref b)]) : W p l e room_1 s m #[Value.ref b] below meth cd H locs cells slots (lw_Z below #[Value.ref b] s) (F0 m 1003 ls []) := by
  have hbA : ¬ (fun q : Nat => s.heap.size ≤ q) b := Nat.not_le.mpr hbl
  have hA : ∀ q : Nat, s.heap.size ≤ q → (fun q : Nat => s.heap.size ≤ q) q := fun _ h => h
  obtain ⟨hI, hs_F, hs_P, htr, hM, hs_S, hs_J, hR⟩ := hLI
  have hIU : xInv (fun k => if k < 166 then i k else iz k) (fun k => if k < 166 then c k else cz k) := xInv_m hI hIz
  have hKU : va_K D vwCl (xtU (fun k => if k < 166 then t k else if k = 186 then t 186 else tz k)) s := hKT.app hKZ
  have hPU : va_P D vwCl (xwU (.ref (az 166)) (fun k => if k < 166 then a k else if k = 186 then a 186 else az k) (fun k => if k < 166 then t k else if k = 186 then t 186 else tz k) (fun k => if k < 166 then i k else iz k) q (fun k => if k < 166 then c k else cz k) d) H := by rw [← List.append_assoc] at hP; exact vP_l hP
  refine lv_aload_n hx hb dL_law_1003 rfl (lv_at hl 2 rfl) ?_
  refine lv_aload_n hx hb dL_law_1004 rfl (lv_at hl 3 rfl) ?_
  refine lv_iload_n hx hb dL_law_1005 rfl (lv_at hl 0 rfl) ?_
  refine lv_iconst (v := 1) hx hb dL_law_1006 (by decide) ?_
  refine lv_iadd hx hb dL_law_1007 ?_
  refine lv_topi (fun x1 ex1 => ?_)
  have tx1 := ti_add (a := x3.toInt) (b := 1) ex1 rfl (by decide) (by omega) (by omega)
  refine va_sld hx hb hX hbl hbA hS (vp_in_iff.mpr (by have h9 : x1.toInt = (x3.toInt + 1) := tx1; omega)) dL_law_1008 ?_
  refine lv_topi (fun x2 ex2 => ?_)
  refine lv_aload_n hx hb dL_law_1009 rfl (lv_at hl 3 rfl) ?_
  refine lv_iload_n hx hb dL_law_1010 rfl (lv_at hl 0 rfl) ?_
  refine lv_iconst (v := 2) hx hb dL_law_1011 (by decide) ?_
  refine lv_iadd hx hb dL_law_1012 ?_
  refine lv_topi (fun x3 ex3 => ?_)
  have tx3 := ti_add (a := x3.toInt) (b := 2) ex3 rfl (by decide) (by omega) (by omega)
  refine va_sld hx hb hX hbl hbA hS (vp_in_iff.mpr (by have h9 : x3.toInt = (x3.toInt + 2) := tx3; omega)) dL_law_1013 ?_
  refine lv_topi (fun x4 ex4 => ?_)
  refine ro_calli (va_runV (As := [.int x2, .int x4]) (rest := []) ⟨hx, hb, hml, hown, hts⟩ (x_X11_sought_s l D H.size (fun k => if k < 166 then a k else if k = 186 then a 186 else az k) (fun k => if k < 166 then t k else if k = 186 then t 186 else tz k) (fun k => if k < 166 then i k else iz k) q (fun k => if k < 166 then c k else cz k) d x2 x4 hIU ) (cwV 2 hts gm_law_X11_sought_s_120 rfl rfl rfl (by decide +kernel) ⟨Nat.le_of_ble_eq_true rfl, Nat.le_of_ble_eq_true rfl⟩) (yA_V hN (xZ_k hZ hS hA) hKU hPU (ci := 11) (q0 := 0) rfl rfl) rfl rfl hl.1 rfl (lv_room (Nat.le_of_ble_eq_true rfl)) dL_law_1014 hcs) hS hA hP (fun r5 u5 H locs hw5 hP hS => ?_)
  refine lv_pop hx hb dL_law_1017 rfl ?_
  refine lv_aload_n hx hb dL_law_1018 rfl (lv_at hl 1 rfl) ?_
  refine lv_aload_n hx hb dL_law_1019 rfl (lv_at hl 3 rfl) ?_
  refine lv_iload_n hx hb dL_law_1020 rfl (lv_at hl 0 rfl) ?_
  refine lv_iconst (v := 1) hx hb dL_law_1021 (by decide) ?_
  refine lv_iadd hx hb dL_law_1022 ?_
  refine lv_topi (fun x6 ex6 => ?_)
  have tx6 := ti_add (a := x3.toInt) (b := 1) ex6 rfl (by decide) (by omega) (by omega)
  refine va_sld hx hb hX hbl hbA hS (vp_in_iff.mpr (by have h9 : x6.toInt = (x3.toInt + 1) := tx6; omega)) dL_law_1023 ?_
  refine lv_topi (fun x7 ex7 => ?_)
  refine lv_aload_n hx hb dL_law_1024 rfl (lv_at hl 3 rfl) ?_
  refine lv_iload_n hx hb dL_law_1025 rfl (lv_at hl 0 rfl) ?_
  refine lv_iconst (v := 2) hx hb dL_law_1026 (by decide) ?_
  refine lv_iadd hx hb dL_law_1027 ?_
  refine lv_topi (fun x8 ex8 => ?_)
  have tx8 := ti_add (a := x3.toInt) (b := 2) ex8 rfl (by decide) (by omega) (by omega)
  refine va_sld hx hb hX hbl hbA hS (vp_in_iff.mpr (by have h9 : x8.toInt = (x3.toInt + 2) := tx8; omega)) dL_law_1028 ?_
  refine lv_topi (fun x9 ex9 => ?_)
  have hP : va_P D vwCl ((xwT (.ref (az 166)) a t i q c d ++ (xwZ .null az tz iz 0 cz dz)) ++ mW o am tm jm qm em dm) H := by rw [List.append_assoc]; exact hP
  have hD : va_D (fun q : Nat => s.heap.size ≤ q) ((xwT (.ref (az 166)) a t i q c d ++ (xwZ .null az tz iz 0 cz dz)) ++ mW o am tm jm qm em dm) := by rw [List.append_assoc]; exact hD
  refine ro_calli (va_runV (As := [.int x7, .int x9]) (rest := []) ⟨hx, hb, hml, hown, hts⟩ (s_X12_sought l D H.size o am tm jm qm em dm x7 x9 hM ) (cwV 2 hts gm_law_X12_sought_123 rfl rfl rfl (by decide +kernel) ⟨Nat.le_of_ble_eq_true rfl, Nat.le_of_ble_eq_true rfl⟩) (pA_V hKM (vP_r hP) (ci := 12) (q0 := 0) rfl rfl) rfl rfl hl.1 rfl (lv_room (Nat.le_of_ble_eq_true rfl)) dL_law_1029 hcs) hS hA hP (fun r10 u10 H locs hw10 hP hS => ?_)
  have hP : va_P D vwCl (xwT (.ref (az 166)) a t i q c d ++ ((xwZ .null az tz iz 0 cz dz) ++ mW o am tm jm qm em dm)) H := by rw [← List.append_assoc]; exact hP
  have hD : va_D (fun q : Nat => s.heap.size ≤ q) (xwT (.ref (az 166)) a t i q c d ++ ((xwZ .null az tz iz 0 cz dz) ++ mW o am tm jm qm em dm)) := by rw [← List.append_assoc]; exact hD
  refine lv_pop hx hb dL_law_1032 rfl ?_
  refine lv_goto (tgt := 1461) hx hb dL_law_1033 (by decide) ?_
  exact kk i q c d jm qm em dm _ _ _ ⟨hI, hs_F, hs_P, htr, hM, hs_S, hs_J, hR⟩ hP hD hS (lv_sub hl [0, 1, 2, 3] rfl)

set_option maxHeartbeats 4000000 in
set_option maxRecDepth 100000 in
theorem law_sought_n {p : Program} {l : Launch} {e : Env} {s : State} {m : MethodId} {below : List Frame} {meth : Method} {cd : Code} {b L : Nat} {xs : Nat → Int32} {D : va_G} {a : Nat → Nat} {t : Nat → ClassId} {o : Nat} {am : Nat → Nat} {tm : Nat → ClassId} {x3 : Int32} {cells slots : Nat} (hx : p.tables.exec = Jvm.exec) (hb : cd.code = cL_law) (hml : cd.maxLocals = 4) (hown : s.vm.findClass RL = some m.cls) (hts : ∀ w ∈ wm_law, w.before #[Value.ref b] s = true) (hX : va_X b L xs s s.heap) (hbl : b < s.heap.size) (hL : L ≤ 3584) (hN : xN s) (hZ : xZ (a 186) s s.heap) (hKT : va_K D vwCl (xtT t) s) (hKM : va_K D vwCl (mT tm) s) (hcs : cells ≤ 600000 ∧ slots ≤ 7302249) (hx3 : 0 ≤ x3.toInt ∧ x3.toInt + 7 ≤ (L : Int)) (kk : LK p l e s m below meth cd b D .null a t [] o am tm x3 cells slots) (i : Nat → Int32) (q : Int64) (c : Nat → Nat → Int32) (d : Nat → Nat → Int64) (jm : Nat → Int32) (qm : Int64) (em : Nat → Nat → Int32) (dm : Nat → Nat → Int64) (H : Heap) (locs : List Loc) (ls : Array Slot) (hLI : LI i c jm em) (hP : va_P D vwCl (xwT .null a t i q c d ++ (([] : va_W) ++ mW o am tm jm qm em dm)) H) (hD : va_D (fun q : Nat => s.heap.size ≤ q) (xwT .null a t i q c d ++ (([] : va_W) ++ mW o am tm jm qm em dm))) (hS : va_S (fun q : Nat => s.heap.size ≤ q) s.heap H locs) (hl : lv_has ls 4 [(3, .int x3), (2, .ref o), (1, .ref (a 100)), (0, .ref b)]) : W p l e room_1 s m #[Value.ref b] below meth cd H locs cells slots (lw_Z below #[Value.ref b] s) (F0 m 1003 ls []) := by
  have hbA : ¬ (fun q : Nat => s.heap.size ≤ q) b := Nat.not_le.mpr hbl
  have hA : ∀ q : Nat, s.heap.size ≤ q → (fun q : Nat => s.heap.size ≤ q) q := fun _ h => h
  obtain ⟨hI, hs_F, hs_P, htr, hM, hs_S, hs_J, hR⟩ := hLI
  refine lv_aload_n hx hb dL_law_1003 rfl (lv_at hl 2 rfl) ?_
  refine lv_aload_n hx hb dL_law_1004 rfl (lv_at hl 3 rfl) ?_
  refine lv_iload_n hx hb dL_law_1005 rfl (lv_at hl 0 rfl) ?_
  refine lv_iconst (v := 1) hx hb dL_law_1006 (by decide) ?_
  refine lv_iadd hx hb dL_law_1007 ?_
  refine lv_topi (fun x1 ex1 => ?_)
  have tx1 := ti_add (a := x3.toInt) (b := 1) ex1 rfl (by decide) (by omega) (by omega)
  refine va_sld hx hb hX hbl hbA hS (vp_in_iff.mpr (by have h9 : x1.toInt = (x3.toInt + 1) := tx1; omega)) dL_law_1008 ?_
  refine lv_topi (fun x2 ex2 => ?_)
  refine lv_aload_n hx hb dL_law_1009 rfl (lv_at hl 3 rfl) ?_
  refine lv_iload_n hx hb dL_law_1010 rfl (lv_at hl 0 rfl) ?_
  refine lv_iconst (v := 2) hx hb dL_law_1011 (by decide) ?_
  refine lv_iadd hx hb dL_law_1012 ?_
  refine lv_topi (fun x3 ex3 => ?_)
  have tx3 := ti_add (a := x3.toInt) (b := 2) ex3 rfl (by decide) (by omega) (by omega)
  refine va_sld hx hb hX hbl hbA hS (vp_in_iff.mpr (by have h9 : x3.toInt = (x3.toInt + 2) := tx3; omega)) dL_law_1013 ?_
  refine lv_topi (fun x4 ex4 => ?_)
  refine ro_calli (va_runV (As := [.int x2, .int x4]) (rest := []) ⟨hx, hb, hml, hown, hts⟩ (x_X11_sought_n l D H.size a t i q c d x2 x4 hI ) (cwV 2 hts gm_law_X11_sought_n_120 rfl rfl rfl (by decide +kernel) ⟨Nat.le_of_ble_eq_true rfl, Nat.le_of_ble_eq_true rfl⟩) (yA_V hN (xZ_k hZ hS hA) hKT (vP_l hP) (ci := 11) (q0 := 0) rfl rfl) rfl rfl hl.1 rfl (lv_room (Nat.le_of_ble_eq_true rfl)) dL_law_1014 hcs) hS hA hP (fun r5 u5 H locs hw5 hP hS => ?_)
  refine lv_pop hx hb dL_law_1017 rfl ?_
  refine lv_aload_n hx hb dL_law_1018 rfl (lv_at hl 1 rfl) ?_
  refine lv_aload_n hx hb dL_law_1019 rfl (lv_at hl 3 rfl) ?_
  refine lv_iload_n hx hb dL_law_1020 rfl (lv_at hl 0 rfl) ?_
  refine lv_iconst (v := 1) hx hb dL_law_1021 (by decide) ?_
  refine lv_iadd hx hb dL_law_1022 ?_
  refine lv_topi (fun x6 ex6 => ?_)
  have tx6 := ti_add (a := x3.toInt) (b := 1) ex6 rfl (by decide) (by omega) (by omega)
  refine va_sld hx hb hX hbl hbA hS (vp_in_iff.mpr (by have h9 : x6.toInt = (x3.toInt + 1) := tx6; omega)) dL_law_1023 ?_
  refine lv_topi (fun x7 ex7 => ?_)
  refine lv_aload_n hx hb dL_law_1024 rfl (lv_at hl 3 rfl) ?_
  refine lv_iload_n hx hb dL_law_1025 rfl (lv_at hl 0 rfl) ?_
  refine lv_iconst (v := 2) hx hb dL_law_1026 (by decide) ?_
  refine lv_iadd hx hb dL_law_1027 ?_
  refine lv_topi (fun x8 ex8 => ?_)
  have tx8 := ti_add (a := x3.toInt) (b := 2) ex8 rfl (by decide) (by omega) (by omega)
  refine va_sld hx hb hX hbl hbA hS (vp_in_iff.mpr (by have h9 : x8.toInt = (x3.toInt + 2) := tx8; omega)) dL_law_1028 ?_
  refine lv_topi (fun x9 ex9 => ?_)
  have hP : va_P D vwCl ((xwT .null a t i q c d ++ ([] : va_W)) ++ mW o am tm jm qm em dm) H := by rw [List.append_assoc]; exact hP
  have hD : va_D (fun q : Nat => s.heap.size ≤ q) ((xwT .null a t i q c d ++ ([] : va_W)) ++ mW o am tm jm qm em dm) := by rw [List.append_assoc]; exact hD
  refine ro_calli (va_runV (As := [.int x7, .int x9]) (rest := []) ⟨hx, hb, hml, hown, hts⟩ (s_X12_sought l D H.size o am tm jm qm em dm x7 x9 hM ) (cwV 2 hts gm_law_X12_sought_123 rfl rfl rfl (by decide +kernel) ⟨Nat.le_of_ble_eq_true rfl, Nat.le_of_ble_eq_true rfl⟩) (pA_V hKM (vP_r hP) (ci := 12) (q0 := 0) rfl rfl) rfl rfl hl.1 rfl (lv_room (Nat.le_of_ble_eq_true rfl)) dL_law_1029 hcs) hS hA hP (fun r10 u10 H locs hw10 hP hS => ?_)
  have hP : va_P D vwCl (xwT .null a t i q c d ++ (([] : va_W) ++ mW o am tm jm qm em dm)) H := by rw [← List.append_assoc]; exact hP
  have hD : va_D (fun q : Nat => s.heap.size ≤ q) (xwT .null a t i q c d ++ (([] : va_W) ++ mW o am tm jm qm em dm)) := by rw [← List.append_assoc]; exact hD
  refine lv_pop hx hb dL_law_1032 rfl ?_
  refine lv_goto (tgt := 1461) hx hb dL_law_1033 (by decide) ?_
  exact kk i q c d jm qm em dm _ _ _ ⟨hI, hs_F, hs_P, htr, hM, hs_S, hs_J, hR⟩ hP hD hS (lv_sub hl [0, 1, 2, 3] rfl)

set_option maxHeartbeats 4000000 in
set_option maxRecDepth 100000 in
theorem law_count_s {p : Program} {l : Launch} {e : Env} {s : State} {m : MethodId} {below : List Frame} {meth : Method} {cd : Code} {b L : Nat} {xs : Nat → Int32} {D : va_G} {a : Nat → Nat} {t : Nat → ClassId} {o : Nat} {am : Nat → Nat} {tm : Nat → ClassId} {x3 : Int32} {cells slots : Nat} {az : Nat → Nat} {tz : Nat → ClassId} (hx : p.tables.exec = Jvm.exec) (hb : cd.code = cL_law) (hml : cd.maxLocals = 4) (hown : s.vm.findClass RL = some m.cls) (hts : ∀ w ∈ wm_law, w.before #[Value.ref b] s = true) (hX : va_X b L xs s s.heap) (hbl : b < s.heap.size) (hL : L ≤ 3584) (hN : xN s) (hZ : xZ (a 186) s s.heap) (hKT : va_K D vwCl (xtT t) s) (hKM : va_K D vwCl (mT tm) s) (hcs : cells ≤ 600000 ∧ slots ≤ 7302249) (hx3 : 0 ≤ x3.toInt ∧ x3.toInt + 7 ≤ (L : Int)) (hKZ : va_K D vwCl (xtZ tz) s) (i : Nat → Int32) (q : Int64) (c : Nat → Nat → Int32) (d : Nat → Nat → Int64) (jm : Nat → Int32) (qm : Int64) (em : Nat → Nat → Int32) (dm : Nat → Nat → Int64) (iz : Nat → Int32) (cz : Nat → Nat → Int32) (dz : Nat → Nat → Int64) (H : Heap) (locs : List Loc) (ls : Array Slot) (kk : LK p l e s m below meth cd b D (.ref (az 166)) a t (xwZ .null az tz iz 0 cz dz) o am tm x3 cells slots) (hIz : xInv iz cz) (hLI : LI i c jm em) (hP : va_P D vwCl (xwT (.ref (az 166)) a t i q c d ++ (xwZ .null az tz iz 0 cz dz ++ mW o am tm jm qm em dm)) H) (hD : va_D (fun q : Nat => s.heap.size ≤ q) (xwT (.ref (az 166)) a t i q c d ++ (xwZ .null az tz iz 0 cz dz ++ mW o am tm jm qm em dm))) (hS : va_S (fun q : Nat => s.heap.size ≤ q) s.heap H locs) (hl : lv_has ls 4 [(3, .int x3), (2, .ref o), (1, .ref (a 100)), (0, .ref b)]) : W p l e room_1 s m #[Value.ref b] below meth cd H locs cells slots (lw_Z below #[Value.ref b] s) (F0 m 1389 ls []) := by
  have hbA : ¬ (fun q : Nat => s.heap.size ≤ q) b := Nat.not_le.mpr hbl
  have hA : ∀ q : Nat, s.heap.size ≤ q → (fun q : Nat => s.heap.size ≤ q) q := fun _ h => h
  obtain ⟨hI, hs_F, hs_P, htr, hM, hs_S, hs_J, hR⟩ := hLI
  have hIU : xInv (fun k => if k < 166 then i k else iz k) (fun k => if k < 166 then c k else cz k) := xInv_m hI hIz
  have hKU : va_K D vwCl (xtU (fun k => if k < 166 then t k else if k = 186 then t 186 else tz k)) s := hKT.app hKZ
  have hPU : va_P D vwCl (xwU (.ref (az 166)) (fun k => if k < 166 then a k else if k = 186 then a 186 else az k) (fun k => if k < 166 then t k else if k = 186 then t 186 else tz k) (fun k => if k < 166 then i k else iz k) q (fun k => if k < 166 then c k else cz k) d) H := by rw [← List.append_assoc] at hP; exact vP_l hP
  refine lv_aload_n hx hb dL_law_1389 rfl (lv_at hl 2 rfl) ?_
  refine lv_aload_n hx hb dL_law_1390 rfl (lv_at hl 3 rfl) ?_
  refine lv_iload_n hx hb dL_law_1391 rfl (lv_at hl 0 rfl) ?_
  refine lv_iconst (v := 1) hx hb dL_law_1392 (by decide) ?_
  refine lv_iadd hx hb dL_law_1393 ?_
  refine lv_topi (fun x1 ex1 => ?_)
  have tx1 := ti_add (a := x3.toInt) (b := 1) ex1 rfl (by decide) (by omega) (by omega)
  refine va_sld hx hb hX hbl hbA hS (vp_in_iff.mpr (by have h9 : x1.toInt = (x3.toInt + 1) := tx1; omega)) dL_law_1394 ?_
  refine lv_topi (fun x2 ex2 => ?_)
  refine ro_calli (va_runV (As := [.int x2]) (rest := []) ⟨hx, hb, hml, hown, hts⟩ (x_X11_count_s l D H.size (fun k => if k < 166 then a k else if k = 186 then a 186 else az k) (fun k => if k < 166 then t k else if k = 186 then t 186 else tz k) (fun k => if k < 166 then i k else iz k) q (fun k => if k < 166 then c k else cz k) d x2 hIU ) (cwV 1 hts gm_law_X11_count_s_156 rfl rfl rfl (by decide +kernel) ⟨Nat.le_of_ble_eq_true rfl, Nat.le_of_ble_eq_true rfl⟩) (yA_V hN (xZ_k hZ hS hA) hKU hPU (ci := 11) (q0 := 0) rfl rfl) rfl rfl hl.1 rfl (lv_room (Nat.le_of_ble_eq_true rfl)) dL_law_1395 hcs) hS hA hP (fun r3 u3 H locs hw3 hP hS => ?_)
  refine lv_pop hx hb dL_law_1398 rfl ?_
  refine lv_aload_n hx hb dL_law_1399 rfl (lv_at hl 1 rfl) ?_
  refine lv_aload_n hx hb dL_law_1400 rfl (lv_at hl 3 rfl) ?_
  refine lv_iload_n hx hb dL_law_1401 rfl (lv_at hl 0 rfl) ?_
  refine lv_iconst (v := 1) hx hb dL_law_1402 (by decide) ?_
  refine lv_iadd hx hb dL_law_1403 ?_
  refine lv_topi (fun x4 ex4 => ?_)
  have tx4 := ti_add (a := x3.toInt) (b := 1) ex4 rfl (by decide) (by omega) (by omega)
  refine va_sld hx hb hX hbl hbA hS (vp_in_iff.mpr (by have h9 : x4.toInt = (x3.toInt + 1) := tx4; omega)) dL_law_1404 ?_
  refine lv_topi (fun x5 ex5 => ?_)
  have hP : va_P D vwCl ((xwT (.ref (az 166)) a t i q c d ++ (xwZ .null az tz iz 0 cz dz)) ++ mW o am tm jm qm em dm) H := by rw [List.append_assoc]; exact hP
  have hD : va_D (fun q : Nat => s.heap.size ≤ q) ((xwT (.ref (az 166)) a t i q c d ++ (xwZ .null az tz iz 0 cz dz)) ++ mW o am tm jm qm em dm) := by rw [List.append_assoc]; exact hD
  refine ro_calli (va_runV (As := [.int x5]) (rest := []) ⟨hx, hb, hml, hown, hts⟩ (s_X12_count l D H.size o am tm jm qm em dm x5 hM ) (cwV 1 hts gm_law_X12_count_159 rfl rfl rfl (by decide +kernel) ⟨Nat.le_of_ble_eq_true rfl, Nat.le_of_ble_eq_true rfl⟩) (pA_V hKM (vP_r hP) (ci := 12) (q0 := 0) rfl rfl) rfl rfl hl.1 rfl (lv_room (Nat.le_of_ble_eq_true rfl)) dL_law_1405 hcs) hS hA hP (fun r6 u6 H locs hw6 hP hS => ?_)
  have hP : va_P D vwCl (xwT (.ref (az 166)) a t i q c d ++ ((xwZ .null az tz iz 0 cz dz) ++ mW o am tm jm qm em dm)) H := by rw [← List.append_assoc]; exact hP
  have hD : va_D (fun q : Nat => s.heap.size ≤ q) (xwT (.ref (az 166)) a t i q c d ++ ((xwZ .null az tz iz 0 cz dz) ++ mW o am tm jm qm em dm)) := by rw [← List.append_assoc]; exact hD
  refine lv_pop hx hb dL_law_1408 rfl ?_
  refine lv_goto (tgt := 1461) hx hb dL_law_1409 (by decide) ?_
  exact kk i q c d jm qm em dm _ _ _ ⟨hI, hs_F, hs_P, htr, hM, hs_S, hs_J, hR⟩ hP hD hS (lv_sub hl [0, 1, 2, 3] rfl)

set_option maxHeartbeats 4000000 in
set_option maxRecDepth 100000 in
theorem law_count_n {p : Program} {l : Launch} {e : Env} {s : State} {m : MethodId} {below : List Frame} {meth : Method} {cd : Code} {b L : Nat} {xs : Nat → Int32} {D : va_G} {a : Nat → Nat} {t : Nat → ClassId} {o : Nat} {am : Nat → Nat} {tm : Nat → ClassId} {x3 : Int32} {cells slots : Nat} (hx : p.tables.exec = Jvm.exec) (hb : cd.code = cL_law) (hml : cd.maxLocals = 4) (hown : s.vm.findClass RL = some m.cls) (hts : ∀ w ∈ wm_law, w.before #[Value.ref b] s = true) (hX : va_X b L xs s s.heap) (hbl : b < s.heap.size) (hL : L ≤ 3584) (hN : xN s) (hZ : xZ (a 186) s s.heap) (hKT : va_K D vwCl (xtT t) s) (hKM : va_K D vwCl (mT tm) s) (hcs : cells ≤ 600000 ∧ slots ≤ 7302249) (hx3 : 0 ≤ x3.toInt ∧ x3.toInt + 7 ≤ (L : Int)) (kk : LK p l e s m below meth cd b D .null a t [] o am tm x3 cells slots) (i : Nat → Int32) (q : Int64) (c : Nat → Nat → Int32) (d : Nat → Nat → Int64) (jm : Nat → Int32) (qm : Int64) (em : Nat → Nat → Int32) (dm : Nat → Nat → Int64) (H : Heap) (locs : List Loc) (ls : Array Slot) (hLI : LI i c jm em) (hP : va_P D vwCl (xwT .null a t i q c d ++ (([] : va_W) ++ mW o am tm jm qm em dm)) H) (hD : va_D (fun q : Nat => s.heap.size ≤ q) (xwT .null a t i q c d ++ (([] : va_W) ++ mW o am tm jm qm em dm))) (hS : va_S (fun q : Nat => s.heap.size ≤ q) s.heap H locs) (hl : lv_has ls 4 [(3, .int x3), (2, .ref o), (1, .ref (a 100)), (0, .ref b)]) : W p l e room_1 s m #[Value.ref b] below meth cd H locs cells slots (lw_Z below #[Value.ref b] s) (F0 m 1389 ls []) := by
  have hbA : ¬ (fun q : Nat => s.heap.size ≤ q) b := Nat.not_le.mpr hbl
  have hA : ∀ q : Nat, s.heap.size ≤ q → (fun q : Nat => s.heap.size ≤ q) q := fun _ h => h
  obtain ⟨hI, hs_F, hs_P, htr, hM, hs_S, hs_J, hR⟩ := hLI
  refine lv_aload_n hx hb dL_law_1389 rfl (lv_at hl 2 rfl) ?_
  refine lv_aload_n hx hb dL_law_1390 rfl (lv_at hl 3 rfl) ?_
  refine lv_iload_n hx hb dL_law_1391 rfl (lv_at hl 0 rfl) ?_
  refine lv_iconst (v := 1) hx hb dL_law_1392 (by decide) ?_
  refine lv_iadd hx hb dL_law_1393 ?_
  refine lv_topi (fun x1 ex1 => ?_)
  have tx1 := ti_add (a := x3.toInt) (b := 1) ex1 rfl (by decide) (by omega) (by omega)
  refine va_sld hx hb hX hbl hbA hS (vp_in_iff.mpr (by have h9 : x1.toInt = (x3.toInt + 1) := tx1; omega)) dL_law_1394 ?_
  refine lv_topi (fun x2 ex2 => ?_)
  refine ro_calli (va_runV (As := [.int x2]) (rest := []) ⟨hx, hb, hml, hown, hts⟩ (x_X11_count_n l D H.size a t i q c d x2 hI ) (cwV 1 hts gm_law_X11_count_n_156 rfl rfl rfl (by decide +kernel) ⟨Nat.le_of_ble_eq_true rfl, Nat.le_of_ble_eq_true rfl⟩) (yA_V hN (xZ_k hZ hS hA) hKT (vP_l hP) (ci := 11) (q0 := 0) rfl rfl) rfl rfl hl.1 rfl (lv_room (Nat.le_of_ble_eq_true rfl)) dL_law_1395 hcs) hS hA hP (fun r3 u3 H locs hw3 hP hS => ?_)
  refine lv_pop hx hb dL_law_1398 rfl ?_
  refine lv_aload_n hx hb dL_law_1399 rfl (lv_at hl 1 rfl) ?_
  refine lv_aload_n hx hb dL_law_1400 rfl (lv_at hl 3 rfl) ?_
  refine lv_iload_n hx hb dL_law_1401 rfl (lv_at hl 0 rfl) ?_
  refine lv_iconst (v := 1) hx hb dL_law_1402 (by decide) ?_
  refine lv_iadd hx hb dL_law_1403 ?_
  refine lv_topi (fun x4 ex4 => ?_)
  have tx4 := ti_add (a := x3.toInt) (b := 1) ex4 rfl (by decide) (by omega) (by omega)
  refine va_sld hx hb hX hbl hbA hS (vp_in_iff.mpr (by have h9 : x4.toInt = (x3.toInt + 1) := tx4; omega)) dL_law_1404 ?_
  refine lv_topi (fun x5 ex5 => ?_)
  have hP : va_P D vwCl ((xwT .null a t i q c d ++ ([] : va_W)) ++ mW o am tm jm qm em dm) H := by rw [List.append_assoc]; exact hP
  have hD : va_D (fun q : Nat => s.heap.size ≤ q) ((xwT .null a t i q c d ++ ([] : va_W)) ++ mW o am tm jm qm em dm) := by rw [List.append_assoc]; exact hD
  refine ro_calli (va_runV (As := [.int x5]) (rest := []) ⟨hx, hb, hml, hown, hts⟩ (s_X12_count l D H.size o am tm jm qm em dm x5 hM ) (cwV 1 hts gm_law_X12_count_159 rfl rfl rfl (by decide +kernel) ⟨Nat.le_of_ble_eq_true rfl, Nat.le_of_ble_eq_true rfl⟩) (pA_V hKM (vP_r hP) (ci := 12) (q0 := 0) rfl rfl) rfl rfl hl.1 rfl (lv_room (Nat.le_of_ble_eq_true rfl)) dL_law_1405 hcs) hS hA hP (fun r6 u6 H locs hw6 hP hS => ?_)
  have hP : va_P D vwCl (xwT .null a t i q c d ++ (([] : va_W) ++ mW o am tm jm qm em dm)) H := by rw [← List.append_assoc]; exact hP
  have hD : va_D (fun q : Nat => s.heap.size ≤ q) (xwT .null a t i q c d ++ (([] : va_W) ++ mW o am tm jm qm em dm)) := by rw [← List.append_assoc]; exact hD
  refine lv_pop hx hb dL_law_1408 rfl ?_
  refine lv_goto (tgt := 1461) hx hb dL_law_1409 (by decide) ?_
  exact kk i q c d jm qm em dm _ _ _ ⟨hI, hs_F, hs_P, htr, hM, hs_S, hs_J, hR⟩ hP hD hS (lv_sub hl [0, 1, 2, 3] rfl)

