set_option maxHeartbeats 4000000 in
set_option maxRecDepth 100000 in
theorem law_seek_s {g7 : Int32} {g6 : Nat → Int32} {p : Program} {l : Launch} {e : Env} {s : State} {m : MethodId} {below : List Frame} {meth : Method} {cd : Code} {b L : Nat} {xs : Nat → Int32} {D : va_G} {a : Nat → Nat} {t : Nat → ClassId} {o : Nat} {am : Nat → Nat} {tm : Nat → ClassId} {x3 : Int32} {cells slots : Nat} {az : Nat → Nat} {tz : Nat → ClassId} (hx : p.tables.exec = Jvm.exec) (hb : cd.code = cL_law) (hml : cd.maxLocals = 4) (hown : s.vm.findClass RL = some m.cls) (hts : ∀ w ∈ wm_law, w.before #[Value.ref b] s = true) (hX : va_X b L xs s s.heap) (hbl : b < s.heap.size) (hL : L ≤ 3584) (hN : xN s) (hZ : xZ (a 186) s s.heap) (hKT : va_K D vwCl (xtT t) s) (hKM : va_K D vwCl (mT tm) s) (hcs : cells ≤ 600000 ∧ slots ≤ 7302249) (hx3 : 0 ≤ x3.toInt ∧ x3.toInt + 7 ≤ (L : Int)) (hKZ : va_K D vwCl (xtZ tz) s) (i : Nat → Int32) (q : Int64) (c : Nat → Nat → Int32) (d : Nat → Nat → Int64) (jm : Nat → Int32) (qm : Int64) (em : Nat → Nat → Int32) (dm : Nat → Nat → Int64) (iz : Nat → Int32) (cz : Nat → Nat → Int32) (dz : Nat → Nat → Int64) (H : Heap) (locs : List Loc) (ls : Array Slot) (kkS : LKS p l e s m below meth cd b D az tz a t o am tm x3 cells slots) (hIz : xInv iz cz) (hSl : SkL iz cz g7 g6) (hLI : LI i c jm em g7 g6) (hP : va_P D vwCl (xwT (.ref (az 166)) a t i q c d ++ (xwZ .null (fun k => if k < 166 then a k else az k) tz iz 0 cz dz ++ mW o am tm jm qm em dm)) H) (hD : va_D (fun q : Nat => s.heap.size ≤ q) (xwT (.ref (az 166)) a t i q c d ++ (xwZ .null (fun k => if k < 166 then a k else az k) tz iz 0 cz dz ++ mW o am tm jm qm em dm))) (hS : va_S (fun q : Nat => s.heap.size ≤ q) s.heap H locs) (hl : lv_has ls 4 [(3, .int x3), (2, .ref o), (1, .ref (a 100)), (0, .ref b)]) : W p l e room_1 s m #[Value.ref b] below meth cd H locs cells slots (lw_Z below #[Value.ref b] s) (F0 m 960 ls []) := by
  have hbA : ¬ (fun q : Nat => s.heap.size ≤ q) b := Nat.not_le.mpr hbl
  have hA : ∀ q : Nat, s.heap.size ≤ q → (fun q : Nat => s.heap.size ≤ q) q := fun _ h => h
  obtain ⟨hI, hs_F, hs_P, htr, hM, hs_S, hs_J, hR⟩ := hLI
  have hI0 := hI
  have hM0 := hM
  obtain ⟨hR, hPA, hKO, hSO, hSN, hDR, hRD, hTL, hFT, hSZ, hG7, hG6, hCT⟩ := hR
  have hRR := RR_of hI0 hs_F
  have hZE : ∀ t : Int, 0 ≤ t → t < (i 111).toInt → zX (c 106) (c 108) (i 111).toInt t = kS (em 3) (em 6) t := (fun t9 h9 h8 => by rw [zX_e ⟨h9, h8⟩]; exact xS_e (kn := i 110) (N := (jm 5).toInt) hSO hPA hKO (fun j hj => by have h9 := hs_S.1 j hj; have h8 := hR.1; omega) (fun j => (show 0 ≤ (em 6 j).toInt ∧ (em 6 j).toInt ≤ 23 from hM0.2 6 j).1) (by have h7 := hR.2.1; omega) (show 0 ≤ (c 106 _).toInt ∧ (c 106 _).toInt ≤ 5 from hI0.2 106 _))
  have hZM : zX (c 106) (c 108) (i 111).toInt = zM (em 3) (em 6) (i 111).toInt := zXM hZE
  have hIU : xInv (fun k => if k < 166 then i k else iz k) (fun k => if k < 166 then c k else cz k) := xInv_m hI hIz
  have hKU : va_K D vwCl (xtU (fun k => if k < 166 then t k else if k = 186 then t 186 else tz k)) s := hKT.app hKZ
  have hPU : va_P D vwCl ((xwU (.ref (az 166)) (fun k => if k < 166 then a k else if k = 186 then a 186 else az k) (fun k => if k < 166 then t k else if k = 186 then t 186 else tz k) (fun k => if k < 166 then i k else iz k) q (fun k => if k < 166 then c k else cz k) d) ++ mW o am tm jm qm em dm) H := by rw [← List.append_assoc] at hP; exact hP
  have hDU : va_D (fun q : Nat => s.heap.size ≤ q) ((xwU (.ref (az 166)) (fun k => if k < 166 then a k else if k = 186 then a 186 else az k) (fun k => if k < 166 then t k else if k = 186 then t 186 else tz k) (fun k => if k < 166 then i k else iz k) q (fun k => if k < 166 then c k else cz k) d) ++ mW o am tm jm qm em dm) := by rw [← List.append_assoc] at hD; exact hD
  refine lv_aload_n hx hb dL_law_960 rfl (lv_at hl 2 rfl) ?_
  refine lv_aload_n hx hb dL_law_961 rfl (lv_at hl 3 rfl) ?_
  refine lv_iload_n hx hb dL_law_962 rfl (lv_at hl 0 rfl) ?_
  refine lv_iconst (v := 1) hx hb dL_law_963 (by decide +kernel) ?_
  refine lv_iadd hx hb dL_law_964 ?_
  refine lv_topi (fun x101 ex101 => ?_)
  have tx101 := ti_add (a := x3.toInt) (b := 1) ex101 rfl (by decide +kernel) (by omega) (by omega)
  refine va_sld hx hb hX hbl hbA hS (vp_in_iff.mpr (by have h9 : x101.toInt = (x3.toInt + 1) := tx101; omega)) dL_law_965 ?_
  refine lv_topi (fun x102 ex102 => ?_)
  refine lv_aload_n hx hb dL_law_966 rfl (lv_at hl 3 rfl) ?_
  refine lv_iload_n hx hb dL_law_967 rfl (lv_at hl 0 rfl) ?_
  refine lv_iconst (v := 2) hx hb dL_law_968 (by decide +kernel) ?_
  refine lv_iadd hx hb dL_law_969 ?_
  refine lv_topi (fun x103 ex103 => ?_)
  have tx103 := ti_add (a := x3.toInt) (b := 2) ex103 rfl (by decide +kernel) (by omega) (by omega)
  refine va_sld hx hb hX hbl hbA hS (vp_in_iff.mpr (by have h9 : x103.toInt = (x3.toInt + 2) := tx103; omega)) dL_law_970 ?_
  refine lv_topi (fun x104 ex104 => ?_)
  refine lv_aload_n hx hb dL_law_971 rfl (lv_at hl 3 rfl) ?_
  refine lv_iload_n hx hb dL_law_972 rfl (lv_at hl 0 rfl) ?_
  refine lv_iconst (v := 3) hx hb dL_law_973 (by decide +kernel) ?_
  refine lv_iadd hx hb dL_law_974 ?_
  refine lv_topi (fun x105 ex105 => ?_)
  have tx105 := ti_add (a := x3.toInt) (b := 3) ex105 rfl (by decide +kernel) (by omega) (by omega)
  refine va_sld hx hb hX hbl hbA hS (vp_in_iff.mpr (by have h9 : x105.toInt = (x3.toInt + 3) := tx105; omega)) dL_law_975 ?_
  refine lv_topi (fun x106 ex106 => ?_)
  refine lc_i (wr := mW o am tm jm qm em dm) (va_runV (As := [.int x102, .int x104, .int x106]) (rest := []) ⟨hx, hb, hml, hown, hts⟩ (x_X11_seek_sS l D H.size (fun k => if k < 166 then a k else if k = 186 then a 186 else az k) (fun k => if k < 166 then t k else if k = 186 then t 186 else tz k) (fun k => if k < 166 then i k else iz k) q (fun k => if k < 166 then c k else cz k) d x102 x104 x106 hIU htr hs_P (TL_pn hTL)) (cwV 3 hts gm_law_X11_seek_sS_116 rfl rfl rfl (by decide +kernel) ⟨Nat.le_of_ble_eq_true rfl, Nat.le_of_ble_eq_true rfl⟩) (yB_V hN (xZ_k hZ hS hA) (xZ_n hZ (vD_l hDU)) hKU (vP_l hPU) (vD_l hDU) (ci := 11) (q0 := 0) rfl rfl) rfl rfl hl.1 rfl (lv_room (Nat.le_of_ble_eq_true rfl)) dL_law_976 hcs) hS hA hPU hDU (fun r107 u107 H locs hw107 _ hP hD hS => ?_)
  obtain ⟨i107, q107, c107, d107⟩ := u107
  have hw107 : True ∧ xInv i107 c107 ∧ (∀ k, k ∉ ([173, 174, 175, 176, 177, 183, 185] : List Nat) → i107 k = (fun k => if k < 166 then i k else iz k) k) ∧ (∀ k, k ∉ ([167, 168, 169, 170, 171, 172, 179, 181, 182] : List Nat) → c107 k = (fun k => if k < 166 then c k else cz k) k) ∧ (SkX (0 ≤ x102.toInt ∧ x102.toInt < ((fun k => if k < 166 then i k else iz k) 111).toInt ∧ 0 ≤ x104.toInt ∧ x104.toInt < ((fun k => if k < 166 then i k else iz k) 111).toInt ∧ 0 ≤ x106.toInt ∧ x106.toInt ≤ 300) (((fun k => if k < 166 then i k else iz k) 146).toInt = 1) r107.toInt ((i107 173) = ((fun k => if k < 166 then i k else iz k) 173) ∧ (c107 172) = ((fun k => if k < 166 then c k else cz k) 172)) (RpX (rwX ((fun k => if k < 166 then c k else cz k) 179) ((fun k => if k < 166 then c k else cz k) 150) 0) (c107 167) (c107 170) (c107 171) (i107 174) (i107 175) (srB (okC (zX ((fun k => if k < 166 then c k else cz k) 106) ((fun k => if k < 166 then c k else cz k) 108) ((fun k => if k < 166 then i k else iz k) 111).toInt) ((fun k => if k < 166 then c k else cz k) 129) ((fun k => if k < 166 then c k else cz k) 130) ((fun k => if k < 166 then c k else cz k) 133) ((fun k => if k < 166 then c k else cz k) 134) ((fun k => if k < 166 then c k else cz k) 109) ((fun k => if k < 166 then c k else cz k) 121) ((fun k => if k < 166 then c k else cz k) 114) ((fun k => if k < 166 then i k else iz k) 147).toInt ((fun k => if k < 166 then i k else iz k) 111).toInt) (nxC (zX ((fun k => if k < 166 then c k else cz k) 106) ((fun k => if k < 166 then c k else cz k) 108) ((fun k => if k < 166 then i k else iz k) 111).toInt) ((fun k => if k < 166 then c k else cz k) 129) ((fun k => if k < 166 then i k else iz k) 147).toInt) (smC ((fun k => if k < 166 then i k else iz k) 111).toInt) (glC x102.toInt x104.toInt) ((fun k => if k < 166 then i k else iz k) 111).toInt x106.toInt.toNat (b0B (glC x102.toInt x104.toInt) (rwX ((fun k => if k < 166 then c k else cz k) 179) ((fun k => if k < 166 then c k else cz k) 150) 0))) ∧ TpR (c107 170) (c107 171) (i107 175) (i107 173) (c107 172) ∧ r107 = (i107 173))) ∧ (∀ o9 : Nat, 30 ≤ o9 → (c107 179) o9 = ((fun k => if k < 166 then c k else cz k) 179) o9) := hw107
  obtain ⟨hw107, hI, hei107, hec107, hxp107_0, hxp107_1⟩ := hw107
  have hxp107_0 : SkX (0 ≤ x102.toInt ∧ x102.toInt < (i 111).toInt ∧ 0 ≤ x104.toInt ∧ x104.toInt < (i 111).toInt ∧ 0 ≤ x106.toInt ∧ x106.toInt ≤ 300) ((i 146).toInt = 1) r107.toInt ((i107 173) = (iz 173) ∧ (c107 172) = (cz 172)) (RpX (rwX (cz 179) (c 150) 0) (c107 167) (c107 170) (c107 171) (i107 174) (i107 175) (srB (okC (zX (c 106) (c 108) (i 111).toInt) (c 129) (c 130) (c 133) (c 134) (c 109) (c 121) (c 114) (i 147).toInt (i 111).toInt) (nxC (zX (c 106) (c 108) (i 111).toInt) (c 129) (i 147).toInt) (smC (i 111).toInt) (glC x102.toInt x104.toInt) (i 111).toInt x106.toInt.toNat (b0B (glC x102.toInt x104.toInt) (rwX (cz 179) (c 150) 0))) ∧ TpR (c107 170) (c107 171) (i107 175) (i107 173) (c107 172) ∧ r107 = (i107 173)) := hxp107_0
  have hxp107_1 : ∀ o9 : Nat, 30 ≤ o9 → (c107 179) o9 = (cz 179) o9 := hxp107_1
  have hP : va_P D vwCl (xwT (.ref (az 166)) a t i107 q107 c107 d107 ++ (xwZ .null (fun k => if k < 166 then a k else az k) tz i107 0 c107 d107 ++ mW o am tm jm qm em dm)) H := by rw [← List.append_assoc]; exact hP
  have hD : va_D (fun q : Nat => s.heap.size ≤ q) (xwT (.ref (az 166)) a t i107 q107 c107 d107 ++ (xwZ .null (fun k => if k < 166 then a k else az k) tz i107 0 c107 d107 ++ mW o am tm jm qm em dm)) := by rw [← List.append_assoc]; exact hD
  refine lv_pop hx hb dL_law_979 rfl ?_
  refine lv_aload_n hx hb dL_law_980 rfl (lv_at hl 1 rfl) ?_
  refine lv_aload_n hx hb dL_law_981 rfl (lv_at hl 3 rfl) ?_
  refine lv_iload_n hx hb dL_law_982 rfl (lv_at hl 0 rfl) ?_
  refine lv_iconst (v := 1) hx hb dL_law_983 (by decide +kernel) ?_
  refine lv_iadd hx hb dL_law_984 ?_
  refine lv_topi (fun x108 ex108 => ?_)
  have tx108 := ti_add (a := x3.toInt) (b := 1) ex108 rfl (by decide +kernel) (by omega) (by omega)
  refine va_sld hx hb hX hbl hbA hS (vp_in_iff.mpr (by have h9 : x108.toInt = (x3.toInt + 1) := tx108; omega)) dL_law_985 ?_
  refine lv_topi (fun x109 ex109 => ?_)
  refine lv_aload_n hx hb dL_law_986 rfl (lv_at hl 3 rfl) ?_
  refine lv_iload_n hx hb dL_law_987 rfl (lv_at hl 0 rfl) ?_
  refine lv_iconst (v := 2) hx hb dL_law_988 (by decide +kernel) ?_
  refine lv_iadd hx hb dL_law_989 ?_
  refine lv_topi (fun x110 ex110 => ?_)
  have tx110 := ti_add (a := x3.toInt) (b := 2) ex110 rfl (by decide +kernel) (by omega) (by omega)
  refine va_sld hx hb hX hbl hbA hS (vp_in_iff.mpr (by have h9 : x110.toInt = (x3.toInt + 2) := tx110; omega)) dL_law_990 ?_
  refine lv_topi (fun x111 ex111 => ?_)
  refine lv_aload_n hx hb dL_law_991 rfl (lv_at hl 3 rfl) ?_
  refine lv_iload_n hx hb dL_law_992 rfl (lv_at hl 0 rfl) ?_
  refine lv_iconst (v := 3) hx hb dL_law_993 (by decide +kernel) ?_
  refine lv_iadd hx hb dL_law_994 ?_
  refine lv_topi (fun x112 ex112 => ?_)
  have tx112 := ti_add (a := x3.toInt) (b := 3) ex112 rfl (by decide +kernel) (by omega) (by omega)
  refine va_sld hx hb hX hbl hbA hS (vp_in_iff.mpr (by have h9 : x112.toInt = (x3.toInt + 3) := tx112; omega)) dL_law_995 ?_
  refine lv_topi (fun x113 ex113 => ?_)
  have hP : va_P D vwCl ((xwT (.ref (az 166)) a t i107 q107 c107 d107 ++ (xwZ .null (fun k => if k < 166 then a k else az k) tz i107 0 c107 d107)) ++ mW o am tm jm qm em dm) H := by rw [List.append_assoc]; exact hP
  have hD : va_D (fun q : Nat => s.heap.size ≤ q) ((xwT (.ref (az 166)) a t i107 q107 c107 d107 ++ (xwZ .null (fun k => if k < 166 then a k else az k) tz i107 0 c107 d107)) ++ mW o am tm jm qm em dm) := by rw [List.append_assoc]; exact hD
  refine rc_i (wr := (xwT (.ref (az 166)) a t i107 q107 c107 d107 ++ (xwZ .null (fun k => if k < 166 then a k else az k) tz i107 0 c107 d107))) (va_runV (As := [.int x109, .int x111, .int x113]) (rest := []) ⟨hx, hb, hml, hown, hts⟩ (s_X12_seek_k l D H.size o am tm jm qm em dm x109 x111 x113 hM hs_S hs_J (by have h9 := NoD_of (n := (jm 8).toInt) (fo := em 9) (le := em 10) (sa := em 13) hTL; rw [hZM, hR.2.1] at h9; exact h9)) (cwV 3 hts gm_law_X12_seek_119 rfl rfl rfl (by decide +kernel) ⟨Nat.le_of_ble_eq_true rfl, Nat.le_of_ble_eq_true rfl⟩) (pB_V hKM (vP_r hP) (vD_r hD) (ci := 12) (q0 := 0) rfl rfl) rfl rfl hl.1 rfl (lv_room (Nat.le_of_ble_eq_true rfl)) dL_law_996 hcs) hS hA hP hD (fun r114 u114 H locs hw114 hP hD hS => ?_)
  obtain ⟨i114, q114, c114, d114⟩ := u114
  have hw114 : True ∧ mInv i114 c114 ∧ (∀ k, k ∉ ([16, 17, 18, 19, 35, 36, 40, 41, 42, 50, 57, 58, 59] : List Nat) → i114 k = jm k) ∧ (∀ k, k ∉ ([23, 24, 25, 26, 34, 38, 39, 43, 44, 45, 46, 47, 48, 49, 51, 52, 53, 54, 55, 56] : List Nat) → c114 k = em k) ∧ (SJ (c114 3) (c114 6) (c114 9) (c114 10) (c114 11) (c114 13) (i114 2).toInt (i114 5).toInt (i114 8).toInt) ∧ (TJ (c114 3) (c114 6) (c114 23) (c114 24) (c114 29) (c114 30) (i114 5).toInt (i114 22).toInt (i114 27).toInt) ∧ (SkX (0 ≤ x109.toInt ∧ x109.toInt < (jm 5).toInt ∧ 0 ≤ x111.toInt ∧ x111.toInt < (jm 5).toInt ∧ 0 ≤ x113.toInt ∧ x113.toInt ≤ 300) (¬ (jm 22).toInt = -9) r114.toInt ((i114 57) = (jm 57) ∧ (c114 56) = (em 56)) (SkM (SiM (em 3) (em 4) (em 6) (em 7) (em 9) (em 10) (em 11) (em 12) (em 13) (jm 5).toInt (jm 8).toInt (jm 22).toInt x109.toInt x111.toInt) (jm 5).toInt (em 23) (em 24) (em 25) (em 26) (c114 51) (c114 52) (c114 53) (c114 54) (c114 55) (i114 50) x113.toInt.toNat r114.toInt (i114 57).toInt (c114 56))) ∧ (Sk4 (c114 23) (c114 24) (c114 25) (c114 26) (em 23) (em 24) (em 25) (em 26) (jm 5).toInt) := hw114
  obtain ⟨hw114, hM, hei114, hec114, hxp114_0, hxp114_1, hxp114_2, hxp114_3⟩ := hw114
  have hP : va_P D vwCl (xwT (.ref (az 166)) a t i107 q107 c107 d107 ++ ((xwZ .null (fun k => if k < 166 then a k else az k) tz i107 0 c107 d107) ++ mW o am tm i114 q114 c114 d114)) H := by rw [← List.append_assoc]; exact hP
  have hD : va_D (fun q : Nat => s.heap.size ≤ q) (xwT (.ref (az 166)) a t i107 q107 c107 d107 ++ ((xwZ .null (fun k => if k < 166 then a k else az k) tz i107 0 c107 d107) ++ mW o am tm i114 q114 c114 d114)) := by rw [← List.append_assoc]; exact hD
  have hag0 : x109.toInt = x102.toInt := congrArg Int32.toInt (by rw [ex109, ex108, ex102, ex101])
  have hag1 : x111.toInt = x104.toInt := congrArg Int32.toInt (by rw [ex111, ex110, ex104, ex103])
  have hag2 : x113.toInt = x106.toInt := congrArg Int32.toInt (by rw [ex113, ex112, ex106, ex105])
  refine lv_pop hx hb dL_law_999 rfl ?_
  refine lv_goto (tgt := 1461) hx hb dL_law_1000 (by decide +kernel) ?_
  exact kkS i107 q107 c107 d107 i107 c107 d107 i114 q114 c114 d114 (i114 57) (c114 56) _ _ _ ⟨hI, (by rw [show c107 113 = c 113 from hec107 113 (by decide +kernel), show c107 115 = c 115 from hec107 115 (by decide +kernel)]; exact hs_F), (by rw [show i107 146 = i 146 from hei107 146 (by decide +kernel), show i107 147 = i 147 from hei107 147 (by decide +kernel), show i107 148 = i 148 from hei107 148 (by decide +kernel), show i107 156 = i 156 from hei107 156 (by decide +kernel), show c107 144 = c 144 from hec107 144 (by decide +kernel), show c107 145 = c 145 from hec107 145 (by decide +kernel), show c107 150 = c 150 from hec107 150 (by decide +kernel)]; exact hs_P), (by rw [show i107 141 = i 141 from hei107 141 (by decide +kernel)]; exact htr), hM, hxp114_0, hxp114_1, (by rw [show i107 110 = i 110 from hei107 110 (by decide +kernel), show i107 111 = i 111 from hei107 111 (by decide +kernel), show i107 165 = i 165 from hei107 165 (by decide +kernel), show i107 124 = i 124 from hei107 124 (by decide +kernel), show i107 146 = i 146 from hei107 146 (by decide +kernel), show i107 147 = i 147 from hei107 147 (by decide +kernel), show i107 148 = i 148 from hei107 148 (by decide +kernel), show i107 154 = i 154 from hei107 154 (by decide +kernel), show i107 125 = i 125 from hei107 125 (by decide +kernel), show c107 107 = c 107 from hec107 107 (by decide +kernel), show c107 105 = c 105 from hec107 105 (by decide +kernel), show c107 108 = c 108 from hec107 108 (by decide +kernel), show c107 106 = c 106 from hec107 106 (by decide +kernel), show c107 113 = c 113 from hec107 113 (by decide +kernel), show c107 114 = c 114 from hec107 114 (by decide +kernel), show c107 115 = c 115 from hec107 115 (by decide +kernel), show c107 116 = c 116 from hec107 116 (by decide +kernel), show c107 117 = c 117 from hec107 117 (by decide +kernel), show c107 118 = c 118 from hec107 118 (by decide +kernel), show c107 119 = c 119 from hec107 119 (by decide +kernel), show c107 120 = c 120 from hec107 120 (by decide +kernel), show c107 121 = c 121 from hec107 121 (by decide +kernel), show c107 127 = c 127 from hec107 127 (by decide +kernel), show c107 129 = c 129 from hec107 129 (by decide +kernel), show c107 130 = c 130 from hec107 130 (by decide +kernel), show c107 131 = c 131 from hec107 131 (by decide +kernel), show c107 132 = c 132 from hec107 132 (by decide +kernel), show c107 133 = c 133 from hec107 133 (by decide +kernel), show c107 134 = c 134 from hec107 134 (by decide +kernel), show c107 150 = c 150 from hec107 150 (by decide +kernel), show c107 144 = c 144 from hec107 144 (by decide +kernel), show c107 145 = c 145 from hec107 145 (by decide +kernel), show c107 152 = c 152 from hec107 152 (by decide +kernel), show c107 153 = c 153 from hec107 153 (by decide +kernel), show c107 109 = c 109 from hec107 109 (by decide +kernel), show i114 2 = jm 2 from hei114 2 (by decide +kernel), show i114 5 = jm 5 from hei114 5 (by decide +kernel), show i114 64 = jm 64 from hei114 64 (by decide +kernel), show i114 8 = jm 8 from hei114 8 (by decide +kernel), show i114 22 = jm 22 from hei114 22 (by decide +kernel), show i114 27 = jm 27 from hei114 27 (by decide +kernel), show c114 4 = em 4 from hec114 4 (by decide +kernel), show c114 3 = em 3 from hec114 3 (by decide +kernel), show c114 6 = em 6 from hec114 6 (by decide +kernel), show c114 9 = em 9 from hec114 9 (by decide +kernel), show c114 10 = em 10 from hec114 10 (by decide +kernel), show c114 11 = em 11 from hec114 11 (by decide +kernel), show c114 12 = em 12 from hec114 12 (by decide +kernel), show c114 13 = em 13 from hec114 13 (by decide +kernel), show c114 29 = em 29 from hec114 29 (by decide +kernel), show c114 30 = em 30 from hec114 30 (by decide +kernel), show c114 31 = em 31 from hec114 31 (by decide +kernel), show c114 32 = em 32 from hec114 32 (by decide +kernel), show c114 7 = em 7 from hec114 7 (by decide +kernel)]; exact ⟨hR, hPA, hKO, hSO, hSN, hDR, hRD, TL_s hTL (fun o9 h9 => hxp114_3 o9 (by have h8 := hR.2.1; omega)), hFT, hSZ, rfl, rfl, hCT⟩)⟩ hI (show SkL i107 c107 (i114 57) (c114 56) from ⟨fun o9 h9 => (hxp107_1 o9 h9).trans (hSl.1 o9 h9), SkP_e hxp107_0 hxp114_2 (by have h1 := hag0; have h2 := hag1; have h3 := hag2; have h4 := hR.2.1; constructor <;> intro h5 <;> omega) (TL_th hTL) (fun hQ9 hT9 hX9 hM9 => (Sk_a hM0 (by have h9 : 0 ≤ (i 111).toInt ∧ (i 111).toInt ≤ 30 := hI0.1 111; omega) hR.2.1 hSN hRR hDR hRD hs_S hZE (fun t9 h9 h8 => by rw [zX_e ⟨h9, h8⟩]; exact (show 0 ≤ (c 106 _).toInt ∧ (c 106 _).toInt ≤ 5 from hI0.2 106 _)) hPA hKO hR.2.2.2 hSZ hTL hT9 hSl.1 (fun o9 => have h9 : 0 ≤ (c 150 o9).toInt ∧ (c 150 o9).toInt ≤ 16383 ∧ ((c 150 o9).toInt % 256 = 255 ∨ ((c 150 o9).toInt % 8 ≤ 4 ∧ (c 150 o9).toInt / 8 % 32 ≤ 29)) := hI0.2 150 o9; And.intro h9.1 h9.2.1) ⟨hQ9.1, hQ9.2.1⟩ hQ9.2.2.1 hag0 hag1 (by rw [hag2]) hX9.1 hX9.2.1 hM9 (fun j9 => (show 0 ≤ (c114 55 j9).toInt ∧ (c114 55 j9).toInt ≤ 29 from hM.2 55 j9))).2) (fun h9 h8 => by rw [h9.1, h9.2, h8.1, h8.2, hG7, hG6]; exact hSl.2)⟩) hP hD hS (lv_sub hl [0, 1, 2, 3] rfl)

set_option maxHeartbeats 4000000 in
set_option maxRecDepth 100000 in
theorem law_seek_n {g7 : Int32} {g6 : Nat → Int32} {p : Program} {l : Launch} {e : Env} {s : State} {m : MethodId} {below : List Frame} {meth : Method} {cd : Code} {b L : Nat} {xs : Nat → Int32} {D : va_G} {a : Nat → Nat} {t : Nat → ClassId} {o : Nat} {am : Nat → Nat} {tm : Nat → ClassId} {x3 : Int32} (hx : p.tables.exec = Jvm.exec) (hb : cd.code = cL_law) (hml : cd.maxLocals = 4) (hown : s.vm.findClass RL = some m.cls) (hts : ∀ w ∈ wm_law, w.before #[Value.ref b] s = true) (hX : va_X b L xs s s.heap) (hbl : b < s.heap.size) (hL : L ≤ 3584) (hN : xN s) (hZ : xZ (a 186) s s.heap) (hKT : va_K D vwCl (xtT t) s) (hKM : va_K D vwCl (mT tm) s) (hx3 : 0 ≤ x3.toInt ∧ x3.toInt + 7 ≤ (L : Int)) (kk : LK g7 g6 p l e s m below meth cd b D .null a t [] o am tm x3 98 48488) (kkS : ∀ (az : Nat → Nat) (tz : Nat → ClassId) (i : Nat → Int32) (q : Int64) (c : Nat → Nat → Int32) (d : Nat → Nat → Int64) (iz : Nat → Int32) (cz : Nat → Nat → Int32) (dz : Nat → Nat → Int64) (jm : Nat → Int32) (qm : Int64) (em : Nat → Nat → Int32) (dm : Nat → Nat → Int64) (g7 : Int32) (g6 : Nat → Int32) (H : Heap) (locs : List Loc) (ls : Array Slot), LI i c jm em g7 g6 → xInv iz cz → SkL iz cz g7 g6 → va_K D vwCl (xtZ tz) s → va_P D vwCl (xwT (.ref (az 166)) a t i q c d ++ (xwZ .null (fun k => if k < 166 then a k else az k) tz iz 0 cz dz ++ mW o am tm jm qm em dm)) H → va_D (fun q : Nat => s.heap.size ≤ q) (xwT (.ref (az 166)) a t i q c d ++ (xwZ .null (fun k => if k < 166 then a k else az k) tz iz 0 cz dz ++ mW o am tm jm qm em dm)) → va_S (fun q : Nat => s.heap.size ≤ q) s.heap H locs → lv_has ls 4 [(3, .int x3), (2, .ref o), (1, .ref (a 100)), (0, .ref b)] → W p l e room_1 s m #[Value.ref b] below meth cd H locs 111 59832 (lw_Z below #[Value.ref b] s) (F0 m 1461 ls [])) (i : Nat → Int32) (q : Int64) (c : Nat → Nat → Int32) (d : Nat → Nat → Int64) (jm : Nat → Int32) (qm : Int64) (em : Nat → Nat → Int32) (dm : Nat → Nat → Int64) (H : Heap) (locs : List Loc) (ls : Array Slot) (hLI : LI i c jm em g7 g6) (hP : va_P D vwCl (xwT .null a t i q c d ++ (([] : va_W) ++ mW o am tm jm qm em dm)) H) (hD : va_D (fun q : Nat => s.heap.size ≤ q) (xwT .null a t i q c d ++ (([] : va_W) ++ mW o am tm jm qm em dm))) (hS : va_S (fun q : Nat => s.heap.size ≤ q) s.heap H locs) (hl : lv_has ls 4 [(3, .int x3), (2, .ref o), (1, .ref (a 100)), (0, .ref b)]) : W p l e room_1 s m #[Value.ref b] below meth cd H locs 98 48488 (lw_Z below #[Value.ref b] s) (F0 m 960 ls []) := by
  have hcs : 98 ≤ 600000 ∧ 48488 ≤ 7302249 := ⟨by omega, by omega⟩
  have hbA : ¬ (fun q : Nat => s.heap.size ≤ q) b := Nat.not_le.mpr hbl
  have hA : ∀ q : Nat, s.heap.size ≤ q → (fun q : Nat => s.heap.size ≤ q) q := fun _ h => h
  obtain ⟨hI, hs_F, hs_P, htr, hM, hs_S, hs_J, hR⟩ := hLI
  have hI0 := hI
  have hM0 := hM
  obtain ⟨hR, hPA, hKO, hSO, hSN, hDR, hRD, hTL, hFT, hSZ, hG7, hG6, hCT⟩ := hR
  have hRR := RR_of hI0 hs_F
  have hZE : ∀ t : Int, 0 ≤ t → t < (i 111).toInt → zX (c 106) (c 108) (i 111).toInt t = kS (em 3) (em 6) t := (fun t9 h9 h8 => by rw [zX_e ⟨h9, h8⟩]; exact xS_e (kn := i 110) (N := (jm 5).toInt) hSO hPA hKO (fun j hj => by have h9 := hs_S.1 j hj; have h8 := hR.1; omega) (fun j => (show 0 ≤ (em 6 j).toInt ∧ (em 6 j).toInt ≤ 23 from hM0.2 6 j).1) (by have h7 := hR.2.1; omega) (show 0 ≤ (c 106 _).toInt ∧ (c 106 _).toInt ≤ 5 from hI0.2 106 _))
  have hZM : zX (c 106) (c 108) (i 111).toInt = zM (em 3) (em 6) (i 111).toInt := zXM hZE
  refine lv_aload_n hx hb dL_law_960 rfl (lv_at hl 2 rfl) ?_
  refine lv_aload_n hx hb dL_law_961 rfl (lv_at hl 3 rfl) ?_
  refine lv_iload_n hx hb dL_law_962 rfl (lv_at hl 0 rfl) ?_
  refine lv_iconst (v := 1) hx hb dL_law_963 (by decide +kernel) ?_
  refine lv_iadd hx hb dL_law_964 ?_
  refine lv_topi (fun x101 ex101 => ?_)
  have tx101 := ti_add (a := x3.toInt) (b := 1) ex101 rfl (by decide +kernel) (by omega) (by omega)
  refine va_sld hx hb hX hbl hbA hS (vp_in_iff.mpr (by have h9 : x101.toInt = (x3.toInt + 1) := tx101; omega)) dL_law_965 ?_
  refine lv_topi (fun x102 ex102 => ?_)
  refine lv_aload_n hx hb dL_law_966 rfl (lv_at hl 3 rfl) ?_
  refine lv_iload_n hx hb dL_law_967 rfl (lv_at hl 0 rfl) ?_
  refine lv_iconst (v := 2) hx hb dL_law_968 (by decide +kernel) ?_
  refine lv_iadd hx hb dL_law_969 ?_
  refine lv_topi (fun x103 ex103 => ?_)
  have tx103 := ti_add (a := x3.toInt) (b := 2) ex103 rfl (by decide +kernel) (by omega) (by omega)
  refine va_sld hx hb hX hbl hbA hS (vp_in_iff.mpr (by have h9 : x103.toInt = (x3.toInt + 2) := tx103; omega)) dL_law_970 ?_
  refine lv_topi (fun x104 ex104 => ?_)
  refine lv_aload_n hx hb dL_law_971 rfl (lv_at hl 3 rfl) ?_
  refine lv_iload_n hx hb dL_law_972 rfl (lv_at hl 0 rfl) ?_
  refine lv_iconst (v := 3) hx hb dL_law_973 (by decide +kernel) ?_
  refine lv_iadd hx hb dL_law_974 ?_
  refine lv_topi (fun x105 ex105 => ?_)
  have tx105 := ti_add (a := x3.toInt) (b := 3) ex105 rfl (by decide +kernel) (by omega) (by omega)
  refine va_sld hx hb hX hbl hbA hS (vp_in_iff.mpr (by have h9 : x105.toInt = (x3.toInt + 3) := tx105; omega)) dL_law_975 ?_
  refine lv_topi (fun x106 ex106 => ?_)
  by_cases hac : 0 ≤ x102.toInt ∧ x102.toInt < (i 111).toInt ∧ 0 ≤ x104.toInt ∧ x104.toInt < (i 111).toInt ∧ 0 ≤ x106.toInt ∧ x106.toInt ≤ 300 ∧ ¬ (i 146).toInt = 0
  · refine lc_i (wr := (([] : va_W) ++ mW o am tm jm qm em dm)) (va_runV (As := [.int x102, .int x104, .int x106]) (rest := []) ⟨hx, hb, hml, hown, hts⟩ (x_X11_seek_mE2 l D H.size a t i q c d x102 x104 x106 hI hac htr hs_P (TL_pn hTL (by have h9 : 0 ≤ (i 146).toInt ∧ (i 146).toInt ≤ 1 := hI0.1 146; have h8 := hac.2.2.2.2.2.2; omega))) (cwV 3 hts gm_law_X11_seek_mE_116 rfl rfl rfl (by decide +kernel) ⟨Nat.le_of_ble_eq_true rfl, Nat.le_of_ble_eq_true rfl⟩) (yB_V hN (xZ_k hZ hS hA) (xZ_n hZ (vD_l hD)) hKT (vP_l hP) (vD_l hD) (ci := 11) (q0 := 0) rfl rfl) rfl rfl hl.1 rfl (lv_room (Nat.le_of_ble_eq_true rfl)) dL_law_976 ⟨Nat.le_of_ble_eq_true rfl, Nat.le_of_ble_eq_true rfl⟩) hS hA hP hD (fun r107 u107 H locs hw107 hKZ hP hD hS => ?_)
    obtain ⟨az, tz, iz, cz, q107, d107⟩ := u107
    obtain ⟨hIz, hSk107⟩ : xInv iz cz ∧ (RpX (rwX (fun _ => 255) (c 150) 0) (cz 167) (cz 170) (cz 171) (iz 174) (iz 175) (srB (okC (zX (c 106) (c 108) (i 111).toInt) (c 129) (c 130) (c 133) (c 134) (c 109) (c 121) (c 114) (i 147).toInt (i 111).toInt) (nxC (zX (c 106) (c 108) (i 111).toInt) (c 129) (i 147).toInt) (smC (i 111).toInt) (glC x102.toInt x104.toInt) (i 111).toInt x106.toInt.toNat (b0B (glC x102.toInt x104.toInt) (rwX (fun _ => 255) (c 150) 0))) ∧ TpR (cz 170) (cz 171) (iz 175) (iz 173) (cz 172) ∧ r107 = (iz 173) ∧ ∀ o9 : Nat, 30 ≤ o9 → (cz 179) o9 = 255) := hw107
    refine W.widen (k := 111) (n := 59832) (Nat.le_of_ble_eq_true rfl) (Nat.le_of_ble_eq_true rfl) ?_
    have hP : va_P D vwCl (xwT (.ref (az 166)) a t i q107 c d107 ++ (xwZ .null (fun k => if k < 166 then a k else az k) tz iz 0 cz d107 ++ mW o am tm jm qm em dm)) H := by rw [← List.append_assoc]; exact hP
    have hD : va_D (fun q : Nat => s.heap.size ≤ q) (xwT (.ref (az 166)) a t i q107 c d107 ++ (xwZ .null (fun k => if k < 166 then a k else az k) tz iz 0 cz d107 ++ mW o am tm jm qm em dm)) := by rw [← List.append_assoc]; exact hD
    refine lv_pop hx hb dL_law_979 rfl ?_
    refine lv_aload_n hx hb dL_law_980 rfl (lv_at hl 1 rfl) ?_
    refine lv_aload_n hx hb dL_law_981 rfl (lv_at hl 3 rfl) ?_
    refine lv_iload_n hx hb dL_law_982 rfl (lv_at hl 0 rfl) ?_
    refine lv_iconst (v := 1) hx hb dL_law_983 (by decide +kernel) ?_
    refine lv_iadd hx hb dL_law_984 ?_
    refine lv_topi (fun x108 ex108 => ?_)
    have tx108 := ti_add (a := x3.toInt) (b := 1) ex108 rfl (by decide +kernel) (by omega) (by omega)
    refine va_sld hx hb hX hbl hbA hS (vp_in_iff.mpr (by have h9 : x108.toInt = (x3.toInt + 1) := tx108; omega)) dL_law_985 ?_
    refine lv_topi (fun x109 ex109 => ?_)
    refine lv_aload_n hx hb dL_law_986 rfl (lv_at hl 3 rfl) ?_
    refine lv_iload_n hx hb dL_law_987 rfl (lv_at hl 0 rfl) ?_
    refine lv_iconst (v := 2) hx hb dL_law_988 (by decide +kernel) ?_
    refine lv_iadd hx hb dL_law_989 ?_
    refine lv_topi (fun x110 ex110 => ?_)
    have tx110 := ti_add (a := x3.toInt) (b := 2) ex110 rfl (by decide +kernel) (by omega) (by omega)
    refine va_sld hx hb hX hbl hbA hS (vp_in_iff.mpr (by have h9 : x110.toInt = (x3.toInt + 2) := tx110; omega)) dL_law_990 ?_
    refine lv_topi (fun x111 ex111 => ?_)
    refine lv_aload_n hx hb dL_law_991 rfl (lv_at hl 3 rfl) ?_
    refine lv_iload_n hx hb dL_law_992 rfl (lv_at hl 0 rfl) ?_
    refine lv_iconst (v := 3) hx hb dL_law_993 (by decide +kernel) ?_
    refine lv_iadd hx hb dL_law_994 ?_
    refine lv_topi (fun x112 ex112 => ?_)
    have tx112 := ti_add (a := x3.toInt) (b := 3) ex112 rfl (by decide +kernel) (by omega) (by omega)
    refine va_sld hx hb hX hbl hbA hS (vp_in_iff.mpr (by have h9 : x112.toInt = (x3.toInt + 3) := tx112; omega)) dL_law_995 ?_
    refine lv_topi (fun x113 ex113 => ?_)
    have hP : va_P D vwCl ((xwT (.ref (az 166)) a t i q107 c d107 ++ (xwZ .null (fun k => if k < 166 then a k else az k) tz iz 0 cz d107)) ++ mW o am tm jm qm em dm) H := by rw [List.append_assoc]; exact hP
    have hD : va_D (fun q : Nat => s.heap.size ≤ q) ((xwT (.ref (az 166)) a t i q107 c d107 ++ (xwZ .null (fun k => if k < 166 then a k else az k) tz iz 0 cz d107)) ++ mW o am tm jm qm em dm) := by rw [List.append_assoc]; exact hD
    refine rc_i (wr := (xwT (.ref (az 166)) a t i q107 c d107 ++ (xwZ .null (fun k => if k < 166 then a k else az k) tz iz 0 cz d107))) (va_runV (As := [.int x109, .int x111, .int x113]) (rest := []) ⟨hx, hb, hml, hown, hts⟩ (s_X12_seek_k l D H.size o am tm jm qm em dm x109 x111 x113 hM hs_S hs_J (by have h9 := NoD_of (n := (jm 8).toInt) (fo := em 9) (le := em 10) (sa := em 13) hTL; rw [hZM, hR.2.1] at h9; exact h9)) (cwV 3 hts gm_law_X12_seek_119 rfl rfl rfl (by decide +kernel) ⟨Nat.le_of_ble_eq_true rfl, Nat.le_of_ble_eq_true rfl⟩) (pB_V hKM (vP_r hP) (vD_r hD) (ci := 12) (q0 := 0) rfl rfl) rfl rfl hl.1 rfl (lv_room (Nat.le_of_ble_eq_true rfl)) dL_law_996 ⟨Nat.le_of_ble_eq_true rfl, Nat.le_of_ble_eq_true rfl⟩) hS hA hP hD (fun r114 u114 H locs hw114 hP hD hS => ?_)
    obtain ⟨i114, q114, c114, d114⟩ := u114
    have hw114 : True ∧ mInv i114 c114 ∧ (∀ k, k ∉ ([16, 17, 18, 19, 35, 36, 40, 41, 42, 50, 57, 58, 59] : List Nat) → i114 k = jm k) ∧ (∀ k, k ∉ ([23, 24, 25, 26, 34, 38, 39, 43, 44, 45, 46, 47, 48, 49, 51, 52, 53, 54, 55, 56] : List Nat) → c114 k = em k) ∧ (SJ (c114 3) (c114 6) (c114 9) (c114 10) (c114 11) (c114 13) (i114 2).toInt (i114 5).toInt (i114 8).toInt) ∧ (TJ (c114 3) (c114 6) (c114 23) (c114 24) (c114 29) (c114 30) (i114 5).toInt (i114 22).toInt (i114 27).toInt) ∧ (SkX (0 ≤ x109.toInt ∧ x109.toInt < (jm 5).toInt ∧ 0 ≤ x111.toInt ∧ x111.toInt < (jm 5).toInt ∧ 0 ≤ x113.toInt ∧ x113.toInt ≤ 300) (¬ (jm 22).toInt = -9) r114.toInt ((i114 57) = (jm 57) ∧ (c114 56) = (em 56)) (SkM (SiM (em 3) (em 4) (em 6) (em 7) (em 9) (em 10) (em 11) (em 12) (em 13) (jm 5).toInt (jm 8).toInt (jm 22).toInt x109.toInt x111.toInt) (jm 5).toInt (em 23) (em 24) (em 25) (em 26) (c114 51) (c114 52) (c114 53) (c114 54) (c114 55) (i114 50) x113.toInt.toNat r114.toInt (i114 57).toInt (c114 56))) ∧ (Sk4 (c114 23) (c114 24) (c114 25) (c114 26) (em 23) (em 24) (em 25) (em 26) (jm 5).toInt) := hw114
    obtain ⟨hw114, hM, hei114, hec114, hxp114_0, hxp114_1, hxp114_2, hxp114_3⟩ := hw114
    have hP : va_P D vwCl (xwT (.ref (az 166)) a t i q107 c d107 ++ ((xwZ .null (fun k => if k < 166 then a k else az k) tz iz 0 cz d107) ++ mW o am tm i114 q114 c114 d114)) H := by rw [← List.append_assoc]; exact hP
    have hD : va_D (fun q : Nat => s.heap.size ≤ q) (xwT (.ref (az 166)) a t i q107 c d107 ++ ((xwZ .null (fun k => if k < 166 then a k else az k) tz iz 0 cz d107) ++ mW o am tm i114 q114 c114 d114)) := by rw [← List.append_assoc]; exact hD
    have hag0 : x109.toInt = x102.toInt := congrArg Int32.toInt (by rw [ex109, ex108, ex102, ex101])
    have hag1 : x111.toInt = x104.toInt := congrArg Int32.toInt (by rw [ex111, ex110, ex104, ex103])
    have hag2 : x113.toInt = x106.toInt := congrArg Int32.toInt (by rw [ex113, ex112, ex106, ex105])
    refine lv_pop hx hb dL_law_999 rfl ?_
    refine lv_goto (tgt := 1461) hx hb dL_law_1000 (by decide +kernel) ?_
    exact kkS az tz i q107 c d107 iz cz d107 i114 q114 c114 d114 (i114 57) (c114 56) _ _ _ ⟨hI, hs_F, hs_P, htr, hM, hxp114_0, hxp114_1, (by rw [show i114 2 = jm 2 from hei114 2 (by decide +kernel), show i114 5 = jm 5 from hei114 5 (by decide +kernel), show i114 64 = jm 64 from hei114 64 (by decide +kernel), show i114 8 = jm 8 from hei114 8 (by decide +kernel), show i114 22 = jm 22 from hei114 22 (by decide +kernel), show i114 27 = jm 27 from hei114 27 (by decide +kernel), show c114 4 = em 4 from hec114 4 (by decide +kernel), show c114 3 = em 3 from hec114 3 (by decide +kernel), show c114 6 = em 6 from hec114 6 (by decide +kernel), show c114 9 = em 9 from hec114 9 (by decide +kernel), show c114 10 = em 10 from hec114 10 (by decide +kernel), show c114 11 = em 11 from hec114 11 (by decide +kernel), show c114 12 = em 12 from hec114 12 (by decide +kernel), show c114 13 = em 13 from hec114 13 (by decide +kernel), show c114 29 = em 29 from hec114 29 (by decide +kernel), show c114 30 = em 30 from hec114 30 (by decide +kernel), show c114 31 = em 31 from hec114 31 (by decide +kernel), show c114 32 = em 32 from hec114 32 (by decide +kernel), show c114 7 = em 7 from hec114 7 (by decide +kernel)]; exact ⟨hR, hPA, hKO, hSO, hSN, hDR, hRD, TL_s hTL (fun o9 h9 => hxp114_3 o9 (by have h8 := hR.2.1; omega)), hFT, hSZ, rfl, rfl, hCT⟩)⟩ hIz (show SkL iz cz (i114 57) (c114 56) from ⟨fun o9 h9 => hSk107.2.2.2 o9 h9, (Sk_a hM0 (by have h9 : 0 ≤ (i 111).toInt ∧ (i 111).toInt ≤ 30 := hI0.1 111; omega) hR.2.1 hSN hRR hDR hRD hs_S hZE (fun t9 h9 h8 => by rw [zX_e ⟨h9, h8⟩]; exact (show 0 ≤ (c 106 _).toInt ∧ (c 106 _).toInt ≤ 5 from hI0.2 106 _)) hPA hKO hR.2.2.2 hSZ hTL (show (i 146).toInt = 1 from by have h9 : 0 ≤ (i 146).toInt ∧ (i 146).toInt ≤ 1 := hI0.1 146; have h8 := hac.2.2.2.2.2.2; omega) (fun _ _ => rfl) (fun o9 => have h9 : 0 ≤ (c 150 o9).toInt ∧ (c 150 o9).toInt ≤ 16383 ∧ ((c 150 o9).toInt % 256 = 255 ∨ ((c 150 o9).toInt % 8 ≤ 4 ∧ (c 150 o9).toInt / 8 % 32 ≤ 29)) := hI0.2 150 o9; And.intro h9.1 h9.2.1) ⟨(show _ ∧ _ ∧ _ ∧ _ ∧ _ ∧ _ from ⟨hac.1, hac.2.1, hac.2.2.1, hac.2.2.2.1, hac.2.2.2.2.1, hac.2.2.2.2.2.1⟩).1, (show _ ∧ _ ∧ _ ∧ _ ∧ _ ∧ _ from ⟨hac.1, hac.2.1, hac.2.2.1, hac.2.2.2.1, hac.2.2.2.2.1, hac.2.2.2.2.2.1⟩).2.1⟩ (show _ ∧ _ ∧ _ ∧ _ ∧ _ ∧ _ from ⟨hac.1, hac.2.1, hac.2.2.1, hac.2.2.2.1, hac.2.2.2.2.1, hac.2.2.2.2.2.1⟩).2.2.1 hag0 hag1 (by rw [hag2]) hSk107.1 hSk107.2.1 (SkX_3 hxp114_2 (by have h0 := (show _ ∧ _ ∧ _ ∧ _ ∧ _ ∧ _ from ⟨hac.1, hac.2.1, hac.2.2.1, hac.2.2.2.1, hac.2.2.2.2.1, hac.2.2.2.2.2.1⟩); have h1 := hag0; have h2 := hag1; have h3 := hag2; have h4 := hR.2.1; omega) ((TL_th hTL).mp (show (i 146).toInt = 1 from by have h9 : 0 ≤ (i 146).toInt ∧ (i 146).toInt ≤ 1 := hI0.1 146; have h8 := hac.2.2.2.2.2.2; omega))) (fun j9 => (show 0 ≤ (c114 55 j9).toInt ∧ (c114 55 j9).toInt ≤ 29 from hM.2 55 j9))).2⟩) hKZ hP hD hS (lv_sub hl [0, 1, 2, 3] rfl)
  · have hno := hac
    refine ro_calli (va_runV (As := [.int x102, .int x104, .int x106]) (rest := []) ⟨hx, hb, hml, hown, hts⟩ (x_X11_seek_rE l D H.size a t i q c d x102 x104 x106 hI hno) (cwV 3 hts gm_law_X11_seek_rE_116 rfl rfl rfl (by decide +kernel) ⟨Nat.le_of_ble_eq_true rfl, Nat.le_of_ble_eq_true rfl⟩) (yA_V hN (xZ_k hZ hS hA) hKT (vP_l hP) (ci := 11) (q0 := 0) rfl rfl) rfl rfl hl.1 rfl (lv_room (Nat.le_of_ble_eq_true rfl)) dL_law_976 hcs) hS hA hP (fun r115 u115 H locs hw115 hP hS => ?_)
    have hw115 : (True ∧ (SkX (0 ≤ x102.toInt ∧ x102.toInt < (i 111).toInt ∧ 0 ≤ x104.toInt ∧ x104.toInt < (i 111).toInt ∧ 0 ≤ x106.toInt ∧ x106.toInt ≤ 300) ((i 146).toInt = 1) r115.toInt True False)) := hw115
    obtain ⟨_, hr115_0⟩ := hw115
    refine lv_pop hx hb dL_law_979 rfl ?_
    refine lv_aload_n hx hb dL_law_980 rfl (lv_at hl 1 rfl) ?_
    refine lv_aload_n hx hb dL_law_981 rfl (lv_at hl 3 rfl) ?_
    refine lv_iload_n hx hb dL_law_982 rfl (lv_at hl 0 rfl) ?_
    refine lv_iconst (v := 1) hx hb dL_law_983 (by decide +kernel) ?_
    refine lv_iadd hx hb dL_law_984 ?_
    refine lv_topi (fun x116 ex116 => ?_)
    have tx116 := ti_add (a := x3.toInt) (b := 1) ex116 rfl (by decide +kernel) (by omega) (by omega)
    refine va_sld hx hb hX hbl hbA hS (vp_in_iff.mpr (by have h9 : x116.toInt = (x3.toInt + 1) := tx116; omega)) dL_law_985 ?_
    refine lv_topi (fun x117 ex117 => ?_)
    refine lv_aload_n hx hb dL_law_986 rfl (lv_at hl 3 rfl) ?_
    refine lv_iload_n hx hb dL_law_987 rfl (lv_at hl 0 rfl) ?_
    refine lv_iconst (v := 2) hx hb dL_law_988 (by decide +kernel) ?_
    refine lv_iadd hx hb dL_law_989 ?_
    refine lv_topi (fun x118 ex118 => ?_)
    have tx118 := ti_add (a := x3.toInt) (b := 2) ex118 rfl (by decide +kernel) (by omega) (by omega)
    refine va_sld hx hb hX hbl hbA hS (vp_in_iff.mpr (by have h9 : x118.toInt = (x3.toInt + 2) := tx118; omega)) dL_law_990 ?_
    refine lv_topi (fun x119 ex119 => ?_)
    refine lv_aload_n hx hb dL_law_991 rfl (lv_at hl 3 rfl) ?_
    refine lv_iload_n hx hb dL_law_992 rfl (lv_at hl 0 rfl) ?_
    refine lv_iconst (v := 3) hx hb dL_law_993 (by decide +kernel) ?_
    refine lv_iadd hx hb dL_law_994 ?_
    refine lv_topi (fun x120 ex120 => ?_)
    have tx120 := ti_add (a := x3.toInt) (b := 3) ex120 rfl (by decide +kernel) (by omega) (by omega)
    refine va_sld hx hb hX hbl hbA hS (vp_in_iff.mpr (by have h9 : x120.toInt = (x3.toInt + 3) := tx120; omega)) dL_law_995 ?_
    refine lv_topi (fun x121 ex121 => ?_)
    have hP : va_P D vwCl ((xwT .null a t i q c d ++ ([] : va_W)) ++ mW o am tm jm qm em dm) H := by rw [List.append_assoc]; exact hP
    have hD : va_D (fun q : Nat => s.heap.size ≤ q) ((xwT .null a t i q c d ++ ([] : va_W)) ++ mW o am tm jm qm em dm) := by rw [List.append_assoc]; exact hD
    refine rc_i (wr := (xwT .null a t i q c d ++ ([] : va_W))) (va_runV (As := [.int x117, .int x119, .int x121]) (rest := []) ⟨hx, hb, hml, hown, hts⟩ (s_X12_seek_k l D H.size o am tm jm qm em dm x117 x119 x121 hM hs_S hs_J (by have h9 := NoD_of (n := (jm 8).toInt) (fo := em 9) (le := em 10) (sa := em 13) hTL; rw [hZM, hR.2.1] at h9; exact h9)) (cwV 3 hts gm_law_X12_seek_119 rfl rfl rfl (by decide +kernel) ⟨Nat.le_of_ble_eq_true rfl, Nat.le_of_ble_eq_true rfl⟩) (pB_V hKM (vP_r hP) (vD_r hD) (ci := 12) (q0 := 0) rfl rfl) rfl rfl hl.1 rfl (lv_room (Nat.le_of_ble_eq_true rfl)) dL_law_996 hcs) hS hA hP hD (fun r122 u122 H locs hw122 hP hD hS => ?_)
    obtain ⟨i122, q122, c122, d122⟩ := u122
    have hw122 : True ∧ mInv i122 c122 ∧ (∀ k, k ∉ ([16, 17, 18, 19, 35, 36, 40, 41, 42, 50, 57, 58, 59] : List Nat) → i122 k = jm k) ∧ (∀ k, k ∉ ([23, 24, 25, 26, 34, 38, 39, 43, 44, 45, 46, 47, 48, 49, 51, 52, 53, 54, 55, 56] : List Nat) → c122 k = em k) ∧ (SJ (c122 3) (c122 6) (c122 9) (c122 10) (c122 11) (c122 13) (i122 2).toInt (i122 5).toInt (i122 8).toInt) ∧ (TJ (c122 3) (c122 6) (c122 23) (c122 24) (c122 29) (c122 30) (i122 5).toInt (i122 22).toInt (i122 27).toInt) ∧ (SkX (0 ≤ x117.toInt ∧ x117.toInt < (jm 5).toInt ∧ 0 ≤ x119.toInt ∧ x119.toInt < (jm 5).toInt ∧ 0 ≤ x121.toInt ∧ x121.toInt ≤ 300) (¬ (jm 22).toInt = -9) r122.toInt ((i122 57) = (jm 57) ∧ (c122 56) = (em 56)) (SkM (SiM (em 3) (em 4) (em 6) (em 7) (em 9) (em 10) (em 11) (em 12) (em 13) (jm 5).toInt (jm 8).toInt (jm 22).toInt x117.toInt x119.toInt) (jm 5).toInt (em 23) (em 24) (em 25) (em 26) (c122 51) (c122 52) (c122 53) (c122 54) (c122 55) (i122 50) x121.toInt.toNat r122.toInt (i122 57).toInt (c122 56))) ∧ (Sk4 (c122 23) (c122 24) (c122 25) (c122 26) (em 23) (em 24) (em 25) (em 26) (jm 5).toInt) := hw122
    obtain ⟨hw122, hM, hei122, hec122, hxp122_0, hxp122_1, hxp122_2, hxp122_3⟩ := hw122
    have hP : va_P D vwCl (xwT .null a t i q c d ++ (([] : va_W) ++ mW o am tm i122 q122 c122 d122)) H := by rw [← List.append_assoc]; exact hP
    have hD : va_D (fun q : Nat => s.heap.size ≤ q) (xwT .null a t i q c d ++ (([] : va_W) ++ mW o am tm i122 q122 c122 d122)) := by rw [← List.append_assoc]; exact hD
    have hag0 : x117.toInt = x102.toInt := congrArg Int32.toInt (by rw [ex117, ex116, ex102, ex101])
    have hag1 : x119.toInt = x104.toInt := congrArg Int32.toInt (by rw [ex119, ex118, ex104, ex103])
    have hag2 : x121.toInt = x106.toInt := congrArg Int32.toInt (by rw [ex121, ex120, ex106, ex105])
    refine lv_pop hx hb dL_law_999 rfl ?_
    refine lv_goto (tgt := 1461) hx hb dL_law_1000 (by decide +kernel) ?_
    exact kk i q c d i122 q122 c122 d122 _ _ _ ⟨hI, hs_F, hs_P, htr, hM, hxp122_0, hxp122_1, (by rw [show i122 2 = jm 2 from hei122 2 (by decide +kernel), show i122 5 = jm 5 from hei122 5 (by decide +kernel), show i122 64 = jm 64 from hei122 64 (by decide +kernel), show i122 8 = jm 8 from hei122 8 (by decide +kernel), show i122 22 = jm 22 from hei122 22 (by decide +kernel), show i122 27 = jm 27 from hei122 27 (by decide +kernel), show c122 4 = em 4 from hec122 4 (by decide +kernel), show c122 3 = em 3 from hec122 3 (by decide +kernel), show c122 6 = em 6 from hec122 6 (by decide +kernel), show c122 9 = em 9 from hec122 9 (by decide +kernel), show c122 10 = em 10 from hec122 10 (by decide +kernel), show c122 11 = em 11 from hec122 11 (by decide +kernel), show c122 12 = em 12 from hec122 12 (by decide +kernel), show c122 13 = em 13 from hec122 13 (by decide +kernel), show c122 29 = em 29 from hec122 29 (by decide +kernel), show c122 30 = em 30 from hec122 30 (by decide +kernel), show c122 31 = em 31 from hec122 31 (by decide +kernel), show c122 32 = em 32 from hec122 32 (by decide +kernel), show c122 7 = em 7 from hec122 7 (by decide +kernel)]; exact ⟨hR, hPA, hKO, hSO, hSN, hDR, hRD, TL_s hTL (fun o9 h9 => hxp122_3 o9 (by have h8 := hR.2.1; omega)), hFT, hSZ, (SkX_n hr115_0 hxp122_2 (by have h1 := hag0; have h2 := hag1; have h3 := hag2; have h4 := hR.2.1; constructor <;> intro h5 <;> omega) (TL_th hTL)).1.trans hG7, (SkX_n hr115_0 hxp122_2 (by have h1 := hag0; have h2 := hag1; have h3 := hag2; have h4 := hR.2.1; constructor <;> intro h5 <;> omega) (TL_th hTL)).2.trans hG6, hCT⟩)⟩ hP hD hS (lv_sub hl [0, 1, 2, 3] rfl)

set_option maxHeartbeats 4000000 in
set_option maxRecDepth 100000 in
theorem law_sought_s {g7 : Int32} {g6 : Nat → Int32} {p : Program} {l : Launch} {e : Env} {s : State} {m : MethodId} {below : List Frame} {meth : Method} {cd : Code} {b L : Nat} {xs : Nat → Int32} {D : va_G} {a : Nat → Nat} {t : Nat → ClassId} {o : Nat} {am : Nat → Nat} {tm : Nat → ClassId} {x3 : Int32} {cells slots : Nat} {az : Nat → Nat} {tz : Nat → ClassId} (hx : p.tables.exec = Jvm.exec) (hb : cd.code = cL_law) (hml : cd.maxLocals = 4) (hown : s.vm.findClass RL = some m.cls) (hts : ∀ w ∈ wm_law, w.before #[Value.ref b] s = true) (hX : va_X b L xs s s.heap) (hbl : b < s.heap.size) (hL : L ≤ 3584) (hN : xN s) (hZ : xZ (a 186) s s.heap) (hKT : va_K D vwCl (xtT t) s) (hKM : va_K D vwCl (mT tm) s) (hcs : cells ≤ 600000 ∧ slots ≤ 7302249) (hx3 : 0 ≤ x3.toInt ∧ x3.toInt + 7 ≤ (L : Int)) (hKZ : va_K D vwCl (xtZ tz) s) (i : Nat → Int32) (q : Int64) (c : Nat → Nat → Int32) (d : Nat → Nat → Int64) (jm : Nat → Int32) (qm : Int64) (em : Nat → Nat → Int32) (dm : Nat → Nat → Int64) (iz : Nat → Int32) (cz : Nat → Nat → Int32) (dz : Nat → Nat → Int64) (H : Heap) (locs : List Loc) (ls : Array Slot) (kk : LK g7 g6 p l e s m below meth cd b D (.ref (az 166)) a t (xwZ .null (fun k => if k < 166 then a k else az k) tz iz 0 cz dz) o am tm x3 cells slots) (hIz : xInv iz cz) (hSl : SkL iz cz g7 g6) (hLI : LI i c jm em g7 g6) (hP : va_P D vwCl (xwT (.ref (az 166)) a t i q c d ++ (xwZ .null (fun k => if k < 166 then a k else az k) tz iz 0 cz dz ++ mW o am tm jm qm em dm)) H) (hD : va_D (fun q : Nat => s.heap.size ≤ q) (xwT (.ref (az 166)) a t i q c d ++ (xwZ .null (fun k => if k < 166 then a k else az k) tz iz 0 cz dz ++ mW o am tm jm qm em dm))) (hS : va_S (fun q : Nat => s.heap.size ≤ q) s.heap H locs) (hl : lv_has ls 4 [(3, .int x3), (2, .ref o), (1, .ref (a 100)), (0, .ref b)]) : W p l e room_1 s m #[Value.ref b] below meth cd H locs cells slots (lw_Z below #[Value.ref b] s) (F0 m 1003 ls []) := by
  have hbA : ¬ (fun q : Nat => s.heap.size ≤ q) b := Nat.not_le.mpr hbl
  have hA : ∀ q : Nat, s.heap.size ≤ q → (fun q : Nat => s.heap.size ≤ q) q := fun _ h => h
  obtain ⟨hI, hs_F, hs_P, htr, hM, hs_S, hs_J, hR⟩ := hLI
  have hI0 := hI
  have hM0 := hM
  obtain ⟨hR, hPA, hKO, hSO, hSN, hDR, hRD, hTL, hFT, hSZ, hG7, hG6, hCT⟩ := hR
  have hRR := RR_of hI0 hs_F
  have hZE : ∀ t : Int, 0 ≤ t → t < (i 111).toInt → zX (c 106) (c 108) (i 111).toInt t = kS (em 3) (em 6) t := (fun t9 h9 h8 => by rw [zX_e ⟨h9, h8⟩]; exact xS_e (kn := i 110) (N := (jm 5).toInt) hSO hPA hKO (fun j hj => by have h9 := hs_S.1 j hj; have h8 := hR.1; omega) (fun j => (show 0 ≤ (em 6 j).toInt ∧ (em 6 j).toInt ≤ 23 from hM0.2 6 j).1) (by have h7 := hR.2.1; omega) (show 0 ≤ (c 106 _).toInt ∧ (c 106 _).toInt ≤ 5 from hI0.2 106 _))
  have hZM : zX (c 106) (c 108) (i 111).toInt = zM (em 3) (em 6) (i 111).toInt := zXM hZE
  have hIU : xInv (fun k => if k < 166 then i k else iz k) (fun k => if k < 166 then c k else cz k) := xInv_m hI hIz
  have hKU : va_K D vwCl (xtU (fun k => if k < 166 then t k else if k = 186 then t 186 else tz k)) s := hKT.app hKZ
  have hPU : va_P D vwCl (xwU (.ref (az 166)) (fun k => if k < 166 then a k else if k = 186 then a 186 else az k) (fun k => if k < 166 then t k else if k = 186 then t 186 else tz k) (fun k => if k < 166 then i k else iz k) q (fun k => if k < 166 then c k else cz k) d) H := by rw [← List.append_assoc] at hP; exact vP_l hP
  refine lv_aload_n hx hb dL_law_1003 rfl (lv_at hl 2 rfl) ?_
  refine lv_aload_n hx hb dL_law_1004 rfl (lv_at hl 3 rfl) ?_
  refine lv_iload_n hx hb dL_law_1005 rfl (lv_at hl 0 rfl) ?_
  refine lv_iconst (v := 1) hx hb dL_law_1006 (by decide +kernel) ?_
  refine lv_iadd hx hb dL_law_1007 ?_
  refine lv_topi (fun x101 ex101 => ?_)
  have tx101 := ti_add (a := x3.toInt) (b := 1) ex101 rfl (by decide +kernel) (by omega) (by omega)
  refine va_sld hx hb hX hbl hbA hS (vp_in_iff.mpr (by have h9 : x101.toInt = (x3.toInt + 1) := tx101; omega)) dL_law_1008 ?_
  refine lv_topi (fun x102 ex102 => ?_)
  refine lv_aload_n hx hb dL_law_1009 rfl (lv_at hl 3 rfl) ?_
  refine lv_iload_n hx hb dL_law_1010 rfl (lv_at hl 0 rfl) ?_
  refine lv_iconst (v := 2) hx hb dL_law_1011 (by decide +kernel) ?_
  refine lv_iadd hx hb dL_law_1012 ?_
  refine lv_topi (fun x103 ex103 => ?_)
  have tx103 := ti_add (a := x3.toInt) (b := 2) ex103 rfl (by decide +kernel) (by omega) (by omega)
  refine va_sld hx hb hX hbl hbA hS (vp_in_iff.mpr (by have h9 : x103.toInt = (x3.toInt + 2) := tx103; omega)) dL_law_1013 ?_
  refine lv_topi (fun x104 ex104 => ?_)
  refine ro_calli (va_runV (As := [.int x102, .int x104]) (rest := []) ⟨hx, hb, hml, hown, hts⟩ (x_X11_sought_s l D H.size (fun k => if k < 166 then a k else if k = 186 then a 186 else az k) (fun k => if k < 166 then t k else if k = 186 then t 186 else tz k) (fun k => if k < 166 then i k else iz k) q (fun k => if k < 166 then c k else cz k) d x102 x104 hIU ) (cwV 2 hts gm_law_X11_sought_s_120 rfl rfl rfl (by decide +kernel) ⟨Nat.le_of_ble_eq_true rfl, Nat.le_of_ble_eq_true rfl⟩) (yA_V hN (xZ_k hZ hS hA) hKU hPU (ci := 11) (q0 := 0) rfl rfl) rfl rfl hl.1 rfl (lv_room (Nat.le_of_ble_eq_true rfl)) dL_law_1014 hcs) hS hA hP (fun r105 u105 H locs hw105 hP hS => ?_)
  refine lv_pop hx hb dL_law_1017 rfl ?_
  refine lv_aload_n hx hb dL_law_1018 rfl (lv_at hl 1 rfl) ?_
  refine lv_aload_n hx hb dL_law_1019 rfl (lv_at hl 3 rfl) ?_
  refine lv_iload_n hx hb dL_law_1020 rfl (lv_at hl 0 rfl) ?_
  refine lv_iconst (v := 1) hx hb dL_law_1021 (by decide +kernel) ?_
  refine lv_iadd hx hb dL_law_1022 ?_
  refine lv_topi (fun x106 ex106 => ?_)
  have tx106 := ti_add (a := x3.toInt) (b := 1) ex106 rfl (by decide +kernel) (by omega) (by omega)
  refine va_sld hx hb hX hbl hbA hS (vp_in_iff.mpr (by have h9 : x106.toInt = (x3.toInt + 1) := tx106; omega)) dL_law_1023 ?_
  refine lv_topi (fun x107 ex107 => ?_)
  refine lv_aload_n hx hb dL_law_1024 rfl (lv_at hl 3 rfl) ?_
  refine lv_iload_n hx hb dL_law_1025 rfl (lv_at hl 0 rfl) ?_
  refine lv_iconst (v := 2) hx hb dL_law_1026 (by decide +kernel) ?_
  refine lv_iadd hx hb dL_law_1027 ?_
  refine lv_topi (fun x108 ex108 => ?_)
  have tx108 := ti_add (a := x3.toInt) (b := 2) ex108 rfl (by decide +kernel) (by omega) (by omega)
  refine va_sld hx hb hX hbl hbA hS (vp_in_iff.mpr (by have h9 : x108.toInt = (x3.toInt + 2) := tx108; omega)) dL_law_1028 ?_
  refine lv_topi (fun x109 ex109 => ?_)
  have hP : va_P D vwCl ((xwT (.ref (az 166)) a t i q c d ++ (xwZ .null (fun k => if k < 166 then a k else az k) tz iz 0 cz dz)) ++ mW o am tm jm qm em dm) H := by rw [List.append_assoc]; exact hP
  have hD : va_D (fun q : Nat => s.heap.size ≤ q) ((xwT (.ref (az 166)) a t i q c d ++ (xwZ .null (fun k => if k < 166 then a k else az k) tz iz 0 cz dz)) ++ mW o am tm jm qm em dm) := by rw [List.append_assoc]; exact hD
  refine ro_calli (va_runV (As := [.int x107, .int x109]) (rest := []) ⟨hx, hb, hml, hown, hts⟩ (s_X12_sought l D H.size o am tm jm qm em dm x107 x109 hM ) (cwV 2 hts gm_law_X12_sought_123 rfl rfl rfl (by decide +kernel) ⟨Nat.le_of_ble_eq_true rfl, Nat.le_of_ble_eq_true rfl⟩) (pA_V hKM (vP_r hP) (ci := 12) (q0 := 0) rfl rfl) rfl rfl hl.1 rfl (lv_room (Nat.le_of_ble_eq_true rfl)) dL_law_1029 hcs) hS hA hP (fun r110 u110 H locs hw110 hP hS => ?_)
  have hP : va_P D vwCl (xwT (.ref (az 166)) a t i q c d ++ ((xwZ .null (fun k => if k < 166 then a k else az k) tz iz 0 cz dz) ++ mW o am tm jm qm em dm)) H := by rw [← List.append_assoc]; exact hP
  have hD : va_D (fun q : Nat => s.heap.size ≤ q) (xwT (.ref (az 166)) a t i q c d ++ ((xwZ .null (fun k => if k < 166 then a k else az k) tz iz 0 cz dz) ++ mW o am tm jm qm em dm)) := by rw [← List.append_assoc]; exact hD
  refine lv_pop hx hb dL_law_1032 rfl ?_
  refine lv_goto (tgt := 1461) hx hb dL_law_1033 (by decide +kernel) ?_
  exact kk i q c d jm qm em dm _ _ _ ⟨hI, hs_F, hs_P, htr, hM, hs_S, hs_J, ⟨hR, hPA, hKO, hSO, hSN, hDR, hRD, hTL, hFT, hSZ, hG7, hG6, hCT⟩⟩ hP hD hS (lv_sub hl [0, 1, 2, 3] rfl)

set_option maxHeartbeats 4000000 in
set_option maxRecDepth 100000 in
theorem law_sought_n {g7 : Int32} {g6 : Nat → Int32} {p : Program} {l : Launch} {e : Env} {s : State} {m : MethodId} {below : List Frame} {meth : Method} {cd : Code} {b L : Nat} {xs : Nat → Int32} {D : va_G} {a : Nat → Nat} {t : Nat → ClassId} {o : Nat} {am : Nat → Nat} {tm : Nat → ClassId} {x3 : Int32} {cells slots : Nat} (hx : p.tables.exec = Jvm.exec) (hb : cd.code = cL_law) (hml : cd.maxLocals = 4) (hown : s.vm.findClass RL = some m.cls) (hts : ∀ w ∈ wm_law, w.before #[Value.ref b] s = true) (hX : va_X b L xs s s.heap) (hbl : b < s.heap.size) (hL : L ≤ 3584) (hN : xN s) (hZ : xZ (a 186) s s.heap) (hKT : va_K D vwCl (xtT t) s) (hKM : va_K D vwCl (mT tm) s) (hcs : cells ≤ 600000 ∧ slots ≤ 7302249) (hx3 : 0 ≤ x3.toInt ∧ x3.toInt + 7 ≤ (L : Int)) (kk : LK g7 g6 p l e s m below meth cd b D .null a t [] o am tm x3 cells slots) (h7 : g7.toInt = -9) (i : Nat → Int32) (q : Int64) (c : Nat → Nat → Int32) (d : Nat → Nat → Int64) (jm : Nat → Int32) (qm : Int64) (em : Nat → Nat → Int32) (dm : Nat → Nat → Int64) (H : Heap) (locs : List Loc) (ls : Array Slot) (hLI : LI i c jm em g7 g6) (hP : va_P D vwCl (xwT .null a t i q c d ++ (([] : va_W) ++ mW o am tm jm qm em dm)) H) (hD : va_D (fun q : Nat => s.heap.size ≤ q) (xwT .null a t i q c d ++ (([] : va_W) ++ mW o am tm jm qm em dm))) (hS : va_S (fun q : Nat => s.heap.size ≤ q) s.heap H locs) (hl : lv_has ls 4 [(3, .int x3), (2, .ref o), (1, .ref (a 100)), (0, .ref b)]) : W p l e room_1 s m #[Value.ref b] below meth cd H locs cells slots (lw_Z below #[Value.ref b] s) (F0 m 1003 ls []) := by
  have hbA : ¬ (fun q : Nat => s.heap.size ≤ q) b := Nat.not_le.mpr hbl
  have hA : ∀ q : Nat, s.heap.size ≤ q → (fun q : Nat => s.heap.size ≤ q) q := fun _ h => h
  obtain ⟨hI, hs_F, hs_P, htr, hM, hs_S, hs_J, hR⟩ := hLI
  have hI0 := hI
  have hM0 := hM
  obtain ⟨hR, hPA, hKO, hSO, hSN, hDR, hRD, hTL, hFT, hSZ, hG7, hG6, hCT⟩ := hR
  have hRR := RR_of hI0 hs_F
  have hZE : ∀ t : Int, 0 ≤ t → t < (i 111).toInt → zX (c 106) (c 108) (i 111).toInt t = kS (em 3) (em 6) t := (fun t9 h9 h8 => by rw [zX_e ⟨h9, h8⟩]; exact xS_e (kn := i 110) (N := (jm 5).toInt) hSO hPA hKO (fun j hj => by have h9 := hs_S.1 j hj; have h8 := hR.1; omega) (fun j => (show 0 ≤ (em 6 j).toInt ∧ (em 6 j).toInt ≤ 23 from hM0.2 6 j).1) (by have h7 := hR.2.1; omega) (show 0 ≤ (c 106 _).toInt ∧ (c 106 _).toInt ≤ 5 from hI0.2 106 _))
  have hZM : zX (c 106) (c 108) (i 111).toInt = zM (em 3) (em 6) (i 111).toInt := zXM hZE
  refine lv_aload_n hx hb dL_law_1003 rfl (lv_at hl 2 rfl) ?_
  refine lv_aload_n hx hb dL_law_1004 rfl (lv_at hl 3 rfl) ?_
  refine lv_iload_n hx hb dL_law_1005 rfl (lv_at hl 0 rfl) ?_
  refine lv_iconst (v := 1) hx hb dL_law_1006 (by decide +kernel) ?_
  refine lv_iadd hx hb dL_law_1007 ?_
  refine lv_topi (fun x101 ex101 => ?_)
  have tx101 := ti_add (a := x3.toInt) (b := 1) ex101 rfl (by decide +kernel) (by omega) (by omega)
  refine va_sld hx hb hX hbl hbA hS (vp_in_iff.mpr (by have h9 : x101.toInt = (x3.toInt + 1) := tx101; omega)) dL_law_1008 ?_
  refine lv_topi (fun x102 ex102 => ?_)
  refine lv_aload_n hx hb dL_law_1009 rfl (lv_at hl 3 rfl) ?_
  refine lv_iload_n hx hb dL_law_1010 rfl (lv_at hl 0 rfl) ?_
  refine lv_iconst (v := 2) hx hb dL_law_1011 (by decide +kernel) ?_
  refine lv_iadd hx hb dL_law_1012 ?_
  refine lv_topi (fun x103 ex103 => ?_)
  have tx103 := ti_add (a := x3.toInt) (b := 2) ex103 rfl (by decide +kernel) (by omega) (by omega)
  refine va_sld hx hb hX hbl hbA hS (vp_in_iff.mpr (by have h9 : x103.toInt = (x3.toInt + 2) := tx103; omega)) dL_law_1013 ?_
  refine lv_topi (fun x104 ex104 => ?_)
  refine ro_calli (va_runV (As := [.int x102, .int x104]) (rest := []) ⟨hx, hb, hml, hown, hts⟩ (x_X11_sought_n l D H.size a t i q c d x102 x104 hI ) (cwV 2 hts gm_law_X11_sought_n_120 rfl rfl rfl (by decide +kernel) ⟨Nat.le_of_ble_eq_true rfl, Nat.le_of_ble_eq_true rfl⟩) (yA_V hN (xZ_k hZ hS hA) hKT (vP_l hP) (ci := 11) (q0 := 0) rfl rfl) rfl rfl hl.1 rfl (lv_room (Nat.le_of_ble_eq_true rfl)) dL_law_1014 hcs) hS hA hP (fun r105 u105 H locs hw105 hP hS => ?_)
  refine lv_pop hx hb dL_law_1017 rfl ?_
  refine lv_aload_n hx hb dL_law_1018 rfl (lv_at hl 1 rfl) ?_
  refine lv_aload_n hx hb dL_law_1019 rfl (lv_at hl 3 rfl) ?_
  refine lv_iload_n hx hb dL_law_1020 rfl (lv_at hl 0 rfl) ?_
  refine lv_iconst (v := 1) hx hb dL_law_1021 (by decide +kernel) ?_
  refine lv_iadd hx hb dL_law_1022 ?_
  refine lv_topi (fun x106 ex106 => ?_)
  have tx106 := ti_add (a := x3.toInt) (b := 1) ex106 rfl (by decide +kernel) (by omega) (by omega)
  refine va_sld hx hb hX hbl hbA hS (vp_in_iff.mpr (by have h9 : x106.toInt = (x3.toInt + 1) := tx106; omega)) dL_law_1023 ?_
  refine lv_topi (fun x107 ex107 => ?_)
  refine lv_aload_n hx hb dL_law_1024 rfl (lv_at hl 3 rfl) ?_
  refine lv_iload_n hx hb dL_law_1025 rfl (lv_at hl 0 rfl) ?_
  refine lv_iconst (v := 2) hx hb dL_law_1026 (by decide +kernel) ?_
  refine lv_iadd hx hb dL_law_1027 ?_
  refine lv_topi (fun x108 ex108 => ?_)
  have tx108 := ti_add (a := x3.toInt) (b := 2) ex108 rfl (by decide +kernel) (by omega) (by omega)
  refine va_sld hx hb hX hbl hbA hS (vp_in_iff.mpr (by have h9 : x108.toInt = (x3.toInt + 2) := tx108; omega)) dL_law_1028 ?_
  refine lv_topi (fun x109 ex109 => ?_)
  have hP : va_P D vwCl ((xwT .null a t i q c d ++ ([] : va_W)) ++ mW o am tm jm qm em dm) H := by rw [List.append_assoc]; exact hP
  have hD : va_D (fun q : Nat => s.heap.size ≤ q) ((xwT .null a t i q c d ++ ([] : va_W)) ++ mW o am tm jm qm em dm) := by rw [List.append_assoc]; exact hD
  refine ro_calli (va_runV (As := [.int x107, .int x109]) (rest := []) ⟨hx, hb, hml, hown, hts⟩ (s_X12_sought l D H.size o am tm jm qm em dm x107 x109 hM ) (cwV 2 hts gm_law_X12_sought_123 rfl rfl rfl (by decide +kernel) ⟨Nat.le_of_ble_eq_true rfl, Nat.le_of_ble_eq_true rfl⟩) (pA_V hKM (vP_r hP) (ci := 12) (q0 := 0) rfl rfl) rfl rfl hl.1 rfl (lv_room (Nat.le_of_ble_eq_true rfl)) dL_law_1029 hcs) hS hA hP (fun r110 u110 H locs hw110 hP hS => ?_)
  have hP : va_P D vwCl (xwT .null a t i q c d ++ (([] : va_W) ++ mW o am tm jm qm em dm)) H := by rw [← List.append_assoc]; exact hP
  have hD : va_D (fun q : Nat => s.heap.size ≤ q) (xwT .null a t i q c d ++ (([] : va_W) ++ mW o am tm jm qm em dm)) := by rw [← List.append_assoc]; exact hD
  refine lv_pop hx hb dL_law_1032 rfl ?_
  refine lv_goto (tgt := 1461) hx hb dL_law_1033 (by decide +kernel) ?_
  exact kk i q c d jm qm em dm _ _ _ ⟨hI, hs_F, hs_P, htr, hM, hs_S, hs_J, ⟨hR, hPA, hKO, hSO, hSN, hDR, hRD, hTL, hFT, hSZ, hG7, hG6, hCT⟩⟩ hP hD hS (lv_sub hl [0, 1, 2, 3] rfl)

set_option maxHeartbeats 4000000 in
set_option maxRecDepth 100000 in
theorem law_count_s {g7 : Int32} {g6 : Nat → Int32} {p : Program} {l : Launch} {e : Env} {s : State} {m : MethodId} {below : List Frame} {meth : Method} {cd : Code} {b L : Nat} {xs : Nat → Int32} {D : va_G} {a : Nat → Nat} {t : Nat → ClassId} {o : Nat} {am : Nat → Nat} {tm : Nat → ClassId} {x3 : Int32} {cells slots : Nat} {az : Nat → Nat} {tz : Nat → ClassId} (hx : p.tables.exec = Jvm.exec) (hb : cd.code = cL_law) (hml : cd.maxLocals = 4) (hown : s.vm.findClass RL = some m.cls) (hts : ∀ w ∈ wm_law, w.before #[Value.ref b] s = true) (hX : va_X b L xs s s.heap) (hbl : b < s.heap.size) (hL : L ≤ 3584) (hN : xN s) (hZ : xZ (a 186) s s.heap) (hKT : va_K D vwCl (xtT t) s) (hKM : va_K D vwCl (mT tm) s) (hcs : cells ≤ 600000 ∧ slots ≤ 7302249) (hx3 : 0 ≤ x3.toInt ∧ x3.toInt + 7 ≤ (L : Int)) (hKZ : va_K D vwCl (xtZ tz) s) (i : Nat → Int32) (q : Int64) (c : Nat → Nat → Int32) (d : Nat → Nat → Int64) (jm : Nat → Int32) (qm : Int64) (em : Nat → Nat → Int32) (dm : Nat → Nat → Int64) (iz : Nat → Int32) (cz : Nat → Nat → Int32) (dz : Nat → Nat → Int64) (H : Heap) (locs : List Loc) (ls : Array Slot) (kk : LK g7 g6 p l e s m below meth cd b D (.ref (az 166)) a t (xwZ .null (fun k => if k < 166 then a k else az k) tz iz 0 cz dz) o am tm x3 cells slots) (hIz : xInv iz cz) (hSl : SkL iz cz g7 g6) (hLI : LI i c jm em g7 g6) (hP : va_P D vwCl (xwT (.ref (az 166)) a t i q c d ++ (xwZ .null (fun k => if k < 166 then a k else az k) tz iz 0 cz dz ++ mW o am tm jm qm em dm)) H) (hD : va_D (fun q : Nat => s.heap.size ≤ q) (xwT (.ref (az 166)) a t i q c d ++ (xwZ .null (fun k => if k < 166 then a k else az k) tz iz 0 cz dz ++ mW o am tm jm qm em dm))) (hS : va_S (fun q : Nat => s.heap.size ≤ q) s.heap H locs) (hl : lv_has ls 4 [(3, .int x3), (2, .ref o), (1, .ref (a 100)), (0, .ref b)]) : W p l e room_1 s m #[Value.ref b] below meth cd H locs cells slots (lw_Z below #[Value.ref b] s) (F0 m 1389 ls []) := by
  have hbA : ¬ (fun q : Nat => s.heap.size ≤ q) b := Nat.not_le.mpr hbl
  have hA : ∀ q : Nat, s.heap.size ≤ q → (fun q : Nat => s.heap.size ≤ q) q := fun _ h => h
  obtain ⟨hI, hs_F, hs_P, htr, hM, hs_S, hs_J, hR⟩ := hLI
  have hI0 := hI
  have hM0 := hM
  obtain ⟨hR, hPA, hKO, hSO, hSN, hDR, hRD, hTL, hFT, hSZ, hG7, hG6, hCT⟩ := hR
  have hRR := RR_of hI0 hs_F
  have hZE : ∀ t : Int, 0 ≤ t → t < (i 111).toInt → zX (c 106) (c 108) (i 111).toInt t = kS (em 3) (em 6) t := (fun t9 h9 h8 => by rw [zX_e ⟨h9, h8⟩]; exact xS_e (kn := i 110) (N := (jm 5).toInt) hSO hPA hKO (fun j hj => by have h9 := hs_S.1 j hj; have h8 := hR.1; omega) (fun j => (show 0 ≤ (em 6 j).toInt ∧ (em 6 j).toInt ≤ 23 from hM0.2 6 j).1) (by have h7 := hR.2.1; omega) (show 0 ≤ (c 106 _).toInt ∧ (c 106 _).toInt ≤ 5 from hI0.2 106 _))
  have hZM : zX (c 106) (c 108) (i 111).toInt = zM (em 3) (em 6) (i 111).toInt := zXM hZE
  have hIU : xInv (fun k => if k < 166 then i k else iz k) (fun k => if k < 166 then c k else cz k) := xInv_m hI hIz
  have hKU : va_K D vwCl (xtU (fun k => if k < 166 then t k else if k = 186 then t 186 else tz k)) s := hKT.app hKZ
  have hPU : va_P D vwCl (xwU (.ref (az 166)) (fun k => if k < 166 then a k else if k = 186 then a 186 else az k) (fun k => if k < 166 then t k else if k = 186 then t 186 else tz k) (fun k => if k < 166 then i k else iz k) q (fun k => if k < 166 then c k else cz k) d) H := by rw [← List.append_assoc] at hP; exact vP_l hP
  refine lv_aload_n hx hb dL_law_1389 rfl (lv_at hl 2 rfl) ?_
  refine lv_aload_n hx hb dL_law_1390 rfl (lv_at hl 3 rfl) ?_
  refine lv_iload_n hx hb dL_law_1391 rfl (lv_at hl 0 rfl) ?_
  refine lv_iconst (v := 1) hx hb dL_law_1392 (by decide +kernel) ?_
  refine lv_iadd hx hb dL_law_1393 ?_
  refine lv_topi (fun x101 ex101 => ?_)
  have tx101 := ti_add (a := x3.toInt) (b := 1) ex101 rfl (by decide +kernel) (by omega) (by omega)
  refine va_sld hx hb hX hbl hbA hS (vp_in_iff.mpr (by have h9 : x101.toInt = (x3.toInt + 1) := tx101; omega)) dL_law_1394 ?_
  refine lv_topi (fun x102 ex102 => ?_)
  refine ro_calli (va_runV (As := [.int x102]) (rest := []) ⟨hx, hb, hml, hown, hts⟩ (x_X11_count_sE l D H.size (fun k => if k < 166 then a k else if k = 186 then a 186 else az k) (fun k => if k < 166 then t k else if k = 186 then t 186 else tz k) (fun k => if k < 166 then i k else iz k) q (fun k => if k < 166 then c k else cz k) d x102 hIU ) (cwV 1 hts gm_law_X11_count_sE_156 rfl rfl rfl (by decide +kernel) ⟨Nat.le_of_ble_eq_true rfl, Nat.le_of_ble_eq_true rfl⟩) (yA_V hN (xZ_k hZ hS hA) hKU hPU (ci := 11) (q0 := 0) rfl rfl) rfl rfl hl.1 rfl (lv_room (Nat.le_of_ble_eq_true rfl)) dL_law_1395 hcs) hS hA hP (fun r103 u103 H locs hw103 hP hS => ?_)
  have hw103 : (True ∧ ((x102.toInt = 0 ∧ r103.toInt = (i 110).toInt) ∨ (x102.toInt = 1 ∧ r103.toInt = (i 111).toInt) ∨ (x102.toInt = 2 ∧ r103.toInt = (i 125).toInt) ∨ (x102.toInt = 3 ∧ r103.toInt = (i 124).toInt) ∨ (x102.toInt = 4 ∧ r103.toInt = (i 165).toInt) ∨ (x102.toInt = 5 ∧ r103.toInt = (i 148).toInt) ∨ (x102.toInt = 6 ∧ (((i 146).toInt = 1 ∧ r103.toInt = (i 147).toInt) ∨ (¬ (i 146).toInt = 1 ∧ r103.toInt = -9))) ∨ (x102.toInt = 7 ∧ r103.toInt = (iz 173).toInt) ∨ (¬ (0 ≤ x102.toInt ∧ x102.toInt ≤ 7) ∧ r103.toInt = -1))) := hw103
  obtain ⟨_, hr103_0⟩ := hw103
  refine lv_aload_n hx hb dL_law_1398 rfl (lv_at hl 1 rfl) ?_
  refine lv_aload_n hx hb dL_law_1399 rfl (lv_at hl 3 rfl) ?_
  refine lv_iload_n hx hb dL_law_1400 rfl (lv_at hl 0 rfl) ?_
  refine lv_iconst (v := 1) hx hb dL_law_1401 (by decide +kernel) ?_
  refine lv_iadd hx hb dL_law_1402 ?_
  refine lv_topi (fun x104 ex104 => ?_)
  have tx104 := ti_add (a := x3.toInt) (b := 1) ex104 rfl (by decide +kernel) (by omega) (by omega)
  refine va_sld hx hb hX hbl hbA hS (vp_in_iff.mpr (by have h9 : x104.toInt = (x3.toInt + 1) := tx104; omega)) dL_law_1403 ?_
  refine lv_topi (fun x105 ex105 => ?_)
  have hP : va_P D vwCl ((xwT (.ref (az 166)) a t i q c d ++ (xwZ .null (fun k => if k < 166 then a k else az k) tz iz 0 cz dz)) ++ mW o am tm jm qm em dm) H := by rw [List.append_assoc]; exact hP
  have hD : va_D (fun q : Nat => s.heap.size ≤ q) ((xwT (.ref (az 166)) a t i q c d ++ (xwZ .null (fun k => if k < 166 then a k else az k) tz iz 0 cz dz)) ++ mW o am tm jm qm em dm) := by rw [List.append_assoc]; exact hD
  refine ro_calli (va_runV (As := [.int x105]) (rest := [.int r103]) ⟨hx, hb, hml, hown, hts⟩ (s_X12_count_k l D H.size o am tm jm qm em dm x105 hM ) (cwV 1 hts gm_law_X12_count_159 rfl rfl rfl (by decide +kernel) ⟨Nat.le_of_ble_eq_true rfl, Nat.le_of_ble_eq_true rfl⟩) (pA_V hKM (vP_r hP) (ci := 12) (q0 := 0) rfl rfl) rfl rfl hl.1 rfl (lv_room (Nat.le_of_ble_eq_true rfl)) dL_law_1404 hcs) hS hA hP (fun r106 u106 H locs hw106 hP hS => ?_)
  have hw106 : (True ∧ ((x105.toInt = 0 ∧ r106.toInt = (jm 2).toInt) ∨ (x105.toInt = 1 ∧ r106.toInt = (jm 5).toInt) ∨ (x105.toInt = 2 ∧ r106.toInt = ((cnt (ctP (em 13)) (jm 8).toInt.toNat : Nat) : Int)) ∨ (x105.toInt = 3 ∧ r106.toInt = (jm 8).toInt) ∨ (x105.toInt = 4 ∧ r106.toInt = (jm 64).toInt) ∨ (x105.toInt = 5 ∧ r106.toInt = (jm 27).toInt) ∨ (x105.toInt = 6 ∧ r106.toInt = (jm 22).toInt) ∨ (x105.toInt = 7 ∧ r106.toInt = (jm 57).toInt) ∨ (¬ (0 ≤ x105.toInt ∧ x105.toInt ≤ 7) ∧ r106.toInt = -1))) := hw106
  obtain ⟨_, hr106_0⟩ := hw106
  have hP : va_P D vwCl (xwT (.ref (az 166)) a t i q c d ++ ((xwZ .null (fun k => if k < 166 then a k else az k) tz iz 0 cz dz) ++ mW o am tm jm qm em dm)) H := by rw [← List.append_assoc]; exact hP
  have hD : va_D (fun q : Nat => s.heap.size ≤ q) (xwT (.ref (az 166)) a t i q c d ++ ((xwZ .null (fun k => if k < 166 then a k else az k) tz iz 0 cz dz) ++ mW o am tm jm qm em dm)) := by rw [← List.append_assoc]; exact hD
  have hag0 : x105.toInt = x102.toInt := congrArg Int32.toInt (by rw [ex105, ex104, ex102, ex101])
  refine lv_icmp_eq (tgt := 1461) hx hb dL_law_1407 (by decide +kernel) (fun _ => ?_) (fun q9 => absurd (Co_e hag0 hR.1 hR.2.1 (by have h9 := hCT; unfold CtS at h9; rw [hSN.2.2.2.2.1, hSN.2.2.2.2.2.1] at h9; exact h9) hSN.2.2.2.2.2.1 hR.2.2.1 hTL.2.1 (TL_6 hTL) (by rw [hG7]; exact hSl.2.1) hr103_0 hr106_0) q9)
  exact kk i q c d jm qm em dm _ _ _ ⟨hI, hs_F, hs_P, htr, hM, hs_S, hs_J, ⟨hR, hPA, hKO, hSO, hSN, hDR, hRD, hTL, hFT, hSZ, hG7, hG6, hCT⟩⟩ hP hD hS (lv_sub hl [0, 1, 2, 3] rfl)

set_option maxHeartbeats 4000000 in
set_option maxRecDepth 100000 in
theorem law_count_n {g7 : Int32} {g6 : Nat → Int32} {p : Program} {l : Launch} {e : Env} {s : State} {m : MethodId} {below : List Frame} {meth : Method} {cd : Code} {b L : Nat} {xs : Nat → Int32} {D : va_G} {a : Nat → Nat} {t : Nat → ClassId} {o : Nat} {am : Nat → Nat} {tm : Nat → ClassId} {x3 : Int32} {cells slots : Nat} (hx : p.tables.exec = Jvm.exec) (hb : cd.code = cL_law) (hml : cd.maxLocals = 4) (hown : s.vm.findClass RL = some m.cls) (hts : ∀ w ∈ wm_law, w.before #[Value.ref b] s = true) (hX : va_X b L xs s s.heap) (hbl : b < s.heap.size) (hL : L ≤ 3584) (hN : xN s) (hZ : xZ (a 186) s s.heap) (hKT : va_K D vwCl (xtT t) s) (hKM : va_K D vwCl (mT tm) s) (hcs : cells ≤ 600000 ∧ slots ≤ 7302249) (hx3 : 0 ≤ x3.toInt ∧ x3.toInt + 7 ≤ (L : Int)) (kk : LK g7 g6 p l e s m below meth cd b D .null a t [] o am tm x3 cells slots) (h7 : g7.toInt = -9) (i : Nat → Int32) (q : Int64) (c : Nat → Nat → Int32) (d : Nat → Nat → Int64) (jm : Nat → Int32) (qm : Int64) (em : Nat → Nat → Int32) (dm : Nat → Nat → Int64) (H : Heap) (locs : List Loc) (ls : Array Slot) (hLI : LI i c jm em g7 g6) (hP : va_P D vwCl (xwT .null a t i q c d ++ (([] : va_W) ++ mW o am tm jm qm em dm)) H) (hD : va_D (fun q : Nat => s.heap.size ≤ q) (xwT .null a t i q c d ++ (([] : va_W) ++ mW o am tm jm qm em dm))) (hS : va_S (fun q : Nat => s.heap.size ≤ q) s.heap H locs) (hl : lv_has ls 4 [(3, .int x3), (2, .ref o), (1, .ref (a 100)), (0, .ref b)]) : W p l e room_1 s m #[Value.ref b] below meth cd H locs cells slots (lw_Z below #[Value.ref b] s) (F0 m 1389 ls []) := by
  have hbA : ¬ (fun q : Nat => s.heap.size ≤ q) b := Nat.not_le.mpr hbl
  have hA : ∀ q : Nat, s.heap.size ≤ q → (fun q : Nat => s.heap.size ≤ q) q := fun _ h => h
  obtain ⟨hI, hs_F, hs_P, htr, hM, hs_S, hs_J, hR⟩ := hLI
  have hI0 := hI
  have hM0 := hM
  obtain ⟨hR, hPA, hKO, hSO, hSN, hDR, hRD, hTL, hFT, hSZ, hG7, hG6, hCT⟩ := hR
  have hRR := RR_of hI0 hs_F
  have hZE : ∀ t : Int, 0 ≤ t → t < (i 111).toInt → zX (c 106) (c 108) (i 111).toInt t = kS (em 3) (em 6) t := (fun t9 h9 h8 => by rw [zX_e ⟨h9, h8⟩]; exact xS_e (kn := i 110) (N := (jm 5).toInt) hSO hPA hKO (fun j hj => by have h9 := hs_S.1 j hj; have h8 := hR.1; omega) (fun j => (show 0 ≤ (em 6 j).toInt ∧ (em 6 j).toInt ≤ 23 from hM0.2 6 j).1) (by have h7 := hR.2.1; omega) (show 0 ≤ (c 106 _).toInt ∧ (c 106 _).toInt ≤ 5 from hI0.2 106 _))
  have hZM : zX (c 106) (c 108) (i 111).toInt = zM (em 3) (em 6) (i 111).toInt := zXM hZE
  refine lv_aload_n hx hb dL_law_1389 rfl (lv_at hl 2 rfl) ?_
  refine lv_aload_n hx hb dL_law_1390 rfl (lv_at hl 3 rfl) ?_
  refine lv_iload_n hx hb dL_law_1391 rfl (lv_at hl 0 rfl) ?_
  refine lv_iconst (v := 1) hx hb dL_law_1392 (by decide +kernel) ?_
  refine lv_iadd hx hb dL_law_1393 ?_
  refine lv_topi (fun x101 ex101 => ?_)
  have tx101 := ti_add (a := x3.toInt) (b := 1) ex101 rfl (by decide +kernel) (by omega) (by omega)
  refine va_sld hx hb hX hbl hbA hS (vp_in_iff.mpr (by have h9 : x101.toInt = (x3.toInt + 1) := tx101; omega)) dL_law_1394 ?_
  refine lv_topi (fun x102 ex102 => ?_)
  refine ro_calli (va_runV (As := [.int x102]) (rest := []) ⟨hx, hb, hml, hown, hts⟩ (x_X11_count_nE l D H.size a t i q c d x102 hI ) (cwV 1 hts gm_law_X11_count_nE_156 rfl rfl rfl (by decide +kernel) ⟨Nat.le_of_ble_eq_true rfl, Nat.le_of_ble_eq_true rfl⟩) (yA_V hN (xZ_k hZ hS hA) hKT (vP_l hP) (ci := 11) (q0 := 0) rfl rfl) rfl rfl hl.1 rfl (lv_room (Nat.le_of_ble_eq_true rfl)) dL_law_1395 hcs) hS hA hP (fun r103 u103 H locs hw103 hP hS => ?_)
  have hw103 : (True ∧ ((x102.toInt = 0 ∧ r103.toInt = (i 110).toInt) ∨ (x102.toInt = 1 ∧ r103.toInt = (i 111).toInt) ∨ (x102.toInt = 2 ∧ r103.toInt = (i 125).toInt) ∨ (x102.toInt = 3 ∧ r103.toInt = (i 124).toInt) ∨ (x102.toInt = 4 ∧ r103.toInt = (i 165).toInt) ∨ (x102.toInt = 5 ∧ r103.toInt = (i 148).toInt) ∨ (x102.toInt = 6 ∧ (((i 146).toInt = 1 ∧ r103.toInt = (i 147).toInt) ∨ (¬ (i 146).toInt = 1 ∧ r103.toInt = -9))) ∨ (x102.toInt = 7 ∧ r103.toInt = -9) ∨ (¬ (0 ≤ x102.toInt ∧ x102.toInt ≤ 7) ∧ r103.toInt = -1))) := hw103
  obtain ⟨_, hr103_0⟩ := hw103
  refine lv_aload_n hx hb dL_law_1398 rfl (lv_at hl 1 rfl) ?_
  refine lv_aload_n hx hb dL_law_1399 rfl (lv_at hl 3 rfl) ?_
  refine lv_iload_n hx hb dL_law_1400 rfl (lv_at hl 0 rfl) ?_
  refine lv_iconst (v := 1) hx hb dL_law_1401 (by decide +kernel) ?_
  refine lv_iadd hx hb dL_law_1402 ?_
  refine lv_topi (fun x104 ex104 => ?_)
  have tx104 := ti_add (a := x3.toInt) (b := 1) ex104 rfl (by decide +kernel) (by omega) (by omega)
  refine va_sld hx hb hX hbl hbA hS (vp_in_iff.mpr (by have h9 : x104.toInt = (x3.toInt + 1) := tx104; omega)) dL_law_1403 ?_
  refine lv_topi (fun x105 ex105 => ?_)
  have hP : va_P D vwCl ((xwT .null a t i q c d ++ ([] : va_W)) ++ mW o am tm jm qm em dm) H := by rw [List.append_assoc]; exact hP
  have hD : va_D (fun q : Nat => s.heap.size ≤ q) ((xwT .null a t i q c d ++ ([] : va_W)) ++ mW o am tm jm qm em dm) := by rw [List.append_assoc]; exact hD
  refine ro_calli (va_runV (As := [.int x105]) (rest := [.int r103]) ⟨hx, hb, hml, hown, hts⟩ (s_X12_count_k l D H.size o am tm jm qm em dm x105 hM ) (cwV 1 hts gm_law_X12_count_159 rfl rfl rfl (by decide +kernel) ⟨Nat.le_of_ble_eq_true rfl, Nat.le_of_ble_eq_true rfl⟩) (pA_V hKM (vP_r hP) (ci := 12) (q0 := 0) rfl rfl) rfl rfl hl.1 rfl (lv_room (Nat.le_of_ble_eq_true rfl)) dL_law_1404 hcs) hS hA hP (fun r106 u106 H locs hw106 hP hS => ?_)
  have hw106 : (True ∧ ((x105.toInt = 0 ∧ r106.toInt = (jm 2).toInt) ∨ (x105.toInt = 1 ∧ r106.toInt = (jm 5).toInt) ∨ (x105.toInt = 2 ∧ r106.toInt = ((cnt (ctP (em 13)) (jm 8).toInt.toNat : Nat) : Int)) ∨ (x105.toInt = 3 ∧ r106.toInt = (jm 8).toInt) ∨ (x105.toInt = 4 ∧ r106.toInt = (jm 64).toInt) ∨ (x105.toInt = 5 ∧ r106.toInt = (jm 27).toInt) ∨ (x105.toInt = 6 ∧ r106.toInt = (jm 22).toInt) ∨ (x105.toInt = 7 ∧ r106.toInt = (jm 57).toInt) ∨ (¬ (0 ≤ x105.toInt ∧ x105.toInt ≤ 7) ∧ r106.toInt = -1))) := hw106
  obtain ⟨_, hr106_0⟩ := hw106
  have hP : va_P D vwCl (xwT .null a t i q c d ++ (([] : va_W) ++ mW o am tm jm qm em dm)) H := by rw [← List.append_assoc]; exact hP
  have hD : va_D (fun q : Nat => s.heap.size ≤ q) (xwT .null a t i q c d ++ (([] : va_W) ++ mW o am tm jm qm em dm)) := by rw [← List.append_assoc]; exact hD
  have hag0 : x105.toInt = x102.toInt := congrArg Int32.toInt (by rw [ex105, ex104, ex102, ex101])
  refine lv_icmp_eq (tgt := 1461) hx hb dL_law_1407 (by decide +kernel) (fun _ => ?_) (fun q9 => absurd (Co_e hag0 hR.1 hR.2.1 (by have h9 := hCT; unfold CtS at h9; rw [hSN.2.2.2.2.1, hSN.2.2.2.2.2.1] at h9; exact h9) hSN.2.2.2.2.2.1 hR.2.2.1 hTL.2.1 (TL_6 hTL) (by rw [hG7]; exact h7.symm) hr103_0 hr106_0) q9)
  exact kk i q c d jm qm em dm _ _ _ ⟨hI, hs_F, hs_P, htr, hM, hs_S, hs_J, ⟨hR, hPA, hKO, hSO, hSN, hDR, hRD, hTL, hFT, hSZ, hG7, hG6, hCT⟩⟩ hP hD hS (lv_sub hl [0, 1, 2, 3] rfl)

