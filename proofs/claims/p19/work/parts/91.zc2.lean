set_option maxHeartbeats 4000000 in
set_option maxRecDepth 100000 in
theorem law_begin {p : Program} {l : Launch} {e : Env} {s : State} {m : MethodId} {below : List Frame} {meth : Method} {cd : Code} {b L : Nat} {xs : Nat → Int32} {D : va_G} {a : Nat → Nat} {t : Nat → ClassId} {o : Nat} {am : Nat → Nat} {tm : Nat → ClassId} {x3 : Int32} {cells slots : Nat} {sk : Value} {Z : va_W} (hx : p.tables.exec = Jvm.exec) (hb : cd.code = cL_law) (hml : cd.maxLocals = 4) (hown : s.vm.findClass RL = some m.cls) (hts : ∀ w ∈ wm_law, w.before #[Value.ref b] s = true) (hX : va_X b L xs s s.heap) (hbl : b < s.heap.size) (hL : L ≤ 3584) (hN : xN s) (hZ : xZ (a 186) s s.heap) (hKT : va_K D vwCl (xtT t) s) (hKM : va_K D vwCl (mT tm) s) (hcs : cells ≤ 600000 ∧ slots ≤ 7302249) (hx3 : 0 ≤ x3.toInt ∧ x3.toInt + 7 ≤ (L : Int)) (kk : LK p l e s m below meth cd b D sk a t Z o am tm x3 cells slots) (i : Nat → Int32) (q : Int64) (c : Nat → Nat → Int32) (d : Nat → Nat → Int64) (jm : Nat → Int32) (qm : Int64) (em : Nat → Nat → Int32) (dm : Nat → Nat → Int64) (H : Heap) (locs : List Loc) (ls : Array Slot) (hLI : LI i c jm em) (hP : va_P D vwCl (xwT sk a t i q c d ++ (Z ++ mW o am tm jm qm em dm)) H) (hD : va_D (fun q : Nat => s.heap.size ≤ q) (xwT sk a t i q c d ++ (Z ++ mW o am tm jm qm em dm))) (hS : va_S (fun q : Nat => s.heap.size ≤ q) s.heap H locs) (hl : lv_has ls 4 [(3, .int x3), (2, .ref o), (1, .ref (a 100)), (0, .ref b)]) : W p l e room_1 s m #[Value.ref b] below meth cd H locs cells slots (lw_Z below #[Value.ref b] s) (F0 m 802 ls []) := by
  have hbA : ¬ (fun q : Nat => s.heap.size ≤ q) b := Nat.not_le.mpr hbl
  have hA : ∀ q : Nat, s.heap.size ≤ q → (fun q : Nat => s.heap.size ≤ q) q := fun _ h => h
  obtain ⟨hI, hs_F, hs_P, htr, hM, hs_S, hs_J, hR⟩ := hLI
  have hI0 := hI
  have hM0 := hM
  obtain ⟨hR, hPA, hKO, hSO, hSN, hDR, hRD⟩ := hR
  have hRR := RR_of hI0 hs_F
  refine lv_aload_n hx hb dL_law_802 rfl (lv_at hl 2 rfl) ?_
  refine lv_aload_n hx hb dL_law_803 rfl (lv_at hl 3 rfl) ?_
  refine lv_iload_n hx hb dL_law_804 rfl (lv_at hl 0 rfl) ?_
  refine lv_iconst (v := 1) hx hb dL_law_805 (by decide +kernel) ?_
  refine lv_iadd hx hb dL_law_806 ?_
  refine lv_topi (fun x101 ex101 => ?_)
  have tx101 := ti_add (a := x3.toInt) (b := 1) ex101 rfl (by decide +kernel) (by omega) (by omega)
  refine va_sld hx hb hX hbl hbA hS (vp_in_iff.mpr (by have h9 : x101.toInt = (x3.toInt + 1) := tx101; omega)) dL_law_807 ?_
  refine lv_topi (fun x102 ex102 => ?_)
  refine lc_i (wr := (Z ++ mW o am tm jm qm em dm)) (va_runV (As := [.int x102]) (rest := []) ⟨hx, hb, hml, hown, hts⟩ (x_X11_begin l D H.size sk a t i q c d x102 hI hs_P) (cwV 1 hts gm_law_X11_begin_91 rfl rfl rfl (by decide +kernel) ⟨Nat.le_of_ble_eq_true rfl, Nat.le_of_ble_eq_true rfl⟩) (yB_V hN (xZ_k hZ hS hA) (xZ_n hZ (vD_l hD)) hKT (vP_l hP) (vD_l hD) (ci := 11) (q0 := 0) rfl rfl) rfl rfl hl.1 rfl (lv_room (Nat.le_of_ble_eq_true rfl)) dL_law_808 hcs) hS hA hP hD (fun r103 u103 H locs hw103 _ hP hD hS => ?_)
  obtain ⟨i103, q103, c103, d103⟩ := u103
  have hw103 : True ∧ xInv i103 c103 ∧ (∀ k, k ∉ ([102, 146, 147, 148, 154, 156] : List Nat) → i103 k = i k) ∧ (∀ k, k ∉ ([101, 150, 152, 153] : List Nat) → c103 k = c k) ∧ (PJ (i103 146) (i103 147) (i103 156) (i103 148) (c103 150) (c103 144) (c103 145)) := hw103
  obtain ⟨hw103, hI, hei103, hec103, hxp103_0⟩ := hw103
  have hP : va_P D vwCl (xwT sk a t i103 q103 c103 d103 ++ (Z ++ mW o am tm jm qm em dm)) H := hP
  have hD : va_D (fun q : Nat => s.heap.size ≤ q) (xwT sk a t i103 q103 c103 d103 ++ (Z ++ mW o am tm jm qm em dm)) := hD
  refine lv_pop hx hb dL_law_811 rfl ?_
  refine lv_aload_n hx hb dL_law_812 rfl (lv_at hl 1 rfl) ?_
  refine lv_aload_n hx hb dL_law_813 rfl (lv_at hl 3 rfl) ?_
  refine lv_iload_n hx hb dL_law_814 rfl (lv_at hl 0 rfl) ?_
  refine lv_iconst (v := 1) hx hb dL_law_815 (by decide +kernel) ?_
  refine lv_iadd hx hb dL_law_816 ?_
  refine lv_topi (fun x104 ex104 => ?_)
  have tx104 := ti_add (a := x3.toInt) (b := 1) ex104 rfl (by decide +kernel) (by omega) (by omega)
  refine va_sld hx hb hX hbl hbA hS (vp_in_iff.mpr (by have h9 : x104.toInt = (x3.toInt + 1) := tx104; omega)) dL_law_817 ?_
  refine lv_topi (fun x105 ex105 => ?_)
  have hP : va_P D vwCl ((xwT sk a t i103 q103 c103 d103 ++ Z) ++ mW o am tm jm qm em dm) H := by rw [List.append_assoc]; exact hP
  have hD : va_D (fun q : Nat => s.heap.size ≤ q) ((xwT sk a t i103 q103 c103 d103 ++ Z) ++ mW o am tm jm qm em dm) := by rw [List.append_assoc]; exact hD
  refine rc_i (wr := (xwT sk a t i103 q103 c103 d103 ++ Z)) (va_runV (As := [.int x105]) (rest := []) ⟨hx, hb, hml, hown, hts⟩ (s_X12_begin l D H.size o am tm jm qm em dm x105 hM hs_S hs_J) (cwV 1 hts gm_law_X12_begin_94 rfl rfl rfl (by decide +kernel) ⟨Nat.le_of_ble_eq_true rfl, Nat.le_of_ble_eq_true rfl⟩) (pB_V hKM (vP_r hP) (vD_r hD) (ci := 12) (q0 := 0) rfl rfl) rfl rfl hl.1 rfl (lv_room (Nat.le_of_ble_eq_true rfl)) dL_law_818 hcs) hS hA hP hD (fun r106 u106 H locs hw106 hP hD hS => ?_)
  obtain ⟨i106, q106, c106, d106⟩ := u106
  have hw106 : True ∧ mInv i106 c106 ∧ (∀ k, k ∉ ([0, 22, 27] : List Nat) → i106 k = jm k) ∧ (∀ k, k ∉ ([1, 23, 24, 25, 26] : List Nat) → c106 k = em k) ∧ (SJ (c106 3) (c106 6) (c106 9) (c106 10) (c106 11) (c106 13) (i106 2).toInt (i106 5).toInt (i106 8).toInt) ∧ (TJ (c106 3) (c106 6) (c106 23) (c106 24) (c106 29) (c106 30) (i106 5).toInt (i106 22).toInt (i106 27).toInt) := hw106
  obtain ⟨hw106, hM, hei106, hec106, hxp106_0, hxp106_1⟩ := hw106
  have hP : va_P D vwCl (xwT sk a t i103 q103 c103 d103 ++ (Z ++ mW o am tm i106 q106 c106 d106)) H := by rw [← List.append_assoc]; exact hP
  have hD : va_D (fun q : Nat => s.heap.size ≤ q) (xwT sk a t i103 q103 c103 d103 ++ (Z ++ mW o am tm i106 q106 c106 d106)) := by rw [← List.append_assoc]; exact hD
  refine lv_pop hx hb dL_law_821 rfl ?_
  refine lv_goto (tgt := 1461) hx hb dL_law_822 (by decide +kernel) ?_
  exact kk i103 q103 c103 d103 i106 q106 c106 d106 _ _ _ ⟨hI, (by rw [show c103 113 = c 113 from hec103 113 (by decide +kernel), show c103 115 = c 115 from hec103 115 (by decide +kernel)]; exact hs_F), hxp103_0, (by rw [show i103 141 = i 141 from hei103 141 (by decide +kernel)]; exact htr), hM, hxp106_0, hxp106_1, (by rw [show i103 110 = i 110 from hei103 110 (by decide +kernel), show i103 111 = i 111 from hei103 111 (by decide +kernel), show i103 165 = i 165 from hei103 165 (by decide +kernel), show i103 124 = i 124 from hei103 124 (by decide +kernel), show c103 107 = c 107 from hec103 107 (by decide +kernel), show c103 105 = c 105 from hec103 105 (by decide +kernel), show c103 108 = c 108 from hec103 108 (by decide +kernel), show c103 106 = c 106 from hec103 106 (by decide +kernel), show c103 113 = c 113 from hec103 113 (by decide +kernel), show c103 114 = c 114 from hec103 114 (by decide +kernel), show c103 115 = c 115 from hec103 115 (by decide +kernel), show c103 116 = c 116 from hec103 116 (by decide +kernel), show c103 117 = c 117 from hec103 117 (by decide +kernel), show c103 118 = c 118 from hec103 118 (by decide +kernel), show c103 119 = c 119 from hec103 119 (by decide +kernel), show c103 120 = c 120 from hec103 120 (by decide +kernel), show c103 121 = c 121 from hec103 121 (by decide +kernel), show c103 127 = c 127 from hec103 127 (by decide +kernel), show c103 129 = c 129 from hec103 129 (by decide +kernel), show c103 130 = c 130 from hec103 130 (by decide +kernel), show c103 131 = c 131 from hec103 131 (by decide +kernel), show c103 132 = c 132 from hec103 132 (by decide +kernel), show c103 133 = c 133 from hec103 133 (by decide +kernel), show c103 134 = c 134 from hec103 134 (by decide +kernel), show i106 2 = jm 2 from hei106 2 (by decide +kernel), show i106 5 = jm 5 from hei106 5 (by decide +kernel), show i106 64 = jm 64 from hei106 64 (by decide +kernel), show i106 8 = jm 8 from hei106 8 (by decide +kernel), show c106 4 = em 4 from hec106 4 (by decide +kernel), show c106 3 = em 3 from hec106 3 (by decide +kernel), show c106 6 = em 6 from hec106 6 (by decide +kernel), show c106 9 = em 9 from hec106 9 (by decide +kernel), show c106 10 = em 10 from hec106 10 (by decide +kernel), show c106 11 = em 11 from hec106 11 (by decide +kernel), show c106 12 = em 12 from hec106 12 (by decide +kernel), show c106 13 = em 13 from hec106 13 (by decide +kernel)]; exact ⟨hR, hPA, hKO, hSO, hSN, hDR, hRD⟩)⟩ hP hD hS (lv_sub hl [0, 1, 2, 3] rfl)

set_option maxHeartbeats 4000000 in
set_option maxRecDepth 100000 in
theorem law_act {p : Program} {l : Launch} {e : Env} {s : State} {m : MethodId} {below : List Frame} {meth : Method} {cd : Code} {b L : Nat} {xs : Nat → Int32} {D : va_G} {a : Nat → Nat} {t : Nat → ClassId} {o : Nat} {am : Nat → Nat} {tm : Nat → ClassId} {x3 : Int32} {cells slots : Nat} {sk : Value} {Z : va_W} (hx : p.tables.exec = Jvm.exec) (hb : cd.code = cL_law) (hml : cd.maxLocals = 4) (hown : s.vm.findClass RL = some m.cls) (hts : ∀ w ∈ wm_law, w.before #[Value.ref b] s = true) (hX : va_X b L xs s s.heap) (hbl : b < s.heap.size) (hL : L ≤ 3584) (hN : xN s) (hZ : xZ (a 186) s s.heap) (hKT : va_K D vwCl (xtT t) s) (hKM : va_K D vwCl (mT tm) s) (hcs : cells ≤ 600000 ∧ slots ≤ 7302249) (hx3 : 0 ≤ x3.toInt ∧ x3.toInt + 7 ≤ (L : Int)) (kk : LK p l e s m below meth cd b D sk a t Z o am tm x3 cells slots) (i : Nat → Int32) (q : Int64) (c : Nat → Nat → Int32) (d : Nat → Nat → Int64) (jm : Nat → Int32) (qm : Int64) (em : Nat → Nat → Int32) (dm : Nat → Nat → Int64) (H : Heap) (locs : List Loc) (ls : Array Slot) (hLI : LI i c jm em) (hP : va_P D vwCl (xwT sk a t i q c d ++ (Z ++ mW o am tm jm qm em dm)) H) (hD : va_D (fun q : Nat => s.heap.size ≤ q) (xwT sk a t i q c d ++ (Z ++ mW o am tm jm qm em dm))) (hS : va_S (fun q : Nat => s.heap.size ≤ q) s.heap H locs) (hl : lv_has ls 4 [(3, .int x3), (2, .ref o), (1, .ref (a 100)), (0, .ref b)]) : W p l e room_1 s m #[Value.ref b] below meth cd H locs cells slots (lw_Z below #[Value.ref b] s) (F0 m 825 ls []) := by
  have hbA : ¬ (fun q : Nat => s.heap.size ≤ q) b := Nat.not_le.mpr hbl
  have hA : ∀ q : Nat, s.heap.size ≤ q → (fun q : Nat => s.heap.size ≤ q) q := fun _ h => h
  obtain ⟨hI, hs_F, hs_P, htr, hM, hs_S, hs_J, hR⟩ := hLI
  have hI0 := hI
  have hM0 := hM
  obtain ⟨hR, hPA, hKO, hSO, hSN, hDR, hRD⟩ := hR
  have hRR := RR_of hI0 hs_F
  refine lv_aload_n hx hb dL_law_825 rfl (lv_at hl 2 rfl) ?_
  refine lv_aload_n hx hb dL_law_826 rfl (lv_at hl 3 rfl) ?_
  refine lv_iload_n hx hb dL_law_827 rfl (lv_at hl 0 rfl) ?_
  refine lv_iconst (v := 1) hx hb dL_law_828 (by decide +kernel) ?_
  refine lv_iadd hx hb dL_law_829 ?_
  refine lv_topi (fun x101 ex101 => ?_)
  have tx101 := ti_add (a := x3.toInt) (b := 1) ex101 rfl (by decide +kernel) (by omega) (by omega)
  refine va_sld hx hb hX hbl hbA hS (vp_in_iff.mpr (by have h9 : x101.toInt = (x3.toInt + 1) := tx101; omega)) dL_law_830 ?_
  refine lv_topi (fun x102 ex102 => ?_)
  refine lv_aload_n hx hb dL_law_831 rfl (lv_at hl 3 rfl) ?_
  refine lv_iload_n hx hb dL_law_832 rfl (lv_at hl 0 rfl) ?_
  refine lv_iconst (v := 2) hx hb dL_law_833 (by decide +kernel) ?_
  refine lv_iadd hx hb dL_law_834 ?_
  refine lv_topi (fun x103 ex103 => ?_)
  have tx103 := ti_add (a := x3.toInt) (b := 2) ex103 rfl (by decide +kernel) (by omega) (by omega)
  refine va_sld hx hb hX hbl hbA hS (vp_in_iff.mpr (by have h9 : x103.toInt = (x3.toInt + 2) := tx103; omega)) dL_law_835 ?_
  refine lv_topi (fun x104 ex104 => ?_)
  refine lv_aload_n hx hb dL_law_836 rfl (lv_at hl 3 rfl) ?_
  refine lv_iload_n hx hb dL_law_837 rfl (lv_at hl 0 rfl) ?_
  refine lv_iconst (v := 3) hx hb dL_law_838 (by decide +kernel) ?_
  refine lv_iadd hx hb dL_law_839 ?_
  refine lv_topi (fun x105 ex105 => ?_)
  have tx105 := ti_add (a := x3.toInt) (b := 3) ex105 rfl (by decide +kernel) (by omega) (by omega)
  refine va_sld hx hb hX hbl hbA hS (vp_in_iff.mpr (by have h9 : x105.toInt = (x3.toInt + 3) := tx105; omega)) dL_law_840 ?_
  refine lv_topi (fun x106 ex106 => ?_)
  refine lc_i (wr := (Z ++ mW o am tm jm qm em dm)) (va_runV (As := [.int x102, .int x104, .int x106]) (rest := []) ⟨hx, hb, hml, hown, hts⟩ (x_X11_act l D H.size sk a t i q c d x102 x104 x106 hI htr hs_P) (cwV 3 hts gm_law_X11_act_95 rfl rfl rfl (by decide +kernel) ⟨Nat.le_of_ble_eq_true rfl, Nat.le_of_ble_eq_true rfl⟩) (yB_V hN (xZ_k hZ hS hA) (xZ_n hZ (vD_l hD)) hKT (vP_l hP) (vD_l hD) (ci := 11) (q0 := 0) rfl rfl) rfl rfl hl.1 rfl (lv_room (Nat.le_of_ble_eq_true rfl)) dL_law_841 hcs) hS hA hP hD (fun r107 u107 H locs hw107 _ hP hD hS => ?_)
  obtain ⟨i107, q107, c107, d107⟩ := u107
  have hw107 : True ∧ xInv i107 c107 ∧ (∀ k, k ∉ ([148, 154] : List Nat) → i107 k = i k) ∧ (∀ k, k ∉ ([143, 144, 145, 150, 152, 153] : List Nat) → c107 k = c k) ∧ (PJ (i107 146) (i107 147) (i107 156) (i107 148) (c107 150) (c107 144) (c107 145)) := hw107
  obtain ⟨hw107, hI, hei107, hec107, hxp107_0⟩ := hw107
  have hP : va_P D vwCl (xwT sk a t i107 q107 c107 d107 ++ (Z ++ mW o am tm jm qm em dm)) H := hP
  have hD : va_D (fun q : Nat => s.heap.size ≤ q) (xwT sk a t i107 q107 c107 d107 ++ (Z ++ mW o am tm jm qm em dm)) := hD
  refine lv_pop hx hb dL_law_844 rfl ?_
  refine lv_aload_n hx hb dL_law_845 rfl (lv_at hl 1 rfl) ?_
  refine lv_aload_n hx hb dL_law_846 rfl (lv_at hl 3 rfl) ?_
  refine lv_iload_n hx hb dL_law_847 rfl (lv_at hl 0 rfl) ?_
  refine lv_iconst (v := 1) hx hb dL_law_848 (by decide +kernel) ?_
  refine lv_iadd hx hb dL_law_849 ?_
  refine lv_topi (fun x108 ex108 => ?_)
  have tx108 := ti_add (a := x3.toInt) (b := 1) ex108 rfl (by decide +kernel) (by omega) (by omega)
  refine va_sld hx hb hX hbl hbA hS (vp_in_iff.mpr (by have h9 : x108.toInt = (x3.toInt + 1) := tx108; omega)) dL_law_850 ?_
  refine lv_topi (fun x109 ex109 => ?_)
  refine lv_aload_n hx hb dL_law_851 rfl (lv_at hl 3 rfl) ?_
  refine lv_iload_n hx hb dL_law_852 rfl (lv_at hl 0 rfl) ?_
  refine lv_iconst (v := 2) hx hb dL_law_853 (by decide +kernel) ?_
  refine lv_iadd hx hb dL_law_854 ?_
  refine lv_topi (fun x110 ex110 => ?_)
  have tx110 := ti_add (a := x3.toInt) (b := 2) ex110 rfl (by decide +kernel) (by omega) (by omega)
  refine va_sld hx hb hX hbl hbA hS (vp_in_iff.mpr (by have h9 : x110.toInt = (x3.toInt + 2) := tx110; omega)) dL_law_855 ?_
  refine lv_topi (fun x111 ex111 => ?_)
  refine lv_aload_n hx hb dL_law_856 rfl (lv_at hl 3 rfl) ?_
  refine lv_iload_n hx hb dL_law_857 rfl (lv_at hl 0 rfl) ?_
  refine lv_iconst (v := 3) hx hb dL_law_858 (by decide +kernel) ?_
  refine lv_iadd hx hb dL_law_859 ?_
  refine lv_topi (fun x112 ex112 => ?_)
  have tx112 := ti_add (a := x3.toInt) (b := 3) ex112 rfl (by decide +kernel) (by omega) (by omega)
  refine va_sld hx hb hX hbl hbA hS (vp_in_iff.mpr (by have h9 : x112.toInt = (x3.toInt + 3) := tx112; omega)) dL_law_860 ?_
  refine lv_topi (fun x113 ex113 => ?_)
  have hP : va_P D vwCl ((xwT sk a t i107 q107 c107 d107 ++ Z) ++ mW o am tm jm qm em dm) H := by rw [List.append_assoc]; exact hP
  have hD : va_D (fun q : Nat => s.heap.size ≤ q) ((xwT sk a t i107 q107 c107 d107 ++ Z) ++ mW o am tm jm qm em dm) := by rw [List.append_assoc]; exact hD
  refine rc_i (wr := (xwT sk a t i107 q107 c107 d107 ++ Z)) (va_runV (As := [.int x109, .int x111, .int x113]) (rest := []) ⟨hx, hb, hml, hown, hts⟩ (s_X12_act l D H.size o am tm jm qm em dm x109 x111 x113 hM hs_S hs_J) (cwV 3 hts gm_law_X12_act_98 rfl rfl rfl (by decide +kernel) ⟨Nat.le_of_ble_eq_true rfl, Nat.le_of_ble_eq_true rfl⟩) (pB_V hKM (vP_r hP) (vD_r hD) (ci := 12) (q0 := 0) rfl rfl) rfl rfl hl.1 rfl (lv_room (Nat.le_of_ble_eq_true rfl)) dL_law_861 hcs) hS hA hP hD (fun r114 u114 H locs hw114 hP hD hS => ?_)
  obtain ⟨i114, q114, c114, d114⟩ := u114
  have hw114 : True ∧ mInv i114 c114 ∧ (∀ k, k ∉ ([16, 17, 18, 19, 27, 35, 36, 40, 41, 42] : List Nat) → i114 k = jm k) ∧ (∀ k, k ∉ ([23, 24, 25, 26, 28, 29, 30, 31, 32, 34, 38, 39, 43, 44, 45, 46, 47, 48, 49] : List Nat) → c114 k = em k) ∧ (SJ (c114 3) (c114 6) (c114 9) (c114 10) (c114 11) (c114 13) (i114 2).toInt (i114 5).toInt (i114 8).toInt) ∧ (TJ (c114 3) (c114 6) (c114 23) (c114 24) (c114 29) (c114 30) (i114 5).toInt (i114 22).toInt (i114 27).toInt) := hw114
  obtain ⟨hw114, hM, hei114, hec114, hxp114_0, hxp114_1⟩ := hw114
  have hP : va_P D vwCl (xwT sk a t i107 q107 c107 d107 ++ (Z ++ mW o am tm i114 q114 c114 d114)) H := by rw [← List.append_assoc]; exact hP
  have hD : va_D (fun q : Nat => s.heap.size ≤ q) (xwT sk a t i107 q107 c107 d107 ++ (Z ++ mW o am tm i114 q114 c114 d114)) := by rw [← List.append_assoc]; exact hD
  refine lv_pop hx hb dL_law_864 rfl ?_
  refine lv_goto (tgt := 1461) hx hb dL_law_865 (by decide +kernel) ?_
  exact kk i107 q107 c107 d107 i114 q114 c114 d114 _ _ _ ⟨hI, (by rw [show c107 113 = c 113 from hec107 113 (by decide +kernel), show c107 115 = c 115 from hec107 115 (by decide +kernel)]; exact hs_F), hxp107_0, (by rw [show i107 141 = i 141 from hei107 141 (by decide +kernel)]; exact htr), hM, hxp114_0, hxp114_1, (by rw [show i107 110 = i 110 from hei107 110 (by decide +kernel), show i107 111 = i 111 from hei107 111 (by decide +kernel), show i107 165 = i 165 from hei107 165 (by decide +kernel), show i107 124 = i 124 from hei107 124 (by decide +kernel), show c107 107 = c 107 from hec107 107 (by decide +kernel), show c107 105 = c 105 from hec107 105 (by decide +kernel), show c107 108 = c 108 from hec107 108 (by decide +kernel), show c107 106 = c 106 from hec107 106 (by decide +kernel), show c107 113 = c 113 from hec107 113 (by decide +kernel), show c107 114 = c 114 from hec107 114 (by decide +kernel), show c107 115 = c 115 from hec107 115 (by decide +kernel), show c107 116 = c 116 from hec107 116 (by decide +kernel), show c107 117 = c 117 from hec107 117 (by decide +kernel), show c107 118 = c 118 from hec107 118 (by decide +kernel), show c107 119 = c 119 from hec107 119 (by decide +kernel), show c107 120 = c 120 from hec107 120 (by decide +kernel), show c107 121 = c 121 from hec107 121 (by decide +kernel), show c107 127 = c 127 from hec107 127 (by decide +kernel), show c107 129 = c 129 from hec107 129 (by decide +kernel), show c107 130 = c 130 from hec107 130 (by decide +kernel), show c107 131 = c 131 from hec107 131 (by decide +kernel), show c107 132 = c 132 from hec107 132 (by decide +kernel), show c107 133 = c 133 from hec107 133 (by decide +kernel), show c107 134 = c 134 from hec107 134 (by decide +kernel), show i114 2 = jm 2 from hei114 2 (by decide +kernel), show i114 5 = jm 5 from hei114 5 (by decide +kernel), show i114 64 = jm 64 from hei114 64 (by decide +kernel), show i114 8 = jm 8 from hei114 8 (by decide +kernel), show c114 4 = em 4 from hec114 4 (by decide +kernel), show c114 3 = em 3 from hec114 3 (by decide +kernel), show c114 6 = em 6 from hec114 6 (by decide +kernel), show c114 9 = em 9 from hec114 9 (by decide +kernel), show c114 10 = em 10 from hec114 10 (by decide +kernel), show c114 11 = em 11 from hec114 11 (by decide +kernel), show c114 12 = em 12 from hec114 12 (by decide +kernel), show c114 13 = em 13 from hec114 13 (by decide +kernel)]; exact ⟨hR, hPA, hKO, hSO, hSN, hDR, hRD⟩)⟩ hP hD hS (lv_sub hl [0, 1, 2, 3] rfl)

set_option maxHeartbeats 4000000 in
set_option maxRecDepth 100000 in
theorem law_back {p : Program} {l : Launch} {e : Env} {s : State} {m : MethodId} {below : List Frame} {meth : Method} {cd : Code} {b L : Nat} {xs : Nat → Int32} {D : va_G} {a : Nat → Nat} {t : Nat → ClassId} {o : Nat} {am : Nat → Nat} {tm : Nat → ClassId} {x3 : Int32} {cells slots : Nat} {sk : Value} {Z : va_W} (hx : p.tables.exec = Jvm.exec) (hb : cd.code = cL_law) (hml : cd.maxLocals = 4) (hown : s.vm.findClass RL = some m.cls) (hts : ∀ w ∈ wm_law, w.before #[Value.ref b] s = true) (hX : va_X b L xs s s.heap) (hbl : b < s.heap.size) (hL : L ≤ 3584) (hN : xN s) (hZ : xZ (a 186) s s.heap) (hKT : va_K D vwCl (xtT t) s) (hKM : va_K D vwCl (mT tm) s) (hcs : cells ≤ 600000 ∧ slots ≤ 7302249) (hx3 : 0 ≤ x3.toInt ∧ x3.toInt + 7 ≤ (L : Int)) (kk : LK p l e s m below meth cd b D sk a t Z o am tm x3 cells slots) (i : Nat → Int32) (q : Int64) (c : Nat → Nat → Int32) (d : Nat → Nat → Int64) (jm : Nat → Int32) (qm : Int64) (em : Nat → Nat → Int32) (dm : Nat → Nat → Int64) (H : Heap) (locs : List Loc) (ls : Array Slot) (hLI : LI i c jm em) (hP : va_P D vwCl (xwT sk a t i q c d ++ (Z ++ mW o am tm jm qm em dm)) H) (hD : va_D (fun q : Nat => s.heap.size ≤ q) (xwT sk a t i q c d ++ (Z ++ mW o am tm jm qm em dm))) (hS : va_S (fun q : Nat => s.heap.size ≤ q) s.heap H locs) (hl : lv_has ls 4 [(3, .int x3), (2, .ref o), (1, .ref (a 100)), (0, .ref b)]) : W p l e room_1 s m #[Value.ref b] below meth cd H locs cells slots (lw_Z below #[Value.ref b] s) (F0 m 868 ls []) := by
  have hbA : ¬ (fun q : Nat => s.heap.size ≤ q) b := Nat.not_le.mpr hbl
  have hA : ∀ q : Nat, s.heap.size ≤ q → (fun q : Nat => s.heap.size ≤ q) q := fun _ h => h
  obtain ⟨hI, hs_F, hs_P, htr, hM, hs_S, hs_J, hR⟩ := hLI
  have hI0 := hI
  have hM0 := hM
  obtain ⟨hR, hPA, hKO, hSO, hSN, hDR, hRD⟩ := hR
  have hRR := RR_of hI0 hs_F
  refine lv_aload_n hx hb dL_law_868 rfl (lv_at hl 2 rfl) ?_
  refine lc_i (wr := (Z ++ mW o am tm jm qm em dm)) (va_runV (As := []) (rest := []) ⟨hx, hb, hml, hown, hts⟩ (x_X11_back l D H.size sk a t i q c d  hI hs_P) (cwV 0 hts gm_law_X11_back_99 rfl rfl rfl (by decide +kernel) ⟨Nat.le_of_ble_eq_true rfl, Nat.le_of_ble_eq_true rfl⟩) (yB_V hN (xZ_k hZ hS hA) (xZ_n hZ (vD_l hD)) hKT (vP_l hP) (vD_l hD) (ci := 11) (q0 := 0) rfl rfl) rfl rfl hl.1 rfl (lv_room (Nat.le_of_ble_eq_true rfl)) dL_law_869 hcs) hS hA hP hD (fun r101 u101 H locs hw101 _ hP hD hS => ?_)
  obtain ⟨i101, q101, c101, d101⟩ := u101
  have hw101 : True ∧ xInv i101 c101 ∧ (∀ k, k ∉ ([148, 154] : List Nat) → i101 k = i k) ∧ (∀ k, k ∉ ([150, 152, 153] : List Nat) → c101 k = c k) ∧ (PJ (i101 146) (i101 147) (i101 156) (i101 148) (c101 150) (c101 144) (c101 145)) := hw101
  obtain ⟨hw101, hI, hei101, hec101, hxp101_0⟩ := hw101
  have hP : va_P D vwCl (xwT sk a t i101 q101 c101 d101 ++ (Z ++ mW o am tm jm qm em dm)) H := hP
  have hD : va_D (fun q : Nat => s.heap.size ≤ q) (xwT sk a t i101 q101 c101 d101 ++ (Z ++ mW o am tm jm qm em dm)) := hD
  refine lv_pop hx hb dL_law_872 rfl ?_
  refine lv_aload_n hx hb dL_law_873 rfl (lv_at hl 1 rfl) ?_
  have hP : va_P D vwCl ((xwT sk a t i101 q101 c101 d101 ++ Z) ++ mW o am tm jm qm em dm) H := by rw [List.append_assoc]; exact hP
  have hD : va_D (fun q : Nat => s.heap.size ≤ q) ((xwT sk a t i101 q101 c101 d101 ++ Z) ++ mW o am tm jm qm em dm) := by rw [List.append_assoc]; exact hD
  refine rc_i (wr := (xwT sk a t i101 q101 c101 d101 ++ Z)) (va_runV (As := []) (rest := []) ⟨hx, hb, hml, hown, hts⟩ (s_X12_back l D H.size o am tm jm qm em dm  hM hs_S hs_J) (cwV 0 hts gm_law_X12_back_103 rfl rfl rfl (by decide +kernel) ⟨Nat.le_of_ble_eq_true rfl, Nat.le_of_ble_eq_true rfl⟩) (pB_V hKM (vP_r hP) (vD_r hD) (ci := 12) (q0 := 0) rfl rfl) rfl rfl hl.1 rfl (lv_room (Nat.le_of_ble_eq_true rfl)) dL_law_874 hcs) hS hA hP hD (fun r102 u102 H locs hw102 hP hD hS => ?_)
  obtain ⟨i102, q102, c102, d102⟩ := u102
  have hw102 : True ∧ mInv i102 c102 ∧ (∀ k, k ∉ ([27] : List Nat) → i102 k = jm k) ∧ (∀ k, k ∉ ([23, 24, 25, 26] : List Nat) → c102 k = em k) ∧ (SJ (c102 3) (c102 6) (c102 9) (c102 10) (c102 11) (c102 13) (i102 2).toInt (i102 5).toInt (i102 8).toInt) ∧ (TJ (c102 3) (c102 6) (c102 23) (c102 24) (c102 29) (c102 30) (i102 5).toInt (i102 22).toInt (i102 27).toInt) := hw102
  obtain ⟨hw102, hM, hei102, hec102, hxp102_0, hxp102_1⟩ := hw102
  have hP : va_P D vwCl (xwT sk a t i101 q101 c101 d101 ++ (Z ++ mW o am tm i102 q102 c102 d102)) H := by rw [← List.append_assoc]; exact hP
  have hD : va_D (fun q : Nat => s.heap.size ≤ q) (xwT sk a t i101 q101 c101 d101 ++ (Z ++ mW o am tm i102 q102 c102 d102)) := by rw [← List.append_assoc]; exact hD
  refine lv_pop hx hb dL_law_877 rfl ?_
  refine lv_goto (tgt := 1461) hx hb dL_law_878 (by decide +kernel) ?_
  exact kk i101 q101 c101 d101 i102 q102 c102 d102 _ _ _ ⟨hI, (by rw [show c101 113 = c 113 from hec101 113 (by decide +kernel), show c101 115 = c 115 from hec101 115 (by decide +kernel)]; exact hs_F), hxp101_0, (by rw [show i101 141 = i 141 from hei101 141 (by decide +kernel)]; exact htr), hM, hxp102_0, hxp102_1, (by rw [show i101 110 = i 110 from hei101 110 (by decide +kernel), show i101 111 = i 111 from hei101 111 (by decide +kernel), show i101 165 = i 165 from hei101 165 (by decide +kernel), show i101 124 = i 124 from hei101 124 (by decide +kernel), show c101 107 = c 107 from hec101 107 (by decide +kernel), show c101 105 = c 105 from hec101 105 (by decide +kernel), show c101 108 = c 108 from hec101 108 (by decide +kernel), show c101 106 = c 106 from hec101 106 (by decide +kernel), show c101 113 = c 113 from hec101 113 (by decide +kernel), show c101 114 = c 114 from hec101 114 (by decide +kernel), show c101 115 = c 115 from hec101 115 (by decide +kernel), show c101 116 = c 116 from hec101 116 (by decide +kernel), show c101 117 = c 117 from hec101 117 (by decide +kernel), show c101 118 = c 118 from hec101 118 (by decide +kernel), show c101 119 = c 119 from hec101 119 (by decide +kernel), show c101 120 = c 120 from hec101 120 (by decide +kernel), show c101 121 = c 121 from hec101 121 (by decide +kernel), show c101 127 = c 127 from hec101 127 (by decide +kernel), show c101 129 = c 129 from hec101 129 (by decide +kernel), show c101 130 = c 130 from hec101 130 (by decide +kernel), show c101 131 = c 131 from hec101 131 (by decide +kernel), show c101 132 = c 132 from hec101 132 (by decide +kernel), show c101 133 = c 133 from hec101 133 (by decide +kernel), show c101 134 = c 134 from hec101 134 (by decide +kernel), show i102 2 = jm 2 from hei102 2 (by decide +kernel), show i102 5 = jm 5 from hei102 5 (by decide +kernel), show i102 64 = jm 64 from hei102 64 (by decide +kernel), show i102 8 = jm 8 from hei102 8 (by decide +kernel), show c102 4 = em 4 from hec102 4 (by decide +kernel), show c102 3 = em 3 from hec102 3 (by decide +kernel), show c102 6 = em 6 from hec102 6 (by decide +kernel), show c102 9 = em 9 from hec102 9 (by decide +kernel), show c102 10 = em 10 from hec102 10 (by decide +kernel), show c102 11 = em 11 from hec102 11 (by decide +kernel), show c102 12 = em 12 from hec102 12 (by decide +kernel), show c102 13 = em 13 from hec102 13 (by decide +kernel)]; exact ⟨hR, hPA, hKO, hSO, hSN, hDR, hRD⟩)⟩ hP hD hS (lv_sub hl [0, 1, 2, 3] rfl)

set_option maxHeartbeats 4000000 in
set_option maxRecDepth 100000 in
theorem law_now {p : Program} {l : Launch} {e : Env} {s : State} {m : MethodId} {below : List Frame} {meth : Method} {cd : Code} {b L : Nat} {xs : Nat → Int32} {D : va_G} {a : Nat → Nat} {t : Nat → ClassId} {o : Nat} {am : Nat → Nat} {tm : Nat → ClassId} {x3 : Int32} {cells slots : Nat} {sk : Value} {Z : va_W} (hx : p.tables.exec = Jvm.exec) (hb : cd.code = cL_law) (hml : cd.maxLocals = 4) (hown : s.vm.findClass RL = some m.cls) (hts : ∀ w ∈ wm_law, w.before #[Value.ref b] s = true) (hX : va_X b L xs s s.heap) (hbl : b < s.heap.size) (hL : L ≤ 3584) (hN : xN s) (hZ : xZ (a 186) s s.heap) (hKT : va_K D vwCl (xtT t) s) (hKM : va_K D vwCl (mT tm) s) (hcs : cells ≤ 600000 ∧ slots ≤ 7302249) (hx3 : 0 ≤ x3.toInt ∧ x3.toInt + 7 ≤ (L : Int)) (kk : LK p l e s m below meth cd b D sk a t Z o am tm x3 cells slots) (i : Nat → Int32) (q : Int64) (c : Nat → Nat → Int32) (d : Nat → Nat → Int64) (jm : Nat → Int32) (qm : Int64) (em : Nat → Nat → Int32) (dm : Nat → Nat → Int64) (H : Heap) (locs : List Loc) (ls : Array Slot) (hLI : LI i c jm em) (hP : va_P D vwCl (xwT sk a t i q c d ++ (Z ++ mW o am tm jm qm em dm)) H) (hD : va_D (fun q : Nat => s.heap.size ≤ q) (xwT sk a t i q c d ++ (Z ++ mW o am tm jm qm em dm))) (hS : va_S (fun q : Nat => s.heap.size ≤ q) s.heap H locs) (hl : lv_has ls 4 [(3, .int x3), (2, .ref o), (1, .ref (a 100)), (0, .ref b)]) : W p l e room_1 s m #[Value.ref b] below meth cd H locs cells slots (lw_Z below #[Value.ref b] s) (F0 m 881 ls []) := by
  have hbA : ¬ (fun q : Nat => s.heap.size ≤ q) b := Nat.not_le.mpr hbl
  have hA : ∀ q : Nat, s.heap.size ≤ q → (fun q : Nat => s.heap.size ≤ q) q := fun _ h => h
  obtain ⟨hI, hs_F, hs_P, htr, hM, hs_S, hs_J, hR⟩ := hLI
  have hI0 := hI
  have hM0 := hM
  obtain ⟨hR, hPA, hKO, hSO, hSN, hDR, hRD⟩ := hR
  have hRR := RR_of hI0 hs_F
  refine lv_aload_n hx hb dL_law_881 rfl (lv_at hl 2 rfl) ?_
  refine lv_aload_n hx hb dL_law_882 rfl (lv_at hl 3 rfl) ?_
  refine lv_iload_n hx hb dL_law_883 rfl (lv_at hl 0 rfl) ?_
  refine lv_iconst (v := 1) hx hb dL_law_884 (by decide +kernel) ?_
  refine lv_iadd hx hb dL_law_885 ?_
  refine lv_topi (fun x101 ex101 => ?_)
  have tx101 := ti_add (a := x3.toInt) (b := 1) ex101 rfl (by decide +kernel) (by omega) (by omega)
  refine va_sld hx hb hX hbl hbA hS (vp_in_iff.mpr (by have h9 : x101.toInt = (x3.toInt + 1) := tx101; omega)) dL_law_886 ?_
  refine lv_topi (fun x102 ex102 => ?_)
  refine lv_aload_n hx hb dL_law_887 rfl (lv_at hl 3 rfl) ?_
  refine lv_iload_n hx hb dL_law_888 rfl (lv_at hl 0 rfl) ?_
  refine lv_iconst (v := 2) hx hb dL_law_889 (by decide +kernel) ?_
  refine lv_iadd hx hb dL_law_890 ?_
  refine lv_topi (fun x103 ex103 => ?_)
  have tx103 := ti_add (a := x3.toInt) (b := 2) ex103 rfl (by decide +kernel) (by omega) (by omega)
  refine va_sld hx hb hX hbl hbA hS (vp_in_iff.mpr (by have h9 : x103.toInt = (x3.toInt + 2) := tx103; omega)) dL_law_891 ?_
  refine lv_topi (fun x104 ex104 => ?_)
  refine ro_calli (va_runV (As := [.int x102, .int x104]) (rest := []) ⟨hx, hb, hml, hown, hts⟩ (x_X11_now l D H.size sk a t i q c d x102 x104 hI ) (cwV 2 hts gm_law_X11_now_104 rfl rfl rfl (by decide +kernel) ⟨Nat.le_of_ble_eq_true rfl, Nat.le_of_ble_eq_true rfl⟩) (yA_V hN (xZ_k hZ hS hA) hKT (vP_l hP) (ci := 11) (q0 := 0) rfl rfl) rfl rfl hl.1 rfl (lv_room (Nat.le_of_ble_eq_true rfl)) dL_law_892 hcs) hS hA hP (fun r105 u105 H locs hw105 hP hS => ?_)
  refine lv_pop hx hb dL_law_895 rfl ?_
  refine lv_aload_n hx hb dL_law_896 rfl (lv_at hl 1 rfl) ?_
  refine lv_aload_n hx hb dL_law_897 rfl (lv_at hl 3 rfl) ?_
  refine lv_iload_n hx hb dL_law_898 rfl (lv_at hl 0 rfl) ?_
  refine lv_iconst (v := 1) hx hb dL_law_899 (by decide +kernel) ?_
  refine lv_iadd hx hb dL_law_900 ?_
  refine lv_topi (fun x106 ex106 => ?_)
  have tx106 := ti_add (a := x3.toInt) (b := 1) ex106 rfl (by decide +kernel) (by omega) (by omega)
  refine va_sld hx hb hX hbl hbA hS (vp_in_iff.mpr (by have h9 : x106.toInt = (x3.toInt + 1) := tx106; omega)) dL_law_901 ?_
  refine lv_topi (fun x107 ex107 => ?_)
  refine lv_aload_n hx hb dL_law_902 rfl (lv_at hl 3 rfl) ?_
  refine lv_iload_n hx hb dL_law_903 rfl (lv_at hl 0 rfl) ?_
  refine lv_iconst (v := 2) hx hb dL_law_904 (by decide +kernel) ?_
  refine lv_iadd hx hb dL_law_905 ?_
  refine lv_topi (fun x108 ex108 => ?_)
  have tx108 := ti_add (a := x3.toInt) (b := 2) ex108 rfl (by decide +kernel) (by omega) (by omega)
  refine va_sld hx hb hX hbl hbA hS (vp_in_iff.mpr (by have h9 : x108.toInt = (x3.toInt + 2) := tx108; omega)) dL_law_906 ?_
  refine lv_topi (fun x109 ex109 => ?_)
  have hP : va_P D vwCl ((xwT sk a t i q c d ++ Z) ++ mW o am tm jm qm em dm) H := by rw [List.append_assoc]; exact hP
  have hD : va_D (fun q : Nat => s.heap.size ≤ q) ((xwT sk a t i q c d ++ Z) ++ mW o am tm jm qm em dm) := by rw [List.append_assoc]; exact hD
  refine rc_i (wr := (xwT sk a t i q c d ++ Z)) (va_runV (As := [.int x107, .int x109]) (rest := []) ⟨hx, hb, hml, hown, hts⟩ (s_X12_now l D H.size o am tm jm qm em dm x107 x109 hM hs_S hs_J) (cwV 2 hts gm_law_X12_now_107 rfl rfl rfl (by decide +kernel) ⟨Nat.le_of_ble_eq_true rfl, Nat.le_of_ble_eq_true rfl⟩) (pB_V hKM (vP_r hP) (vD_r hD) (ci := 12) (q0 := 0) rfl rfl) rfl rfl hl.1 rfl (lv_room (Nat.le_of_ble_eq_true rfl)) dL_law_907 hcs) hS hA hP hD (fun r110 u110 H locs hw110 hP hD hS => ?_)
  obtain ⟨i110, q110, c110, d110⟩ := u110
  have hw110 : True ∧ mInv i110 c110 ∧ (∀ k, k ∉ ([40, 41, 42] : List Nat) → i110 k = jm k) ∧ (∀ k, k ∉ ([43, 44, 45, 46, 47, 48, 49] : List Nat) → c110 k = em k) := hw110
  obtain ⟨hw110, hM, hei110, hec110⟩ := hw110
  have hP : va_P D vwCl (xwT sk a t i q c d ++ (Z ++ mW o am tm i110 q110 c110 d110)) H := by rw [← List.append_assoc]; exact hP
  have hD : va_D (fun q : Nat => s.heap.size ≤ q) (xwT sk a t i q c d ++ (Z ++ mW o am tm i110 q110 c110 d110)) := by rw [← List.append_assoc]; exact hD
  refine lv_pop hx hb dL_law_910 rfl ?_
  refine lv_goto (tgt := 1461) hx hb dL_law_911 (by decide +kernel) ?_
  exact kk i q c d i110 q110 c110 d110 _ _ _ ⟨hI, hs_F, hs_P, htr, hM, (by rw [show c110 3 = em 3 from hec110 3 (by decide +kernel), show c110 6 = em 6 from hec110 6 (by decide +kernel), show c110 9 = em 9 from hec110 9 (by decide +kernel), show c110 10 = em 10 from hec110 10 (by decide +kernel), show c110 11 = em 11 from hec110 11 (by decide +kernel), show c110 13 = em 13 from hec110 13 (by decide +kernel), show i110 2 = jm 2 from hei110 2 (by decide +kernel), show i110 5 = jm 5 from hei110 5 (by decide +kernel), show i110 8 = jm 8 from hei110 8 (by decide +kernel)]; exact hs_S), (by rw [show c110 3 = em 3 from hec110 3 (by decide +kernel), show c110 6 = em 6 from hec110 6 (by decide +kernel), show c110 23 = em 23 from hec110 23 (by decide +kernel), show c110 24 = em 24 from hec110 24 (by decide +kernel), show c110 29 = em 29 from hec110 29 (by decide +kernel), show c110 30 = em 30 from hec110 30 (by decide +kernel), show i110 5 = jm 5 from hei110 5 (by decide +kernel), show i110 22 = jm 22 from hei110 22 (by decide +kernel), show i110 27 = jm 27 from hei110 27 (by decide +kernel)]; exact hs_J), (by rw [show i110 2 = jm 2 from hei110 2 (by decide +kernel), show i110 5 = jm 5 from hei110 5 (by decide +kernel), show i110 64 = jm 64 from hei110 64 (by decide +kernel), show i110 8 = jm 8 from hei110 8 (by decide +kernel), show c110 4 = em 4 from hec110 4 (by decide +kernel), show c110 3 = em 3 from hec110 3 (by decide +kernel), show c110 6 = em 6 from hec110 6 (by decide +kernel), show c110 9 = em 9 from hec110 9 (by decide +kernel), show c110 10 = em 10 from hec110 10 (by decide +kernel), show c110 11 = em 11 from hec110 11 (by decide +kernel), show c110 12 = em 12 from hec110 12 (by decide +kernel), show c110 13 = em 13 from hec110 13 (by decide +kernel)]; exact ⟨hR, hPA, hKO, hSO, hSN, hDR, hRD⟩)⟩ hP hD hS (lv_sub hl [0, 1, 2, 3] rfl)

set_option maxHeartbeats 4000000 in
set_option maxRecDepth 100000 in
theorem law_turn {p : Program} {l : Launch} {e : Env} {s : State} {m : MethodId} {below : List Frame} {meth : Method} {cd : Code} {b L : Nat} {xs : Nat → Int32} {D : va_G} {a : Nat → Nat} {t : Nat → ClassId} {o : Nat} {am : Nat → Nat} {tm : Nat → ClassId} {x3 : Int32} {cells slots : Nat} {sk : Value} {Z : va_W} (hx : p.tables.exec = Jvm.exec) (hb : cd.code = cL_law) (hml : cd.maxLocals = 4) (hown : s.vm.findClass RL = some m.cls) (hts : ∀ w ∈ wm_law, w.before #[Value.ref b] s = true) (hX : va_X b L xs s s.heap) (hbl : b < s.heap.size) (hL : L ≤ 3584) (hN : xN s) (hZ : xZ (a 186) s s.heap) (hKT : va_K D vwCl (xtT t) s) (hKM : va_K D vwCl (mT tm) s) (hcs : cells ≤ 600000 ∧ slots ≤ 7302249) (hx3 : 0 ≤ x3.toInt ∧ x3.toInt + 7 ≤ (L : Int)) (kk : LK p l e s m below meth cd b D sk a t Z o am tm x3 cells slots) (i : Nat → Int32) (q : Int64) (c : Nat → Nat → Int32) (d : Nat → Nat → Int64) (jm : Nat → Int32) (qm : Int64) (em : Nat → Nat → Int32) (dm : Nat → Nat → Int64) (H : Heap) (locs : List Loc) (ls : Array Slot) (hLI : LI i c jm em) (hP : va_P D vwCl (xwT sk a t i q c d ++ (Z ++ mW o am tm jm qm em dm)) H) (hD : va_D (fun q : Nat => s.heap.size ≤ q) (xwT sk a t i q c d ++ (Z ++ mW o am tm jm qm em dm))) (hS : va_S (fun q : Nat => s.heap.size ≤ q) s.heap H locs) (hl : lv_has ls 4 [(3, .int x3), (2, .ref o), (1, .ref (a 100)), (0, .ref b)]) : W p l e room_1 s m #[Value.ref b] below meth cd H locs cells slots (lw_Z below #[Value.ref b] s) (F0 m 914 ls []) := by
  have hbA : ¬ (fun q : Nat => s.heap.size ≤ q) b := Nat.not_le.mpr hbl
  have hA : ∀ q : Nat, s.heap.size ≤ q → (fun q : Nat => s.heap.size ≤ q) q := fun _ h => h
  obtain ⟨hI, hs_F, hs_P, htr, hM, hs_S, hs_J, hR⟩ := hLI
  have hI0 := hI
  have hM0 := hM
  obtain ⟨hR, hPA, hKO, hSO, hSN, hDR, hRD⟩ := hR
  have hRR := RR_of hI0 hs_F
  refine lv_aload_n hx hb dL_law_914 rfl (lv_at hl 2 rfl) ?_
  refine lv_aload_n hx hb dL_law_915 rfl (lv_at hl 3 rfl) ?_
  refine lv_iload_n hx hb dL_law_916 rfl (lv_at hl 0 rfl) ?_
  refine lv_iconst (v := 1) hx hb dL_law_917 (by decide +kernel) ?_
  refine lv_iadd hx hb dL_law_918 ?_
  refine lv_topi (fun x101 ex101 => ?_)
  have tx101 := ti_add (a := x3.toInt) (b := 1) ex101 rfl (by decide +kernel) (by omega) (by omega)
  refine va_sld hx hb hX hbl hbA hS (vp_in_iff.mpr (by have h9 : x101.toInt = (x3.toInt + 1) := tx101; omega)) dL_law_919 ?_
  refine lv_topi (fun x102 ex102 => ?_)
  refine lv_aload_n hx hb dL_law_920 rfl (lv_at hl 3 rfl) ?_
  refine lv_iload_n hx hb dL_law_921 rfl (lv_at hl 0 rfl) ?_
  refine lv_iconst (v := 2) hx hb dL_law_922 (by decide +kernel) ?_
  refine lv_iadd hx hb dL_law_923 ?_
  refine lv_topi (fun x103 ex103 => ?_)
  have tx103 := ti_add (a := x3.toInt) (b := 2) ex103 rfl (by decide +kernel) (by omega) (by omega)
  refine va_sld hx hb hX hbl hbA hS (vp_in_iff.mpr (by have h9 : x103.toInt = (x3.toInt + 2) := tx103; omega)) dL_law_924 ?_
  refine lv_topi (fun x104 ex104 => ?_)
  refine ro_calli (va_runV (As := [.int x102, .int x104]) (rest := []) ⟨hx, hb, hml, hown, hts⟩ (x_X11_turn l D H.size sk a t i q c d x102 x104 hI ) (cwV 2 hts gm_law_X11_turn_108 rfl rfl rfl (by decide +kernel) ⟨Nat.le_of_ble_eq_true rfl, Nat.le_of_ble_eq_true rfl⟩) (yA_V hN (xZ_k hZ hS hA) hKT (vP_l hP) (ci := 11) (q0 := 0) rfl rfl) rfl rfl hl.1 rfl (lv_room (Nat.le_of_ble_eq_true rfl)) dL_law_925 hcs) hS hA hP (fun r105 u105 H locs hw105 hP hS => ?_)
  refine lv_pop hx hb dL_law_928 rfl ?_
  refine lv_aload_n hx hb dL_law_929 rfl (lv_at hl 1 rfl) ?_
  refine lv_aload_n hx hb dL_law_930 rfl (lv_at hl 3 rfl) ?_
  refine lv_iload_n hx hb dL_law_931 rfl (lv_at hl 0 rfl) ?_
  refine lv_iconst (v := 1) hx hb dL_law_932 (by decide +kernel) ?_
  refine lv_iadd hx hb dL_law_933 ?_
  refine lv_topi (fun x106 ex106 => ?_)
  have tx106 := ti_add (a := x3.toInt) (b := 1) ex106 rfl (by decide +kernel) (by omega) (by omega)
  refine va_sld hx hb hX hbl hbA hS (vp_in_iff.mpr (by have h9 : x106.toInt = (x3.toInt + 1) := tx106; omega)) dL_law_934 ?_
  refine lv_topi (fun x107 ex107 => ?_)
  refine lv_aload_n hx hb dL_law_935 rfl (lv_at hl 3 rfl) ?_
  refine lv_iload_n hx hb dL_law_936 rfl (lv_at hl 0 rfl) ?_
  refine lv_iconst (v := 2) hx hb dL_law_937 (by decide +kernel) ?_
  refine lv_iadd hx hb dL_law_938 ?_
  refine lv_topi (fun x108 ex108 => ?_)
  have tx108 := ti_add (a := x3.toInt) (b := 2) ex108 rfl (by decide +kernel) (by omega) (by omega)
  refine va_sld hx hb hX hbl hbA hS (vp_in_iff.mpr (by have h9 : x108.toInt = (x3.toInt + 2) := tx108; omega)) dL_law_939 ?_
  refine lv_topi (fun x109 ex109 => ?_)
  have hP : va_P D vwCl ((xwT sk a t i q c d ++ Z) ++ mW o am tm jm qm em dm) H := by rw [List.append_assoc]; exact hP
  have hD : va_D (fun q : Nat => s.heap.size ≤ q) ((xwT sk a t i q c d ++ Z) ++ mW o am tm jm qm em dm) := by rw [List.append_assoc]; exact hD
  refine ro_calli (va_runV (As := [.int x107, .int x109]) (rest := []) ⟨hx, hb, hml, hown, hts⟩ (s_X12_turn l D H.size o am tm jm qm em dm x107 x109 hM ) (cwV 2 hts gm_law_X12_turn_111 rfl rfl rfl (by decide +kernel) ⟨Nat.le_of_ble_eq_true rfl, Nat.le_of_ble_eq_true rfl⟩) (pA_V hKM (vP_r hP) (ci := 12) (q0 := 0) rfl rfl) rfl rfl hl.1 rfl (lv_room (Nat.le_of_ble_eq_true rfl)) dL_law_940 hcs) hS hA hP (fun r110 u110 H locs hw110 hP hS => ?_)
  have hP : va_P D vwCl (xwT sk a t i q c d ++ (Z ++ mW o am tm jm qm em dm)) H := by rw [← List.append_assoc]; exact hP
  have hD : va_D (fun q : Nat => s.heap.size ≤ q) (xwT sk a t i q c d ++ (Z ++ mW o am tm jm qm em dm)) := by rw [← List.append_assoc]; exact hD
  refine lv_pop hx hb dL_law_943 rfl ?_
  refine lv_goto (tgt := 1461) hx hb dL_law_944 (by decide +kernel) ?_
  exact kk i q c d jm qm em dm _ _ _ ⟨hI, hs_F, hs_P, htr, hM, hs_S, hs_J, ⟨hR, hPA, hKO, hSO, hSN, hDR, hRD⟩⟩ hP hD hS (lv_sub hl [0, 1, 2, 3] rfl)

set_option maxHeartbeats 4000000 in
set_option maxRecDepth 100000 in
theorem law_light {p : Program} {l : Launch} {e : Env} {s : State} {m : MethodId} {below : List Frame} {meth : Method} {cd : Code} {b L : Nat} {xs : Nat → Int32} {D : va_G} {a : Nat → Nat} {t : Nat → ClassId} {o : Nat} {am : Nat → Nat} {tm : Nat → ClassId} {x3 : Int32} {cells slots : Nat} {sk : Value} {Z : va_W} (hx : p.tables.exec = Jvm.exec) (hb : cd.code = cL_law) (hml : cd.maxLocals = 4) (hown : s.vm.findClass RL = some m.cls) (hts : ∀ w ∈ wm_law, w.before #[Value.ref b] s = true) (hX : va_X b L xs s s.heap) (hbl : b < s.heap.size) (hL : L ≤ 3584) (hN : xN s) (hZ : xZ (a 186) s s.heap) (hKT : va_K D vwCl (xtT t) s) (hKM : va_K D vwCl (mT tm) s) (hcs : cells ≤ 600000 ∧ slots ≤ 7302249) (hx3 : 0 ≤ x3.toInt ∧ x3.toInt + 7 ≤ (L : Int)) (kk : LK p l e s m below meth cd b D sk a t Z o am tm x3 cells slots) (i : Nat → Int32) (q : Int64) (c : Nat → Nat → Int32) (d : Nat → Nat → Int64) (jm : Nat → Int32) (qm : Int64) (em : Nat → Nat → Int32) (dm : Nat → Nat → Int64) (H : Heap) (locs : List Loc) (ls : Array Slot) (hLI : LI i c jm em) (hP : va_P D vwCl (xwT sk a t i q c d ++ (Z ++ mW o am tm jm qm em dm)) H) (hD : va_D (fun q : Nat => s.heap.size ≤ q) (xwT sk a t i q c d ++ (Z ++ mW o am tm jm qm em dm))) (hS : va_S (fun q : Nat => s.heap.size ≤ q) s.heap H locs) (hl : lv_has ls 4 [(3, .int x3), (2, .ref o), (1, .ref (a 100)), (0, .ref b)]) : W p l e room_1 s m #[Value.ref b] below meth cd H locs cells slots (lw_Z below #[Value.ref b] s) (F0 m 947 ls []) := by
  have hbA : ¬ (fun q : Nat => s.heap.size ≤ q) b := Nat.not_le.mpr hbl
  have hA : ∀ q : Nat, s.heap.size ≤ q → (fun q : Nat => s.heap.size ≤ q) q := fun _ h => h
  obtain ⟨hI, hs_F, hs_P, htr, hM, hs_S, hs_J, hR⟩ := hLI
  have hI0 := hI
  have hM0 := hM
  obtain ⟨hR, hPA, hKO, hSO, hSN, hDR, hRD⟩ := hR
  have hRR := RR_of hI0 hs_F
  refine lv_aload_n hx hb dL_law_947 rfl (lv_at hl 2 rfl) ?_
  refine ro_calli (va_runV (As := []) (rest := []) ⟨hx, hb, hml, hown, hts⟩ (x_X11_light l D H.size sk a t i q c d  hI ) (cwV 0 hts gm_law_X11_light_112 rfl rfl rfl (by decide +kernel) ⟨Nat.le_of_ble_eq_true rfl, Nat.le_of_ble_eq_true rfl⟩) (yA_V hN (xZ_k hZ hS hA) hKT (vP_l hP) (ci := 11) (q0 := 0) rfl rfl) rfl rfl hl.1 rfl (lv_room (Nat.le_of_ble_eq_true rfl)) dL_law_948 hcs) hS hA hP (fun r101 u101 H locs hw101 hP hS => ?_)
  refine lv_pop hx hb dL_law_951 rfl ?_
  refine lv_aload_n hx hb dL_law_952 rfl (lv_at hl 1 rfl) ?_
  have hP : va_P D vwCl ((xwT sk a t i q c d ++ Z) ++ mW o am tm jm qm em dm) H := by rw [List.append_assoc]; exact hP
  have hD : va_D (fun q : Nat => s.heap.size ≤ q) ((xwT sk a t i q c d ++ Z) ++ mW o am tm jm qm em dm) := by rw [List.append_assoc]; exact hD
  refine rc_i (wr := (xwT sk a t i q c d ++ Z)) (va_runV (As := []) (rest := []) ⟨hx, hb, hml, hown, hts⟩ (s_X12_light l D H.size o am tm jm qm em dm  hM hs_S hs_J) (cwV 0 hts gm_law_X12_light_115 rfl rfl rfl (by decide +kernel) ⟨Nat.le_of_ble_eq_true rfl, Nat.le_of_ble_eq_true rfl⟩) (pB_V hKM (vP_r hP) (vD_r hD) (ci := 12) (q0 := 0) rfl rfl) rfl rfl hl.1 rfl (lv_room (Nat.le_of_ble_eq_true rfl)) dL_law_953 hcs) hS hA hP hD (fun r102 u102 H locs hw102 hP hD hS => ?_)
  obtain ⟨i102, q102, c102, d102⟩ := u102
  have hw102 : True ∧ mInv i102 c102 ∧ (∀ k, k ∉ ([40, 41, 42] : List Nat) → i102 k = jm k) ∧ (∀ k, k ∉ ([43, 44, 45, 46, 47, 48, 49] : List Nat) → c102 k = em k) := hw102
  obtain ⟨hw102, hM, hei102, hec102⟩ := hw102
  have hP : va_P D vwCl (xwT sk a t i q c d ++ (Z ++ mW o am tm i102 q102 c102 d102)) H := by rw [← List.append_assoc]; exact hP
  have hD : va_D (fun q : Nat => s.heap.size ≤ q) (xwT sk a t i q c d ++ (Z ++ mW o am tm i102 q102 c102 d102)) := by rw [← List.append_assoc]; exact hD
  refine lv_pop hx hb dL_law_956 rfl ?_
  refine lv_goto (tgt := 1461) hx hb dL_law_957 (by decide +kernel) ?_
  exact kk i q c d i102 q102 c102 d102 _ _ _ ⟨hI, hs_F, hs_P, htr, hM, (by rw [show c102 3 = em 3 from hec102 3 (by decide +kernel), show c102 6 = em 6 from hec102 6 (by decide +kernel), show c102 9 = em 9 from hec102 9 (by decide +kernel), show c102 10 = em 10 from hec102 10 (by decide +kernel), show c102 11 = em 11 from hec102 11 (by decide +kernel), show c102 13 = em 13 from hec102 13 (by decide +kernel), show i102 2 = jm 2 from hei102 2 (by decide +kernel), show i102 5 = jm 5 from hei102 5 (by decide +kernel), show i102 8 = jm 8 from hei102 8 (by decide +kernel)]; exact hs_S), (by rw [show c102 3 = em 3 from hec102 3 (by decide +kernel), show c102 6 = em 6 from hec102 6 (by decide +kernel), show c102 23 = em 23 from hec102 23 (by decide +kernel), show c102 24 = em 24 from hec102 24 (by decide +kernel), show c102 29 = em 29 from hec102 29 (by decide +kernel), show c102 30 = em 30 from hec102 30 (by decide +kernel), show i102 5 = jm 5 from hei102 5 (by decide +kernel), show i102 22 = jm 22 from hei102 22 (by decide +kernel), show i102 27 = jm 27 from hei102 27 (by decide +kernel)]; exact hs_J), (by rw [show i102 2 = jm 2 from hei102 2 (by decide +kernel), show i102 5 = jm 5 from hei102 5 (by decide +kernel), show i102 64 = jm 64 from hei102 64 (by decide +kernel), show i102 8 = jm 8 from hei102 8 (by decide +kernel), show c102 4 = em 4 from hec102 4 (by decide +kernel), show c102 3 = em 3 from hec102 3 (by decide +kernel), show c102 6 = em 6 from hec102 6 (by decide +kernel), show c102 9 = em 9 from hec102 9 (by decide +kernel), show c102 10 = em 10 from hec102 10 (by decide +kernel), show c102 11 = em 11 from hec102 11 (by decide +kernel), show c102 12 = em 12 from hec102 12 (by decide +kernel), show c102 13 = em 13 from hec102 13 (by decide +kernel)]; exact ⟨hR, hPA, hKO, hSO, hSN, hDR, hRD⟩)⟩ hP hD hS (lv_sub hl [0, 1, 2, 3] rfl)

set_option maxHeartbeats 4000000 in
set_option maxRecDepth 100000 in
theorem law_line {p : Program} {l : Launch} {e : Env} {s : State} {m : MethodId} {below : List Frame} {meth : Method} {cd : Code} {b L : Nat} {xs : Nat → Int32} {D : va_G} {a : Nat → Nat} {t : Nat → ClassId} {o : Nat} {am : Nat → Nat} {tm : Nat → ClassId} {x3 : Int32} {cells slots : Nat} {sk : Value} {Z : va_W} (hx : p.tables.exec = Jvm.exec) (hb : cd.code = cL_law) (hml : cd.maxLocals = 4) (hown : s.vm.findClass RL = some m.cls) (hts : ∀ w ∈ wm_law, w.before #[Value.ref b] s = true) (hX : va_X b L xs s s.heap) (hbl : b < s.heap.size) (hL : L ≤ 3584) (hN : xN s) (hZ : xZ (a 186) s s.heap) (hKT : va_K D vwCl (xtT t) s) (hKM : va_K D vwCl (mT tm) s) (hcs : cells ≤ 600000 ∧ slots ≤ 7302249) (hx3 : 0 ≤ x3.toInt ∧ x3.toInt + 7 ≤ (L : Int)) (kk : LK p l e s m below meth cd b D sk a t Z o am tm x3 cells slots) (i : Nat → Int32) (q : Int64) (c : Nat → Nat → Int32) (d : Nat → Nat → Int64) (jm : Nat → Int32) (qm : Int64) (em : Nat → Nat → Int32) (dm : Nat → Nat → Int64) (H : Heap) (locs : List Loc) (ls : Array Slot) (hLI : LI i c jm em) (hP : va_P D vwCl (xwT sk a t i q c d ++ (Z ++ mW o am tm jm qm em dm)) H) (hD : va_D (fun q : Nat => s.heap.size ≤ q) (xwT sk a t i q c d ++ (Z ++ mW o am tm jm qm em dm))) (hS : va_S (fun q : Nat => s.heap.size ≤ q) s.heap H locs) (hl : lv_has ls 4 [(3, .int x3), (2, .ref o), (1, .ref (a 100)), (0, .ref b)]) : W p l e room_1 s m #[Value.ref b] below meth cd H locs cells slots (lw_Z below #[Value.ref b] s) (F0 m 1036 ls []) := by
  have hbA : ¬ (fun q : Nat => s.heap.size ≤ q) b := Nat.not_le.mpr hbl
  have hA : ∀ q : Nat, s.heap.size ≤ q → (fun q : Nat => s.heap.size ≤ q) q := fun _ h => h
  obtain ⟨hI, hs_F, hs_P, htr, hM, hs_S, hs_J, hR⟩ := hLI
  have hI0 := hI
  have hM0 := hM
  obtain ⟨hR, hPA, hKO, hSO, hSN, hDR, hRD⟩ := hR
  have hRR := RR_of hI0 hs_F
  refine lv_aload_n hx hb dL_law_1036 rfl (lv_at hl 2 rfl) ?_
  refine lv_aload_n hx hb dL_law_1037 rfl (lv_at hl 3 rfl) ?_
  refine lv_iload_n hx hb dL_law_1038 rfl (lv_at hl 0 rfl) ?_
  refine lv_iconst (v := 1) hx hb dL_law_1039 (by decide +kernel) ?_
  refine lv_iadd hx hb dL_law_1040 ?_
  refine lv_topi (fun x101 ex101 => ?_)
  have tx101 := ti_add (a := x3.toInt) (b := 1) ex101 rfl (by decide +kernel) (by omega) (by omega)
  refine va_sld hx hb hX hbl hbA hS (vp_in_iff.mpr (by have h9 : x101.toInt = (x3.toInt + 1) := tx101; omega)) dL_law_1041 ?_
  refine lv_topi (fun x102 ex102 => ?_)
  refine lv_aload_n hx hb dL_law_1042 rfl (lv_at hl 3 rfl) ?_
  refine lv_iload_n hx hb dL_law_1043 rfl (lv_at hl 0 rfl) ?_
  refine lv_iconst (v := 2) hx hb dL_law_1044 (by decide +kernel) ?_
  refine lv_iadd hx hb dL_law_1045 ?_
  refine lv_topi (fun x103 ex103 => ?_)
  have tx103 := ti_add (a := x3.toInt) (b := 2) ex103 rfl (by decide +kernel) (by omega) (by omega)
  refine va_sld hx hb hX hbl hbA hS (vp_in_iff.mpr (by have h9 : x103.toInt = (x3.toInt + 2) := tx103; omega)) dL_law_1046 ?_
  refine lv_topi (fun x104 ex104 => ?_)
  refine lv_aload_n hx hb dL_law_1047 rfl (lv_at hl 3 rfl) ?_
  refine lv_iload_n hx hb dL_law_1048 rfl (lv_at hl 0 rfl) ?_
  refine lv_iconst (v := 3) hx hb dL_law_1049 (by decide +kernel) ?_
  refine lv_iadd hx hb dL_law_1050 ?_
  refine lv_topi (fun x105 ex105 => ?_)
  have tx105 := ti_add (a := x3.toInt) (b := 3) ex105 rfl (by decide +kernel) (by omega) (by omega)
  refine va_sld hx hb hX hbl hbA hS (vp_in_iff.mpr (by have h9 : x105.toInt = (x3.toInt + 3) := tx105; omega)) dL_law_1051 ?_
  refine lv_topi (fun x106 ex106 => ?_)
  refine lc_i (wr := (Z ++ mW o am tm jm qm em dm)) (va_runV (As := [.int x102, .int x104, .int x106]) (rest := []) ⟨hx, hb, hml, hown, hts⟩ (x_X11_line l D H.size sk a t i q c d x102 x104 x106 hI ) (cwV 3 hts gm_law_X11_line_124 rfl rfl rfl (by decide +kernel) ⟨Nat.le_of_ble_eq_true rfl, Nat.le_of_ble_eq_true rfl⟩) (yB_V hN (xZ_k hZ hS hA) (xZ_n hZ (vD_l hD)) hKT (vP_l hP) (vD_l hD) (ci := 11) (q0 := 0) rfl rfl) rfl rfl hl.1 rfl (lv_room (Nat.le_of_ble_eq_true rfl)) dL_law_1052 hcs) hS hA hP hD (fun r107 u107 H locs hw107 _ hP hD hS => ?_)
  obtain ⟨i107, q107, c107, d107⟩ := u107
  have hw107 : True ∧ xInv i107 c107 ∧ (∀ k, k ∉ ([102] : List Nat) → i107 k = i k) ∧ (∀ k, k ∉ ([101, 158, 159] : List Nat) → c107 k = c k) := hw107
  obtain ⟨hw107, hI, hei107, hec107⟩ := hw107
  have hP : va_P D vwCl (xwT sk a t i107 q107 c107 d107 ++ (Z ++ mW o am tm jm qm em dm)) H := hP
  have hD : va_D (fun q : Nat => s.heap.size ≤ q) (xwT sk a t i107 q107 c107 d107 ++ (Z ++ mW o am tm jm qm em dm)) := hD
  refine lv_pop hx hb dL_law_1055 rfl ?_
  refine lv_aload_n hx hb dL_law_1056 rfl (lv_at hl 1 rfl) ?_
  refine lv_aload_n hx hb dL_law_1057 rfl (lv_at hl 3 rfl) ?_
  refine lv_iload_n hx hb dL_law_1058 rfl (lv_at hl 0 rfl) ?_
  refine lv_iconst (v := 1) hx hb dL_law_1059 (by decide +kernel) ?_
  refine lv_iadd hx hb dL_law_1060 ?_
  refine lv_topi (fun x108 ex108 => ?_)
  have tx108 := ti_add (a := x3.toInt) (b := 1) ex108 rfl (by decide +kernel) (by omega) (by omega)
  refine va_sld hx hb hX hbl hbA hS (vp_in_iff.mpr (by have h9 : x108.toInt = (x3.toInt + 1) := tx108; omega)) dL_law_1061 ?_
  refine lv_topi (fun x109 ex109 => ?_)
  refine lv_aload_n hx hb dL_law_1062 rfl (lv_at hl 3 rfl) ?_
  refine lv_iload_n hx hb dL_law_1063 rfl (lv_at hl 0 rfl) ?_
  refine lv_iconst (v := 2) hx hb dL_law_1064 (by decide +kernel) ?_
  refine lv_iadd hx hb dL_law_1065 ?_
  refine lv_topi (fun x110 ex110 => ?_)
  have tx110 := ti_add (a := x3.toInt) (b := 2) ex110 rfl (by decide +kernel) (by omega) (by omega)
  refine va_sld hx hb hX hbl hbA hS (vp_in_iff.mpr (by have h9 : x110.toInt = (x3.toInt + 2) := tx110; omega)) dL_law_1066 ?_
  refine lv_topi (fun x111 ex111 => ?_)
  refine lv_aload_n hx hb dL_law_1067 rfl (lv_at hl 3 rfl) ?_
  refine lv_iload_n hx hb dL_law_1068 rfl (lv_at hl 0 rfl) ?_
  refine lv_iconst (v := 3) hx hb dL_law_1069 (by decide +kernel) ?_
  refine lv_iadd hx hb dL_law_1070 ?_
  refine lv_topi (fun x112 ex112 => ?_)
  have tx112 := ti_add (a := x3.toInt) (b := 3) ex112 rfl (by decide +kernel) (by omega) (by omega)
  refine va_sld hx hb hX hbl hbA hS (vp_in_iff.mpr (by have h9 : x112.toInt = (x3.toInt + 3) := tx112; omega)) dL_law_1071 ?_
  refine lv_topi (fun x113 ex113 => ?_)
  have hP : va_P D vwCl ((xwT sk a t i107 q107 c107 d107 ++ Z) ++ mW o am tm jm qm em dm) H := by rw [List.append_assoc]; exact hP
  have hD : va_D (fun q : Nat => s.heap.size ≤ q) ((xwT sk a t i107 q107 c107 d107 ++ Z) ++ mW o am tm jm qm em dm) := by rw [List.append_assoc]; exact hD
  refine rc_i (wr := (xwT sk a t i107 q107 c107 d107 ++ Z)) (va_runV (As := [.int x109, .int x111, .int x113]) (rest := []) ⟨hx, hb, hml, hown, hts⟩ (s_X12_line l D H.size o am tm jm qm em dm x109 x111 x113 hM ) (cwV 3 hts gm_law_X12_line_127 rfl rfl rfl (by decide +kernel) ⟨Nat.le_of_ble_eq_true rfl, Nat.le_of_ble_eq_true rfl⟩) (pB_V hKM (vP_r hP) (vD_r hD) (ci := 12) (q0 := 0) rfl rfl) rfl rfl hl.1 rfl (lv_room (Nat.le_of_ble_eq_true rfl)) dL_law_1072 hcs) hS hA hP hD (fun r114 u114 H locs hw114 hP hD hS => ?_)
  obtain ⟨i114, q114, c114, d114⟩ := u114
  have hw114 : True ∧ mInv i114 c114 ∧ (∀ k, k ∉ ([0] : List Nat) → i114 k = jm k) ∧ (∀ k, k ∉ ([1, 60, 61, 63] : List Nat) → c114 k = em k) := hw114
  obtain ⟨hw114, hM, hei114, hec114⟩ := hw114
  have hP : va_P D vwCl (xwT sk a t i107 q107 c107 d107 ++ (Z ++ mW o am tm i114 q114 c114 d114)) H := by rw [← List.append_assoc]; exact hP
  have hD : va_D (fun q : Nat => s.heap.size ≤ q) (xwT sk a t i107 q107 c107 d107 ++ (Z ++ mW o am tm i114 q114 c114 d114)) := by rw [← List.append_assoc]; exact hD
  refine lv_pop hx hb dL_law_1075 rfl ?_
  refine lv_goto (tgt := 1461) hx hb dL_law_1076 (by decide +kernel) ?_
  exact kk i107 q107 c107 d107 i114 q114 c114 d114 _ _ _ ⟨hI, (by rw [show c107 113 = c 113 from hec107 113 (by decide +kernel), show c107 115 = c 115 from hec107 115 (by decide +kernel)]; exact hs_F), (by rw [show i107 146 = i 146 from hei107 146 (by decide +kernel), show i107 147 = i 147 from hei107 147 (by decide +kernel), show i107 148 = i 148 from hei107 148 (by decide +kernel), show i107 156 = i 156 from hei107 156 (by decide +kernel), show c107 144 = c 144 from hec107 144 (by decide +kernel), show c107 145 = c 145 from hec107 145 (by decide +kernel), show c107 150 = c 150 from hec107 150 (by decide +kernel)]; exact hs_P), (by rw [show i107 141 = i 141 from hei107 141 (by decide +kernel)]; exact htr), hM, (by rw [show c114 3 = em 3 from hec114 3 (by decide +kernel), show c114 6 = em 6 from hec114 6 (by decide +kernel), show c114 9 = em 9 from hec114 9 (by decide +kernel), show c114 10 = em 10 from hec114 10 (by decide +kernel), show c114 11 = em 11 from hec114 11 (by decide +kernel), show c114 13 = em 13 from hec114 13 (by decide +kernel), show i114 2 = jm 2 from hei114 2 (by decide +kernel), show i114 5 = jm 5 from hei114 5 (by decide +kernel), show i114 8 = jm 8 from hei114 8 (by decide +kernel)]; exact hs_S), (by rw [show c114 3 = em 3 from hec114 3 (by decide +kernel), show c114 6 = em 6 from hec114 6 (by decide +kernel), show c114 23 = em 23 from hec114 23 (by decide +kernel), show c114 24 = em 24 from hec114 24 (by decide +kernel), show c114 29 = em 29 from hec114 29 (by decide +kernel), show c114 30 = em 30 from hec114 30 (by decide +kernel), show i114 5 = jm 5 from hei114 5 (by decide +kernel), show i114 22 = jm 22 from hei114 22 (by decide +kernel), show i114 27 = jm 27 from hei114 27 (by decide +kernel)]; exact hs_J), (by rw [show i107 110 = i 110 from hei107 110 (by decide +kernel), show i107 111 = i 111 from hei107 111 (by decide +kernel), show i107 165 = i 165 from hei107 165 (by decide +kernel), show i107 124 = i 124 from hei107 124 (by decide +kernel), show c107 107 = c 107 from hec107 107 (by decide +kernel), show c107 105 = c 105 from hec107 105 (by decide +kernel), show c107 108 = c 108 from hec107 108 (by decide +kernel), show c107 106 = c 106 from hec107 106 (by decide +kernel), show c107 113 = c 113 from hec107 113 (by decide +kernel), show c107 114 = c 114 from hec107 114 (by decide +kernel), show c107 115 = c 115 from hec107 115 (by decide +kernel), show c107 116 = c 116 from hec107 116 (by decide +kernel), show c107 117 = c 117 from hec107 117 (by decide +kernel), show c107 118 = c 118 from hec107 118 (by decide +kernel), show c107 119 = c 119 from hec107 119 (by decide +kernel), show c107 120 = c 120 from hec107 120 (by decide +kernel), show c107 121 = c 121 from hec107 121 (by decide +kernel), show c107 127 = c 127 from hec107 127 (by decide +kernel), show c107 129 = c 129 from hec107 129 (by decide +kernel), show c107 130 = c 130 from hec107 130 (by decide +kernel), show c107 131 = c 131 from hec107 131 (by decide +kernel), show c107 132 = c 132 from hec107 132 (by decide +kernel), show c107 133 = c 133 from hec107 133 (by decide +kernel), show c107 134 = c 134 from hec107 134 (by decide +kernel), show i114 2 = jm 2 from hei114 2 (by decide +kernel), show i114 5 = jm 5 from hei114 5 (by decide +kernel), show i114 64 = jm 64 from hei114 64 (by decide +kernel), show i114 8 = jm 8 from hei114 8 (by decide +kernel), show c114 4 = em 4 from hec114 4 (by decide +kernel), show c114 3 = em 3 from hec114 3 (by decide +kernel), show c114 6 = em 6 from hec114 6 (by decide +kernel), show c114 9 = em 9 from hec114 9 (by decide +kernel), show c114 10 = em 10 from hec114 10 (by decide +kernel), show c114 11 = em 11 from hec114 11 (by decide +kernel), show c114 12 = em 12 from hec114 12 (by decide +kernel), show c114 13 = em 13 from hec114 13 (by decide +kernel)]; exact ⟨hR, hPA, hKO, hSO, hSN, hDR, hRD⟩)⟩ hP hD hS (lv_sub hl [0, 1, 2, 3] rfl)

set_option maxHeartbeats 4000000 in
set_option maxRecDepth 100000 in
theorem law_put {p : Program} {l : Launch} {e : Env} {s : State} {m : MethodId} {below : List Frame} {meth : Method} {cd : Code} {b L : Nat} {xs : Nat → Int32} {D : va_G} {a : Nat → Nat} {t : Nat → ClassId} {o : Nat} {am : Nat → Nat} {tm : Nat → ClassId} {x3 : Int32} {cells slots : Nat} {sk : Value} {Z : va_W} (hx : p.tables.exec = Jvm.exec) (hb : cd.code = cL_law) (hml : cd.maxLocals = 4) (hown : s.vm.findClass RL = some m.cls) (hts : ∀ w ∈ wm_law, w.before #[Value.ref b] s = true) (hX : va_X b L xs s s.heap) (hbl : b < s.heap.size) (hL : L ≤ 3584) (hN : xN s) (hZ : xZ (a 186) s s.heap) (hKT : va_K D vwCl (xtT t) s) (hKM : va_K D vwCl (mT tm) s) (hcs : cells ≤ 600000 ∧ slots ≤ 7302249) (hx3 : 0 ≤ x3.toInt ∧ x3.toInt + 7 ≤ (L : Int)) (kk : LK p l e s m below meth cd b D sk a t Z o am tm x3 cells slots) (i : Nat → Int32) (q : Int64) (c : Nat → Nat → Int32) (d : Nat → Nat → Int64) (jm : Nat → Int32) (qm : Int64) (em : Nat → Nat → Int32) (dm : Nat → Nat → Int64) (H : Heap) (locs : List Loc) (ls : Array Slot) (hLI : LI i c jm em) (hP : va_P D vwCl (xwT sk a t i q c d ++ (Z ++ mW o am tm jm qm em dm)) H) (hD : va_D (fun q : Nat => s.heap.size ≤ q) (xwT sk a t i q c d ++ (Z ++ mW o am tm jm qm em dm))) (hS : va_S (fun q : Nat => s.heap.size ≤ q) s.heap H locs) (hl : lv_has ls 4 [(3, .int x3), (2, .ref o), (1, .ref (a 100)), (0, .ref b)]) : W p l e room_1 s m #[Value.ref b] below meth cd H locs cells slots (lw_Z below #[Value.ref b] s) (F0 m 1079 ls []) := by
  have hbA : ¬ (fun q : Nat => s.heap.size ≤ q) b := Nat.not_le.mpr hbl
  have hA : ∀ q : Nat, s.heap.size ≤ q → (fun q : Nat => s.heap.size ≤ q) q := fun _ h => h
  obtain ⟨hI, hs_F, hs_P, htr, hM, hs_S, hs_J, hR⟩ := hLI
  have hI0 := hI
  have hM0 := hM
  obtain ⟨hR, hPA, hKO, hSO, hSN, hDR, hRD⟩ := hR
  have hRR := RR_of hI0 hs_F
  refine lv_aload_n hx hb dL_law_1079 rfl (lv_at hl 2 rfl) ?_
  refine lv_aload_n hx hb dL_law_1080 rfl (lv_at hl 3 rfl) ?_
  refine lv_iload_n hx hb dL_law_1081 rfl (lv_at hl 0 rfl) ?_
  refine lv_iconst (v := 1) hx hb dL_law_1082 (by decide +kernel) ?_
  refine lv_iadd hx hb dL_law_1083 ?_
  refine lv_topi (fun x101 ex101 => ?_)
  have tx101 := ti_add (a := x3.toInt) (b := 1) ex101 rfl (by decide +kernel) (by omega) (by omega)
  refine va_sld hx hb hX hbl hbA hS (vp_in_iff.mpr (by have h9 : x101.toInt = (x3.toInt + 1) := tx101; omega)) dL_law_1084 ?_
  refine lv_topi (fun x102 ex102 => ?_)
  refine lv_aload_n hx hb dL_law_1085 rfl (lv_at hl 3 rfl) ?_
  refine lv_iload_n hx hb dL_law_1086 rfl (lv_at hl 0 rfl) ?_
  refine lv_iconst (v := 2) hx hb dL_law_1087 (by decide +kernel) ?_
  refine lv_iadd hx hb dL_law_1088 ?_
  refine lv_topi (fun x103 ex103 => ?_)
  have tx103 := ti_add (a := x3.toInt) (b := 2) ex103 rfl (by decide +kernel) (by omega) (by omega)
  refine va_sld hx hb hX hbl hbA hS (vp_in_iff.mpr (by have h9 : x103.toInt = (x3.toInt + 2) := tx103; omega)) dL_law_1089 ?_
  refine lv_topi (fun x104 ex104 => ?_)
  refine lv_aload_n hx hb dL_law_1090 rfl (lv_at hl 3 rfl) ?_
  refine lv_iload_n hx hb dL_law_1091 rfl (lv_at hl 0 rfl) ?_
  refine lv_iconst (v := 3) hx hb dL_law_1092 (by decide +kernel) ?_
  refine lv_iadd hx hb dL_law_1093 ?_
  refine lv_topi (fun x105 ex105 => ?_)
  have tx105 := ti_add (a := x3.toInt) (b := 3) ex105 rfl (by decide +kernel) (by omega) (by omega)
  refine va_sld hx hb hX hbl hbA hS (vp_in_iff.mpr (by have h9 : x105.toInt = (x3.toInt + 3) := tx105; omega)) dL_law_1094 ?_
  refine lv_topi (fun x106 ex106 => ?_)
  refine lv_aload_n hx hb dL_law_1095 rfl (lv_at hl 3 rfl) ?_
  refine lv_iload_n hx hb dL_law_1096 rfl (lv_at hl 0 rfl) ?_
  refine lv_iconst (v := 4) hx hb dL_law_1097 (by decide +kernel) ?_
  refine lv_iadd hx hb dL_law_1098 ?_
  refine lv_topi (fun x107 ex107 => ?_)
  have tx107 := ti_add (a := x3.toInt) (b := 4) ex107 rfl (by decide +kernel) (by omega) (by omega)
  refine va_sld hx hb hX hbl hbA hS (vp_in_iff.mpr (by have h9 : x107.toInt = (x3.toInt + 4) := tx107; omega)) dL_law_1099 ?_
  refine lv_topi (fun x108 ex108 => ?_)
  refine lv_i2l (v := x108.toInt64) hx hb dL_law_1100 rfl ?_
  refine lv_bipush (v := 32) hx hb dL_law_1101 (by decide +kernel) ?_
  refine lv_lshl hx hb dL_law_1103 rfl ?_
  refine lv_topl (fun x109 ex109 => ?_)
  refine lv_aload_n hx hb dL_law_1104 rfl (lv_at hl 3 rfl) ?_
  refine lv_iload_n hx hb dL_law_1105 rfl (lv_at hl 0 rfl) ?_
  refine lv_iconst (v := 5) hx hb dL_law_1106 (by decide +kernel) ?_
  refine lv_iadd hx hb dL_law_1107 ?_
  refine lv_topi (fun x110 ex110 => ?_)
  have tx110 := ti_add (a := x3.toInt) (b := 5) ex110 rfl (by decide +kernel) (by omega) (by omega)
  refine va_sld hx hb hX hbl hbA hS (vp_in_iff.mpr (by have h9 : x110.toInt = (x3.toInt + 5) := tx110; omega)) dL_law_1108 ?_
  refine lv_topi (fun x111 ex111 => ?_)
  refine lv_i2l (v := x111.toInt64) hx hb dL_law_1109 rfl ?_
  refine lv_ldc2 (v := 4294967295) hx hb hown (hts (.constantLong RL 128 (4294967295)) (wl_m42 _ (List.mem_of_getElem? (i := 21) rfl))) dL_law_1110 ?_
  refine lv_land hx hb dL_law_1113 ?_
  refine lv_topl (fun x112 ex112 => ?_)
  refine lv_lor hx hb dL_law_1114 ?_
  refine lv_topl (fun x113 ex113 => ?_)
  refine lc_i (wr := (Z ++ mW o am tm jm qm em dm)) (va_runV (As := [.int x102, .int x104, .int x106, .long x113]) (rest := []) ⟨hx, hb, hml, hown, hts⟩ (x_X11_put l D H.size sk a t i q c d x102 x104 x106 x113 hI ) (cwV 4 hts gm_law_X11_put_130 rfl rfl rfl (by decide +kernel) ⟨Nat.le_of_ble_eq_true rfl, Nat.le_of_ble_eq_true rfl⟩) (yB_V hN (xZ_k hZ hS hA) (xZ_n hZ (vD_l hD)) hKT (vP_l hP) (vD_l hD) (ci := 11) (q0 := 0) rfl rfl) rfl rfl hl.1 rfl (lv_room (Nat.le_of_ble_eq_true rfl)) dL_law_1115 hcs) hS hA hP hD (fun r114 u114 H locs hw114 _ hP hD hS => ?_)
  obtain ⟨i114, q114, c114, d114⟩ := u114
  have hw114 : True ∧ xInv i114 c114 ∧ (∀ k, k ∉ ([102] : List Nat) → i114 k = i k) ∧ (∀ k, k ∉ ([101] : List Nat) → c114 k = c k) := hw114
  obtain ⟨hw114, hI, hei114, hec114⟩ := hw114
  have hP : va_P D vwCl (xwT sk a t i114 q114 c114 d114 ++ (Z ++ mW o am tm jm qm em dm)) H := hP
  have hD : va_D (fun q : Nat => s.heap.size ≤ q) (xwT sk a t i114 q114 c114 d114 ++ (Z ++ mW o am tm jm qm em dm)) := hD
  refine lv_pop hx hb dL_law_1118 rfl ?_
  refine lv_aload_n hx hb dL_law_1119 rfl (lv_at hl 1 rfl) ?_
  refine lv_aload_n hx hb dL_law_1120 rfl (lv_at hl 3 rfl) ?_
  refine lv_iload_n hx hb dL_law_1121 rfl (lv_at hl 0 rfl) ?_
  refine lv_iconst (v := 1) hx hb dL_law_1122 (by decide +kernel) ?_
  refine lv_iadd hx hb dL_law_1123 ?_
  refine lv_topi (fun x115 ex115 => ?_)
  have tx115 := ti_add (a := x3.toInt) (b := 1) ex115 rfl (by decide +kernel) (by omega) (by omega)
  refine va_sld hx hb hX hbl hbA hS (vp_in_iff.mpr (by have h9 : x115.toInt = (x3.toInt + 1) := tx115; omega)) dL_law_1124 ?_
  refine lv_topi (fun x116 ex116 => ?_)
  refine lv_aload_n hx hb dL_law_1125 rfl (lv_at hl 3 rfl) ?_
  refine lv_iload_n hx hb dL_law_1126 rfl (lv_at hl 0 rfl) ?_
  refine lv_iconst (v := 2) hx hb dL_law_1127 (by decide +kernel) ?_
  refine lv_iadd hx hb dL_law_1128 ?_
  refine lv_topi (fun x117 ex117 => ?_)
  have tx117 := ti_add (a := x3.toInt) (b := 2) ex117 rfl (by decide +kernel) (by omega) (by omega)
  refine va_sld hx hb hX hbl hbA hS (vp_in_iff.mpr (by have h9 : x117.toInt = (x3.toInt + 2) := tx117; omega)) dL_law_1129 ?_
  refine lv_topi (fun x118 ex118 => ?_)
  refine lv_aload_n hx hb dL_law_1130 rfl (lv_at hl 3 rfl) ?_
  refine lv_iload_n hx hb dL_law_1131 rfl (lv_at hl 0 rfl) ?_
  refine lv_iconst (v := 3) hx hb dL_law_1132 (by decide +kernel) ?_
  refine lv_iadd hx hb dL_law_1133 ?_
  refine lv_topi (fun x119 ex119 => ?_)
  have tx119 := ti_add (a := x3.toInt) (b := 3) ex119 rfl (by decide +kernel) (by omega) (by omega)
  refine va_sld hx hb hX hbl hbA hS (vp_in_iff.mpr (by have h9 : x119.toInt = (x3.toInt + 3) := tx119; omega)) dL_law_1134 ?_
  refine lv_topi (fun x120 ex120 => ?_)
  refine lv_aload_n hx hb dL_law_1135 rfl (lv_at hl 3 rfl) ?_
  refine lv_iload_n hx hb dL_law_1136 rfl (lv_at hl 0 rfl) ?_
  refine lv_iconst (v := 4) hx hb dL_law_1137 (by decide +kernel) ?_
  refine lv_iadd hx hb dL_law_1138 ?_
  refine lv_topi (fun x121 ex121 => ?_)
  have tx121 := ti_add (a := x3.toInt) (b := 4) ex121 rfl (by decide +kernel) (by omega) (by omega)
  refine va_sld hx hb hX hbl hbA hS (vp_in_iff.mpr (by have h9 : x121.toInt = (x3.toInt + 4) := tx121; omega)) dL_law_1139 ?_
  refine lv_topi (fun x122 ex122 => ?_)
  refine lv_i2l (v := x122.toInt64) hx hb dL_law_1140 rfl ?_
  refine lv_bipush (v := 32) hx hb dL_law_1141 (by decide +kernel) ?_
  refine lv_lshl hx hb dL_law_1143 rfl ?_
  refine lv_topl (fun x123 ex123 => ?_)
  refine lv_aload_n hx hb dL_law_1144 rfl (lv_at hl 3 rfl) ?_
  refine lv_iload_n hx hb dL_law_1145 rfl (lv_at hl 0 rfl) ?_
  refine lv_iconst (v := 5) hx hb dL_law_1146 (by decide +kernel) ?_
  refine lv_iadd hx hb dL_law_1147 ?_
  refine lv_topi (fun x124 ex124 => ?_)
  have tx124 := ti_add (a := x3.toInt) (b := 5) ex124 rfl (by decide +kernel) (by omega) (by omega)
  refine va_sld hx hb hX hbl hbA hS (vp_in_iff.mpr (by have h9 : x124.toInt = (x3.toInt + 5) := tx124; omega)) dL_law_1148 ?_
  refine lv_topi (fun x125 ex125 => ?_)
  refine lv_i2l (v := x125.toInt64) hx hb dL_law_1149 rfl ?_
  refine lv_ldc2 (v := 4294967295) hx hb hown (hts (.constantLong RL 128 (4294967295)) (wl_m42 _ (List.mem_of_getElem? (i := 21) rfl))) dL_law_1150 ?_
  refine lv_land hx hb dL_law_1153 ?_
  refine lv_topl (fun x126 ex126 => ?_)
  refine lv_lor hx hb dL_law_1154 ?_
  refine lv_topl (fun x127 ex127 => ?_)
  have hP : va_P D vwCl ((xwT sk a t i114 q114 c114 d114 ++ Z) ++ mW o am tm jm qm em dm) H := by rw [List.append_assoc]; exact hP
  have hD : va_D (fun q : Nat => s.heap.size ≤ q) ((xwT sk a t i114 q114 c114 d114 ++ Z) ++ mW o am tm jm qm em dm) := by rw [List.append_assoc]; exact hD
  refine rc_i (wr := (xwT sk a t i114 q114 c114 d114 ++ Z)) (va_runV (As := [.int x116, .int x118, .int x120, .long x127]) (rest := []) ⟨hx, hb, hml, hown, hts⟩ (s_X12_put l D H.size o am tm jm qm em dm x116 x118 x120 x127 hM ) (cwV 4 hts gm_law_X12_put_134 rfl rfl rfl (by decide +kernel) ⟨Nat.le_of_ble_eq_true rfl, Nat.le_of_ble_eq_true rfl⟩) (pB_V hKM (vP_r hP) (vD_r hD) (ci := 12) (q0 := 0) rfl rfl) rfl rfl hl.1 rfl (lv_room (Nat.le_of_ble_eq_true rfl)) dL_law_1155 hcs) hS hA hP hD (fun r128 u128 H locs hw128 hP hD hS => ?_)
  obtain ⟨i128, q128, c128, d128⟩ := u128
  have hw128 : True ∧ mInv i128 c128 ∧ (∀ k, k ∉ ([0] : List Nat) → i128 k = jm k) ∧ (∀ k, k ∉ ([1] : List Nat) → c128 k = em k) := hw128
  obtain ⟨hw128, hM, hei128, hec128⟩ := hw128
  have hP : va_P D vwCl (xwT sk a t i114 q114 c114 d114 ++ (Z ++ mW o am tm i128 q128 c128 d128)) H := by rw [← List.append_assoc]; exact hP
  have hD : va_D (fun q : Nat => s.heap.size ≤ q) (xwT sk a t i114 q114 c114 d114 ++ (Z ++ mW o am tm i128 q128 c128 d128)) := by rw [← List.append_assoc]; exact hD
  refine lv_pop hx hb dL_law_1158 rfl ?_
  refine lv_goto (tgt := 1461) hx hb dL_law_1159 (by decide +kernel) ?_
  exact kk i114 q114 c114 d114 i128 q128 c128 d128 _ _ _ ⟨hI, (by rw [show c114 113 = c 113 from hec114 113 (by decide +kernel), show c114 115 = c 115 from hec114 115 (by decide +kernel)]; exact hs_F), (by rw [show i114 146 = i 146 from hei114 146 (by decide +kernel), show i114 147 = i 147 from hei114 147 (by decide +kernel), show i114 148 = i 148 from hei114 148 (by decide +kernel), show i114 156 = i 156 from hei114 156 (by decide +kernel), show c114 144 = c 144 from hec114 144 (by decide +kernel), show c114 145 = c 145 from hec114 145 (by decide +kernel), show c114 150 = c 150 from hec114 150 (by decide +kernel)]; exact hs_P), (by rw [show i114 141 = i 141 from hei114 141 (by decide +kernel)]; exact htr), hM, (by rw [show c128 3 = em 3 from hec128 3 (by decide +kernel), show c128 6 = em 6 from hec128 6 (by decide +kernel), show c128 9 = em 9 from hec128 9 (by decide +kernel), show c128 10 = em 10 from hec128 10 (by decide +kernel), show c128 11 = em 11 from hec128 11 (by decide +kernel), show c128 13 = em 13 from hec128 13 (by decide +kernel), show i128 2 = jm 2 from hei128 2 (by decide +kernel), show i128 5 = jm 5 from hei128 5 (by decide +kernel), show i128 8 = jm 8 from hei128 8 (by decide +kernel)]; exact hs_S), (by rw [show c128 3 = em 3 from hec128 3 (by decide +kernel), show c128 6 = em 6 from hec128 6 (by decide +kernel), show c128 23 = em 23 from hec128 23 (by decide +kernel), show c128 24 = em 24 from hec128 24 (by decide +kernel), show c128 29 = em 29 from hec128 29 (by decide +kernel), show c128 30 = em 30 from hec128 30 (by decide +kernel), show i128 5 = jm 5 from hei128 5 (by decide +kernel), show i128 22 = jm 22 from hei128 22 (by decide +kernel), show i128 27 = jm 27 from hei128 27 (by decide +kernel)]; exact hs_J), (by rw [show i114 110 = i 110 from hei114 110 (by decide +kernel), show i114 111 = i 111 from hei114 111 (by decide +kernel), show i114 165 = i 165 from hei114 165 (by decide +kernel), show i114 124 = i 124 from hei114 124 (by decide +kernel), show c114 107 = c 107 from hec114 107 (by decide +kernel), show c114 105 = c 105 from hec114 105 (by decide +kernel), show c114 108 = c 108 from hec114 108 (by decide +kernel), show c114 106 = c 106 from hec114 106 (by decide +kernel), show c114 113 = c 113 from hec114 113 (by decide +kernel), show c114 114 = c 114 from hec114 114 (by decide +kernel), show c114 115 = c 115 from hec114 115 (by decide +kernel), show c114 116 = c 116 from hec114 116 (by decide +kernel), show c114 117 = c 117 from hec114 117 (by decide +kernel), show c114 118 = c 118 from hec114 118 (by decide +kernel), show c114 119 = c 119 from hec114 119 (by decide +kernel), show c114 120 = c 120 from hec114 120 (by decide +kernel), show c114 121 = c 121 from hec114 121 (by decide +kernel), show c114 127 = c 127 from hec114 127 (by decide +kernel), show c114 129 = c 129 from hec114 129 (by decide +kernel), show c114 130 = c 130 from hec114 130 (by decide +kernel), show c114 131 = c 131 from hec114 131 (by decide +kernel), show c114 132 = c 132 from hec114 132 (by decide +kernel), show c114 133 = c 133 from hec114 133 (by decide +kernel), show c114 134 = c 134 from hec114 134 (by decide +kernel), show i128 2 = jm 2 from hei128 2 (by decide +kernel), show i128 5 = jm 5 from hei128 5 (by decide +kernel), show i128 64 = jm 64 from hei128 64 (by decide +kernel), show i128 8 = jm 8 from hei128 8 (by decide +kernel), show c128 4 = em 4 from hec128 4 (by decide +kernel), show c128 3 = em 3 from hec128 3 (by decide +kernel), show c128 6 = em 6 from hec128 6 (by decide +kernel), show c128 9 = em 9 from hec128 9 (by decide +kernel), show c128 10 = em 10 from hec128 10 (by decide +kernel), show c128 11 = em 11 from hec128 11 (by decide +kernel), show c128 12 = em 12 from hec128 12 (by decide +kernel), show c128 13 = em 13 from hec128 13 (by decide +kernel)]; exact ⟨hR, hPA, hKO, hSO, hSN, hDR, hRD⟩)⟩ hP hD hS (lv_sub hl [0, 1, 2, 3] rfl)

set_option maxHeartbeats 4000000 in
set_option maxRecDepth 100000 in
theorem law_item {p : Program} {l : Launch} {e : Env} {s : State} {m : MethodId} {below : List Frame} {meth : Method} {cd : Code} {b L : Nat} {xs : Nat → Int32} {D : va_G} {a : Nat → Nat} {t : Nat → ClassId} {o : Nat} {am : Nat → Nat} {tm : Nat → ClassId} {x3 : Int32} {cells slots : Nat} {sk : Value} {Z : va_W} (hx : p.tables.exec = Jvm.exec) (hb : cd.code = cL_law) (hml : cd.maxLocals = 4) (hown : s.vm.findClass RL = some m.cls) (hts : ∀ w ∈ wm_law, w.before #[Value.ref b] s = true) (hX : va_X b L xs s s.heap) (hbl : b < s.heap.size) (hL : L ≤ 3584) (hN : xN s) (hZ : xZ (a 186) s s.heap) (hKT : va_K D vwCl (xtT t) s) (hKM : va_K D vwCl (mT tm) s) (hcs : cells ≤ 600000 ∧ slots ≤ 7302249) (hx3 : 0 ≤ x3.toInt ∧ x3.toInt + 7 ≤ (L : Int)) (kk : LK p l e s m below meth cd b D sk a t Z o am tm x3 cells slots) (i : Nat → Int32) (q : Int64) (c : Nat → Nat → Int32) (d : Nat → Nat → Int64) (jm : Nat → Int32) (qm : Int64) (em : Nat → Nat → Int32) (dm : Nat → Nat → Int64) (H : Heap) (locs : List Loc) (ls : Array Slot) (hLI : LI i c jm em) (hP : va_P D vwCl (xwT sk a t i q c d ++ (Z ++ mW o am tm jm qm em dm)) H) (hD : va_D (fun q : Nat => s.heap.size ≤ q) (xwT sk a t i q c d ++ (Z ++ mW o am tm jm qm em dm))) (hS : va_S (fun q : Nat => s.heap.size ≤ q) s.heap H locs) (hl : lv_has ls 4 [(3, .int x3), (2, .ref o), (1, .ref (a 100)), (0, .ref b)]) : W p l e room_1 s m #[Value.ref b] below meth cd H locs cells slots (lw_Z below #[Value.ref b] s) (F0 m 1162 ls []) := by
  have hbA : ¬ (fun q : Nat => s.heap.size ≤ q) b := Nat.not_le.mpr hbl
  have hA : ∀ q : Nat, s.heap.size ≤ q → (fun q : Nat => s.heap.size ≤ q) q := fun _ h => h
  obtain ⟨hI, hs_F, hs_P, htr, hM, hs_S, hs_J, hR⟩ := hLI
  have hI0 := hI
  have hM0 := hM
  obtain ⟨hR, hPA, hKO, hSO, hSN, hDR, hRD⟩ := hR
  have hRR := RR_of hI0 hs_F
  refine lv_aload_n hx hb dL_law_1162 rfl (lv_at hl 2 rfl) ?_
  refine lv_aload_n hx hb dL_law_1163 rfl (lv_at hl 3 rfl) ?_
  refine lv_iload_n hx hb dL_law_1164 rfl (lv_at hl 0 rfl) ?_
  refine lv_iconst (v := 1) hx hb dL_law_1165 (by decide +kernel) ?_
  refine lv_iadd hx hb dL_law_1166 ?_
  refine lv_topi (fun x101 ex101 => ?_)
  have tx101 := ti_add (a := x3.toInt) (b := 1) ex101 rfl (by decide +kernel) (by omega) (by omega)
  refine va_sld hx hb hX hbl hbA hS (vp_in_iff.mpr (by have h9 : x101.toInt = (x3.toInt + 1) := tx101; omega)) dL_law_1167 ?_
  refine lv_topi (fun x102 ex102 => ?_)
  refine lv_aload_n hx hb dL_law_1168 rfl (lv_at hl 3 rfl) ?_
  refine lv_iload_n hx hb dL_law_1169 rfl (lv_at hl 0 rfl) ?_
  refine lv_iconst (v := 2) hx hb dL_law_1170 (by decide +kernel) ?_
  refine lv_iadd hx hb dL_law_1171 ?_
  refine lv_topi (fun x103 ex103 => ?_)
  have tx103 := ti_add (a := x3.toInt) (b := 2) ex103 rfl (by decide +kernel) (by omega) (by omega)
  refine va_sld hx hb hX hbl hbA hS (vp_in_iff.mpr (by have h9 : x103.toInt = (x3.toInt + 2) := tx103; omega)) dL_law_1172 ?_
  refine lv_topi (fun x104 ex104 => ?_)
  refine lv_aload_n hx hb dL_law_1173 rfl (lv_at hl 3 rfl) ?_
  refine lv_iload_n hx hb dL_law_1174 rfl (lv_at hl 0 rfl) ?_
  refine lv_iconst (v := 3) hx hb dL_law_1175 (by decide +kernel) ?_
  refine lv_iadd hx hb dL_law_1176 ?_
  refine lv_topi (fun x105 ex105 => ?_)
  have tx105 := ti_add (a := x3.toInt) (b := 3) ex105 rfl (by decide +kernel) (by omega) (by omega)
  refine va_sld hx hb hX hbl hbA hS (vp_in_iff.mpr (by have h9 : x105.toInt = (x3.toInt + 3) := tx105; omega)) dL_law_1177 ?_
  refine lv_topi (fun x106 ex106 => ?_)
  refine lc_i (wr := (Z ++ mW o am tm jm qm em dm)) (va_runV (As := [.int x102, .int x104, .int x106]) (rest := []) ⟨hx, hb, hml, hown, hts⟩ (x_X11_item l D H.size sk a t i q c d x102 x104 x106 hI ) (cwV 3 hts gm_law_X11_item_135 rfl rfl rfl (by decide +kernel) ⟨Nat.le_of_ble_eq_true rfl, Nat.le_of_ble_eq_true rfl⟩) (yB_V hN (xZ_k hZ hS hA) (xZ_n hZ (vD_l hD)) hKT (vP_l hP) (vD_l hD) (ci := 11) (q0 := 0) rfl rfl) rfl rfl hl.1 rfl (lv_room (Nat.le_of_ble_eq_true rfl)) dL_law_1178 hcs) hS hA hP hD (fun r107 u107 H locs hw107 _ hP hD hS => ?_)
  obtain ⟨i107, q107, c107, d107⟩ := u107
  have hw107 : True ∧ xInv i107 c107 ∧ (∀ k, k ∉ ([102] : List Nat) → i107 k = i k) ∧ (∀ k, k ∉ ([101] : List Nat) → c107 k = c k) := hw107
  obtain ⟨hw107, hI, hei107, hec107⟩ := hw107
  have hP : va_P D vwCl (xwT sk a t i107 q107 c107 d107 ++ (Z ++ mW o am tm jm qm em dm)) H := hP
  have hD : va_D (fun q : Nat => s.heap.size ≤ q) (xwT sk a t i107 q107 c107 d107 ++ (Z ++ mW o am tm jm qm em dm)) := hD
  refine lv_pop hx hb dL_law_1181 rfl ?_
  refine lv_aload_n hx hb dL_law_1182 rfl (lv_at hl 1 rfl) ?_
  refine lv_aload_n hx hb dL_law_1183 rfl (lv_at hl 3 rfl) ?_
  refine lv_iload_n hx hb dL_law_1184 rfl (lv_at hl 0 rfl) ?_
  refine lv_iconst (v := 1) hx hb dL_law_1185 (by decide +kernel) ?_
  refine lv_iadd hx hb dL_law_1186 ?_
  refine lv_topi (fun x108 ex108 => ?_)
  have tx108 := ti_add (a := x3.toInt) (b := 1) ex108 rfl (by decide +kernel) (by omega) (by omega)
  refine va_sld hx hb hX hbl hbA hS (vp_in_iff.mpr (by have h9 : x108.toInt = (x3.toInt + 1) := tx108; omega)) dL_law_1187 ?_
  refine lv_topi (fun x109 ex109 => ?_)
  refine lv_aload_n hx hb dL_law_1188 rfl (lv_at hl 3 rfl) ?_
  refine lv_iload_n hx hb dL_law_1189 rfl (lv_at hl 0 rfl) ?_
  refine lv_iconst (v := 2) hx hb dL_law_1190 (by decide +kernel) ?_
  refine lv_iadd hx hb dL_law_1191 ?_
  refine lv_topi (fun x110 ex110 => ?_)
  have tx110 := ti_add (a := x3.toInt) (b := 2) ex110 rfl (by decide +kernel) (by omega) (by omega)
  refine va_sld hx hb hX hbl hbA hS (vp_in_iff.mpr (by have h9 : x110.toInt = (x3.toInt + 2) := tx110; omega)) dL_law_1192 ?_
  refine lv_topi (fun x111 ex111 => ?_)
  refine lv_aload_n hx hb dL_law_1193 rfl (lv_at hl 3 rfl) ?_
  refine lv_iload_n hx hb dL_law_1194 rfl (lv_at hl 0 rfl) ?_
  refine lv_iconst (v := 3) hx hb dL_law_1195 (by decide +kernel) ?_
  refine lv_iadd hx hb dL_law_1196 ?_
  refine lv_topi (fun x112 ex112 => ?_)
  have tx112 := ti_add (a := x3.toInt) (b := 3) ex112 rfl (by decide +kernel) (by omega) (by omega)
  refine va_sld hx hb hX hbl hbA hS (vp_in_iff.mpr (by have h9 : x112.toInt = (x3.toInt + 3) := tx112; omega)) dL_law_1197 ?_
  refine lv_topi (fun x113 ex113 => ?_)
  have hP : va_P D vwCl ((xwT sk a t i107 q107 c107 d107 ++ Z) ++ mW o am tm jm qm em dm) H := by rw [List.append_assoc]; exact hP
  have hD : va_D (fun q : Nat => s.heap.size ≤ q) ((xwT sk a t i107 q107 c107 d107 ++ Z) ++ mW o am tm jm qm em dm) := by rw [List.append_assoc]; exact hD
  refine rc_i (wr := (xwT sk a t i107 q107 c107 d107 ++ Z)) (va_runV (As := [.int x109, .int x111, .int x113]) (rest := []) ⟨hx, hb, hml, hown, hts⟩ (s_X12_item l D H.size o am tm jm qm em dm x109 x111 x113 hM ) (cwV 3 hts gm_law_X12_item_138 rfl rfl rfl (by decide +kernel) ⟨Nat.le_of_ble_eq_true rfl, Nat.le_of_ble_eq_true rfl⟩) (pB_V hKM (vP_r hP) (vD_r hD) (ci := 12) (q0 := 0) rfl rfl) rfl rfl hl.1 rfl (lv_room (Nat.le_of_ble_eq_true rfl)) dL_law_1198 hcs) hS hA hP hD (fun r114 u114 H locs hw114 hP hD hS => ?_)
  obtain ⟨i114, q114, c114, d114⟩ := u114
  have hw114 : True ∧ mInv i114 c114 ∧ (∀ k, k ∉ ([0] : List Nat) → i114 k = jm k) ∧ (∀ k, k ∉ ([1] : List Nat) → c114 k = em k) := hw114
  obtain ⟨hw114, hM, hei114, hec114⟩ := hw114
  have hP : va_P D vwCl (xwT sk a t i107 q107 c107 d107 ++ (Z ++ mW o am tm i114 q114 c114 d114)) H := by rw [← List.append_assoc]; exact hP
  have hD : va_D (fun q : Nat => s.heap.size ≤ q) (xwT sk a t i107 q107 c107 d107 ++ (Z ++ mW o am tm i114 q114 c114 d114)) := by rw [← List.append_assoc]; exact hD
  refine lv_pop hx hb dL_law_1201 rfl ?_
  refine lv_goto (tgt := 1461) hx hb dL_law_1202 (by decide +kernel) ?_
  exact kk i107 q107 c107 d107 i114 q114 c114 d114 _ _ _ ⟨hI, (by rw [show c107 113 = c 113 from hec107 113 (by decide +kernel), show c107 115 = c 115 from hec107 115 (by decide +kernel)]; exact hs_F), (by rw [show i107 146 = i 146 from hei107 146 (by decide +kernel), show i107 147 = i 147 from hei107 147 (by decide +kernel), show i107 148 = i 148 from hei107 148 (by decide +kernel), show i107 156 = i 156 from hei107 156 (by decide +kernel), show c107 144 = c 144 from hec107 144 (by decide +kernel), show c107 145 = c 145 from hec107 145 (by decide +kernel), show c107 150 = c 150 from hec107 150 (by decide +kernel)]; exact hs_P), (by rw [show i107 141 = i 141 from hei107 141 (by decide +kernel)]; exact htr), hM, (by rw [show c114 3 = em 3 from hec114 3 (by decide +kernel), show c114 6 = em 6 from hec114 6 (by decide +kernel), show c114 9 = em 9 from hec114 9 (by decide +kernel), show c114 10 = em 10 from hec114 10 (by decide +kernel), show c114 11 = em 11 from hec114 11 (by decide +kernel), show c114 13 = em 13 from hec114 13 (by decide +kernel), show i114 2 = jm 2 from hei114 2 (by decide +kernel), show i114 5 = jm 5 from hei114 5 (by decide +kernel), show i114 8 = jm 8 from hei114 8 (by decide +kernel)]; exact hs_S), (by rw [show c114 3 = em 3 from hec114 3 (by decide +kernel), show c114 6 = em 6 from hec114 6 (by decide +kernel), show c114 23 = em 23 from hec114 23 (by decide +kernel), show c114 24 = em 24 from hec114 24 (by decide +kernel), show c114 29 = em 29 from hec114 29 (by decide +kernel), show c114 30 = em 30 from hec114 30 (by decide +kernel), show i114 5 = jm 5 from hei114 5 (by decide +kernel), show i114 22 = jm 22 from hei114 22 (by decide +kernel), show i114 27 = jm 27 from hei114 27 (by decide +kernel)]; exact hs_J), (by rw [show i107 110 = i 110 from hei107 110 (by decide +kernel), show i107 111 = i 111 from hei107 111 (by decide +kernel), show i107 165 = i 165 from hei107 165 (by decide +kernel), show i107 124 = i 124 from hei107 124 (by decide +kernel), show c107 107 = c 107 from hec107 107 (by decide +kernel), show c107 105 = c 105 from hec107 105 (by decide +kernel), show c107 108 = c 108 from hec107 108 (by decide +kernel), show c107 106 = c 106 from hec107 106 (by decide +kernel), show c107 113 = c 113 from hec107 113 (by decide +kernel), show c107 114 = c 114 from hec107 114 (by decide +kernel), show c107 115 = c 115 from hec107 115 (by decide +kernel), show c107 116 = c 116 from hec107 116 (by decide +kernel), show c107 117 = c 117 from hec107 117 (by decide +kernel), show c107 118 = c 118 from hec107 118 (by decide +kernel), show c107 119 = c 119 from hec107 119 (by decide +kernel), show c107 120 = c 120 from hec107 120 (by decide +kernel), show c107 121 = c 121 from hec107 121 (by decide +kernel), show c107 127 = c 127 from hec107 127 (by decide +kernel), show c107 129 = c 129 from hec107 129 (by decide +kernel), show c107 130 = c 130 from hec107 130 (by decide +kernel), show c107 131 = c 131 from hec107 131 (by decide +kernel), show c107 132 = c 132 from hec107 132 (by decide +kernel), show c107 133 = c 133 from hec107 133 (by decide +kernel), show c107 134 = c 134 from hec107 134 (by decide +kernel), show i114 2 = jm 2 from hei114 2 (by decide +kernel), show i114 5 = jm 5 from hei114 5 (by decide +kernel), show i114 64 = jm 64 from hei114 64 (by decide +kernel), show i114 8 = jm 8 from hei114 8 (by decide +kernel), show c114 4 = em 4 from hec114 4 (by decide +kernel), show c114 3 = em 3 from hec114 3 (by decide +kernel), show c114 6 = em 6 from hec114 6 (by decide +kernel), show c114 9 = em 9 from hec114 9 (by decide +kernel), show c114 10 = em 10 from hec114 10 (by decide +kernel), show c114 11 = em 11 from hec114 11 (by decide +kernel), show c114 12 = em 12 from hec114 12 (by decide +kernel), show c114 13 = em 13 from hec114 13 (by decide +kernel)]; exact ⟨hR, hPA, hKO, hSO, hSN, hDR, hRD⟩)⟩ hP hD hS (lv_sub hl [0, 1, 2, 3] rfl)

