set_option maxHeartbeats 4000000 in
set_option maxRecDepth 100000 in
theorem law_begin {p : Program} {l : Launch} {e : Env} {s : State} {m : MethodId} {below : List Frame} {meth : Method} {cd : Code} {b L : Nat} {xs : Nat → Int32} {D : va_G} {a : Nat → Nat} {t : Nat → ClassId} {o : Nat} {am : Nat → Nat} {tm : Nat → ClassId} {x3 : Int32} {cells slots : Nat} {sk : Value} {Z : va_W} (hx : p.tables.exec = Jvm.exec) (hb : cd.code = cL_law) (hml : cd.maxLocals = 4) (hown : s.vm.findClass RL = some m.cls) (hts : ∀ w ∈ wm_law, w.before #[Value.ref b] s = true) (hX : va_X b L xs s s.heap) (hbl : b < s.heap.size) (hL : L ≤ 3584) (hN : xN s) (hZ : xZ (a 186) s s.heap) (hKT : va_K D vwCl (xtT t) s) (hKM : va_K D vwCl (mT tm) s) (hcs : cells ≤ 600000 ∧ slots ≤ 7302249) (hx3 : 0 ≤ x3.toInt ∧ x3.toInt + 7 ≤ (L : Int)) (kk : LK p l e s m below meth cd b D sk a t Z o am tm x3 cells slots) (i : Nat → Int32) (q : Int64) (c : Nat → Nat → Int32) (d : Nat → Nat → Int64) (jm : Nat → Int32) (qm : Int64) (em : Nat → Nat → Int32) (dm : Nat → Nat → Int64) (H : Heap) (locs : List Loc) (ls : Array Slot) (hLI : LI i c jm em) (hP : va_P D vwCl (xwT sk a t i q c d ++ (Z ++ mW o am tm jm qm em dm)) H) (hD : va_D (fun q : Nat => s.heap.size ≤ q) (xwT sk a t i q c d ++ (Z ++ mW o am tm jm qm em dm))) (hS : va_S (fun q : Nat => s.heap.size ≤ q) s.heap H locs) (hl : lv_has ls 4 [(3, .int x3), (2, .ref o), (1, .ref (a 100)), (0, .ref b)]) : W p l e room_1 s m #[Value.ref b] below meth cd H locs cells slots (lw_Z below #[Value.ref b] s) (F0 m 802 ls []) := by
  have hbA : ¬ (fun q : Nat => s.heap.size ≤ q) b := Nat.not_le.mpr hbl
  have hA : ∀ q : Nat, s.heap.size ≤ q → (fun q : Nat => s.heap.size ≤ q) q := fun _ h => h
  obtain ⟨hI, hs_F, hs_P, htr, hM, hs_S, hs_J, hR⟩ := hLI
  refine lv_aload_n hx hb dL_law_802 rfl (lv_at hl 2 rfl) ?_
  refine lv_aload_n hx hb dL_law_803 rfl (lv_at hl 3 rfl) ?_
  refine lv_iload_n hx hb dL_law_804 rfl (lv_at hl 0 rfl) ?_
  refine lv_iconst (v := 1) hx hb dL_law_805 (by decide) ?_
  refine lv_iadd hx hb dL_law_806 ?_
  refine lv_topi (fun x1 ex1 => ?_)
  have tx1 := ti_add (a := x3.toInt) (b := 1) ex1 rfl (by decide) (by omega) (by omega)
  refine va_sld hx hb hX hbl hbA hS (vp_in_iff.mpr (by have h9 : x1.toInt = (x3.toInt + 1) := tx1; omega)) dL_law_807 ?_
  refine lv_topi (fun x2 ex2 => ?_)
  refine lc_i (wr := (Z ++ mW o am tm jm qm em dm)) (va_runV (As := [.int x2]) (rest := []) ⟨hx, hb, hml, hown, hts⟩ (x_X11_begin l D H.size sk a t i q c d x2 hI hs_P) (cwV 1 hts gm_law_X11_begin_91 rfl rfl rfl (by decide +kernel) ⟨Nat.le_of_ble_eq_true rfl, Nat.le_of_ble_eq_true rfl⟩) (yB_V hN (xZ_k hZ hS hA) (xZ_n hZ (vD_l hD)) hKT (vP_l hP) (vD_l hD) (ci := 11) (q0 := 0) rfl rfl) rfl rfl hl.1 rfl (lv_room (Nat.le_of_ble_eq_true rfl)) dL_law_808 hcs) hS hA hP hD (fun r3 u3 H locs hw3 _ hP hD hS => ?_)
  obtain ⟨i3, q3, c3, d3⟩ := u3
  have hw3 : True ∧ xInv i3 c3 ∧ (∀ k, k ∉ ([102, 146, 147, 148, 154, 156] : List Nat) → i3 k = i k) ∧ (∀ k, k ∉ ([101, 150, 152, 153] : List Nat) → c3 k = c k) ∧ (PJ (i3 146) (i3 147) (i3 156) (i3 148) (c3 150) (c3 144) (c3 145)) := hw3
  obtain ⟨hw3, hI, hei3, hec3, hxp3_0⟩ := hw3
  have hP : va_P D vwCl (xwT sk a t i3 q3 c3 d3 ++ (Z ++ mW o am tm jm qm em dm)) H := hP
  have hD : va_D (fun q : Nat => s.heap.size ≤ q) (xwT sk a t i3 q3 c3 d3 ++ (Z ++ mW o am tm jm qm em dm)) := hD
  refine lv_pop hx hb dL_law_811 rfl ?_
  refine lv_aload_n hx hb dL_law_812 rfl (lv_at hl 1 rfl) ?_
  refine lv_aload_n hx hb dL_law_813 rfl (lv_at hl 3 rfl) ?_
  refine lv_iload_n hx hb dL_law_814 rfl (lv_at hl 0 rfl) ?_
  refine lv_iconst (v := 1) hx hb dL_law_815 (by decide) ?_
  refine lv_iadd hx hb dL_law_816 ?_
  refine lv_topi (fun x4 ex4 => ?_)
  have tx4 := ti_add (a := x3.toInt) (b := 1) ex4 rfl (by decide) (by omega) (by omega)
  refine va_sld hx hb hX hbl hbA hS (vp_in_iff.mpr (by have h9 : x4.toInt = (x3.toInt + 1) := tx4; omega)) dL_law_817 ?_
  refine lv_topi (fun x5 ex5 => ?_)
  have hP : va_P D vwCl ((xwT sk a t i3 q3 c3 d3 ++ Z) ++ mW o am tm jm qm em dm) H := by rw [List.append_assoc]; exact hP
  have hD : va_D (fun q : Nat => s.heap.size ≤ q) ((xwT sk a t i3 q3 c3 d3 ++ Z) ++ mW o am tm jm qm em dm) := by rw [List.append_assoc]; exact hD
  refine rc_i (wr := (xwT sk a t i3 q3 c3 d3 ++ Z)) (va_runV (As := [.int x5]) (rest := []) ⟨hx, hb, hml, hown, hts⟩ (s_X12_begin l D H.size o am tm jm qm em dm x5 hM hs_S hs_J) (cwV 1 hts gm_law_X12_begin_94 rfl rfl rfl (by decide +kernel) ⟨Nat.le_of_ble_eq_true rfl, Nat.le_of_ble_eq_true rfl⟩) (pB_V hKM (vP_r hP) (vD_r hD) (ci := 12) (q0 := 0) rfl rfl) rfl rfl hl.1 rfl (lv_room (Nat.le_of_ble_eq_true rfl)) dL_law_818 hcs) hS hA hP hD (fun r6 u6 H locs hw6 hP hD hS => ?_)
  obtain ⟨i6, q6, c6, d6⟩ := u6
  have hw6 : True ∧ mInv i6 c6 ∧ (∀ k, k ∉ ([0, 22, 27] : List Nat) → i6 k = jm k) ∧ (∀ k, k ∉ ([1, 23, 24, 25, 26] : List Nat) → c6 k = em k) ∧ (SJ (c6 3) (c6 6) (c6 9) (c6 10) (c6 11) (c6 13) (i6 2).toInt (i6 5).toInt (i6 8).toInt) ∧ (TJ (c6 3) (c6 6) (c6 23) (c6 24) (c6 29) (c6 30) (i6 5).toInt (i6 22).toInt (i6 27).toInt) := hw6
  obtain ⟨hw6, hM, hei6, hec6, hxp6_0, hxp6_1⟩ := hw6
  have hP : va_P D vwCl (xwT sk a t i3 q3 c3 d3 ++ (Z ++ mW o am tm i6 q6 c6 d6)) H := by rw [← List.append_assoc]; exact hP
  have hD : va_D (fun q : Nat => s.heap.size ≤ q) (xwT sk a t i3 q3 c3 d3 ++ (Z ++ mW o am tm i6 q6 c6 d6)) := by rw [← List.append_assoc]; exact hD
  refine lv_pop hx hb dL_law_821 rfl ?_
  refine lv_goto (tgt := 1461) hx hb dL_law_822 (by decide) ?_
  exact kk i3 q3 c3 d3 i6 q6 c6 d6 _ _ _ ⟨hI, (by rw [show c3 113 = c 113 from hec3 113 (by decide), show c3 115 = c 115 from hec3 115 (by decide)]; exact hs_F), hxp3_0, (by rw [show i3 141 = i 141 from hei3 141 (by decide)]; exact htr), hM, hxp6_0, hxp6_1, (by rw [show i3 110 = i 110 from hei3 110 (by decide), show i6 2 = jm 2 from hei6 2 (by decide)]; exact hR)⟩ hP hD hS (lv_sub hl [0, 1, 2, 3] rfl)

set_option maxHeartbeats 4000000 in
set_option maxRecDepth 100000 in
theorem law_act {p : Program} {l : Launch} {e : Env} {s : State} {m : MethodId} {below : List Frame} {meth : Method} {cd : Code} {b L : Nat} {xs : Nat → Int32} {D : va_G} {a : Nat → Nat} {t : Nat → ClassId} {o : Nat} {am : Nat → Nat} {tm : Nat → ClassId} {x3 : Int32} {cells slots : Nat} {sk : Value} {Z : va_W} (hx : p.tables.exec = Jvm.exec) (hb : cd.code = cL_law) (hml : cd.maxLocals = 4) (hown : s.vm.findClass RL = some m.cls) (hts : ∀ w ∈ wm_law, w.before #[Value.ref b] s = true) (hX : va_X b L xs s s.heap) (hbl : b < s.heap.size) (hL : L ≤ 3584) (hN : xN s) (hZ : xZ (a 186) s s.heap) (hKT : va_K D vwCl (xtT t) s) (hKM : va_K D vwCl (mT tm) s) (hcs : cells ≤ 600000 ∧ slots ≤ 7302249) (hx3 : 0 ≤ x3.toInt ∧ x3.toInt + 7 ≤ (L : Int)) (kk : LK p l e s m below meth cd b D sk a t Z o am tm x3 cells slots) (i : Nat → Int32) (q : Int64) (c : Nat → Nat → Int32) (d : Nat → Nat → Int64) (jm : Nat → Int32) (qm : Int64) (em : Nat → Nat → Int32) (dm : Nat → Nat → Int64) (H : Heap) (locs : List Loc) (ls : Array Slot) (hLI : LI i c jm em) (hP : va_P D vwCl (xwT sk a t i q c d ++ (Z ++ mW o am tm jm qm em dm)) H) (hD : va_D (fun q : Nat => s.heap.size ≤ q) (xwT sk a t i q c d ++ (Z ++ mW o am tm jm qm em dm))) (hS : va_S (fun q : Nat => s.heap.size ≤ q) s.heap H locs) (hl : lv_has ls 4 [(3, .int x3), (2, .ref o), (1, .ref (a 100)), (0, .ref b)]) : W p l e room_1 s m #[Value.ref b] below meth cd H locs cells slots (lw_Z below #[Value.ref b] s) (F0 m 825 ls []) := by
  have hbA : ¬ (fun q : Nat => s.heap.size ≤ q) b := Nat.not_le.mpr hbl
  have hA : ∀ q : Nat, s.heap.size ≤ q → (fun q : Nat => s.heap.size ≤ q) q := fun _ h => h
  obtain ⟨hI, hs_F, hs_P, htr, hM, hs_S, hs_J, hR⟩ := hLI
  refine lv_aload_n hx hb dL_law_825 rfl (lv_at hl 2 rfl) ?_
  refine lv_aload_n hx hb dL_law_826 rfl (lv_at hl 3 rfl) ?_
  refine lv_iload_n hx hb dL_law_827 rfl (lv_at hl 0 rfl) ?_
  refine lv_iconst (v := 1) hx hb dL_law_828 (by decide) ?_
  refine lv_iadd hx hb dL_law_829 ?_
  refine lv_topi (fun x1 ex1 => ?_)
  have tx1 := ti_add (a := x3.toInt) (b := 1) ex1 rfl (by decide) (by omega) (by omega)
  refine va_sld hx hb hX hbl hbA hS (vp_in_iff.mpr (by have h9 : x1.toInt = (x3.toInt + 1) := tx1; omega)) dL_law_830 ?_
  refine lv_topi (fun x2 ex2 => ?_)
  refine lv_aload_n hx hb dL_law_831 rfl (lv_at hl 3 rfl) ?_
  refine lv_iload_n hx hb dL_law_832 rfl (lv_at hl 0 rfl) ?_
  refine lv_iconst (v := 2) hx hb dL_law_833 (by decide) ?_
  refine lv_iadd hx hb dL_law_834 ?_
  refine lv_topi (fun x3 ex3 => ?_)
  have tx3 := ti_add (a := x3.toInt) (b := 2) ex3 rfl (by decide) (by omega) (by omega)
  refine va_sld hx hb hX hbl hbA hS (vp_in_iff.mpr (by have h9 : x3.toInt = (x3.toInt + 2) := tx3; omega)) dL_law_835 ?_
  refine lv_topi (fun x4 ex4 => ?_)
  refine lv_aload_n hx hb dL_law_836 rfl (lv_at hl 3 rfl) ?_
  refine lv_iload_n hx hb dL_law_837 rfl (lv_at hl 0 rfl) ?_
  refine lv_iconst (v := 3) hx hb dL_law_838 (by decide) ?_
  refine lv_iadd hx hb dL_law_839 ?_
  refine lv_topi (fun x5 ex5 => ?_)
  have tx5 := ti_add (a := x3.toInt) (b := 3) ex5 rfl (by decide) (by omega) (by omega)
  refine va_sld hx hb hX hbl hbA hS (vp_in_iff.mpr (by have h9 : x5.toInt = (x3.toInt + 3) := tx5; omega)) dL_law_840 ?_
  refine lv_topi (fun x6 ex6 => ?_)
  refine lc_i (wr := (Z ++ mW o am tm jm qm em dm)) (va_runV (As := [.int x2, .int x4, .int x6]) (rest := []) ⟨hx, hb, hml, hown, hts⟩ (x_X11_act l D H.size sk a t i q c d x2 x4 x6 hI htr hs_P) (cwV 3 hts gm_law_X11_act_95 rfl rfl rfl (by decide +kernel) ⟨Nat.le_of_ble_eq_true rfl, Nat.le_of_ble_eq_true rfl⟩) (yB_V hN (xZ_k hZ hS hA) (xZ_n hZ (vD_l hD)) hKT (vP_l hP) (vD_l hD) (ci := 11) (q0 := 0) rfl rfl) rfl rfl hl.1 rfl (lv_room (Nat.le_of_ble_eq_true rfl)) dL_law_841 hcs) hS hA hP hD (fun r7 u7 H locs hw7 _ hP hD hS => ?_)
  obtain ⟨i7, q7, c7, d7⟩ := u7
  have hw7 : True ∧ xInv i7 c7 ∧ (∀ k, k ∉ ([148, 154] : List Nat) → i7 k = i k) ∧ (∀ k, k ∉ ([143, 144, 145, 150, 152, 153] : List Nat) → c7 k = c k) ∧ (PJ (i7 146) (i7 147) (i7 156) (i7 148) (c7 150) (c7 144) (c7 145)) := hw7
  obtain ⟨hw7, hI, hei7, hec7, hxp7_0⟩ := hw7
  have hP : va_P D vwCl (xwT sk a t i7 q7 c7 d7 ++ (Z ++ mW o am tm jm qm em dm)) H := hP
  have hD : va_D (fun q : Nat => s.heap.size ≤ q) (xwT sk a t i7 q7 c7 d7 ++ (Z ++ mW o am tm jm qm em dm)) := hD
  refine lv_pop hx hb dL_law_844 rfl ?_
  refine lv_aload_n hx hb dL_law_845 rfl (lv_at hl 1 rfl) ?_
  refine lv_aload_n hx hb dL_law_846 rfl (lv_at hl 3 rfl) ?_
  refine lv_iload_n hx hb dL_law_847 rfl (lv_at hl 0 rfl) ?_
  refine lv_iconst (v := 1) hx hb dL_law_848 (by decide) ?_
  refine lv_iadd hx hb dL_law_849 ?_
  refine lv_topi (fun x8 ex8 => ?_)
  have tx8 := ti_add (a := x3.toInt) (b := 1) ex8 rfl (by decide) (by omega) (by omega)
  refine va_sld hx hb hX hbl hbA hS (vp_in_iff.mpr (by have h9 : x8.toInt = (x3.toInt + 1) := tx8; omega)) dL_law_850 ?_
  refine lv_topi (fun x9 ex9 => ?_)
  refine lv_aload_n hx hb dL_law_851 rfl (lv_at hl 3 rfl) ?_
  refine lv_iload_n hx hb dL_law_852 rfl (lv_at hl 0 rfl) ?_
  refine lv_iconst (v := 2) hx hb dL_law_853 (by decide) ?_
  refine lv_iadd hx hb dL_law_854 ?_
  refine lv_topi (fun x10 ex10 => ?_)
  have tx10 := ti_add (a := x3.toInt) (b := 2) ex10 rfl (by decide) (by omega) (by omega)
  refine va_sld hx hb hX hbl hbA hS (vp_in_iff.mpr (by have h9 : x10.toInt = (x3.toInt + 2) := tx10; omega)) dL_law_855 ?_
  refine lv_topi (fun x11 ex11 => ?_)
  refine lv_aload_n hx hb dL_law_856 rfl (lv_at hl 3 rfl) ?_
  refine lv_iload_n hx hb dL_law_857 rfl (lv_at hl 0 rfl) ?_
  refine lv_iconst (v := 3) hx hb dL_law_858 (by decide) ?_
  refine lv_iadd hx hb dL_law_859 ?_
  refine lv_topi (fun x12 ex12 => ?_)
  have tx12 := ti_add (a := x3.toInt) (b := 3) ex12 rfl (by decide) (by omega) (by omega)
  refine va_sld hx hb hX hbl hbA hS (vp_in_iff.mpr (by have h9 : x12.toInt = (x3.toInt + 3) := tx12; omega)) dL_law_860 ?_
  refine lv_topi (fun x13 ex13 => ?_)
  have hP : va_P D vwCl ((xwT sk a t i7 q7 c7 d7 ++ Z) ++ mW o am tm jm qm em dm) H := by rw [List.append_assoc]; exact hP
  have hD : va_D (fun q : Nat => s.heap.size ≤ q) ((xwT sk a t i7 q7 c7 d7 ++ Z) ++ mW o am tm jm qm em dm) := by rw [List.append_assoc]; exact hD
  refine rc_i (wr := (xwT sk a t i7 q7 c7 d7 ++ Z)) (va_runV (As := [.int x9, .int x11, .int x13]) (rest := []) ⟨hx, hb, hml, hown, hts⟩ (s_X12_act l D H.size o am tm jm qm em dm x9 x11 x13 hM hs_S hs_J) (cwV 3 hts gm_law_X12_act_98 rfl rfl rfl (by decide +kernel) ⟨Nat.le_of_ble_eq_true rfl, Nat.le_of_ble_eq_true rfl⟩) (pB_V hKM (vP_r hP) (vD_r hD) (ci := 12) (q0 := 0) rfl rfl) rfl rfl hl.1 rfl (lv_room (Nat.le_of_ble_eq_true rfl)) dL_law_861 hcs) hS hA hP hD (fun r14 u14 H locs hw14 hP hD hS => ?_)
  obtain ⟨i14, q14, c14, d14⟩ := u14
  have hw14 : True ∧ mInv i14 c14 ∧ (∀ k, k ∉ ([16, 17, 18, 19, 27, 35, 36, 40, 41, 42] : List Nat) → i14 k = jm k) ∧ (∀ k, k ∉ ([23, 24, 25, 26, 28, 29, 30, 31, 32, 34, 38, 39, 43, 44, 45, 46, 47, 48, 49] : List Nat) → c14 k = em k) ∧ (SJ (c14 3) (c14 6) (c14 9) (c14 10) (c14 11) (c14 13) (i14 2).toInt (i14 5).toInt (i14 8).toInt) ∧ (TJ (c14 3) (c14 6) (c14 23) (c14 24) (c14 29) (c14 30) (i14 5).toInt (i14 22).toInt (i14 27).toInt) := hw14
  obtain ⟨hw14, hM, hei14, hec14, hxp14_0, hxp14_1⟩ := hw14
  have hP : va_P D vwCl (xwT sk a t i7 q7 c7 d7 ++ (Z ++ mW o am tm i14 q14 c14 d14)) H := by rw [← List.append_assoc]; exact hP
  have hD : va_D (fun q : Nat => s.heap.size ≤ q) (xwT sk a t i7 q7 c7 d7 ++ (Z ++ mW o am tm i14 q14 c14 d14)) := by rw [← List.append_assoc]; exact hD
  refine lv_pop hx hb dL_law_864 rfl ?_
  refine lv_goto (tgt := 1461) hx hb dL_law_865 (by decide) ?_
  exact kk i7 q7 c7 d7 i14 q14 c14 d14 _ _ _ ⟨hI, (by rw [show c7 113 = c 113 from hec7 113 (by decide), show c7 115 = c 115 from hec7 115 (by decide)]; exact hs_F), hxp7_0, (by rw [show i7 141 = i 141 from hei7 141 (by decide)]; exact htr), hM, hxp14_0, hxp14_1, (by rw [show i7 110 = i 110 from hei7 110 (by decide), show i14 2 = jm 2 from hei14 2 (by decide)]; exact hR)⟩ hP hD hS (lv_sub hl [0, 1, 2, 3] rfl)

set_option maxHeartbeats 4000000 in
set_option maxRecDepth 100000 in
theorem law_back {p : Program} {l : Launch} {e : Env} {s : State} {m : MethodId} {below : List Frame} {meth : Method} {cd : Code} {b L : Nat} {xs : Nat → Int32} {D : va_G} {a : Nat → Nat} {t : Nat → ClassId} {o : Nat} {am : Nat → Nat} {tm : Nat → ClassId} {x3 : Int32} {cells slots : Nat} {sk : Value} {Z : va_W} (hx : p.tables.exec = Jvm.exec) (hb : cd.code = cL_law) (hml : cd.maxLocals = 4) (hown : s.vm.findClass RL = some m.cls) (hts : ∀ w ∈ wm_law, w.before #[Value.ref b] s = true) (hX : va_X b L xs s s.heap) (hbl : b < s.heap.size) (hL : L ≤ 3584) (hN : xN s) (hZ : xZ (a 186) s s.heap) (hKT : va_K D vwCl (xtT t) s) (hKM : va_K D vwCl (mT tm) s) (hcs : cells ≤ 600000 ∧ slots ≤ 7302249) (hx3 : 0 ≤ x3.toInt ∧ x3.toInt + 7 ≤ (L : Int)) (kk : LK p l e s m below meth cd b D sk a t Z o am tm x3 cells slots) (i : Nat → Int32) (q : Int64) (c : Nat → Nat → Int32) (d : Nat → Nat → Int64) (jm : Nat → Int32) (qm : Int64) (em : Nat → Nat → Int32) (dm : Nat → Nat → Int64) (H : Heap) (locs : List Loc) (ls : Array Slot) (hLI : LI i c jm em) (hP : va_P D vwCl (xwT sk a t i q c d ++ (Z ++ mW o am tm jm qm em dm)) H) (hD : va_D (fun q : Nat => s.heap.size ≤ q) (xwT sk a t i q c d ++ (Z ++ mW o am tm jm qm em dm))) (hS : va_S (fun q : Nat => s.heap.size ≤ q) s.heap H locs) (hl : lv_has ls 4 [(3, .int x3), (2, .ref o), (1, .ref (a 100)), (0, .ref b)]) : W p l e room_1 s m #[Value.ref b] below meth cd H locs cells slots (lw_Z below #[Value.ref b] s) (F0 m 868 ls []) := by
  have hbA : ¬ (fun q : Nat => s.heap.size ≤ q) b := Nat.not_le.mpr hbl
  have hA : ∀ q : Nat, s.heap.size ≤ q → (fun q : Nat => s.heap.size ≤ q) q := fun _ h => h
  obtain ⟨hI, hs_F, hs_P, htr, hM, hs_S, hs_J, hR⟩ := hLI
  refine lv_aload_n hx hb dL_law_868 rfl (lv_at hl 2 rfl) ?_
  refine lc_i (wr := (Z ++ mW o am tm jm qm em dm)) (va_runV (As := []) (rest := []) ⟨hx, hb, hml, hown, hts⟩ (x_X11_back l D H.size sk a t i q c d  hI hs_P) (cwV 0 hts gm_law_X11_back_99 rfl rfl rfl (by decide +kernel) ⟨Nat.le_of_ble_eq_true rfl, Nat.le_of_ble_eq_true rfl⟩) (yB_V hN (xZ_k hZ hS hA) (xZ_n hZ (vD_l hD)) hKT (vP_l hP) (vD_l hD) (ci := 11) (q0 := 0) rfl rfl) rfl rfl hl.1 rfl (lv_room (Nat.le_of_ble_eq_true rfl)) dL_law_869 hcs) hS hA hP hD (fun r1 u1 H locs hw1 _ hP hD hS => ?_)
  obtain ⟨i1, q1, c1, d1⟩ := u1
  have hw1 : True ∧ xInv i1 c1 ∧ (∀ k, k ∉ ([148, 154] : List Nat) → i1 k = i k) ∧ (∀ k, k ∉ ([150, 152, 153] : List Nat) → c1 k = c k) ∧ (PJ (i1 146) (i1 147) (i1 156) (i1 148) (c1 150) (c1 144) (c1 145)) := hw1
  obtain ⟨hw1, hI, hei1, hec1, hxp1_0⟩ := hw1
  have hP : va_P D vwCl (xwT sk a t i1 q1 c1 d1 ++ (Z ++ mW o am tm jm qm em dm)) H := hP
  have hD : va_D (fun q : Nat => s.heap.size ≤ q) (xwT sk a t i1 q1 c1 d1 ++ (Z ++ mW o am tm jm qm em dm)) := hD
  refine lv_pop hx hb dL_law_872 rfl ?_
  refine lv_aload_n hx hb dL_law_873 rfl (lv_at hl 1 rfl) ?_
  have hP : va_P D vwCl ((xwT sk a t i1 q1 c1 d1 ++ Z) ++ mW o am tm jm qm em dm) H := by rw [List.append_assoc]; exact hP
  have hD : va_D (fun q : Nat => s.heap.size ≤ q) ((xwT sk a t i1 q1 c1 d1 ++ Z) ++ mW o am tm jm qm em dm) := by rw [List.append_assoc]; exact hD
  refine rc_i (wr := (xwT sk a t i1 q1 c1 d1 ++ Z)) (va_runV (As := []) (rest := []) ⟨hx, hb, hml, hown, hts⟩ (s_X12_back l D H.size o am tm jm qm em dm  hM hs_S hs_J) (cwV 0 hts gm_law_X12_back_103 rfl rfl rfl (by decide +kernel) ⟨Nat.le_of_ble_eq_true rfl, Nat.le_of_ble_eq_true rfl⟩) (pB_V hKM (vP_r hP) (vD_r hD) (ci := 12) (q0 := 0) rfl rfl) rfl rfl hl.1 rfl (lv_room (Nat.le_of_ble_eq_true rfl)) dL_law_874 hcs) hS hA hP hD (fun r2 u2 H locs hw2 hP hD hS => ?_)
  obtain ⟨i2, q2, c2, d2⟩ := u2
  have hw2 : True ∧ mInv i2 c2 ∧ (∀ k, k ∉ ([27] : List Nat) → i2 k = jm k) ∧ (∀ k, k ∉ ([23, 24, 25, 26] : List Nat) → c2 k = em k) ∧ (SJ (c2 3) (c2 6) (c2 9) (c2 10) (c2 11) (c2 13) (i2 2).toInt (i2 5).toInt (i2 8).toInt) ∧ (TJ (c2 3) (c2 6) (c2 23) (c2 24) (c2 29) (c2 30) (i2 5).toInt (i2 22).toInt (i2 27).toInt) := hw2
  obtain ⟨hw2, hM, hei2, hec2, hxp2_0, hxp2_1⟩ := hw2
  have hP : va_P D vwCl (xwT sk a t i1 q1 c1 d1 ++ (Z ++ mW o am tm i2 q2 c2 d2)) H := by rw [← List.append_assoc]; exact hP
  have hD : va_D (fun q : Nat => s.heap.size ≤ q) (xwT sk a t i1 q1 c1 d1 ++ (Z ++ mW o am tm i2 q2 c2 d2)) := by rw [← List.append_assoc]; exact hD
  refine lv_pop hx hb dL_law_877 rfl ?_
  refine lv_goto (tgt := 1461) hx hb dL_law_878 (by decide) ?_
  exact kk i1 q1 c1 d1 i2 q2 c2 d2 _ _ _ ⟨hI, (by rw [show c1 113 = c 113 from hec1 113 (by decide), show c1 115 = c 115 from hec1 115 (by decide)]; exact hs_F), hxp1_0, (by rw [show i1 141 = i 141 from hei1 141 (by decide)]; exact htr), hM, hxp2_0, hxp2_1, (by rw [show i1 110 = i 110 from hei1 110 (by decide), show i2 2 = jm 2 from hei2 2 (by decide)]; exact hR)⟩ hP hD hS (lv_sub hl [0, 1, 2, 3] rfl)

set_option maxHeartbeats 4000000 in
set_option maxRecDepth 100000 in
theorem law_now {p : Program} {l : Launch} {e : Env} {s : State} {m : MethodId} {below : List Frame} {meth : Method} {cd : Code} {b L : Nat} {xs : Nat → Int32} {D : va_G} {a : Nat → Nat} {t : Nat → ClassId} {o : Nat} {am : Nat → Nat} {tm : Nat → ClassId} {x3 : Int32} {cells slots : Nat} {sk : Value} {Z : va_W} (hx : p.tables.exec = Jvm.exec) (hb : cd.code = cL_law) (hml : cd.maxLocals = 4) (hown : s.vm.findClass RL = some m.cls) (hts : ∀ w ∈ wm_law, w.before #[Value.ref b] s = true) (hX : va_X b L xs s s.heap) (hbl : b < s.heap.size) (hL : L ≤ 3584) (hN : xN s) (hZ : xZ (a 186) s s.heap) (hKT : va_K D vwCl (xtT t) s) (hKM : va_K D vwCl (mT tm) s) (hcs : cells ≤ 600000 ∧ slots ≤ 7302249) (hx3 : 0 ≤ x3.toInt ∧ x3.toInt + 7 ≤ (L : Int)) (kk : LK p l e s m below meth cd b D sk a t Z o am tm x3 cells slots) (i : Nat → Int32) (q : Int64) (c : Nat → Nat → Int32) (d : Nat → Nat → Int64) (jm : Nat → Int32) (qm : Int64) (em : Nat → Nat → Int32) (dm : Nat → Nat → Int64) (H : Heap) (locs : List Loc) (ls : Array Slot) (hLI : LI i c jm em) (hP : va_P D vwCl (xwT sk a t i q c d ++ (Z ++ mW o am tm jm qm em dm)) H) (hD : va_D (fun q : Nat => s.heap.size ≤ q) (xwT sk a t i q c d ++ (Z ++ mW o am tm jm qm em dm))) (hS : va_S (fun q : Nat => s.heap.size ≤ q) s.heap H locs) (hl : lv_has ls 4 [(3, .int x3), (2, .ref o), (1, .ref (a 100)), (0, .ref b)]) : W p l e room_1 s m #[Value.ref b] below meth cd H locs cells slots (lw_Z below #[Value.ref b] s) (F0 m 881 ls []) := by
  have hbA : ¬ (fun q : Nat => s.heap.size ≤ q) b := Nat.not_le.mpr hbl
  have hA : ∀ q : Nat, s.heap.size ≤ q → (fun q : Nat => s.heap.size ≤ q) q := fun _ h => h
  obtain ⟨hI, hs_F, hs_P, htr, hM, hs_S, hs_J, hR⟩ := hLI
  refine lv_aload_n hx hb dL_law_881 rfl (lv_at hl 2 rfl) ?_
  refine lv_aload_n hx hb dL_law_882 rfl (lv_at hl 3 rfl) ?_
  refine lv_iload_n hx hb dL_law_883 rfl (lv_at hl 0 rfl) ?_
  refine lv_iconst (v := 1) hx hb dL_law_884 (by decide) ?_
  refine lv_iadd hx hb dL_law_885 ?_
  refine lv_topi (fun x1 ex1 => ?_)
  have tx1 := ti_add (a := x3.toInt) (b := 1) ex1 rfl (by decide) (by omega) (by omega)
  refine va_sld hx hb hX hbl hbA hS (vp_in_iff.mpr (by have h9 : x1.toInt = (x3.toInt + 1) := tx1; omega)) dL_law_886 ?_
  refine lv_topi (fun x2 ex2 => ?_)
  refine lv_aload_n hx hb dL_law_887 rfl (lv_at hl 3 rfl) ?_
  refine lv_iload_n hx hb dL_law_888 rfl (lv_at hl 0 rfl) ?_
  refine lv_iconst (v := 2) hx hb dL_law_889 (by decide) ?_
  refine lv_iadd hx hb dL_law_890 ?_
  refine lv_topi (fun x3 ex3 => ?_)
  have tx3 := ti_add (a := x3.toInt) (b := 2) ex3 rfl (by decide) (by omega) (by omega)
  refine va_sld hx hb hX hbl hbA hS (vp_in_iff.mpr (by have h9 : x3.toInt = (x3.toInt + 2) := tx3; omega)) dL_law_891 ?_
  refine lv_topi (fun x4 ex4 => ?_)
  refine ro_calli (va_runV (As := [.int x2, .int x4]) (rest := []) ⟨hx, hb, hml, hown, hts⟩ (x_X11_now l D H.size sk a t i q c d x2 x4 hI ) (cwV 2 hts gm_law_X11_now_104 rfl rfl rfl (by decide +kernel) ⟨Nat.le_of_ble_eq_true rfl, Nat.le_of_ble_eq_true rfl⟩) (yA_V hN (xZ_k hZ hS hA) hKT (vP_l hP) (ci := 11) (q0 := 0) rfl rfl) rfl rfl hl.1 rfl (lv_room (Nat.le_of_ble_eq_true rfl)) dL_law_892 hcs) hS hA hP (fun r5 u5 H locs hw5 hP hS => ?_)
  refine lv_pop hx hb dL_law_895 rfl ?_
  refine lv_aload_n hx hb dL_law_896 rfl (lv_at hl 1 rfl) ?_
  refine lv_aload_n hx hb dL_law_897 rfl (lv_at hl 3 rfl) ?_
  refine lv_iload_n hx hb dL_law_898 rfl (lv_at hl 0 rfl) ?_
  refine lv_iconst (v := 1) hx hb dL_law_899 (by decide) ?_
  refine lv_iadd hx hb dL_law_900 ?_
  refine lv_topi (fun x6 ex6 => ?_)
  have tx6 := ti_add (a := x3.toInt) (b := 1) ex6 rfl (by decide) (by omega) (by omega)
  refine va_sld hx hb hX hbl hbA hS (vp_in_iff.mpr (by have h9 : x6.toInt = (x3.toInt + 1) := tx6; omega)) dL_law_901 ?_
  refine lv_topi (fun x7 ex7 => ?_)
  refine lv_aload_n hx hb dL_law_902 rfl (lv_at hl 3 rfl) ?_
  refine lv_iload_n hx hb dL_law_903 rfl (lv_at hl 0 rfl) ?_
  refine lv_iconst (v := 2) hx hb dL_law_904 (by decide) ?_
  refine lv_iadd hx hb dL_law_905 ?_
  refine lv_topi (fun x8 ex8 => ?_)
  have tx8 := ti_add (a := x3.toInt) (b := 2) ex8 rfl (by decide) (by omega) (by omega)
  refine va_sld hx hb hX hbl hbA hS (vp_in_iff.mpr (by have h9 : x8.toInt = (x3.toInt + 2) := tx8; omega)) dL_law_906 ?_
  refine lv_topi (fun x9 ex9 => ?_)
  have hP : va_P D vwCl ((xwT sk a t i q c d ++ Z) ++ mW o am tm jm qm em dm) H := by rw [List.append_assoc]; exact hP
  have hD : va_D (fun q : Nat => s.heap.size ≤ q) ((xwT sk a t i q c d ++ Z) ++ mW o am tm jm qm em dm) := by rw [List.append_assoc]; exact hD
  refine rc_i (wr := (xwT sk a t i q c d ++ Z)) (va_runV (As := [.int x7, .int x9]) (rest := []) ⟨hx, hb, hml, hown, hts⟩ (s_X12_now l D H.size o am tm jm qm em dm x7 x9 hM hs_S hs_J) (cwV 2 hts gm_law_X12_now_107 rfl rfl rfl (by decide +kernel) ⟨Nat.le_of_ble_eq_true rfl, Nat.le_of_ble_eq_true rfl⟩) (pB_V hKM (vP_r hP) (vD_r hD) (ci := 12) (q0 := 0) rfl rfl) rfl rfl hl.1 rfl (lv_room (Nat.le_of_ble_eq_true rfl)) dL_law_907 hcs) hS hA hP hD (fun r10 u10 H locs hw10 hP hD hS => ?_)
  obtain ⟨i10, q10, c10, d10⟩ := u10
  have hw10 : True ∧ mInv i10 c10 ∧ (∀ k, k ∉ ([40, 41, 42] : List Nat) → i10 k = jm k) ∧ (∀ k, k ∉ ([43, 44, 45, 46, 47, 48, 49] : List Nat) → c10 k = em k) := hw10
  obtain ⟨hw10, hM, hei10, hec10⟩ := hw10
  have hP : va_P D vwCl (xwT sk a t i q c d ++ (Z ++ mW o am tm i10 q10 c10 d10)) H := by rw [← List.append_assoc]; exact hP
  have hD : va_D (fun q : Nat => s.heap.size ≤ q) (xwT sk a t i q c d ++ (Z ++ mW o am tm i10 q10 c10 d10)) := by rw [← List.append_assoc]; exact hD
  refine lv_pop hx hb dL_law_910 rfl ?_
  refine lv_goto (tgt := 1461) hx hb dL_law_911 (by decide) ?_
  exact kk i q c d i10 q10 c10 d10 _ _ _ ⟨hI, hs_F, hs_P, htr, hM, (by rw [show c10 3 = em 3 from hec10 3 (by decide), show c10 6 = em 6 from hec10 6 (by decide), show c10 9 = em 9 from hec10 9 (by decide), show c10 10 = em 10 from hec10 10 (by decide), show c10 11 = em 11 from hec10 11 (by decide), show c10 13 = em 13 from hec10 13 (by decide), show i10 2 = jm 2 from hei10 2 (by decide), show i10 5 = jm 5 from hei10 5 (by decide), show i10 8 = jm 8 from hei10 8 (by decide)]; exact hs_S), (by rw [show c10 3 = em 3 from hec10 3 (by decide), show c10 6 = em 6 from hec10 6 (by decide), show c10 23 = em 23 from hec10 23 (by decide), show c10 24 = em 24 from hec10 24 (by decide), show c10 29 = em 29 from hec10 29 (by decide), show c10 30 = em 30 from hec10 30 (by decide), show i10 5 = jm 5 from hei10 5 (by decide), show i10 22 = jm 22 from hei10 22 (by decide), show i10 27 = jm 27 from hei10 27 (by decide)]; exact hs_J), (by rw [show i10 2 = jm 2 from hei10 2 (by decide)]; exact hR)⟩ hP hD hS (lv_sub hl [0, 1, 2, 3] rfl)

set_option maxHeartbeats 4000000 in
set_option maxRecDepth 100000 in
theorem law_turn {p : Program} {l : Launch} {e : Env} {s : State} {m : MethodId} {below : List Frame} {meth : Method} {cd : Code} {b L : Nat} {xs : Nat → Int32} {D : va_G} {a : Nat → Nat} {t : Nat → ClassId} {o : Nat} {am : Nat → Nat} {tm : Nat → ClassId} {x3 : Int32} {cells slots : Nat} {sk : Value} {Z : va_W} (hx : p.tables.exec = Jvm.exec) (hb : cd.code = cL_law) (hml : cd.maxLocals = 4) (hown : s.vm.findClass RL = some m.cls) (hts : ∀ w ∈ wm_law, w.before #[Value.ref b] s = true) (hX : va_X b L xs s s.heap) (hbl : b < s.heap.size) (hL : L ≤ 3584) (hN : xN s) (hZ : xZ (a 186) s s.heap) (hKT : va_K D vwCl (xtT t) s) (hKM : va_K D vwCl (mT tm) s) (hcs : cells ≤ 600000 ∧ slots ≤ 7302249) (hx3 : 0 ≤ x3.toInt ∧ x3.toInt + 7 ≤ (L : Int)) (kk : LK p l e s m below meth cd b D sk a t Z o am tm x3 cells slots) (i : Nat → Int32) (q : Int64) (c : Nat → Nat → Int32) (d : Nat → Nat → Int64) (jm : Nat → Int32) (qm : Int64) (em : Nat → Nat → Int32) (dm : Nat → Nat → Int64) (H : Heap) (locs : List Loc) (ls : Array Slot) (hLI : LI i c jm em) (hP : va_P D vwCl (xwT sk a t i q c d ++ (Z ++ mW o am tm jm qm em dm)) H) (hD : va_D (fun q : Nat => s.heap.size ≤ q) (xwT sk a t i q c d ++ (Z ++ mW o am tm jm qm em dm))) (hS : va_S (fun q : Nat => s.heap.size ≤ q) s.heap H locs) (hl : lv_has ls 4 [(3, .int x3), (2, .ref o), (1, .ref (a 100)), (0, .ref b)]) : W p l e room_1 s m #[Value.ref b] below meth cd H locs cells slots (lw_Z below #[Value.ref b] s) (F0 m 914 ls []) := by
  have hbA : ¬ (fun q : Nat => s.heap.size ≤ q) b := Nat.not_le.mpr hbl
  have hA : ∀ q : Nat, s.heap.size ≤ q → (fun q : Nat => s.heap.size ≤ q) q := fun _ h => h
  obtain ⟨hI, hs_F, hs_P, htr, hM, hs_S, hs_J, hR⟩ := hLI
  refine lv_aload_n hx hb dL_law_914 rfl (lv_at hl 2 rfl) ?_
  refine lv_aload_n hx hb dL_law_915 rfl (lv_at hl 3 rfl) ?_
  refine lv_iload_n hx hb dL_law_916 rfl (lv_at hl 0 rfl) ?_
  refine lv_iconst (v := 1) hx hb dL_law_917 (by decide) ?_
  refine lv_iadd hx hb dL_law_918 ?_
  refine lv_topi (fun x1 ex1 => ?_)
  have tx1 := ti_add (a := x3.toInt) (b := 1) ex1 rfl (by decide) (by omega) (by omega)
  refine va_sld hx hb hX hbl hbA hS (vp_in_iff.mpr (by have h9 : x1.toInt = (x3.toInt + 1) := tx1; omega)) dL_law_919 ?_
  refine lv_topi (fun x2 ex2 => ?_)
  refine lv_aload_n hx hb dL_law_920 rfl (lv_at hl 3 rfl) ?_
  refine lv_iload_n hx hb dL_law_921 rfl (lv_at hl 0 rfl) ?_
  refine lv_iconst (v := 2) hx hb dL_law_922 (by decide) ?_
  refine lv_iadd hx hb dL_law_923 ?_
  refine lv_topi (fun x3 ex3 => ?_)
  have tx3 := ti_add (a := x3.toInt) (b := 2) ex3 rfl (by decide) (by omega) (by omega)
  refine va_sld hx hb hX hbl hbA hS (vp_in_iff.mpr (by have h9 : x3.toInt = (x3.toInt + 2) := tx3; omega)) dL_law_924 ?_
  refine lv_topi (fun x4 ex4 => ?_)
  refine ro_calli (va_runV (As := [.int x2, .int x4]) (rest := []) ⟨hx, hb, hml, hown, hts⟩ (x_X11_turn l D H.size sk a t i q c d x2 x4 hI ) (cwV 2 hts gm_law_X11_turn_108 rfl rfl rfl (by decide +kernel) ⟨Nat.le_of_ble_eq_true rfl, Nat.le_of_ble_eq_true rfl⟩) (yA_V hN (xZ_k hZ hS hA) hKT (vP_l hP) (ci := 11) (q0 := 0) rfl rfl) rfl rfl hl.1 rfl (lv_room (Nat.le_of_ble_eq_true rfl)) dL_law_925 hcs) hS hA hP (fun r5 u5 H locs hw5 hP hS => ?_)
  refine lv_pop hx hb dL_law_928 rfl ?_
  refine lv_aload_n hx hb dL_law_929 rfl (lv_at hl 1 rfl) ?_
  refine lv_aload_n hx hb dL_law_930 rfl (lv_at hl 3 rfl) ?_
  refine lv_iload_n hx hb dL_law_931 rfl (lv_at hl 0 rfl) ?_
  refine lv_iconst (v := 1) hx hb dL_law_932 (by decide) ?_
  refine lv_iadd hx hb dL_law_933 ?_
  refine lv_topi (fun x6 ex6 => ?_)
  have tx6 := ti_add (a := x3.toInt) (b := 1) ex6 rfl (by decide) (by omega) (by omega)
  refine va_sld hx hb hX hbl hbA hS (vp_in_iff.mpr (by have h9 : x6.toInt = (x3.toInt + 1) := tx6; omega)) dL_law_934 ?_
  refine lv_topi (fun x7 ex7 => ?_)
  refine lv_aload_n hx hb dL_law_935 rfl (lv_at hl 3 rfl) ?_
  refine lv_iload_n hx hb dL_law_936 rfl (lv_at hl 0 rfl) ?_
  refine lv_iconst (v := 2) hx hb dL_law_937 (by decide) ?_
  refine lv_iadd hx hb dL_law_938 ?_
  refine lv_topi (fun x8 ex8 => ?_)
  have tx8 := ti_add (a := x3.toInt) (b := 2) ex8 rfl (by decide) (by omega) (by omega)
  refine va_sld hx hb hX hbl hbA hS (vp_in_iff.mpr (by have h9 : x8.toInt = (x3.toInt + 2) := tx8; omega)) dL_law_939 ?_
  refine lv_topi (fun x9 ex9 => ?_)
  have hP : va_P D vwCl ((xwT sk a t i q c d ++ Z) ++ mW o am tm jm qm em dm) H := by rw [List.append_assoc]; exact hP
  have hD : va_D (fun q : Nat => s.heap.size ≤ q) ((xwT sk a t i q c d ++ Z) ++ mW o am tm jm qm em dm) := by rw [List.append_assoc]; exact hD
  refine ro_calli (va_runV (As := [.int x7, .int x9]) (rest := []) ⟨hx, hb, hml, hown, hts⟩ (s_X12_turn l D H.size o am tm jm qm em dm x7 x9 hM ) (cwV 2 hts gm_law_X12_turn_111 rfl rfl rfl (by decide +kernel) ⟨Nat.le_of_ble_eq_true rfl, Nat.le_of_ble_eq_true rfl⟩) (pA_V hKM (vP_r hP) (ci := 12) (q0 := 0) rfl rfl) rfl rfl hl.1 rfl (lv_room (Nat.le_of_ble_eq_true rfl)) dL_law_940 hcs) hS hA hP (fun r10 u10 H locs hw10 hP hS => ?_)
  have hP : va_P D vwCl (xwT sk a t i q c d ++ (Z ++ mW o am tm jm qm em dm)) H := by rw [← List.append_assoc]; exact hP
  have hD : va_D (fun q : Nat => s.heap.size ≤ q) (xwT sk a t i q c d ++ (Z ++ mW o am tm jm qm em dm)) := by rw [← List.append_assoc]; exact hD
  refine lv_pop hx hb dL_law_943 rfl ?_
  refine lv_goto (tgt := 1461) hx hb dL_law_944 (by decide) ?_
  exact kk i q c d jm qm em dm _ _ _ ⟨hI, hs_F, hs_P, htr, hM, hs_S, hs_J, hR⟩ hP hD hS (lv_sub hl [0, 1, 2, 3] rfl)

set_option maxHeartbeats 4000000 in
set_option maxRecDepth 100000 in
theorem law_light {p : Program} {l : Launch} {e : Env} {s : State} {m : MethodId} {below : List Frame} {meth : Method} {cd : Code} {b L : Nat} {xs : Nat → Int32} {D : va_G} {a : Nat → Nat} {t : Nat → ClassId} {o : Nat} {am : Nat → Nat} {tm : Nat → ClassId} {x3 : Int32} {cells slots : Nat} {sk : Value} {Z : va_W} (hx : p.tables.exec = Jvm.exec) (hb : cd.code = cL_law) (hml : cd.maxLocals = 4) (hown : s.vm.findClass RL = some m.cls) (hts : ∀ w ∈ wm_law, w.before #[Value.ref b] s = true) (hX : va_X b L xs s s.heap) (hbl : b < s.heap.size) (hL : L ≤ 3584) (hN : xN s) (hZ : xZ (a 186) s s.heap) (hKT : va_K D vwCl (xtT t) s) (hKM : va_K D vwCl (mT tm) s) (hcs : cells ≤ 600000 ∧ slots ≤ 7302249) (hx3 : 0 ≤ x3.toInt ∧ x3.toInt + 7 ≤ (L : Int)) (kk : LK p l e s m below meth cd b D sk a t Z o am tm x3 cells slots) (i : Nat → Int32) (q : Int64) (c : Nat → Nat → Int32) (d : Nat → Nat → Int64) (jm : Nat → Int32) (qm : Int64) (em : Nat → Nat → Int32) (dm : Nat → Nat → Int64) (H : Heap) (locs : List Loc) (ls : Array Slot) (hLI : LI i c jm em) (hP : va_P D vwCl (xwT sk a t i q c d ++ (Z ++ mW o am tm jm qm em dm)) H) (hD : va_D (fun q : Nat => s.heap.size ≤ q) (xwT sk a t i q c d ++ (Z ++ mW o am tm jm qm em dm))) (hS : va_S (fun q : Nat => s.heap.size ≤ q) s.heap H locs) (hl : lv_has ls 4 [(3, .int x3), (2, .ref o), (1, .ref (a 100)), (0, .ref b)]) : W p l e room_1 s m #[Value.ref b] below meth cd H locs cells slots (lw_Z below #[Value.ref b] s) (F0 m 947 ls []) := by
  have hbA : ¬ (fun q : Nat => s.heap.size ≤ q) b := Nat.not_le.mpr hbl
  have hA : ∀ q : Nat, s.heap.size ≤ q → (fun q : Nat => s.heap.size ≤ q) q := fun _ h => h
  obtain ⟨hI, hs_F, hs_P, htr, hM, hs_S, hs_J, hR⟩ := hLI
  refine lv_aload_n hx hb dL_law_947 rfl (lv_at hl 2 rfl) ?_
  refine ro_calli (va_runV (As := []) (rest := []) ⟨hx, hb, hml, hown, hts⟩ (x_X11_light l D H.size sk a t i q c d  hI ) (cwV 0 hts gm_law_X11_light_112 rfl rfl rfl (by decide +kernel) ⟨Nat.le_of_ble_eq_true rfl, Nat.le_of_ble_eq_true rfl⟩) (yA_V hN (xZ_k hZ hS hA) hKT (vP_l hP) (ci := 11) (q0 := 0) rfl rfl) rfl rfl hl.1 rfl (lv_room (Nat.le_of_ble_eq_true rfl)) dL_law_948 hcs) hS hA hP (fun r1 u1 H locs hw1 hP hS => ?_)
  refine lv_pop hx hb dL_law_951 rfl ?_
  refine lv_aload_n hx hb dL_law_952 rfl (lv_at hl 1 rfl) ?_
  have hP : va_P D vwCl ((xwT sk a t i q c d ++ Z) ++ mW o am tm jm qm em dm) H := by rw [List.append_assoc]; exact hP
  have hD : va_D (fun q : Nat => s.heap.size ≤ q) ((xwT sk a t i q c d ++ Z) ++ mW o am tm jm qm em dm) := by rw [List.append_assoc]; exact hD
  refine rc_i (wr := (xwT sk a t i q c d ++ Z)) (va_runV (As := []) (rest := []) ⟨hx, hb, hml, hown, hts⟩ (s_X12_light l D H.size o am tm jm qm em dm  hM hs_S hs_J) (cwV 0 hts gm_law_X12_light_115 rfl rfl rfl (by decide +kernel) ⟨Nat.le_of_ble_eq_true rfl, Nat.le_of_ble_eq_true rfl⟩) (pB_V hKM (vP_r hP) (vD_r hD) (ci := 12) (q0 := 0) rfl rfl) rfl rfl hl.1 rfl (lv_room (Nat.le_of_ble_eq_true rfl)) dL_law_953 hcs) hS hA hP hD (fun r2 u2 H locs hw2 hP hD hS => ?_)
  obtain ⟨i2, q2, c2, d2⟩ := u2
  have hw2 : True ∧ mInv i2 c2 ∧ (∀ k, k ∉ ([40, 41, 42] : List Nat) → i2 k = jm k) ∧ (∀ k, k ∉ ([43, 44, 45, 46, 47, 48, 49] : List Nat) → c2 k = em k) := hw2
  obtain ⟨hw2, hM, hei2, hec2⟩ := hw2
  have hP : va_P D vwCl (xwT sk a t i q c d ++ (Z ++ mW o am tm i2 q2 c2 d2)) H := by rw [← List.append_assoc]; exact hP
  have hD : va_D (fun q : Nat => s.heap.size ≤ q) (xwT sk a t i q c d ++ (Z ++ mW o am tm i2 q2 c2 d2)) := by rw [← List.append_assoc]; exact hD
  refine lv_pop hx hb dL_law_956 rfl ?_
  refine lv_goto (tgt := 1461) hx hb dL_law_957 (by decide) ?_
  exact kk i q c d i2 q2 c2 d2 _ _ _ ⟨hI, hs_F, hs_P, htr, hM, (by rw [show c2 3 = em 3 from hec2 3 (by decide), show c2 6 = em 6 from hec2 6 (by decide), show c2 9 = em 9 from hec2 9 (by decide), show c2 10 = em 10 from hec2 10 (by decide), show c2 11 = em 11 from hec2 11 (by decide), show c2 13 = em 13 from hec2 13 (by decide), show i2 2 = jm 2 from hei2 2 (by decide), show i2 5 = jm 5 from hei2 5 (by decide), show i2 8 = jm 8 from hei2 8 (by decide)]; exact hs_S), (by rw [show c2 3 = em 3 from hec2 3 (by decide), show c2 6 = em 6 from hec2 6 (by decide), show c2 23 = em 23 from hec2 23 (by decide), show c2 24 = em 24 from hec2 24 (by decide), show c2 29 = em 29 from hec2 29 (by decide), show c2 30 = em 30 from hec2 30 (by decide), show i2 5 = jm 5 from hei2 5 (by decide), show i2 22 = jm 22 from hei2 22 (by decide), show i2 27 = jm 27 from hei2 27 (by decide)]; exact hs_J), (by rw [show i2 2 = jm 2 from hei2 2 (by decide)]; exact hR)⟩ hP hD hS (lv_sub hl [0, 1, 2, 3] rfl)

set_option maxHeartbeats 4000000 in
set_option maxRecDepth 100000 in
theorem law_line {p : Program} {l : Launch} {e : Env} {s : State} {m : MethodId} {below : List Frame} {meth : Method} {cd : Code} {b L : Nat} {xs : Nat → Int32} {D : va_G} {a : Nat → Nat} {t : Nat → ClassId} {o : Nat} {am : Nat → Nat} {tm : Nat → ClassId} {x3 : Int32} {cells slots : Nat} {sk : Value} {Z : va_W} (hx : p.tables.exec = Jvm.exec) (hb : cd.code = cL_law) (hml : cd.maxLocals = 4) (hown : s.vm.findClass RL = some m.cls) (hts : ∀ w ∈ wm_law, w.before #[Value.ref b] s = true) (hX : va_X b L xs s s.heap) (hbl : b < s.heap.size) (hL : L ≤ 3584) (hN : xN s) (hZ : xZ (a 186) s s.heap) (hKT : va_K D vwCl (xtT t) s) (hKM : va_K D vwCl (mT tm) s) (hcs : cells ≤ 600000 ∧ slots ≤ 7302249) (hx3 : 0 ≤ x3.toInt ∧ x3.toInt + 7 ≤ (L : Int)) (kk : LK p l e s m below meth cd b D sk a t Z o am tm x3 cells slots) (i : Nat → Int32) (q : Int64) (c : Nat → Nat → Int32) (d : Nat → Nat → Int64) (jm : Nat → Int32) (qm : Int64) (em : Nat → Nat → Int32) (dm : Nat → Nat → Int64) (H : Heap) (locs : List Loc) (ls : Array Slot) (hLI : LI i c jm em) (hP : va_P D vwCl (xwT sk a t i q c d ++ (Z ++ mW o am tm jm qm em dm)) H) (hD : va_D (fun q : Nat => s.heap.size ≤ q) (xwT sk a t i q c d ++ (Z ++ mW o am tm jm qm em dm))) (hS : va_S (fun q : Nat => s.heap.size ≤ q) s.heap H locs) (hl : lv_has ls 4 [(3, .int x3), (2, .ref o), (1, .ref (a 100)), (0, .ref b)]) : W p l e room_1 s m #[Value.ref b] below meth cd H locs cells slots (lw_Z below #[Value.ref b] s) (F0 m 1036 ls []) := by
  have hbA : ¬ (fun q : Nat => s.heap.size ≤ q) b := Nat.not_le.mpr hbl
  have hA : ∀ q : Nat, s.heap.size ≤ q → (fun q : Nat => s.heap.size ≤ q) q := fun _ h => h
  obtain ⟨hI, hs_F, hs_P, htr, hM, hs_S, hs_J, hR⟩ := hLI
  refine lv_aload_n hx hb dL_law_1036 rfl (lv_at hl 2 rfl) ?_
  refine lv_aload_n hx hb dL_law_1037 rfl (lv_at hl 3 rfl) ?_
  refine lv_iload_n hx hb dL_law_1038 rfl (lv_at hl 0 rfl) ?_
  refine lv_iconst (v := 1) hx hb dL_law_1039 (by decide) ?_
  refine lv_iadd hx hb dL_law_1040 ?_
  refine lv_topi (fun x1 ex1 => ?_)
  have tx1 := ti_add (a := x3.toInt) (b := 1) ex1 rfl (by decide) (by omega) (by omega)
  refine va_sld hx hb hX hbl hbA hS (vp_in_iff.mpr (by have h9 : x1.toInt = (x3.toInt + 1) := tx1; omega)) dL_law_1041 ?_
  refine lv_topi (fun x2 ex2 => ?_)
  refine lv_aload_n hx hb dL_law_1042 rfl (lv_at hl 3 rfl) ?_
  refine lv_iload_n hx hb dL_law_1043 rfl (lv_at hl 0 rfl) ?_
  refine lv_iconst (v := 2) hx hb dL_law_1044 (by decide) ?_
  refine lv_iadd hx hb dL_law_1045 ?_
  refine lv_topi (fun x3 ex3 => ?_)
  have tx3 := ti_add (a := x3.toInt) (b := 2) ex3 rfl (by decide) (by omega) (by omega)
  refine va_sld hx hb hX hbl hbA hS (vp_in_iff.mpr (by have h9 : x3.toInt = (x3.toInt + 2) := tx3; omega)) dL_law_1046 ?_
  refine lv_topi (fun x4 ex4 => ?_)
  refine lv_aload_n hx hb dL_law_1047 rfl (lv_at hl 3 rfl) ?_
  refine lv_iload_n hx hb dL_law_1048 rfl (lv_at hl 0 rfl) ?_
  refine lv_iconst (v := 3) hx hb dL_law_1049 (by decide) ?_
  refine lv_iadd hx hb dL_law_1050 ?_
  refine lv_topi (fun x5 ex5 => ?_)
  have tx5 := ti_add (a := x3.toInt) (b := 3) ex5 rfl (by decide) (by omega) (by omega)
  refine va_sld hx hb hX hbl hbA hS (vp_in_iff.mpr (by have h9 : x5.toInt = (x3.toInt + 3) := tx5; omega)) dL_law_1051 ?_
  refine lv_topi (fun x6 ex6 => ?_)
  refine lc_i (wr := (Z ++ mW o am tm jm qm em dm)) (va_runV (As := [.int x2, .int x4, .int x6]) (rest := []) ⟨hx, hb, hml, hown, hts⟩ (x_X11_line l D H.size sk a t i q c d x2 x4 x6 hI ) (cwV 3 hts gm_law_X11_line_124 rfl rfl rfl (by decide +kernel) ⟨Nat.le_of_ble_eq_true rfl, Nat.le_of_ble_eq_true rfl⟩) (yB_V hN (xZ_k hZ hS hA) (xZ_n hZ (vD_l hD)) hKT (vP_l hP) (vD_l hD) (ci := 11) (q0 := 0) rfl rfl) rfl rfl hl.1 rfl (lv_room (Nat.le_of_ble_eq_true rfl)) dL_law_1052 hcs) hS hA hP hD (fun r7 u7 H locs hw7 _ hP hD hS => ?_)
  obtain ⟨i7, q7, c7, d7⟩ := u7
  have hw7 : True ∧ xInv i7 c7 ∧ (∀ k, k ∉ ([102] : List Nat) → i7 k = i k) ∧ (∀ k, k ∉ ([101, 158, 159] : List Nat) → c7 k = c k) := hw7
  obtain ⟨hw7, hI, hei7, hec7⟩ := hw7
  have hP : va_P D vwCl (xwT sk a t i7 q7 c7 d7 ++ (Z ++ mW o am tm jm qm em dm)) H := hP
  have hD : va_D (fun q : Nat => s.heap.size ≤ q) (xwT sk a t i7 q7 c7 d7 ++ (Z ++ mW o am tm jm qm em dm)) := hD
  refine lv_pop hx hb dL_law_1055 rfl ?_
  refine lv_aload_n hx hb dL_law_1056 rfl (lv_at hl 1 rfl) ?_
  refine lv_aload_n hx hb dL_law_1057 rfl (lv_at hl 3 rfl) ?_
  refine lv_iload_n hx hb dL_law_1058 rfl (lv_at hl 0 rfl) ?_
  refine lv_iconst (v := 1) hx hb dL_law_1059 (by decide) ?_
  refine lv_iadd hx hb dL_law_1060 ?_
  refine lv_topi (fun x8 ex8 => ?_)
  have tx8 := ti_add (a := x3.toInt) (b := 1) ex8 rfl (by decide) (by omega) (by omega)
  refine va_sld hx hb hX hbl hbA hS (vp_in_iff.mpr (by have h9 : x8.toInt = (x3.toInt + 1) := tx8; omega)) dL_law_1061 ?_
  refine lv_topi (fun x9 ex9 => ?_)
  refine lv_aload_n hx hb dL_law_1062 rfl (lv_at hl 3 rfl) ?_
  refine lv_iload_n hx hb dL_law_1063 rfl (lv_at hl 0 rfl) ?_
  refine lv_iconst (v := 2) hx hb dL_law_1064 (by decide) ?_
  refine lv_iadd hx hb dL_law_1065 ?_
  refine lv_topi (fun x10 ex10 => ?_)
  have tx10 := ti_add (a := x3.toInt) (b := 2) ex10 rfl (by decide) (by omega) (by omega)
  refine va_sld hx hb hX hbl hbA hS (vp_in_iff.mpr (by have h9 : x10.toInt = (x3.toInt + 2) := tx10; omega)) dL_law_1066 ?_
  refine lv_topi (fun x11 ex11 => ?_)
  refine lv_aload_n hx hb dL_law_1067 rfl (lv_at hl 3 rfl) ?_
  refine lv_iload_n hx hb dL_law_1068 rfl (lv_at hl 0 rfl) ?_
  refine lv_iconst (v := 3) hx hb dL_law_1069 (by decide) ?_
  refine lv_iadd hx hb dL_law_1070 ?_
  refine lv_topi (fun x12 ex12 => ?_)
  have tx12 := ti_add (a := x3.toInt) (b := 3) ex12 rfl (by decide) (by omega) (by omega)
  refine va_sld hx hb hX hbl hbA hS (vp_in_iff.mpr (by have h9 : x12.toInt = (x3.toInt + 3) := tx12; omega)) dL_law_1071 ?_
  refine lv_topi (fun x13 ex13 => ?_)
  have hP : va_P D vwCl ((xwT sk a t i7 q7 c7 d7 ++ Z) ++ mW o am tm jm qm em dm) H := by rw [List.append_assoc]; exact hP
  have hD : va_D (fun q : Nat => s.heap.size ≤ q) ((xwT sk a t i7 q7 c7 d7 ++ Z) ++ mW o am tm jm qm em dm) := by rw [List.append_assoc]; exact hD
  refine rc_i (wr := (xwT sk a t i7 q7 c7 d7 ++ Z)) (va_runV (As := [.int x9, .int x11, .int x13]) (rest := []) ⟨hx, hb, hml, hown, hts⟩ (s_X12_line l D H.size o am tm jm qm em dm x9 x11 x13 hM ) (cwV 3 hts gm_law_X12_line_127 rfl rfl rfl (by decide +kernel) ⟨Nat.le_of_ble_eq_true rfl, Nat.le_of_ble_eq_true rfl⟩) (pB_V hKM (vP_r hP) (vD_r hD) (ci := 12) (q0 := 0) rfl rfl) rfl rfl hl.1 rfl (lv_room (Nat.le_of_ble_eq_true rfl)) dL_law_1072 hcs) hS hA hP hD (fun r14 u14 H locs hw14 hP hD hS => ?_)
  obtain ⟨i14, q14, c14, d14⟩ := u14
  have hw14 : True ∧ mInv i14 c14 ∧ (∀ k, k ∉ ([0] : List Nat) → i14 k = jm k) ∧ (∀ k, k ∉ ([1, 60, 61, 63] : List Nat) → c14 k = em k) := hw14
  obtain ⟨hw14, hM, hei14, hec14⟩ := hw14
  have hP : va_P D vwCl (xwT sk a t i7 q7 c7 d7 ++ (Z ++ mW o am tm i14 q14 c14 d14)) H := by rw [← List.append_assoc]; exact hP
  have hD : va_D (fun q : Nat => s.heap.size ≤ q) (xwT sk a t i7 q7 c7 d7 ++ (Z ++ mW o am tm i14 q14 c14 d14)) := by rw [← List.append_assoc]; exact hD
  refine lv_pop hx hb dL_law_1075 rfl ?_
  refine lv_goto (tgt := 1461) hx hb dL_law_1076 (by decide) ?_
  exact kk i7 q7 c7 d7 i14 q14 c14 d14 _ _ _ ⟨hI, (by rw [show c7 113 = c 113 from hec7 113 (by decide), show c7 115 = c 115 from hec7 115 (by decide)]; exact hs_F), (by rw [show i7 146 = i 146 from hei7 146 (by decide), show i7 147 = i 147 from hei7 147 (by decide), show i7 148 = i 148 from hei7 148 (by decide), show i7 156 = i 156 from hei7 156 (by decide), show c7 144 = c 144 from hec7 144 (by decide), show c7 145 = c 145 from hec7 145 (by decide), show c7 150 = c 150 from hec7 150 (by decide)]; exact hs_P), (by rw [show i7 141 = i 141 from hei7 141 (by decide)]; exact htr), hM, (by rw [show c14 3 = em 3 from hec14 3 (by decide), show c14 6 = em 6 from hec14 6 (by decide), show c14 9 = em 9 from hec14 9 (by decide), show c14 10 = em 10 from hec14 10 (by decide), show c14 11 = em 11 from hec14 11 (by decide), show c14 13 = em 13 from hec14 13 (by decide), show i14 2 = jm 2 from hei14 2 (by decide), show i14 5 = jm 5 from hei14 5 (by decide), show i14 8 = jm 8 from hei14 8 (by decide)]; exact hs_S), (by rw [show c14 3 = em 3 from hec14 3 (by decide), show c14 6 = em 6 from hec14 6 (by decide), show c14 23 = em 23 from hec14 23 (by decide), show c14 24 = em 24 from hec14 24 (by decide), show c14 29 = em 29 from hec14 29 (by decide), show c14 30 = em 30 from hec14 30 (by decide), show i14 5 = jm 5 from hei14 5 (by decide), show i14 22 = jm 22 from hei14 22 (by decide), show i14 27 = jm 27 from hei14 27 (by decide)]; exact hs_J), (by rw [show i7 110 = i 110 from hei7 110 (by decide), show i14 2 = jm 2 from hei14 2 (by decide)]; exact hR)⟩ hP hD hS (lv_sub hl [0, 1, 2, 3] rfl)

set_option maxHeartbeats 4000000 in
set_option maxRecDepth 100000 in
theorem law_put {p : Program} {l : Launch} {e : Env} {s : State} {m : MethodId} {below : List Frame} {meth : Method} {cd : Code} {b L : Nat} {xs : Nat → Int32} {D : va_G} {a : Nat → Nat} {t : Nat → ClassId} {o : Nat} {am : Nat → Nat} {tm : Nat → ClassId} {x3 : Int32} {cells slots : Nat} {sk : Value} {Z : va_W} (hx : p.tables.exec = Jvm.exec) (hb : cd.code = cL_law) (hml : cd.maxLocals = 4) (hown : s.vm.findClass RL = some m.cls) (hts : ∀ w ∈ wm_law, w.before #[Value.ref b] s = true) (hX : va_X b L xs s s.heap) (hbl : b < s.heap.size) (hL : L ≤ 3584) (hN : xN s) (hZ : xZ (a 186) s s.heap) (hKT : va_K D vwCl (xtT t) s) (hKM : va_K D vwCl (mT tm) s) (hcs : cells ≤ 600000 ∧ slots ≤ 7302249) (hx3 : 0 ≤ x3.toInt ∧ x3.toInt + 7 ≤ (L : Int)) (kk : LK p l e s m below meth cd b D sk a t Z o am tm x3 cells slots) (i : Nat → Int32) (q : Int64) (c : Nat → Nat → Int32) (d : Nat → Nat → Int64) (jm : Nat → Int32) (qm : Int64) (em : Nat → Nat → Int32) (dm : Nat → Nat → Int64) (H : Heap) (locs : List Loc) (ls : Array Slot) (hLI : LI i c jm em) (hP : va_P D vwCl (xwT sk a t i q c d ++ (Z ++ mW o am tm jm qm em dm)) H) (hD : va_D (fun q : Nat => s.heap.size ≤ q) (xwT sk a t i q c d ++ (Z ++ mW o am tm jm qm em dm))) (hS : va_S (fun q : Nat => s.heap.size ≤ q) s.heap H locs) (hl : lv_has ls 4 [(3, .int x3), (2, .ref o), (1, .ref (a 100)), (0, .ref b)]) : W p l e room_1 s m #[Value.ref b] below meth cd H locs cells slots (lw_Z below #[Value.ref b] s) (F0 m 1079 ls []) := by
  have hbA : ¬ (fun q : Nat => s.heap.size ≤ q) b := Nat.not_le.mpr hbl
  have hA : ∀ q : Nat, s.heap.size ≤ q → (fun q : Nat => s.heap.size ≤ q) q := fun _ h => h
  obtain ⟨hI, hs_F, hs_P, htr, hM, hs_S, hs_J, hR⟩ := hLI
  refine lv_aload_n hx hb dL_law_1079 rfl (lv_at hl 2 rfl) ?_
  refine lv_aload_n hx hb dL_law_1080 rfl (lv_at hl 3 rfl) ?_
  refine lv_iload_n hx hb dL_law_1081 rfl (lv_at hl 0 rfl) ?_
  refine lv_iconst (v := 1) hx hb dL_law_1082 (by decide) ?_
  refine lv_iadd hx hb dL_law_1083 ?_
  refine lv_topi (fun x1 ex1 => ?_)
  have tx1 := ti_add (a := x3.toInt) (b := 1) ex1 rfl (by decide) (by omega) (by omega)
  refine va_sld hx hb hX hbl hbA hS (vp_in_iff.mpr (by have h9 : x1.toInt = (x3.toInt + 1) := tx1; omega)) dL_law_1084 ?_
  refine lv_topi (fun x2 ex2 => ?_)
  refine lv_aload_n hx hb dL_law_1085 rfl (lv_at hl 3 rfl) ?_
  refine lv_iload_n hx hb dL_law_1086 rfl (lv_at hl 0 rfl) ?_
  refine lv_iconst (v := 2) hx hb dL_law_1087 (by decide) ?_
  refine lv_iadd hx hb dL_law_1088 ?_
  refine lv_topi (fun x3 ex3 => ?_)
  have tx3 := ti_add (a := x3.toInt) (b := 2) ex3 rfl (by decide) (by omega) (by omega)
  refine va_sld hx hb hX hbl hbA hS (vp_in_iff.mpr (by have h9 : x3.toInt = (x3.toInt + 2) := tx3; omega)) dL_law_1089 ?_
  refine lv_topi (fun x4 ex4 => ?_)
  refine lv_aload_n hx hb dL_law_1090 rfl (lv_at hl 3 rfl) ?_
  refine lv_iload_n hx hb dL_law_1091 rfl (lv_at hl 0 rfl) ?_
  refine lv_iconst (v := 3) hx hb dL_law_1092 (by decide) ?_
  refine lv_iadd hx hb dL_law_1093 ?_
  refine lv_topi (fun x5 ex5 => ?_)
  have tx5 := ti_add (a := x3.toInt) (b := 3) ex5 rfl (by decide) (by omega) (by omega)
  refine va_sld hx hb hX hbl hbA hS (vp_in_iff.mpr (by have h9 : x5.toInt = (x3.toInt + 3) := tx5; omega)) dL_law_1094 ?_
  refine lv_topi (fun x6 ex6 => ?_)
  refine lv_aload_n hx hb dL_law_1095 rfl (lv_at hl 3 rfl) ?_
  refine lv_iload_n hx hb dL_law_1096 rfl (lv_at hl 0 rfl) ?_
  refine lv_iconst (v := 4) hx hb dL_law_1097 (by decide) ?_
  refine lv_iadd hx hb dL_law_1098 ?_
  refine lv_topi (fun x7 ex7 => ?_)
  have tx7 := ti_add (a := x3.toInt) (b := 4) ex7 rfl (by decide) (by omega) (by omega)
  refine va_sld hx hb hX hbl hbA hS (vp_in_iff.mpr (by have h9 : x7.toInt = (x3.toInt + 4) := tx7; omega)) dL_law_1099 ?_
  refine lv_topi (fun x8 ex8 => ?_)
  refine lv_i2l (v := x8.toInt64) hx hb dL_law_1100 rfl ?_
  refine lv_bipush (v := 32) hx hb dL_law_1101 (by decide) ?_
  refine lv_lshl hx hb dL_law_1103 rfl ?_
  refine lv_topl (fun x9 ex9 => ?_)
  refine lv_aload_n hx hb dL_law_1104 rfl (lv_at hl 3 rfl) ?_
  refine lv_iload_n hx hb dL_law_1105 rfl (lv_at hl 0 rfl) ?_
  refine lv_iconst (v := 5) hx hb dL_law_1106 (by decide) ?_
  refine lv_iadd hx hb dL_law_1107 ?_
  refine lv_topi (fun x10 ex10 => ?_)
  have tx10 := ti_add (a := x3.toInt) (b := 5) ex10 rfl (by decide) (by omega) (by omega)
  refine va_sld hx hb hX hbl hbA hS (vp_in_iff.mpr (by have h9 : x10.toInt = (x3.toInt + 5) := tx10; omega)) dL_law_1108 ?_
  refine lv_topi (fun x11 ex11 => ?_)
  refine lv_i2l (v := x11.toInt64) hx hb dL_law_1109 rfl ?_
  refine lv_ldc2 (v := 4294967295) hx hb hown (hts (.constantLong RL 128 (4294967295)) (by decide +kernel)) dL_law_1110 ?_
  refine lv_land hx hb dL_law_1113 ?_
  refine lv_topl (fun x12 ex12 => ?_)
  refine lv_lor hx hb dL_law_1114 ?_
  refine lv_topl (fun x13 ex13 => ?_)
  refine lc_i (wr := (Z ++ mW o am tm jm qm em dm)) (va_runV (As := [.int x2, .int x4, .int x6, .long x13]) (rest := []) ⟨hx, hb, hml, hown, hts⟩ (x_X11_put l D H.size sk a t i q c d x2 x4 x6 x13 hI ) (cwV 4 hts gm_law_X11_put_130 rfl rfl rfl (by decide +kernel) ⟨Nat.le_of_ble_eq_true rfl, Nat.le_of_ble_eq_true rfl⟩) (yB_V hN (xZ_k hZ hS hA) (xZ_n hZ (vD_l hD)) hKT (vP_l hP) (vD_l hD) (ci := 11) (q0 := 0) rfl rfl) rfl rfl hl.1 rfl (lv_room (Nat.le_of_ble_eq_true rfl)) dL_law_1115 hcs) hS hA hP hD (fun r14 u14 H locs hw14 _ hP hD hS => ?_)
  obtain ⟨i14, q14, c14, d14⟩ := u14
  have hw14 : True ∧ xInv i14 c14 ∧ (∀ k, k ∉ ([102] : List Nat) → i14 k = i k) ∧ (∀ k, k ∉ ([101] : List Nat) → c14 k = c k) := hw14
  obtain ⟨hw14, hI, hei14, hec14⟩ := hw14
  have hP : va_P D vwCl (xwT sk a t i14 q14 c14 d14 ++ (Z ++ mW o am tm jm qm em dm)) H := hP
  have hD : va_D (fun q : Nat => s.heap.size ≤ q) (xwT sk a t i14 q14 c14 d14 ++ (Z ++ mW o am tm jm qm em dm)) := hD
  refine lv_pop hx hb dL_law_1118 rfl ?_
  refine lv_aload_n hx hb dL_law_1119 rfl (lv_at hl 1 rfl) ?_
  refine lv_aload_n hx hb dL_law_1120 rfl (lv_at hl 3 rfl) ?_
  refine lv_iload_n hx hb dL_law_1121 rfl (lv_at hl 0 rfl) ?_
  refine lv_iconst (v := 1) hx hb dL_law_1122 (by decide) ?_
  refine lv_iadd hx hb dL_law_1123 ?_
  refine lv_topi (fun x15 ex15 => ?_)
  have tx15 := ti_add (a := x3.toInt) (b := 1) ex15 rfl (by decide) (by omega) (by omega)
  refine va_sld hx hb hX hbl hbA hS (vp_in_iff.mpr (by have h9 : x15.toInt = (x3.toInt + 1) := tx15; omega)) dL_law_1124 ?_
  refine lv_topi (fun x16 ex16 => ?_)
  refine lv_aload_n hx hb dL_law_1125 rfl (lv_at hl 3 rfl) ?_
  refine lv_iload_n hx hb dL_law_1126 rfl (lv_at hl 0 rfl) ?_
  refine lv_iconst (v := 2) hx hb dL_law_1127 (by decide) ?_
  refine lv_iadd hx hb dL_law_1128 ?_
  refine lv_topi (fun x17 ex17 => ?_)
  have tx17 := ti_add (a := x3.toInt) (b := 2) ex17 rfl (by decide) (by omega) (by omega)
  refine va_sld hx hb hX hbl hbA hS (vp_in_iff.mpr (by have h9 : x17.toInt = (x3.toInt + 2) := tx17; omega)) dL_law_1129 ?_
  refine lv_topi (fun x18 ex18 => ?_)
  refine lv_aload_n hx hb dL_law_1130 rfl (lv_at hl 3 rfl) ?_
  refine lv_iload_n hx hb dL_law_1131 rfl (lv_at hl 0 rfl) ?_
  refine lv_iconst (v := 3) hx hb dL_law_1132 (by decide) ?_
  refine lv_iadd hx hb dL_law_1133 ?_
  refine lv_topi (fun x19 ex19 => ?_)
  have tx19 := ti_add (a := x3.toInt) (b := 3) ex19 rfl (by decide) (by omega) (by omega)
  refine va_sld hx hb hX hbl hbA hS (vp_in_iff.mpr (by have h9 : x19.toInt = (x3.toInt + 3) := tx19; omega)) dL_law_1134 ?_
  refine lv_topi (fun x20 ex20 => ?_)
  refine lv_aload_n hx hb dL_law_1135 rfl (lv_at hl 3 rfl) ?_
  refine lv_iload_n hx hb dL_law_1136 rfl (lv_at hl 0 rfl) ?_
  refine lv_iconst (v := 4) hx hb dL_law_1137 (by decide) ?_
  refine lv_iadd hx hb dL_law_1138 ?_
  refine lv_topi (fun x21 ex21 => ?_)
  have tx21 := ti_add (a := x3.toInt) (b := 4) ex21 rfl (by decide) (by omega) (by omega)
  refine va_sld hx hb hX hbl hbA hS (vp_in_iff.mpr (by have h9 : x21.toInt = (x3.toInt + 4) := tx21; omega)) dL_law_1139 ?_
  refine lv_topi (fun x22 ex22 => ?_)
  refine lv_i2l (v := x22.toInt64) hx hb dL_law_1140 rfl ?_
  refine lv_bipush (v := 32) hx hb dL_law_1141 (by decide) ?_
  refine lv_lshl hx hb dL_law_1143 rfl ?_
  refine lv_topl (fun x23 ex23 => ?_)
  refine lv_aload_n hx hb dL_law_1144 rfl (lv_at hl 3 rfl) ?_
  refine lv_iload_n hx hb dL_law_1145 rfl (lv_at hl 0 rfl) ?_
  refine lv_iconst (v := 5) hx hb dL_law_1146 (by decide) ?_
  refine lv_iadd hx hb dL_law_1147 ?_
  refine lv_topi (fun x24 ex24 => ?_)
  have tx24 := ti_add (a := x3.toInt) (b := 5) ex24 rfl (by decide) (by omega) (by omega)
  refine va_sld hx hb hX hbl hbA hS (vp_in_iff.mpr (by have h9 : x24.toInt = (x3.toInt + 5) := tx24; omega)) dL_law_1148 ?_
  refine lv_topi (fun x25 ex25 => ?_)
  refine lv_i2l (v := x25.toInt64) hx hb dL_law_1149 rfl ?_
  refine lv_ldc2 (v := 4294967295) hx hb hown (hts (.constantLong RL 128 (4294967295)) (by decide +kernel)) dL_law_1150 ?_
  refine lv_land hx hb dL_law_1153 ?_
  refine lv_topl (fun x26 ex26 => ?_)
  refine lv_lor hx hb dL_law_1154 ?_
  refine lv_topl (fun x27 ex27 => ?_)
  have hP : va_P D vwCl ((xwT sk a t i14 q14 c14 d14 ++ Z) ++ mW o am tm jm qm em dm) H := by rw [List.append_assoc]; exact hP
  have hD : va_D (fun q : Nat => s.heap.size ≤ q) ((xwT sk a t i14 q14 c14 d14 ++ Z) ++ mW o am tm jm qm em dm) := by rw [List.append_assoc]; exact hD
  refine rc_i (wr := (xwT sk a t i14 q14 c14 d14 ++ Z)) (va_runV (As := [.int x16, .int x18, .int x20, .long x27]) (rest := []) ⟨hx, hb, hml, hown, hts⟩ (s_X12_put l D H.size o am tm jm qm em dm x16 x18 x20 x27 hM ) (cwV 4 hts gm_law_X12_put_134 rfl rfl rfl (by decide +kernel) ⟨Nat.le_of_ble_eq_true rfl, Nat.le_of_ble_eq_true rfl⟩) (pB_V hKM (vP_r hP) (vD_r hD) (ci := 12) (q0 := 0) rfl rfl) rfl rfl hl.1 rfl (lv_room (Nat.le_of_ble_eq_true rfl)) dL_law_1155 hcs) hS hA hP hD (fun r28 u28 H locs hw28 hP hD hS => ?_)
  obtain ⟨i28, q28, c28, d28⟩ := u28
  have hw28 : True ∧ mInv i28 c28 ∧ (∀ k, k ∉ ([0] : List Nat) → i28 k = jm k) ∧ (∀ k, k ∉ ([1] : List Nat) → c28 k = em k) := hw28
  obtain ⟨hw28, hM, hei28, hec28⟩ := hw28
  have hP : va_P D vwCl (xwT sk a t i14 q14 c14 d14 ++ (Z ++ mW o am tm i28 q28 c28 d28)) H := by rw [← List.append_assoc]; exact hP
  have hD : va_D (fun q : Nat => s.heap.size ≤ q) (xwT sk a t i14 q14 c14 d14 ++ (Z ++ mW o am tm i28 q28 c28 d28)) := by rw [← List.append_assoc]; exact hD
  refine lv_pop hx hb dL_law_1158 rfl ?_
  refine lv_goto (tgt := 1461) hx hb dL_law_1159 (by decide) ?_
  exact kk i14 q14 c14 d14 i28 q28 c28 d28 _ _ _ ⟨hI, (by rw [show c14 113 = c 113 from hec14 113 (by decide), show c14 115 = c 115 from hec14 115 (by decide)]; exact hs_F), (by rw [show i14 146 = i 146 from hei14 146 (by decide), show i14 147 = i 147 from hei14 147 (by decide), show i14 148 = i 148 from hei14 148 (by decide), show i14 156 = i 156 from hei14 156 (by decide), show c14 144 = c 144 from hec14 144 (by decide), show c14 145 = c 145 from hec14 145 (by decide), show c14 150 = c 150 from hec14 150 (by decide)]; exact hs_P), (by rw [show i14 141 = i 141 from hei14 141 (by decide)]; exact htr), hM, (by rw [show c28 3 = em 3 from hec28 3 (by decide), show c28 6 = em 6 from hec28 6 (by decide), show c28 9 = em 9 from hec28 9 (by decide), show c28 10 = em 10 from hec28 10 (by decide), show c28 11 = em 11 from hec28 11 (by decide), show c28 13 = em 13 from hec28 13 (by decide), show i28 2 = jm 2 from hei28 2 (by decide), show i28 5 = jm 5 from hei28 5 (by decide), show i28 8 = jm 8 from hei28 8 (by decide)]; exact hs_S), (by rw [show c28 3 = em 3 from hec28 3 (by decide), show c28 6 = em 6 from hec28 6 (by decide), show c28 23 = em 23 from hec28 23 (by decide), show c28 24 = em 24 from hec28 24 (by decide), show c28 29 = em 29 from hec28 29 (by decide), show c28 30 = em 30 from hec28 30 (by decide), show i28 5 = jm 5 from hei28 5 (by decide), show i28 22 = jm 22 from hei28 22 (by decide), show i28 27 = jm 27 from hei28 27 (by decide)]; exact hs_J), (by rw [show i14 110 = i 110 from hei14 110 (by decide), show i28 2 = jm 2 from hei28 2 (by decide)]; exact hR)⟩ hP hD hS (lv_sub hl [0, 1, 2, 3] rfl)

set_option maxHeartbeats 4000000 in
set_option maxRecDepth 100000 in
theorem law_item {p : Program} {l : Launch} {e : Env} {s : State} {m : MethodId} {below : List Frame} {meth : Method} {cd : Code} {b L : Nat} {xs : Nat → Int32} {D : va_G} {a : Nat → Nat} {t : Nat → ClassId} {o : Nat} {am : Nat → Nat} {tm : Nat → ClassId} {x3 : Int32} {cells slots : Nat} {sk : Value} {Z : va_W} (hx : p.tables.exec = Jvm.exec) (hb : cd.code = cL_law) (hml : cd.maxLocals = 4) (hown : s.vm.findClass RL = some m.cls) (hts : ∀ w ∈ wm_law, w.before #[Value.ref b] s = true) (hX : va_X b L xs s s.heap) (hbl : b < s.heap.size) (hL : L ≤ 3584) (hN : xN s) (hZ : xZ (a 186) s s.heap) (hKT : va_K D vwCl (xtT t) s) (hKM : va_K D vwCl (mT tm) s) (hcs : cells ≤ 600000 ∧ slots ≤ 7302249) (hx3 : 0 ≤ x3.toInt ∧ x3.toInt + 7 ≤ (L : Int)) (kk : LK p l e s m below meth cd b D sk a t Z o am tm x3 cells slots) (i : Nat → Int32) (q : Int64) (c : Nat → Nat → Int32) (d : Nat → Nat → Int64) (jm : Nat → Int32) (qm : Int64) (em : Nat → Nat → Int32) (dm : Nat → Nat → Int64) (H : Heap) (locs : List Loc) (ls : Array Slot) (hLI : LI i c jm em) (hP : va_P D vwCl (xwT sk a t i q c d ++ (Z ++ mW o am tm jm qm em dm)) H) (hD : va_D (fun q : Nat => s.heap.size ≤ q) (xwT sk a t i q c d ++ (Z ++ mW o am tm jm qm em dm))) (hS : va_S (fun q : Nat => s.heap.size ≤ q) s.heap H locs) (hl : lv_has ls 4 [(3, .int x3), (2, .ref o), (1, .ref (a 100)), (0, .ref b)]) : W p l e room_1 s m #[Value.ref b] below meth cd H locs cells slots (lw_Z below #[Value.ref b] s) (F0 m 1162 ls []) := by
  have hbA : ¬ (fun q : Nat => s.heap.size ≤ q) b := Nat.not_le.mpr hbl
  have hA : ∀ q : Nat, s.heap.size ≤ q → (fun q : Nat => s.heap.size ≤ q) q := fun _ h => h
  obtain ⟨hI, hs_F, hs_P, htr, hM, hs_S, hs_J, hR⟩ := hLI
  refine lv_aload_n hx hb dL_law_1162 rfl (lv_at hl 2 rfl) ?_
  refine lv_aload_n hx hb dL_law_1163 rfl (lv_at hl 3 rfl) ?_
  refine lv_iload_n hx hb dL_law_1164 rfl (lv_at hl 0 rfl) ?_
  refine lv_iconst (v := 1) hx hb dL_law_1165 (by decide) ?_
  refine lv_iadd hx hb dL_law_1166 ?_
  refine lv_topi (fun x1 ex1 => ?_)
  have tx1 := ti_add (a := x3.toInt) (b := 1) ex1 rfl (by decide) (by omega) (by omega)
  refine va_sld hx hb hX hbl hbA hS (vp_in_iff.mpr (by have h9 : x1.toInt = (x3.toInt + 1) := tx1; omega)) dL_law_1167 ?_
  refine lv_topi (fun x2 ex2 => ?_)
  refine lv_aload_n hx hb dL_law_1168 rfl (lv_at hl 3 rfl) ?_
  refine lv_iload_n hx hb dL_law_1169 rfl (lv_at hl 0 rfl) ?_
  refine lv_iconst (v := 2) hx hb dL_law_1170 (by decide) ?_
  refine lv_iadd hx hb dL_law_1171 ?_
  refine lv_topi (fun x3 ex3 => ?_)
  have tx3 := ti_add (a := x3.toInt) (b := 2) ex3 rfl (by decide) (by omega) (by omega)
  refine va_sld hx hb hX hbl hbA hS (vp_in_iff.mpr (by have h9 : x3.toInt = (x3.toInt + 2) := tx3; omega)) dL_law_1172 ?_
  refine lv_topi (fun x4 ex4 => ?_)
  refine lv_aload_n hx hb dL_law_1173 rfl (lv_at hl 3 rfl) ?_
  refine lv_iload_n hx hb dL_law_1174 rfl (lv_at hl 0 rfl) ?_
  refine lv_iconst (v := 3) hx hb dL_law_1175 (by decide) ?_
  refine lv_iadd hx hb dL_law_1176 ?_
  refine lv_topi (fun x5 ex5 => ?_)
  have tx5 := ti_add (a := x3.toInt) (b := 3) ex5 rfl (by decide) (by omega) (by omega)
  refine va_sld hx hb hX hbl hbA hS (vp_in_iff.mpr (by have h9 : x5.toInt = (x3.toInt + 3) := tx5; omega)) dL_law_1177 ?_
  refine lv_topi (fun x6 ex6 => ?_)
  refine lc_i (wr := (Z ++ mW o am tm jm qm em dm)) (va_runV (As := [.int x2, .int x4, .int x6]) (rest := []) ⟨hx, hb, hml, hown, hts⟩ (x_X11_item l D H.size sk a t i q c d x2 x4 x6 hI ) (cwV 3 hts gm_law_X11_item_135 rfl rfl rfl (by decide +kernel) ⟨Nat.le_of_ble_eq_true rfl, Nat.le_of_ble_eq_true rfl⟩) (yB_V hN (xZ_k hZ hS hA) (xZ_n hZ (vD_l hD)) hKT (vP_l hP) (vD_l hD) (ci := 11) (q0 := 0) rfl rfl) rfl rfl hl.1 rfl (lv_room (Nat.le_of_ble_eq_true rfl)) dL_law_1178 hcs) hS hA hP hD (fun r7 u7 H locs hw7 _ hP hD hS => ?_)
  obtain ⟨i7, q7, c7, d7⟩ := u7
  have hw7 : True ∧ xInv i7 c7 ∧ (∀ k, k ∉ ([102] : List Nat) → i7 k = i k) ∧ (∀ k, k ∉ ([101] : List Nat) → c7 k = c k) := hw7
  obtain ⟨hw7, hI, hei7, hec7⟩ := hw7
  have hP : va_P D vwCl (xwT sk a t i7 q7 c7 d7 ++ (Z ++ mW o am tm jm qm em dm)) H := hP
  have hD : va_D (fun q : Nat => s.heap.size ≤ q) (xwT sk a t i7 q7 c7 d7 ++ (Z ++ mW o am tm jm qm em dm)) := hD
  refine lv_pop hx hb dL_law_1181 rfl ?_
  refine lv_aload_n hx hb dL_law_1182 rfl (lv_at hl 1 rfl) ?_
  refine lv_aload_n hx hb dL_law_1183 rfl (lv_at hl 3 rfl) ?_
  refine lv_iload_n hx hb dL_law_1184 rfl (lv_at hl 0 rfl) ?_
  refine lv_iconst (v := 1) hx hb dL_law_1185 (by decide) ?_
  refine lv_iadd hx hb dL_law_1186 ?_
  refine lv_topi (fun x8 ex8 => ?_)
  have tx8 := ti_add (a := x3.toInt) (b := 1) ex8 rfl (by decide) (by omega) (by omega)
  refine va_sld hx hb hX hbl hbA hS (vp_in_iff.mpr (by have h9 : x8.toInt = (x3.toInt + 1) := tx8; omega)) dL_law_1187 ?_
  refine lv_topi (fun x9 ex9 => ?_)
  refine lv_aload_n hx hb dL_law_1188 rfl (lv_at hl 3 rfl) ?_
  refine lv_iload_n hx hb dL_law_1189 rfl (lv_at hl 0 rfl) ?_
  refine lv_iconst (v := 2) hx hb dL_law_1190 (by decide) ?_
  refine lv_iadd hx hb dL_law_1191 ?_
  refine lv_topi (fun x10 ex10 => ?_)
  have tx10 := ti_add (a := x3.toInt) (b := 2) ex10 rfl (by decide) (by omega) (by omega)
  refine va_sld hx hb hX hbl hbA hS (vp_in_iff.mpr (by have h9 : x10.toInt = (x3.toInt + 2) := tx10; omega)) dL_law_1192 ?_
  refine lv_topi (fun x11 ex11 => ?_)
  refine lv_aload_n hx hb dL_law_1193 rfl (lv_at hl 3 rfl) ?_
  refine lv_iload_n hx hb dL_law_1194 rfl (lv_at hl 0 rfl) ?_
  refine lv_iconst (v := 3) hx hb dL_law_1195 (by decide) ?_
  refine lv_iadd hx hb dL_law_1196 ?_
  refine lv_topi (fun x12 ex12 => ?_)
  have tx12 := ti_add (a := x3.toInt) (b := 3) ex12 rfl (by decide) (by omega) (by omega)
  refine va_sld hx hb hX hbl hbA hS (vp_in_iff.mpr (by have h9 : x12.toInt = (x3.toInt + 3) := tx12; omega)) dL_law_1197 ?_
  refine lv_topi (fun x13 ex13 => ?_)
  have hP : va_P D vwCl ((xwT sk a t i7 q7 c7 d7 ++ Z) ++ mW o am tm jm qm em dm) H := by rw [List.append_assoc]; exact hP
  have hD : va_D (fun q : Nat => s.heap.size ≤ q) ((xwT sk a t i7 q7 c7 d7 ++ Z) ++ mW o am tm jm qm em dm) := by rw [List.append_assoc]; exact hD
  refine rc_i (wr := (xwT sk a t i7 q7 c7 d7 ++ Z)) (va_runV (As := [.int x9, .int x11, .int x13]) (rest := []) ⟨hx, hb, hml, hown, hts⟩ (s_X12_item l D H.size o am tm jm qm em dm x9 x11 x13 hM ) (cwV 3 hts gm_law_X12_item_138 rfl rfl rfl (by decide +kernel) ⟨Nat.le_of_ble_eq_true rfl, Nat.le_of_ble_eq_true rfl⟩) (pB_V hKM (vP_r hP) (vD_r hD) (ci := 12) (q0 := 0) rfl rfl) rfl rfl hl.1 rfl (lv_room (Nat.le_of_ble_eq_true rfl)) dL_law_1198 hcs) hS hA hP hD (fun r14 u14 H locs hw14 hP hD hS => ?_)
  obtain ⟨i14, q14, c14, d14⟩ := u14
  have hw14 : True ∧ mInv i14 c14 ∧ (∀ k, k ∉ ([0] : List Nat) → i14 k = jm k) ∧ (∀ k, k ∉ ([1] : List Nat) → c14 k = em k) := hw14
  obtain ⟨hw14, hM, hei14, hec14⟩ := hw14
  have hP : va_P D vwCl (xwT sk a t i7 q7 c7 d7 ++ (Z ++ mW o am tm i14 q14 c14 d14)) H := by rw [← List.append_assoc]; exact hP
  have hD : va_D (fun q : Nat => s.heap.size ≤ q) (xwT sk a t i7 q7 c7 d7 ++ (Z ++ mW o am tm i14 q14 c14 d14)) := by rw [← List.append_assoc]; exact hD
  refine lv_pop hx hb dL_law_1201 rfl ?_
  refine lv_goto (tgt := 1461) hx hb dL_law_1202 (by decide) ?_
  exact kk i7 q7 c7 d7 i14 q14 c14 d14 _ _ _ ⟨hI, (by rw [show c7 113 = c 113 from hec7 113 (by decide), show c7 115 = c 115 from hec7 115 (by decide)]; exact hs_F), (by rw [show i7 146 = i 146 from hei7 146 (by decide), show i7 147 = i 147 from hei7 147 (by decide), show i7 148 = i 148 from hei7 148 (by decide), show i7 156 = i 156 from hei7 156 (by decide), show c7 144 = c 144 from hec7 144 (by decide), show c7 145 = c 145 from hec7 145 (by decide), show c7 150 = c 150 from hec7 150 (by decide)]; exact hs_P), (by rw [show i7 141 = i 141 from hei7 141 (by decide)]; exact htr), hM, (by rw [show c14 3 = em 3 from hec14 3 (by decide), show c14 6 = em 6 from hec14 6 (by decide), show c14 9 = em 9 from hec14 9 (by decide), show c14 10 = em 10 from hec14 10 (by decide), show c14 11 = em 11 from hec14 11 (by decide), show c14 13 = em 13 from hec14 13 (by decide), show i14 2 = jm 2 from hei14 2 (by decide), show i14 5 = jm 5 from hei14 5 (by decide), show i14 8 = jm 8 from hei14 8 (by decide)]; exact hs_S), (by rw [show c14 3 = em 3 from hec14 3 (by decide), show c14 6 = em 6 from hec14 6 (by decide), show c14 23 = em 23 from hec14 23 (by decide), show c14 24 = em 24 from hec14 24 (by decide), show c14 29 = em 29 from hec14 29 (by decide), show c14 30 = em 30 from hec14 30 (by decide), show i14 5 = jm 5 from hei14 5 (by decide), show i14 22 = jm 22 from hei14 22 (by decide), show i14 27 = jm 27 from hei14 27 (by decide)]; exact hs_J), (by rw [show i7 110 = i 110 from hei7 110 (by decide), show i14 2 = jm 2 from hei14 2 (by decide)]; exact hR)⟩ hP hD hS (lv_sub hl [0, 1, 2, 3] rfl)

