set_option maxHeartbeats 4000000 in
set_option maxRecDepth 100000 in
theorem law_back {p : Program} {l : Launch} {e : Env} {s : State} {m : MethodId} {below : List Frame} {meth : Method} {c : Code} {b : Nat} {xs : Nat → Int32} (D : va_G) (x0 : Nat) (wo : Nat) (bo : Nat) (ro_ : Nat) (bu : Nat) (ta : Nat) (li : Nat) (ca : Nat) (fc : Nat) (t0 : Nat) (t1 : Nat) (t2 : Nat) (t3 : Nat) (t4 : Nat) (t5 : Nat) (t6 : Nat) (m0 : Nat) (g1 : Nat) (g3 : Nat) (g4 : Nat) (g6 : Nat) (g7 : Nat) (g9 : Nat) (g10 : Nat) (g11 : Nat) (g12 : Nat) (g13 : Nat) (g14 : Nat) (g20 : Nat) (g21 : Nat) (g23 : Nat) (g24 : Nat) (g25 : Nat) (g26 : Nat) (g28 : Nat) (g29 : Nat) (g30 : Nat) (g31 : Nat) (g32 : Nat) (g34 : Nat) (g38 : Nat) (g39 : Nat) (g43 : Nat) (g44 : Nat) (g45 : Nat) (g46 : Nat) (g47 : Nat) (g48 : Nat) (g49 : Nat) (g51 : Nat) (g52 : Nat) (g53 : Nat) (g54 : Nat) (g55 : Nat) (g56 : Nat) (g60 : Nat) (g61 : Nat) (g62 : Nat) (g63 : Nat) (g65 : Nat) (g66 : Nat) (g67 : Nat) (g68 : Nat) (hx : p.tables.exec = Jvm.exec) (hb : c.code = cL_law) (hr : meth.sig.returnType = ret) (hlocks : meth.locks = false) (hml : c.maxLocals = 4) (hown : s.vm.findClass RL = some m.cls) (hts : ∀ w ∈ wm_law, w.before #[Value.ref b] s = true) (hX : va_X b 7 xs s s.heap) (hbl : b < s.heap.size) (hK : va_K D vwCl [] s) (H : Heap) (locs : List Loc) (ls : Array Slot) (hP : va_P D vwCl [(x0, .inr (11, [.ref wo, .ref bo, .ref ro_, .ref bu, .ref ta, .ref li, .ref ca, .null, .ref fc, .int 0, .long 0])), (ta, .inr (9, [.ref wo, .ref t0, .ref t1, .ref t2, .ref t3, .ref t4, .ref t5, .ref t6, .int 0, .int (-9), .int 0])), (m0, .inr (12, [.int 0, .ref g1, .int 6, .ref g3, .ref g4, .int 0, .ref g6, .ref g7, .int 0, .ref g9, .ref g10, .ref g11, .ref g12, .ref g13, .ref g14, .int 0, .int 0, .int 0, .int 0, .int 0, .ref g20, .ref g21, .int (-9), .ref g23, .ref g24, .ref g25, .ref g26, .int 0, .ref g28, .ref g29, .ref g30, .ref g31, .ref g32, .int 0, .ref g34, .int 0, .int 0, .long 0, .ref g38, .ref g39, .int 0, .int 0, .int 0, .ref g43, .ref g44, .ref g45, .ref g46, .ref g47, .ref g48, .ref g49, .int 0, .ref g51, .ref g52, .ref g53, .ref g54, .ref g55, .ref g56, .int (-9), .int 0, .int 0, .ref g60, .ref g61, .ref g62, .ref g63, .int 0, .ref g65, .ref g66, .ref g67, .ref g68]))] H) (hD : va_D (fun q : Nat => s.heap.size ≤ q) [(x0, .inr (11, [.ref wo, .ref bo, .ref ro_, .ref bu, .ref ta, .ref li, .ref ca, .null, .ref fc, .int 0, .long 0])), (ta, .inr (9, [.ref wo, .ref t0, .ref t1, .ref t2, .ref t3, .ref t4, .ref t5, .ref t6, .int 0, .int (-9), .int 0])), (m0, .inr (12, [.int 0, .ref g1, .int 6, .ref g3, .ref g4, .int 0, .ref g6, .ref g7, .int 0, .ref g9, .ref g10, .ref g11, .ref g12, .ref g13, .ref g14, .int 0, .int 0, .int 0, .int 0, .int 0, .ref g20, .ref g21, .int (-9), .ref g23, .ref g24, .ref g25, .ref g26, .int 0, .ref g28, .ref g29, .ref g30, .ref g31, .ref g32, .int 0, .ref g34, .int 0, .int 0, .long 0, .ref g38, .ref g39, .int 0, .int 0, .int 0, .ref g43, .ref g44, .ref g45, .ref g46, .ref g47, .ref g48, .ref g49, .int 0, .ref g51, .ref g52, .ref g53, .ref g54, .ref g55, .ref g56, .int (-9), .int 0, .int 0, .ref g60, .ref g61, .ref g62, .ref g63, .int 0, .ref g65, .ref g66, .ref g67, .ref g68]))]) (hS : va_S (fun q : Nat => s.heap.size ≤ q) s.heap H locs) (hl : lv_has ls 4 [(3, .int 0), (2, .ref m0), (1, .ref x0), (0, .ref b)]) : W p l e room_1 s m #[Value.ref b] below meth c H locs 98 48488 (lw_Z below #[Value.ref b] s) (F0 m 869 ls []) := by
  have hbA : ¬ (fun q : Nat => s.heap.size ≤ q) b := Nat.not_le.mpr hbl
  have hA : ∀ q : Nat, s.heap.size ≤ q → (fun q : Nat => s.heap.size ≤ q) q := fun _ h => h
  refine lv_aload_n hx hb dL_law_869 rfl (lv_at hl 2 rfl) ?_
  have hPc := hP.sub (ws' := [(x0, .inr (11, [.ref wo, .ref bo, .ref ro_, .ref bu, .ref ta, .ref li, .ref ca, .null, .ref fc, .int 0, .long 0])), (ta, .inr (9, [.ref wo, .ref t0, .ref t1, .ref t2, .ref t3, .ref t4, .ref t5, .ref t6, .int 0, .int (-9), .int 0]))]) [0, 1] rfl
  have hKc := hK.sub (tys' := []) [] rfl
  refine ro_calli (va_runV (As := []) (rest := []) ⟨hx, hb, hml, hown, hts⟩ (c_X11_back l D H.size x0 wo bo ro_ bu ta li ca fc t0 t1 t2 t3 t4 t5 t6) (cwV 0 hts gm_L_law_X11_back rfl rfl rfl (by decide +kernel) ⟨Nat.le_of_ble_eq_true rfl, Nat.le_of_ble_eq_true rfl⟩) (pA_V hKc hPc (ci := 11) (q0 := 0) rfl rfl) rfl rfl hl.1 rfl (lv_room (Nat.le_of_ble_eq_true rfl)) dL_law_870 ⟨Nat.le_of_ble_eq_true rfl, Nat.le_of_ble_eq_true rfl⟩) hS hA hP (fun r1 u1 H locs hw1 hP hS => ?_)
  have hw1 : r1 = (-5) := hw1
  subst hw1
  refine lv_aload_n hx hb dL_law_873 rfl (lv_at hl 1 rfl) ?_
  have hPc := hP.sub (ws' := [(m0, .inr (12, [.int 0, .ref g1, .int 6, .ref g3, .ref g4, .int 0, .ref g6, .ref g7, .int 0, .ref g9, .ref g10, .ref g11, .ref g12, .ref g13, .ref g14, .int 0, .int 0, .int 0, .int 0, .int 0, .ref g20, .ref g21, .int (-9), .ref g23, .ref g24, .ref g25, .ref g26, .int 0, .ref g28, .ref g29, .ref g30, .ref g31, .ref g32, .int 0, .ref g34, .int 0, .int 0, .long 0, .ref g38, .ref g39, .int 0, .int 0, .int 0, .ref g43, .ref g44, .ref g45, .ref g46, .ref g47, .ref g48, .ref g49, .int 0, .ref g51, .ref g52, .ref g53, .ref g54, .ref g55, .ref g56, .int (-9), .int 0, .int 0, .ref g60, .ref g61, .ref g62, .ref g63, .int 0, .ref g65, .ref g66, .ref g67, .ref g68]))]) [2] rfl
  have hKc := hK.sub (tys' := []) [] rfl
  refine ro_calli (va_runV (As := []) (rest := [.int (-5)]) ⟨hx, hb, hml, hown, hts⟩ (c_X12_back l D H.size m0 g1 g3 g4 g6 g7 g9 g10 g11 g12 g13 g14 g20 g21 g23 g24 g25 g26 g28 g29 g30 g31 g32 g34 g38 g39 g43 g44 g45 g46 g47 g48 g49 g51 g52 g53 g54 g55 g56 g60 g61 g62 g63 g65 g66 g67 g68) (cwV 0 hts gm_L_law_X12_back rfl rfl rfl (by decide +kernel) ⟨Nat.le_of_ble_eq_true rfl, Nat.le_of_ble_eq_true rfl⟩) (pA_V hKc hPc (ci := 12) (q0 := 0) rfl rfl) rfl rfl hl.1 rfl (lv_room (Nat.le_of_ble_eq_true rfl)) dL_law_874 ⟨Nat.le_of_ble_eq_true rfl, Nat.le_of_ble_eq_true rfl⟩) hS hA hP (fun r2 u2 H locs hw2 hP hS => ?_)
  have hw2 : r2 = (-5) := hw2
  subst hw2
  refine lv_icmp_eq (tgt := 1463) hx hb dL_law_877 (by decide) (fun _ => ?_) (fun q9 => absurd (by decide) q9)
  exact law_tail hx hb hr hlocks hX hbl hS hl (Nat.le_of_ble_eq_true rfl) (Nat.le_of_ble_eq_true rfl)

set_option maxHeartbeats 4000000 in
set_option maxRecDepth 100000 in
theorem law_now {p : Program} {l : Launch} {e : Env} {s : State} {m : MethodId} {below : List Frame} {meth : Method} {c : Code} {b : Nat} {xs : Nat → Int32} (D : va_G) (x0 : Nat) (wo : Nat) (bo : Nat) (ro_ : Nat) (bu : Nat) (ta : Nat) (li : Nat) (ca : Nat) (fc : Nat) (wp : Nat) (ws_ : Nat) (wd : Nat) (wk : Nat) (wz : Nat) (m0 : Nat) (g1 : Nat) (g3 : Nat) (g4 : Nat) (g6 : Nat) (g7 : Nat) (g9 : Nat) (g10 : Nat) (g11 : Nat) (g12 : Nat) (g13 : Nat) (g14 : Nat) (g20 : Nat) (g21 : Nat) (g23 : Nat) (g24 : Nat) (g25 : Nat) (g26 : Nat) (g28 : Nat) (g29 : Nat) (g30 : Nat) (g31 : Nat) (g32 : Nat) (g34 : Nat) (g38 : Nat) (g39 : Nat) (g43 : Nat) (g44 : Nat) (g45 : Nat) (g46 : Nat) (g47 : Nat) (g48 : Nat) (g49 : Nat) (g51 : Nat) (g52 : Nat) (g53 : Nat) (g54 : Nat) (g55 : Nat) (g56 : Nat) (g60 : Nat) (g61 : Nat) (g62 : Nat) (g63 : Nat) (g65 : Nat) (g66 : Nat) (g67 : Nat) (g68 : Nat) (hx : p.tables.exec = Jvm.exec) (hb : c.code = cL_law) (hr : meth.sig.returnType = ret) (hlocks : meth.locks = false) (hml : c.maxLocals = 4) (hown : s.vm.findClass RL = some m.cls) (hts : ∀ w ∈ wm_law, w.before #[Value.ref b] s = true) (hX : va_X b 7 xs s s.heap) (hbl : b < s.heap.size) (hK : va_K D vwCl [] s) (H : Heap) (locs : List Loc) (ls : Array Slot) (hP : va_P D vwCl [(x0, .inr (11, [.ref wo, .ref bo, .ref ro_, .ref bu, .ref ta, .ref li, .ref ca, .null, .ref fc, .int 0, .long 0])), (wo, .inr (10, [.ref wp, .ref ws_, .ref wd, .ref wk, .ref wz, .int 6, .int 0])), (m0, .inr (12, [.int 0, .ref g1, .int 6, .ref g3, .ref g4, .int 0, .ref g6, .ref g7, .int 0, .ref g9, .ref g10, .ref g11, .ref g12, .ref g13, .ref g14, .int 0, .int 0, .int 0, .int 0, .int 0, .ref g20, .ref g21, .int (-9), .ref g23, .ref g24, .ref g25, .ref g26, .int 0, .ref g28, .ref g29, .ref g30, .ref g31, .ref g32, .int 0, .ref g34, .int 0, .int 0, .long 0, .ref g38, .ref g39, .int 0, .int 0, .int 0, .ref g43, .ref g44, .ref g45, .ref g46, .ref g47, .ref g48, .ref g49, .int 0, .ref g51, .ref g52, .ref g53, .ref g54, .ref g55, .ref g56, .int (-9), .int 0, .int 0, .ref g60, .ref g61, .ref g62, .ref g63, .int 0, .ref g65, .ref g66, .ref g67, .ref g68]))] H) (hD : va_D (fun q : Nat => s.heap.size ≤ q) [(x0, .inr (11, [.ref wo, .ref bo, .ref ro_, .ref bu, .ref ta, .ref li, .ref ca, .null, .ref fc, .int 0, .long 0])), (wo, .inr (10, [.ref wp, .ref ws_, .ref wd, .ref wk, .ref wz, .int 6, .int 0])), (m0, .inr (12, [.int 0, .ref g1, .int 6, .ref g3, .ref g4, .int 0, .ref g6, .ref g7, .int 0, .ref g9, .ref g10, .ref g11, .ref g12, .ref g13, .ref g14, .int 0, .int 0, .int 0, .int 0, .int 0, .ref g20, .ref g21, .int (-9), .ref g23, .ref g24, .ref g25, .ref g26, .int 0, .ref g28, .ref g29, .ref g30, .ref g31, .ref g32, .int 0, .ref g34, .int 0, .int 0, .long 0, .ref g38, .ref g39, .int 0, .int 0, .int 0, .ref g43, .ref g44, .ref g45, .ref g46, .ref g47, .ref g48, .ref g49, .int 0, .ref g51, .ref g52, .ref g53, .ref g54, .ref g55, .ref g56, .int (-9), .int 0, .int 0, .ref g60, .ref g61, .ref g62, .ref g63, .int 0, .ref g65, .ref g66, .ref g67, .ref g68]))]) (hS : va_S (fun q : Nat => s.heap.size ≤ q) s.heap H locs) (hl : lv_has ls 4 [(3, .int 0), (2, .ref m0), (1, .ref x0), (0, .ref b)]) : W p l e room_1 s m #[Value.ref b] below meth c H locs 98 48488 (lw_Z below #[Value.ref b] s) (F0 m 882 ls []) := by
  have hbA : ¬ (fun q : Nat => s.heap.size ≤ q) b := Nat.not_le.mpr hbl
  have hA : ∀ q : Nat, s.heap.size ≤ q → (fun q : Nat => s.heap.size ≤ q) q := fun _ h => h
  refine lv_aload_n hx hb dL_law_882 rfl (lv_at hl 2 rfl) ?_
  refine lv_aload_n hx hb dL_law_883 rfl (lv_at hl 3 rfl) ?_
  refine lv_iload_n hx hb dL_law_884 rfl (lv_at hl 0 rfl) ?_
  refine lv_iconst (v := 1) hx hb dL_law_885 (by decide) ?_
  refine lv_iadd hx hb dL_law_886 ?_
  refine tp_i (y := 1) (by decide) ?_
  refine va_sld hx hb hX hbl hbA hS (show vp_in 1 7 from by unfold vp_in; decide) dL_law_887 ?_
  refine tp_i (y := xs 1) rfl ?_
  refine lv_aload_n hx hb dL_law_888 rfl (lv_at hl 3 rfl) ?_
  refine lv_iload_n hx hb dL_law_889 rfl (lv_at hl 0 rfl) ?_
  refine lv_iconst (v := 2) hx hb dL_law_890 (by decide) ?_
  refine lv_iadd hx hb dL_law_891 ?_
  refine tp_i (y := 2) (by decide) ?_
  refine va_sld hx hb hX hbl hbA hS (show vp_in 2 7 from by unfold vp_in; decide) dL_law_892 ?_
  refine tp_i (y := xs 2) rfl ?_
  have hPc := hP.sub (ws' := [(x0, .inr (11, [.ref wo, .ref bo, .ref ro_, .ref bu, .ref ta, .ref li, .ref ca, .null, .ref fc, .int 0, .long 0])), (wo, .inr (10, [.ref wp, .ref ws_, .ref wd, .ref wk, .ref wz, .int 6, .int 0]))]) [0, 1] rfl
  have hKc := hK.sub (tys' := []) [] rfl
  refine ro_calli (va_runV (As := [.int (xs 1), .int (xs 2)]) (rest := []) ⟨hx, hb, hml, hown, hts⟩ (c_X11_now l D H.size x0 wo bo ro_ bu ta li ca fc wp ws_ wd wk wz (xs 1) (xs 2)) (cwV 2 hts gm_L_law_X11_now rfl rfl rfl (by decide +kernel) ⟨Nat.le_of_ble_eq_true rfl, Nat.le_of_ble_eq_true rfl⟩) (pA_V hKc hPc (ci := 11) (q0 := 0) rfl rfl) rfl rfl hl.1 rfl (lv_room (Nat.le_of_ble_eq_true rfl)) dL_law_893 ⟨Nat.le_of_ble_eq_true rfl, Nat.le_of_ble_eq_true rfl⟩) hS hA hP (fun r1 u1 H locs hw1 hP hS => ?_)
  have hw1 : r1 = (-1) := hw1
  subst hw1
  refine lv_aload_n hx hb dL_law_896 rfl (lv_at hl 1 rfl) ?_
  refine lv_aload_n hx hb dL_law_897 rfl (lv_at hl 3 rfl) ?_
  refine lv_iload_n hx hb dL_law_898 rfl (lv_at hl 0 rfl) ?_
  refine lv_iconst (v := 1) hx hb dL_law_899 (by decide) ?_
  refine lv_iadd hx hb dL_law_900 ?_
  refine tp_i (y := 1) (by decide) ?_
  refine va_sld hx hb hX hbl hbA hS (show vp_in 1 7 from by unfold vp_in; decide) dL_law_901 ?_
  refine tp_i (y := xs 1) rfl ?_
  refine lv_aload_n hx hb dL_law_902 rfl (lv_at hl 3 rfl) ?_
  refine lv_iload_n hx hb dL_law_903 rfl (lv_at hl 0 rfl) ?_
  refine lv_iconst (v := 2) hx hb dL_law_904 (by decide) ?_
  refine lv_iadd hx hb dL_law_905 ?_
  refine tp_i (y := 2) (by decide) ?_
  refine va_sld hx hb hX hbl hbA hS (show vp_in 2 7 from by unfold vp_in; decide) dL_law_906 ?_
  refine tp_i (y := xs 2) rfl ?_
  have hPc := hP.sub (ws' := [(m0, .inr (12, [.int 0, .ref g1, .int 6, .ref g3, .ref g4, .int 0, .ref g6, .ref g7, .int 0, .ref g9, .ref g10, .ref g11, .ref g12, .ref g13, .ref g14, .int 0, .int 0, .int 0, .int 0, .int 0, .ref g20, .ref g21, .int (-9), .ref g23, .ref g24, .ref g25, .ref g26, .int 0, .ref g28, .ref g29, .ref g30, .ref g31, .ref g32, .int 0, .ref g34, .int 0, .int 0, .long 0, .ref g38, .ref g39, .int 0, .int 0, .int 0, .ref g43, .ref g44, .ref g45, .ref g46, .ref g47, .ref g48, .ref g49, .int 0, .ref g51, .ref g52, .ref g53, .ref g54, .ref g55, .ref g56, .int (-9), .int 0, .int 0, .ref g60, .ref g61, .ref g62, .ref g63, .int 0, .ref g65, .ref g66, .ref g67, .ref g68]))]) [2] rfl
  have hKc := hK.sub (tys' := []) [] rfl
  refine ro_calli (va_runV (As := [.int (xs 1), .int (xs 2)]) (rest := [.int (-1)]) ⟨hx, hb, hml, hown, hts⟩ (c_X12_now l D H.size m0 g1 g3 g4 g6 g7 g9 g10 g11 g12 g13 g14 g20 g21 g23 g24 g25 g26 g28 g29 g30 g31 g32 g34 g38 g39 g43 g44 g45 g46 g47 g48 g49 g51 g52 g53 g54 g55 g56 g60 g61 g62 g63 g65 g66 g67 g68 (xs 1) (xs 2)) (cwV 2 hts gm_L_law_X12_now rfl rfl rfl (by decide +kernel) ⟨Nat.le_of_ble_eq_true rfl, Nat.le_of_ble_eq_true rfl⟩) (pA_V hKc hPc (ci := 12) (q0 := 0) rfl rfl) rfl rfl hl.1 rfl (lv_room (Nat.le_of_ble_eq_true rfl)) dL_law_907 ⟨Nat.le_of_ble_eq_true rfl, Nat.le_of_ble_eq_true rfl⟩) hS hA hP (fun r2 u2 H locs hw2 hP hS => ?_)
  have hw2 : r2 = (-1) := hw2
  subst hw2
  refine lv_icmp_eq (tgt := 1463) hx hb dL_law_910 (by decide) (fun _ => ?_) (fun q9 => absurd (by decide) q9)
  exact law_tail hx hb hr hlocks hX hbl hS hl (Nat.le_of_ble_eq_true rfl) (Nat.le_of_ble_eq_true rfl)

set_option maxHeartbeats 4000000 in
set_option maxRecDepth 100000 in
theorem law_turn {p : Program} {l : Launch} {e : Env} {s : State} {m : MethodId} {below : List Frame} {meth : Method} {c : Code} {b : Nat} {xs : Nat → Int32} (D : va_G) (x0 : Nat) (wo : Nat) (bo : Nat) (ro_ : Nat) (bu : Nat) (ta : Nat) (li : Nat) (ca : Nat) (fc : Nat) (t0 : Nat) (t1 : Nat) (t2 : Nat) (t3 : Nat) (t4 : Nat) (t5 : Nat) (t6 : Nat) (m0 : Nat) (g1 : Nat) (g3 : Nat) (g4 : Nat) (g6 : Nat) (g7 : Nat) (g9 : Nat) (g10 : Nat) (g11 : Nat) (g12 : Nat) (g13 : Nat) (g14 : Nat) (g20 : Nat) (g21 : Nat) (g23 : Nat) (g24 : Nat) (g25 : Nat) (g26 : Nat) (g28 : Nat) (g29 : Nat) (g30 : Nat) (g31 : Nat) (g32 : Nat) (g34 : Nat) (g38 : Nat) (g39 : Nat) (g43 : Nat) (g44 : Nat) (g45 : Nat) (g46 : Nat) (g47 : Nat) (g48 : Nat) (g49 : Nat) (g51 : Nat) (g52 : Nat) (g53 : Nat) (g54 : Nat) (g55 : Nat) (g56 : Nat) (g60 : Nat) (g61 : Nat) (g62 : Nat) (g63 : Nat) (g65 : Nat) (g66 : Nat) (g67 : Nat) (g68 : Nat) (hx : p.tables.exec = Jvm.exec) (hb : c.code = cL_law) (hr : meth.sig.returnType = ret) (hlocks : meth.locks = false) (hml : c.maxLocals = 4) (hown : s.vm.findClass RL = some m.cls) (hts : ∀ w ∈ wm_law, w.before #[Value.ref b] s = true) (hX : va_X b 7 xs s s.heap) (hbl : b < s.heap.size) (hK : va_K D vwCl [] s) (H : Heap) (locs : List Loc) (ls : Array Slot) (hP : va_P D vwCl [(x0, .inr (11, [.ref wo, .ref bo, .ref ro_, .ref bu, .ref ta, .ref li, .ref ca, .null, .ref fc, .int 0, .long 0])), (ta, .inr (9, [.ref wo, .ref t0, .ref t1, .ref t2, .ref t3, .ref t4, .ref t5, .ref t6, .int 0, .int (-9), .int 0])), (m0, .inr (12, [.int 0, .ref g1, .int 6, .ref g3, .ref g4, .int 0, .ref g6, .ref g7, .int 0, .ref g9, .ref g10, .ref g11, .ref g12, .ref g13, .ref g14, .int 0, .int 0, .int 0, .int 0, .int 0, .ref g20, .ref g21, .int (-9), .ref g23, .ref g24, .ref g25, .ref g26, .int 0, .ref g28, .ref g29, .ref g30, .ref g31, .ref g32, .int 0, .ref g34, .int 0, .int 0, .long 0, .ref g38, .ref g39, .int 0, .int 0, .int 0, .ref g43, .ref g44, .ref g45, .ref g46, .ref g47, .ref g48, .ref g49, .int 0, .ref g51, .ref g52, .ref g53, .ref g54, .ref g55, .ref g56, .int (-9), .int 0, .int 0, .ref g60, .ref g61, .ref g62, .ref g63, .int 0, .ref g65, .ref g66, .ref g67, .ref g68]))] H) (hD : va_D (fun q : Nat => s.heap.size ≤ q) [(x0, .inr (11, [.ref wo, .ref bo, .ref ro_, .ref bu, .ref ta, .ref li, .ref ca, .null, .ref fc, .int 0, .long 0])), (ta, .inr (9, [.ref wo, .ref t0, .ref t1, .ref t2, .ref t3, .ref t4, .ref t5, .ref t6, .int 0, .int (-9), .int 0])), (m0, .inr (12, [.int 0, .ref g1, .int 6, .ref g3, .ref g4, .int 0, .ref g6, .ref g7, .int 0, .ref g9, .ref g10, .ref g11, .ref g12, .ref g13, .ref g14, .int 0, .int 0, .int 0, .int 0, .int 0, .ref g20, .ref g21, .int (-9), .ref g23, .ref g24, .ref g25, .ref g26, .int 0, .ref g28, .ref g29, .ref g30, .ref g31, .ref g32, .int 0, .ref g34, .int 0, .int 0, .long 0, .ref g38, .ref g39, .int 0, .int 0, .int 0, .ref g43, .ref g44, .ref g45, .ref g46, .ref g47, .ref g48, .ref g49, .int 0, .ref g51, .ref g52, .ref g53, .ref g54, .ref g55, .ref g56, .int (-9), .int 0, .int 0, .ref g60, .ref g61, .ref g62, .ref g63, .int 0, .ref g65, .ref g66, .ref g67, .ref g68]))]) (hS : va_S (fun q : Nat => s.heap.size ≤ q) s.heap H locs) (hl : lv_has ls 4 [(3, .int 0), (2, .ref m0), (1, .ref x0), (0, .ref b)]) : W p l e room_1 s m #[Value.ref b] below meth c H locs 98 48488 (lw_Z below #[Value.ref b] s) (F0 m 915 ls []) := by
  have hbA : ¬ (fun q : Nat => s.heap.size ≤ q) b := Nat.not_le.mpr hbl
  have hA : ∀ q : Nat, s.heap.size ≤ q → (fun q : Nat => s.heap.size ≤ q) q := fun _ h => h
  refine lv_aload_n hx hb dL_law_915 rfl (lv_at hl 2 rfl) ?_
  refine lv_aload_n hx hb dL_law_916 rfl (lv_at hl 3 rfl) ?_
  refine lv_iload_n hx hb dL_law_917 rfl (lv_at hl 0 rfl) ?_
  refine lv_iconst (v := 1) hx hb dL_law_918 (by decide) ?_
  refine lv_iadd hx hb dL_law_919 ?_
  refine tp_i (y := 1) (by decide) ?_
  refine va_sld hx hb hX hbl hbA hS (show vp_in 1 7 from by unfold vp_in; decide) dL_law_920 ?_
  refine tp_i (y := xs 1) rfl ?_
  refine lv_aload_n hx hb dL_law_921 rfl (lv_at hl 3 rfl) ?_
  refine lv_iload_n hx hb dL_law_922 rfl (lv_at hl 0 rfl) ?_
  refine lv_iconst (v := 2) hx hb dL_law_923 (by decide) ?_
  refine lv_iadd hx hb dL_law_924 ?_
  refine tp_i (y := 2) (by decide) ?_
  refine va_sld hx hb hX hbl hbA hS (show vp_in 2 7 from by unfold vp_in; decide) dL_law_925 ?_
  refine tp_i (y := xs 2) rfl ?_
  have hPc := hP.sub (ws' := [(x0, .inr (11, [.ref wo, .ref bo, .ref ro_, .ref bu, .ref ta, .ref li, .ref ca, .null, .ref fc, .int 0, .long 0])), (ta, .inr (9, [.ref wo, .ref t0, .ref t1, .ref t2, .ref t3, .ref t4, .ref t5, .ref t6, .int 0, .int (-9), .int 0]))]) [0, 1] rfl
  have hKc := hK.sub (tys' := []) [] rfl
  refine ro_calli (va_runV (As := [.int (xs 1), .int (xs 2)]) (rest := []) ⟨hx, hb, hml, hown, hts⟩ (c_X11_turn l D H.size x0 wo bo ro_ bu ta li ca fc t0 t1 t2 t3 t4 t5 t6 (xs 1) (xs 2)) (cwV 2 hts gm_L_law_X11_turn rfl rfl rfl (by decide +kernel) ⟨Nat.le_of_ble_eq_true rfl, Nat.le_of_ble_eq_true rfl⟩) (pA_V hKc hPc (ci := 11) (q0 := 0) rfl rfl) rfl rfl hl.1 rfl (lv_room (Nat.le_of_ble_eq_true rfl)) dL_law_926 ⟨Nat.le_of_ble_eq_true rfl, Nat.le_of_ble_eq_true rfl⟩) hS hA hP (fun r1 u1 H locs hw1 hP hS => ?_)
  have hw1 : r1 = if (0 ≤ (xs 1).toInt ∧ 0 ≤ (xs 2).toInt ∧ (xs 2).toInt < 3) then -5 else -1 := hw1
  refine lv_aload_n hx hb dL_law_929 rfl (lv_at hl 1 rfl) ?_
  refine lv_aload_n hx hb dL_law_930 rfl (lv_at hl 3 rfl) ?_
  refine lv_iload_n hx hb dL_law_931 rfl (lv_at hl 0 rfl) ?_
  refine lv_iconst (v := 1) hx hb dL_law_932 (by decide) ?_
  refine lv_iadd hx hb dL_law_933 ?_
  refine tp_i (y := 1) (by decide) ?_
  refine va_sld hx hb hX hbl hbA hS (show vp_in 1 7 from by unfold vp_in; decide) dL_law_934 ?_
  refine tp_i (y := xs 1) rfl ?_
  refine lv_aload_n hx hb dL_law_935 rfl (lv_at hl 3 rfl) ?_
  refine lv_iload_n hx hb dL_law_936 rfl (lv_at hl 0 rfl) ?_
  refine lv_iconst (v := 2) hx hb dL_law_937 (by decide) ?_
  refine lv_iadd hx hb dL_law_938 ?_
  refine tp_i (y := 2) (by decide) ?_
  refine va_sld hx hb hX hbl hbA hS (show vp_in 2 7 from by unfold vp_in; decide) dL_law_939 ?_
  refine tp_i (y := xs 2) rfl ?_
  have hPc := hP.sub (ws' := [(m0, .inr (12, [.int 0, .ref g1, .int 6, .ref g3, .ref g4, .int 0, .ref g6, .ref g7, .int 0, .ref g9, .ref g10, .ref g11, .ref g12, .ref g13, .ref g14, .int 0, .int 0, .int 0, .int 0, .int 0, .ref g20, .ref g21, .int (-9), .ref g23, .ref g24, .ref g25, .ref g26, .int 0, .ref g28, .ref g29, .ref g30, .ref g31, .ref g32, .int 0, .ref g34, .int 0, .int 0, .long 0, .ref g38, .ref g39, .int 0, .int 0, .int 0, .ref g43, .ref g44, .ref g45, .ref g46, .ref g47, .ref g48, .ref g49, .int 0, .ref g51, .ref g52, .ref g53, .ref g54, .ref g55, .ref g56, .int (-9), .int 0, .int 0, .ref g60, .ref g61, .ref g62, .ref g63, .int 0, .ref g65, .ref g66, .ref g67, .ref g68]))]) [2] rfl
  have hKc := hK.sub (tys' := []) [] rfl
  refine ro_calli (va_runV (As := [.int (xs 1), .int (xs 2)]) (rest := [.int r1]) ⟨hx, hb, hml, hown, hts⟩ (c_X12_turn l D H.size m0 g1 g3 g4 g6 g7 g9 g10 g11 g12 g13 g14 g20 g21 g23 g24 g25 g26 g28 g29 g30 g31 g32 g34 g38 g39 g43 g44 g45 g46 g47 g48 g49 g51 g52 g53 g54 g55 g56 g60 g61 g62 g63 g65 g66 g67 g68 (xs 1) (xs 2)) (cwV 2 hts gm_L_law_X12_turn rfl rfl rfl (by decide +kernel) ⟨Nat.le_of_ble_eq_true rfl, Nat.le_of_ble_eq_true rfl⟩) (pA_V hKc hPc (ci := 12) (q0 := 0) rfl rfl) rfl rfl hl.1 rfl (lv_room (Nat.le_of_ble_eq_true rfl)) dL_law_940 ⟨Nat.le_of_ble_eq_true rfl, Nat.le_of_ble_eq_true rfl⟩) hS hA hP (fun r2 u2 H locs hw2 hP hS => ?_)
  have hw2 : r2 = if (0 ≤ (xs 1).toInt ∧ 0 ≤ (xs 2).toInt ∧ (xs 2).toInt < 3) then -5 else -1 := hw2
  refine lv_icmp_eq (tgt := 1463) hx hb dL_law_943 (by decide) (fun _ => ?_) (fun q9 => absurd (by rw [hw1, hw2]) q9)
  exact law_tail hx hb hr hlocks hX hbl hS hl (Nat.le_of_ble_eq_true rfl) (Nat.le_of_ble_eq_true rfl)

set_option maxHeartbeats 4000000 in
set_option maxRecDepth 100000 in
theorem law_light {p : Program} {l : Launch} {e : Env} {s : State} {m : MethodId} {below : List Frame} {meth : Method} {c : Code} {b : Nat} {xs : Nat → Int32} (D : va_G) (x0 : Nat) (wo : Nat) (bo : Nat) (ro_ : Nat) (bu : Nat) (ta : Nat) (li : Nat) (ca : Nat) (fc : Nat) (t0 : Nat) (t1 : Nat) (t2 : Nat) (t3 : Nat) (t4 : Nat) (t5 : Nat) (t6 : Nat) (m0 : Nat) (g1 : Nat) (g3 : Nat) (g4 : Nat) (g6 : Nat) (g7 : Nat) (g9 : Nat) (g10 : Nat) (g11 : Nat) (g12 : Nat) (g13 : Nat) (g14 : Nat) (g20 : Nat) (g21 : Nat) (g23 : Nat) (g24 : Nat) (g25 : Nat) (g26 : Nat) (g28 : Nat) (g29 : Nat) (g30 : Nat) (g31 : Nat) (g32 : Nat) (g34 : Nat) (g38 : Nat) (g39 : Nat) (g43 : Nat) (g44 : Nat) (g45 : Nat) (g46 : Nat) (g47 : Nat) (g48 : Nat) (g49 : Nat) (g51 : Nat) (g52 : Nat) (g53 : Nat) (g54 : Nat) (g55 : Nat) (g56 : Nat) (g60 : Nat) (g61 : Nat) (g62 : Nat) (g63 : Nat) (g65 : Nat) (g66 : Nat) (g67 : Nat) (g68 : Nat) (hx : p.tables.exec = Jvm.exec) (hb : c.code = cL_law) (hr : meth.sig.returnType = ret) (hlocks : meth.locks = false) (hml : c.maxLocals = 4) (hown : s.vm.findClass RL = some m.cls) (hts : ∀ w ∈ wm_law, w.before #[Value.ref b] s = true) (hX : va_X b 7 xs s s.heap) (hbl : b < s.heap.size) (hK : va_K D vwCl [] s) (H : Heap) (locs : List Loc) (ls : Array Slot) (hP : va_P D vwCl [(x0, .inr (11, [.ref wo, .ref bo, .ref ro_, .ref bu, .ref ta, .ref li, .ref ca, .null, .ref fc, .int 0, .long 0])), (ta, .inr (9, [.ref wo, .ref t0, .ref t1, .ref t2, .ref t3, .ref t4, .ref t5, .ref t6, .int 0, .int (-9), .int 0])), (m0, .inr (12, [.int 0, .ref g1, .int 6, .ref g3, .ref g4, .int 0, .ref g6, .ref g7, .int 0, .ref g9, .ref g10, .ref g11, .ref g12, .ref g13, .ref g14, .int 0, .int 0, .int 0, .int 0, .int 0, .ref g20, .ref g21, .int (-9), .ref g23, .ref g24, .ref g25, .ref g26, .int 0, .ref g28, .ref g29, .ref g30, .ref g31, .ref g32, .int 0, .ref g34, .int 0, .int 0, .long 0, .ref g38, .ref g39, .int 0, .int 0, .int 0, .ref g43, .ref g44, .ref g45, .ref g46, .ref g47, .ref g48, .ref g49, .int 0, .ref g51, .ref g52, .ref g53, .ref g54, .ref g55, .ref g56, .int (-9), .int 0, .int 0, .ref g60, .ref g61, .ref g62, .ref g63, .int 0, .ref g65, .ref g66, .ref g67, .ref g68]))] H) (hD : va_D (fun q : Nat => s.heap.size ≤ q) [(x0, .inr (11, [.ref wo, .ref bo, .ref ro_, .ref bu, .ref ta, .ref li, .ref ca, .null, .ref fc, .int 0, .long 0])), (ta, .inr (9, [.ref wo, .ref t0, .ref t1, .ref t2, .ref t3, .ref t4, .ref t5, .ref t6, .int 0, .int (-9), .int 0])), (m0, .inr (12, [.int 0, .ref g1, .int 6, .ref g3, .ref g4, .int 0, .ref g6, .ref g7, .int 0, .ref g9, .ref g10, .ref g11, .ref g12, .ref g13, .ref g14, .int 0, .int 0, .int 0, .int 0, .int 0, .ref g20, .ref g21, .int (-9), .ref g23, .ref g24, .ref g25, .ref g26, .int 0, .ref g28, .ref g29, .ref g30, .ref g31, .ref g32, .int 0, .ref g34, .int 0, .int 0, .long 0, .ref g38, .ref g39, .int 0, .int 0, .int 0, .ref g43, .ref g44, .ref g45, .ref g46, .ref g47, .ref g48, .ref g49, .int 0, .ref g51, .ref g52, .ref g53, .ref g54, .ref g55, .ref g56, .int (-9), .int 0, .int 0, .ref g60, .ref g61, .ref g62, .ref g63, .int 0, .ref g65, .ref g66, .ref g67, .ref g68]))]) (hS : va_S (fun q : Nat => s.heap.size ≤ q) s.heap H locs) (hl : lv_has ls 4 [(3, .int 0), (2, .ref m0), (1, .ref x0), (0, .ref b)]) : W p l e room_1 s m #[Value.ref b] below meth c H locs 98 48488 (lw_Z below #[Value.ref b] s) (F0 m 948 ls []) := by
  have hbA : ¬ (fun q : Nat => s.heap.size ≤ q) b := Nat.not_le.mpr hbl
  have hA : ∀ q : Nat, s.heap.size ≤ q → (fun q : Nat => s.heap.size ≤ q) q := fun _ h => h
  refine lv_aload_n hx hb dL_law_948 rfl (lv_at hl 2 rfl) ?_
  have hPc := hP.sub (ws' := [(x0, .inr (11, [.ref wo, .ref bo, .ref ro_, .ref bu, .ref ta, .ref li, .ref ca, .null, .ref fc, .int 0, .long 0])), (ta, .inr (9, [.ref wo, .ref t0, .ref t1, .ref t2, .ref t3, .ref t4, .ref t5, .ref t6, .int 0, .int (-9), .int 0]))]) [0, 1] rfl
  have hKc := hK.sub (tys' := []) [] rfl
  refine ro_calli (va_runV (As := []) (rest := []) ⟨hx, hb, hml, hown, hts⟩ (c_X11_light l D H.size x0 wo bo ro_ bu ta li ca fc t0 t1 t2 t3 t4 t5 t6) (cwV 0 hts gm_L_law_X11_light rfl rfl rfl (by decide +kernel) ⟨Nat.le_of_ble_eq_true rfl, Nat.le_of_ble_eq_true rfl⟩) (pA_V hKc hPc (ci := 11) (q0 := 0) rfl rfl) rfl rfl hl.1 rfl (lv_room (Nat.le_of_ble_eq_true rfl)) dL_law_949 ⟨Nat.le_of_ble_eq_true rfl, Nat.le_of_ble_eq_true rfl⟩) hS hA hP (fun r1 u1 H locs hw1 hP hS => ?_)
  have hw1 : r1 = (-5) := hw1
  subst hw1
  refine lv_aload_n hx hb dL_law_952 rfl (lv_at hl 1 rfl) ?_
  have hPc := hP.sub (ws' := [(m0, .inr (12, [.int 0, .ref g1, .int 6, .ref g3, .ref g4, .int 0, .ref g6, .ref g7, .int 0, .ref g9, .ref g10, .ref g11, .ref g12, .ref g13, .ref g14, .int 0, .int 0, .int 0, .int 0, .int 0, .ref g20, .ref g21, .int (-9), .ref g23, .ref g24, .ref g25, .ref g26, .int 0, .ref g28, .ref g29, .ref g30, .ref g31, .ref g32, .int 0, .ref g34, .int 0, .int 0, .long 0, .ref g38, .ref g39, .int 0, .int 0, .int 0, .ref g43, .ref g44, .ref g45, .ref g46, .ref g47, .ref g48, .ref g49, .int 0, .ref g51, .ref g52, .ref g53, .ref g54, .ref g55, .ref g56, .int (-9), .int 0, .int 0, .ref g60, .ref g61, .ref g62, .ref g63, .int 0, .ref g65, .ref g66, .ref g67, .ref g68]))]) [2] rfl
  have hKc := hK.sub (tys' := []) [] rfl
  refine ro_calli (va_runV (As := []) (rest := [.int (-5)]) ⟨hx, hb, hml, hown, hts⟩ (c_X12_light l D H.size m0 g1 g3 g4 g6 g7 g9 g10 g11 g12 g13 g14 g20 g21 g23 g24 g25 g26 g28 g29 g30 g31 g32 g34 g38 g39 g43 g44 g45 g46 g47 g48 g49 g51 g52 g53 g54 g55 g56 g60 g61 g62 g63 g65 g66 g67 g68) (cwV 0 hts gm_L_law_X12_light rfl rfl rfl (by decide +kernel) ⟨Nat.le_of_ble_eq_true rfl, Nat.le_of_ble_eq_true rfl⟩) (pA_V hKc hPc (ci := 12) (q0 := 0) rfl rfl) rfl rfl hl.1 rfl (lv_room (Nat.le_of_ble_eq_true rfl)) dL_law_953 ⟨Nat.le_of_ble_eq_true rfl, Nat.le_of_ble_eq_true rfl⟩) hS hA hP (fun r2 u2 H locs hw2 hP hS => ?_)
  have hw2 : r2 = (-5) := hw2
  subst hw2
  refine lv_icmp_eq (tgt := 1463) hx hb dL_law_956 (by decide) (fun _ => ?_) (fun q9 => absurd (by decide) q9)
  exact law_tail hx hb hr hlocks hX hbl hS hl (Nat.le_of_ble_eq_true rfl) (Nat.le_of_ble_eq_true rfl)

set_option maxHeartbeats 4000000 in
set_option maxRecDepth 100000 in
theorem law_seek {p : Program} {l : Launch} {e : Env} {s : State} {m : MethodId} {below : List Frame} {meth : Method} {c : Code} {b : Nat} {xs : Nat → Int32} (D : va_G) (x0 : Nat) (wo : Nat) (bo : Nat) (ro_ : Nat) (bu : Nat) (ta : Nat) (li : Nat) (ca : Nat) (fc : Nat) (wp : Nat) (ws_ : Nat) (wd : Nat) (wk : Nat) (wz : Nat) (m0 : Nat) (g1 : Nat) (g3 : Nat) (g4 : Nat) (g6 : Nat) (g7 : Nat) (g9 : Nat) (g10 : Nat) (g11 : Nat) (g12 : Nat) (g13 : Nat) (g14 : Nat) (g20 : Nat) (g21 : Nat) (g23 : Nat) (g24 : Nat) (g25 : Nat) (g26 : Nat) (g28 : Nat) (g29 : Nat) (g30 : Nat) (g31 : Nat) (g32 : Nat) (g34 : Nat) (g38 : Nat) (g39 : Nat) (g43 : Nat) (g44 : Nat) (g45 : Nat) (g46 : Nat) (g47 : Nat) (g48 : Nat) (g49 : Nat) (g51 : Nat) (g52 : Nat) (g53 : Nat) (g54 : Nat) (g55 : Nat) (g56 : Nat) (g60 : Nat) (g61 : Nat) (g62 : Nat) (g63 : Nat) (g65 : Nat) (g66 : Nat) (g67 : Nat) (g68 : Nat) (hx : p.tables.exec = Jvm.exec) (hb : c.code = cL_law) (hr : meth.sig.returnType = ret) (hlocks : meth.locks = false) (hml : c.maxLocals = 4) (hown : s.vm.findClass RL = some m.cls) (hts : ∀ w ∈ wm_law, w.before #[Value.ref b] s = true) (hX : va_X b 7 xs s s.heap) (hbl : b < s.heap.size) (hK : va_K D vwCl [] s) (H : Heap) (locs : List Loc) (ls : Array Slot) (hP : va_P D vwCl [(x0, .inr (11, [.ref wo, .ref bo, .ref ro_, .ref bu, .ref ta, .ref li, .ref ca, .null, .ref fc, .int 0, .long 0])), (wo, .inr (10, [.ref wp, .ref ws_, .ref wd, .ref wk, .ref wz, .int 6, .int 0])), (m0, .inr (12, [.int 0, .ref g1, .int 6, .ref g3, .ref g4, .int 0, .ref g6, .ref g7, .int 0, .ref g9, .ref g10, .ref g11, .ref g12, .ref g13, .ref g14, .int 0, .int 0, .int 0, .int 0, .int 0, .ref g20, .ref g21, .int (-9), .ref g23, .ref g24, .ref g25, .ref g26, .int 0, .ref g28, .ref g29, .ref g30, .ref g31, .ref g32, .int 0, .ref g34, .int 0, .int 0, .long 0, .ref g38, .ref g39, .int 0, .int 0, .int 0, .ref g43, .ref g44, .ref g45, .ref g46, .ref g47, .ref g48, .ref g49, .int 0, .ref g51, .ref g52, .ref g53, .ref g54, .ref g55, .ref g56, .int (-9), .int 0, .int 0, .ref g60, .ref g61, .ref g62, .ref g63, .int 0, .ref g65, .ref g66, .ref g67, .ref g68]))] H) (hD : va_D (fun q : Nat => s.heap.size ≤ q) [(x0, .inr (11, [.ref wo, .ref bo, .ref ro_, .ref bu, .ref ta, .ref li, .ref ca, .null, .ref fc, .int 0, .long 0])), (wo, .inr (10, [.ref wp, .ref ws_, .ref wd, .ref wk, .ref wz, .int 6, .int 0])), (m0, .inr (12, [.int 0, .ref g1, .int 6, .ref g3, .ref g4, .int 0, .ref g6, .ref g7, .int 0, .ref g9, .ref g10, .ref g11, .ref g12, .ref g13, .ref g14, .int 0, .int 0, .int 0, .int 0, .int 0, .ref g20, .ref g21, .int (-9), .ref g23, .ref g24, .ref g25, .ref g26, .int 0, .ref g28, .ref g29, .ref g30, .ref g31, .ref g32, .int 0, .ref g34, .int 0, .int 0, .long 0, .ref g38, .ref g39, .int 0, .int 0, .int 0, .ref g43, .ref g44, .ref g45, .ref g46, .ref g47, .ref g48, .ref g49, .int 0, .ref g51, .ref g52, .ref g53, .ref g54, .ref g55, .ref g56, .int (-9), .int 0, .int 0, .ref g60, .ref g61, .ref g62, .ref g63, .int 0, .ref g65, .ref g66, .ref g67, .ref g68]))]) (hS : va_S (fun q : Nat => s.heap.size ≤ q) s.heap H locs) (hl : lv_has ls 4 [(3, .int 0), (2, .ref m0), (1, .ref x0), (0, .ref b)]) : W p l e room_1 s m #[Value.ref b] below meth c H locs 98 48488 (lw_Z below #[Value.ref b] s) (F0 m 961 ls []) := by
  have hbA : ¬ (fun q : Nat => s.heap.size ≤ q) b := Nat.not_le.mpr hbl
  have hA : ∀ q : Nat, s.heap.size ≤ q → (fun q : Nat => s.heap.size ≤ q) q := fun _ h => h
  refine lv_aload_n hx hb dL_law_961 rfl (lv_at hl 2 rfl) ?_
  refine lv_aload_n hx hb dL_law_962 rfl (lv_at hl 3 rfl) ?_
  refine lv_iload_n hx hb dL_law_963 rfl (lv_at hl 0 rfl) ?_
  refine lv_iconst (v := 1) hx hb dL_law_964 (by decide) ?_
  refine lv_iadd hx hb dL_law_965 ?_
  refine tp_i (y := 1) (by decide) ?_
  refine va_sld hx hb hX hbl hbA hS (show vp_in 1 7 from by unfold vp_in; decide) dL_law_966 ?_
  refine tp_i (y := xs 1) rfl ?_
  refine lv_aload_n hx hb dL_law_967 rfl (lv_at hl 3 rfl) ?_
  refine lv_iload_n hx hb dL_law_968 rfl (lv_at hl 0 rfl) ?_
  refine lv_iconst (v := 2) hx hb dL_law_969 (by decide) ?_
  refine lv_iadd hx hb dL_law_970 ?_
  refine tp_i (y := 2) (by decide) ?_
  refine va_sld hx hb hX hbl hbA hS (show vp_in 2 7 from by unfold vp_in; decide) dL_law_971 ?_
  refine tp_i (y := xs 2) rfl ?_
  refine lv_aload_n hx hb dL_law_972 rfl (lv_at hl 3 rfl) ?_
  refine lv_iload_n hx hb dL_law_973 rfl (lv_at hl 0 rfl) ?_
  refine lv_iconst (v := 3) hx hb dL_law_974 (by decide) ?_
  refine lv_iadd hx hb dL_law_975 ?_
  refine tp_i (y := 3) (by decide) ?_
  refine va_sld hx hb hX hbl hbA hS (show vp_in 3 7 from by unfold vp_in; decide) dL_law_976 ?_
  refine tp_i (y := xs 3) rfl ?_
  have hPc := hP.sub (ws' := [(x0, .inr (11, [.ref wo, .ref bo, .ref ro_, .ref bu, .ref ta, .ref li, .ref ca, .null, .ref fc, .int 0, .long 0])), (wo, .inr (10, [.ref wp, .ref ws_, .ref wd, .ref wk, .ref wz, .int 6, .int 0]))]) [0, 1] rfl
  have hKc := hK.sub (tys' := []) [] rfl
  refine ro_calli (va_runV (As := [.int (xs 1), .int (xs 2), .int (xs 3)]) (rest := []) ⟨hx, hb, hml, hown, hts⟩ (c_X11_seek l D H.size x0 wo bo ro_ bu ta li ca fc wp ws_ wd wk wz (xs 1) (xs 2) (xs 3)) (cwV 3 hts gm_L_law_X11_seek rfl rfl rfl (by decide +kernel) ⟨Nat.le_of_ble_eq_true rfl, Nat.le_of_ble_eq_true rfl⟩) (pA_V hKc hPc (ci := 11) (q0 := 0) rfl rfl) rfl rfl hl.1 rfl (lv_room (Nat.le_of_ble_eq_true rfl)) dL_law_977 ⟨Nat.le_of_ble_eq_true rfl, Nat.le_of_ble_eq_true rfl⟩) hS hA hP (fun r1 u1 H locs hw1 hP hS => ?_)
  have hw1 : r1 = (-1) := hw1
  subst hw1
  refine lv_aload_n hx hb dL_law_980 rfl (lv_at hl 1 rfl) ?_
  refine lv_aload_n hx hb dL_law_981 rfl (lv_at hl 3 rfl) ?_
  refine lv_iload_n hx hb dL_law_982 rfl (lv_at hl 0 rfl) ?_
  refine lv_iconst (v := 1) hx hb dL_law_983 (by decide) ?_
  refine lv_iadd hx hb dL_law_984 ?_
  refine tp_i (y := 1) (by decide) ?_
  refine va_sld hx hb hX hbl hbA hS (show vp_in 1 7 from by unfold vp_in; decide) dL_law_985 ?_
  refine tp_i (y := xs 1) rfl ?_
  refine lv_aload_n hx hb dL_law_986 rfl (lv_at hl 3 rfl) ?_
  refine lv_iload_n hx hb dL_law_987 rfl (lv_at hl 0 rfl) ?_
  refine lv_iconst (v := 2) hx hb dL_law_988 (by decide) ?_
  refine lv_iadd hx hb dL_law_989 ?_
  refine tp_i (y := 2) (by decide) ?_
  refine va_sld hx hb hX hbl hbA hS (show vp_in 2 7 from by unfold vp_in; decide) dL_law_990 ?_
  refine tp_i (y := xs 2) rfl ?_
  refine lv_aload_n hx hb dL_law_991 rfl (lv_at hl 3 rfl) ?_
  refine lv_iload_n hx hb dL_law_992 rfl (lv_at hl 0 rfl) ?_
  refine lv_iconst (v := 3) hx hb dL_law_993 (by decide) ?_
  refine lv_iadd hx hb dL_law_994 ?_
  refine tp_i (y := 3) (by decide) ?_
  refine va_sld hx hb hX hbl hbA hS (show vp_in 3 7 from by unfold vp_in; decide) dL_law_995 ?_
  refine tp_i (y := xs 3) rfl ?_
  have hPc := hP.sub (ws' := [(m0, .inr (12, [.int 0, .ref g1, .int 6, .ref g3, .ref g4, .int 0, .ref g6, .ref g7, .int 0, .ref g9, .ref g10, .ref g11, .ref g12, .ref g13, .ref g14, .int 0, .int 0, .int 0, .int 0, .int 0, .ref g20, .ref g21, .int (-9), .ref g23, .ref g24, .ref g25, .ref g26, .int 0, .ref g28, .ref g29, .ref g30, .ref g31, .ref g32, .int 0, .ref g34, .int 0, .int 0, .long 0, .ref g38, .ref g39, .int 0, .int 0, .int 0, .ref g43, .ref g44, .ref g45, .ref g46, .ref g47, .ref g48, .ref g49, .int 0, .ref g51, .ref g52, .ref g53, .ref g54, .ref g55, .ref g56, .int (-9), .int 0, .int 0, .ref g60, .ref g61, .ref g62, .ref g63, .int 0, .ref g65, .ref g66, .ref g67, .ref g68]))]) [2] rfl
  have hKc := hK.sub (tys' := []) [] rfl
  refine ro_calli (va_runV (As := [.int (xs 1), .int (xs 2), .int (xs 3)]) (rest := [.int (-1)]) ⟨hx, hb, hml, hown, hts⟩ (c_X12_seek l D H.size m0 g1 g3 g4 g6 g7 g9 g10 g11 g12 g13 g14 g20 g21 g23 g24 g25 g26 g28 g29 g30 g31 g32 g34 g38 g39 g43 g44 g45 g46 g47 g48 g49 g51 g52 g53 g54 g55 g56 g60 g61 g62 g63 g65 g66 g67 g68 (xs 1) (xs 2) (xs 3)) (cwV 3 hts gm_L_law_X12_seek rfl rfl rfl (by decide +kernel) ⟨Nat.le_of_ble_eq_true rfl, Nat.le_of_ble_eq_true rfl⟩) (pA_V hKc hPc (ci := 12) (q0 := 0) rfl rfl) rfl rfl hl.1 rfl (lv_room (Nat.le_of_ble_eq_true rfl)) dL_law_996 ⟨Nat.le_of_ble_eq_true rfl, Nat.le_of_ble_eq_true rfl⟩) hS hA hP (fun r2 u2 H locs hw2 hP hS => ?_)
  have hw2 : r2 = (-1) := hw2
  subst hw2
  refine lv_icmp_eq (tgt := 1463) hx hb dL_law_999 (by decide) (fun _ => ?_) (fun q9 => absurd (by decide) q9)
  exact law_tail hx hb hr hlocks hX hbl hS hl (Nat.le_of_ble_eq_true rfl) (Nat.le_of_ble_eq_true rfl)

set_option maxHeartbeats 4000000 in
set_option maxRecDepth 100000 in
theorem law_sought {p : Program} {l : Launch} {e : Env} {s : State} {m : MethodId} {below : List Frame} {meth : Method} {c : Code} {b : Nat} {xs : Nat → Int32} (D : va_G) (x0 : Nat) (wo : Nat) (bo : Nat) (ro_ : Nat) (bu : Nat) (ta : Nat) (li : Nat) (ca : Nat) (fc : Nat) (m0 : Nat) (g1 : Nat) (g3 : Nat) (g4 : Nat) (g6 : Nat) (g7 : Nat) (g9 : Nat) (g10 : Nat) (g11 : Nat) (g12 : Nat) (g13 : Nat) (g14 : Nat) (g20 : Nat) (g21 : Nat) (g23 : Nat) (g24 : Nat) (g25 : Nat) (g26 : Nat) (g28 : Nat) (g29 : Nat) (g30 : Nat) (g31 : Nat) (g32 : Nat) (g34 : Nat) (g38 : Nat) (g39 : Nat) (g43 : Nat) (g44 : Nat) (g45 : Nat) (g46 : Nat) (g47 : Nat) (g48 : Nat) (g49 : Nat) (g51 : Nat) (g52 : Nat) (g53 : Nat) (g54 : Nat) (g55 : Nat) (g56 : Nat) (g60 : Nat) (g61 : Nat) (g62 : Nat) (g63 : Nat) (g65 : Nat) (g66 : Nat) (g67 : Nat) (g68 : Nat) (hx : p.tables.exec = Jvm.exec) (hb : c.code = cL_law) (hr : meth.sig.returnType = ret) (hlocks : meth.locks = false) (hml : c.maxLocals = 4) (hown : s.vm.findClass RL = some m.cls) (hts : ∀ w ∈ wm_law, w.before #[Value.ref b] s = true) (hX : va_X b 7 xs s s.heap) (hbl : b < s.heap.size) (hK : va_K D vwCl [] s) (H : Heap) (locs : List Loc) (ls : Array Slot) (hP : va_P D vwCl [(x0, .inr (11, [.ref wo, .ref bo, .ref ro_, .ref bu, .ref ta, .ref li, .ref ca, .null, .ref fc, .int 0, .long 0])), (m0, .inr (12, [.int 0, .ref g1, .int 6, .ref g3, .ref g4, .int 0, .ref g6, .ref g7, .int 0, .ref g9, .ref g10, .ref g11, .ref g12, .ref g13, .ref g14, .int 0, .int 0, .int 0, .int 0, .int 0, .ref g20, .ref g21, .int (-9), .ref g23, .ref g24, .ref g25, .ref g26, .int 0, .ref g28, .ref g29, .ref g30, .ref g31, .ref g32, .int 0, .ref g34, .int 0, .int 0, .long 0, .ref g38, .ref g39, .int 0, .int 0, .int 0, .ref g43, .ref g44, .ref g45, .ref g46, .ref g47, .ref g48, .ref g49, .int 0, .ref g51, .ref g52, .ref g53, .ref g54, .ref g55, .ref g56, .int (-9), .int 0, .int 0, .ref g60, .ref g61, .ref g62, .ref g63, .int 0, .ref g65, .ref g66, .ref g67, .ref g68]))] H) (hD : va_D (fun q : Nat => s.heap.size ≤ q) [(x0, .inr (11, [.ref wo, .ref bo, .ref ro_, .ref bu, .ref ta, .ref li, .ref ca, .null, .ref fc, .int 0, .long 0])), (m0, .inr (12, [.int 0, .ref g1, .int 6, .ref g3, .ref g4, .int 0, .ref g6, .ref g7, .int 0, .ref g9, .ref g10, .ref g11, .ref g12, .ref g13, .ref g14, .int 0, .int 0, .int 0, .int 0, .int 0, .ref g20, .ref g21, .int (-9), .ref g23, .ref g24, .ref g25, .ref g26, .int 0, .ref g28, .ref g29, .ref g30, .ref g31, .ref g32, .int 0, .ref g34, .int 0, .int 0, .long 0, .ref g38, .ref g39, .int 0, .int 0, .int 0, .ref g43, .ref g44, .ref g45, .ref g46, .ref g47, .ref g48, .ref g49, .int 0, .ref g51, .ref g52, .ref g53, .ref g54, .ref g55, .ref g56, .int (-9), .int 0, .int 0, .ref g60, .ref g61, .ref g62, .ref g63, .int 0, .ref g65, .ref g66, .ref g67, .ref g68]))]) (hS : va_S (fun q : Nat => s.heap.size ≤ q) s.heap H locs) (hl : lv_has ls 4 [(3, .int 0), (2, .ref m0), (1, .ref x0), (0, .ref b)]) : W p l e room_1 s m #[Value.ref b] below meth c H locs 98 48488 (lw_Z below #[Value.ref b] s) (F0 m 1004 ls []) := by
  have hbA : ¬ (fun q : Nat => s.heap.size ≤ q) b := Nat.not_le.mpr hbl
  have hA : ∀ q : Nat, s.heap.size ≤ q → (fun q : Nat => s.heap.size ≤ q) q := fun _ h => h
  refine lv_aload_n hx hb dL_law_1004 rfl (lv_at hl 2 rfl) ?_
  refine lv_aload_n hx hb dL_law_1005 rfl (lv_at hl 3 rfl) ?_
  refine lv_iload_n hx hb dL_law_1006 rfl (lv_at hl 0 rfl) ?_
  refine lv_iconst (v := 1) hx hb dL_law_1007 (by decide) ?_
  refine lv_iadd hx hb dL_law_1008 ?_
  refine tp_i (y := 1) (by decide) ?_
  refine va_sld hx hb hX hbl hbA hS (show vp_in 1 7 from by unfold vp_in; decide) dL_law_1009 ?_
  refine tp_i (y := xs 1) rfl ?_
  refine lv_aload_n hx hb dL_law_1010 rfl (lv_at hl 3 rfl) ?_
  refine lv_iload_n hx hb dL_law_1011 rfl (lv_at hl 0 rfl) ?_
  refine lv_iconst (v := 2) hx hb dL_law_1012 (by decide) ?_
  refine lv_iadd hx hb dL_law_1013 ?_
  refine tp_i (y := 2) (by decide) ?_
  refine va_sld hx hb hX hbl hbA hS (show vp_in 2 7 from by unfold vp_in; decide) dL_law_1014 ?_
  refine tp_i (y := xs 2) rfl ?_
  have hPc := hP.sub (ws' := [(x0, .inr (11, [.ref wo, .ref bo, .ref ro_, .ref bu, .ref ta, .ref li, .ref ca, .null, .ref fc, .int 0, .long 0]))]) [0] rfl
  have hKc := hK.sub (tys' := []) [] rfl
  refine ro_calli (va_runV (As := [.int (xs 1), .int (xs 2)]) (rest := []) ⟨hx, hb, hml, hown, hts⟩ (c_X11_sought l D H.size x0 wo bo ro_ bu ta li ca fc (xs 1) (xs 2)) (cwV 2 hts gm_L_law_X11_sought rfl rfl rfl (by decide +kernel) ⟨Nat.le_of_ble_eq_true rfl, Nat.le_of_ble_eq_true rfl⟩) (pA_V hKc hPc (ci := 11) (q0 := 0) rfl rfl) rfl rfl hl.1 rfl (lv_room (Nat.le_of_ble_eq_true rfl)) dL_law_1015 ⟨Nat.le_of_ble_eq_true rfl, Nat.le_of_ble_eq_true rfl⟩) hS hA hP (fun r1 u1 H locs hw1 hP hS => ?_)
  have hw1 : r1 = if (0 ≤ (xs 2).toInt ∧ (xs 2).toInt < 3) then -9 else -1 := hw1
  refine lv_aload_n hx hb dL_law_1018 rfl (lv_at hl 1 rfl) ?_
  refine lv_aload_n hx hb dL_law_1019 rfl (lv_at hl 3 rfl) ?_
  refine lv_iload_n hx hb dL_law_1020 rfl (lv_at hl 0 rfl) ?_
  refine lv_iconst (v := 1) hx hb dL_law_1021 (by decide) ?_
  refine lv_iadd hx hb dL_law_1022 ?_
  refine tp_i (y := 1) (by decide) ?_
  refine va_sld hx hb hX hbl hbA hS (show vp_in 1 7 from by unfold vp_in; decide) dL_law_1023 ?_
  refine tp_i (y := xs 1) rfl ?_
  refine lv_aload_n hx hb dL_law_1024 rfl (lv_at hl 3 rfl) ?_
  refine lv_iload_n hx hb dL_law_1025 rfl (lv_at hl 0 rfl) ?_
  refine lv_iconst (v := 2) hx hb dL_law_1026 (by decide) ?_
  refine lv_iadd hx hb dL_law_1027 ?_
  refine tp_i (y := 2) (by decide) ?_
  refine va_sld hx hb hX hbl hbA hS (show vp_in 2 7 from by unfold vp_in; decide) dL_law_1028 ?_
  refine tp_i (y := xs 2) rfl ?_
  have hPc := hP.sub (ws' := [(m0, .inr (12, [.int 0, .ref g1, .int 6, .ref g3, .ref g4, .int 0, .ref g6, .ref g7, .int 0, .ref g9, .ref g10, .ref g11, .ref g12, .ref g13, .ref g14, .int 0, .int 0, .int 0, .int 0, .int 0, .ref g20, .ref g21, .int (-9), .ref g23, .ref g24, .ref g25, .ref g26, .int 0, .ref g28, .ref g29, .ref g30, .ref g31, .ref g32, .int 0, .ref g34, .int 0, .int 0, .long 0, .ref g38, .ref g39, .int 0, .int 0, .int 0, .ref g43, .ref g44, .ref g45, .ref g46, .ref g47, .ref g48, .ref g49, .int 0, .ref g51, .ref g52, .ref g53, .ref g54, .ref g55, .ref g56, .int (-9), .int 0, .int 0, .ref g60, .ref g61, .ref g62, .ref g63, .int 0, .ref g65, .ref g66, .ref g67, .ref g68]))]) [1] rfl
  have hKc := hK.sub (tys' := []) [] rfl
  refine ro_calli (va_runV (As := [.int (xs 1), .int (xs 2)]) (rest := [.int r1]) ⟨hx, hb, hml, hown, hts⟩ (c_X12_sought l D H.size m0 g1 g3 g4 g6 g7 g9 g10 g11 g12 g13 g14 g20 g21 g23 g24 g25 g26 g28 g29 g30 g31 g32 g34 g38 g39 g43 g44 g45 g46 g47 g48 g49 g51 g52 g53 g54 g55 g56 g60 g61 g62 g63 g65 g66 g67 g68 (xs 1) (xs 2)) (cwV 2 hts gm_L_law_X12_sought rfl rfl rfl (by decide +kernel) ⟨Nat.le_of_ble_eq_true rfl, Nat.le_of_ble_eq_true rfl⟩) (pA_V hKc hPc (ci := 12) (q0 := 0) rfl rfl) rfl rfl hl.1 rfl (lv_room (Nat.le_of_ble_eq_true rfl)) dL_law_1029 ⟨Nat.le_of_ble_eq_true rfl, Nat.le_of_ble_eq_true rfl⟩) hS hA hP (fun r2 u2 H locs hw2 hP hS => ?_)
  have hw2 : r2 = if (0 ≤ (xs 2).toInt ∧ (xs 2).toInt < 3) then -9 else -1 := hw2
  refine lv_icmp_eq (tgt := 1463) hx hb dL_law_1032 (by decide) (fun _ => ?_) (fun q9 => absurd (by rw [hw1, hw2]) q9)
  exact law_tail hx hb hr hlocks hX hbl hS hl (Nat.le_of_ble_eq_true rfl) (Nat.le_of_ble_eq_true rfl)

set_option maxHeartbeats 4000000 in
set_option maxRecDepth 100000 in
theorem law_line {p : Program} {l : Launch} {e : Env} {s : State} {m : MethodId} {below : List Frame} {meth : Method} {c : Code} {b : Nat} {xs : Nat → Int32} (D : va_G) (x0 : Nat) (wo : Nat) (bo : Nat) (ro_ : Nat) (bu : Nat) (ta : Nat) (li : Nat) (ca : Nat) (fc : Nat) (wp : Nat) (ws_ : Nat) (wd : Nat) (wk : Nat) (wz : Nat) (m0 : Nat) (g1 : Nat) (g3 : Nat) (g4 : Nat) (g6 : Nat) (g7 : Nat) (g9 : Nat) (g10 : Nat) (g11 : Nat) (g12 : Nat) (g13 : Nat) (g14 : Nat) (g20 : Nat) (g21 : Nat) (g23 : Nat) (g24 : Nat) (g25 : Nat) (g26 : Nat) (g28 : Nat) (g29 : Nat) (g30 : Nat) (g31 : Nat) (g32 : Nat) (g34 : Nat) (g38 : Nat) (g39 : Nat) (g43 : Nat) (g44 : Nat) (g45 : Nat) (g46 : Nat) (g47 : Nat) (g48 : Nat) (g49 : Nat) (g51 : Nat) (g52 : Nat) (g53 : Nat) (g54 : Nat) (g55 : Nat) (g56 : Nat) (g60 : Nat) (g61 : Nat) (g62 : Nat) (g63 : Nat) (g65 : Nat) (g66 : Nat) (g67 : Nat) (g68 : Nat) (hx : p.tables.exec = Jvm.exec) (hb : c.code = cL_law) (hr : meth.sig.returnType = ret) (hlocks : meth.locks = false) (hml : c.maxLocals = 4) (hown : s.vm.findClass RL = some m.cls) (hts : ∀ w ∈ wm_law, w.before #[Value.ref b] s = true) (hX : va_X b 7 xs s s.heap) (hbl : b < s.heap.size) (hK : va_K D vwCl [] s) (H : Heap) (locs : List Loc) (ls : Array Slot) (hP : va_P D vwCl [(x0, .inr (11, [.ref wo, .ref bo, .ref ro_, .ref bu, .ref ta, .ref li, .ref ca, .null, .ref fc, .int 0, .long 0])), (wo, .inr (10, [.ref wp, .ref ws_, .ref wd, .ref wk, .ref wz, .int 6, .int 0])), (m0, .inr (12, [.int 0, .ref g1, .int 6, .ref g3, .ref g4, .int 0, .ref g6, .ref g7, .int 0, .ref g9, .ref g10, .ref g11, .ref g12, .ref g13, .ref g14, .int 0, .int 0, .int 0, .int 0, .int 0, .ref g20, .ref g21, .int (-9), .ref g23, .ref g24, .ref g25, .ref g26, .int 0, .ref g28, .ref g29, .ref g30, .ref g31, .ref g32, .int 0, .ref g34, .int 0, .int 0, .long 0, .ref g38, .ref g39, .int 0, .int 0, .int 0, .ref g43, .ref g44, .ref g45, .ref g46, .ref g47, .ref g48, .ref g49, .int 0, .ref g51, .ref g52, .ref g53, .ref g54, .ref g55, .ref g56, .int (-9), .int 0, .int 0, .ref g60, .ref g61, .ref g62, .ref g63, .int 0, .ref g65, .ref g66, .ref g67, .ref g68]))] H) (hD : va_D (fun q : Nat => s.heap.size ≤ q) [(x0, .inr (11, [.ref wo, .ref bo, .ref ro_, .ref bu, .ref ta, .ref li, .ref ca, .null, .ref fc, .int 0, .long 0])), (wo, .inr (10, [.ref wp, .ref ws_, .ref wd, .ref wk, .ref wz, .int 6, .int 0])), (m0, .inr (12, [.int 0, .ref g1, .int 6, .ref g3, .ref g4, .int 0, .ref g6, .ref g7, .int 0, .ref g9, .ref g10, .ref g11, .ref g12, .ref g13, .ref g14, .int 0, .int 0, .int 0, .int 0, .int 0, .ref g20, .ref g21, .int (-9), .ref g23, .ref g24, .ref g25, .ref g26, .int 0, .ref g28, .ref g29, .ref g30, .ref g31, .ref g32, .int 0, .ref g34, .int 0, .int 0, .long 0, .ref g38, .ref g39, .int 0, .int 0, .int 0, .ref g43, .ref g44, .ref g45, .ref g46, .ref g47, .ref g48, .ref g49, .int 0, .ref g51, .ref g52, .ref g53, .ref g54, .ref g55, .ref g56, .int (-9), .int 0, .int 0, .ref g60, .ref g61, .ref g62, .ref g63, .int 0, .ref g65, .ref g66, .ref g67, .ref g68]))]) (hS : va_S (fun q : Nat => s.heap.size ≤ q) s.heap H locs) (hl : lv_has ls 4 [(3, .int 0), (2, .ref m0), (1, .ref x0), (0, .ref b)]) : W p l e room_1 s m #[Value.ref b] below meth c H locs 98 48488 (lw_Z below #[Value.ref b] s) (F0 m 1037 ls []) := by
  have hbA : ¬ (fun q : Nat => s.heap.size ≤ q) b := Nat.not_le.mpr hbl
  have hA : ∀ q : Nat, s.heap.size ≤ q → (fun q : Nat => s.heap.size ≤ q) q := fun _ h => h
  refine lv_aload_n hx hb dL_law_1037 rfl (lv_at hl 2 rfl) ?_
  refine lv_aload_n hx hb dL_law_1038 rfl (lv_at hl 3 rfl) ?_
  refine lv_iload_n hx hb dL_law_1039 rfl (lv_at hl 0 rfl) ?_
  refine lv_iconst (v := 1) hx hb dL_law_1040 (by decide) ?_
  refine lv_iadd hx hb dL_law_1041 ?_
  refine tp_i (y := 1) (by decide) ?_
  refine va_sld hx hb hX hbl hbA hS (show vp_in 1 7 from by unfold vp_in; decide) dL_law_1042 ?_
  refine tp_i (y := xs 1) rfl ?_
  refine lv_aload_n hx hb dL_law_1043 rfl (lv_at hl 3 rfl) ?_
  refine lv_iload_n hx hb dL_law_1044 rfl (lv_at hl 0 rfl) ?_
  refine lv_iconst (v := 2) hx hb dL_law_1045 (by decide) ?_
  refine lv_iadd hx hb dL_law_1046 ?_
  refine tp_i (y := 2) (by decide) ?_
  refine va_sld hx hb hX hbl hbA hS (show vp_in 2 7 from by unfold vp_in; decide) dL_law_1047 ?_
  refine tp_i (y := xs 2) rfl ?_
  refine lv_aload_n hx hb dL_law_1048 rfl (lv_at hl 3 rfl) ?_
  refine lv_iload_n hx hb dL_law_1049 rfl (lv_at hl 0 rfl) ?_
  refine lv_iconst (v := 3) hx hb dL_law_1050 (by decide) ?_
  refine lv_iadd hx hb dL_law_1051 ?_
  refine tp_i (y := 3) (by decide) ?_
  refine va_sld hx hb hX hbl hbA hS (show vp_in 3 7 from by unfold vp_in; decide) dL_law_1052 ?_
  refine tp_i (y := xs 3) rfl ?_
  have hPc := hP.sub (ws' := [(x0, .inr (11, [.ref wo, .ref bo, .ref ro_, .ref bu, .ref ta, .ref li, .ref ca, .null, .ref fc, .int 0, .long 0])), (wo, .inr (10, [.ref wp, .ref ws_, .ref wd, .ref wk, .ref wz, .int 6, .int 0]))]) [0, 1] rfl
  have hKc := hK.sub (tys' := []) [] rfl
  refine ro_calli (va_runV (As := [.int (xs 1), .int (xs 2), .int (xs 3)]) (rest := []) ⟨hx, hb, hml, hown, hts⟩ (c_X11_line l D H.size x0 wo bo ro_ bu ta li ca fc wp ws_ wd wk wz (xs 1) (xs 2) (xs 3)) (cwV 3 hts gm_L_law_X11_line rfl rfl rfl (by decide +kernel) ⟨Nat.le_of_ble_eq_true rfl, Nat.le_of_ble_eq_true rfl⟩) (pA_V hKc hPc (ci := 11) (q0 := 0) rfl rfl) rfl rfl hl.1 rfl (lv_room (Nat.le_of_ble_eq_true rfl)) dL_law_1053 ⟨Nat.le_of_ble_eq_true rfl, Nat.le_of_ble_eq_true rfl⟩) hS hA hP (fun r1 u1 H locs hw1 hP hS => ?_)
  have hw1 : r1 = (-1) := hw1
  subst hw1
  refine lv_aload_n hx hb dL_law_1056 rfl (lv_at hl 1 rfl) ?_
  refine lv_aload_n hx hb dL_law_1057 rfl (lv_at hl 3 rfl) ?_
  refine lv_iload_n hx hb dL_law_1058 rfl (lv_at hl 0 rfl) ?_
  refine lv_iconst (v := 1) hx hb dL_law_1059 (by decide) ?_
  refine lv_iadd hx hb dL_law_1060 ?_
  refine tp_i (y := 1) (by decide) ?_
  refine va_sld hx hb hX hbl hbA hS (show vp_in 1 7 from by unfold vp_in; decide) dL_law_1061 ?_
  refine tp_i (y := xs 1) rfl ?_
  refine lv_aload_n hx hb dL_law_1062 rfl (lv_at hl 3 rfl) ?_
  refine lv_iload_n hx hb dL_law_1063 rfl (lv_at hl 0 rfl) ?_
  refine lv_iconst (v := 2) hx hb dL_law_1064 (by decide) ?_
  refine lv_iadd hx hb dL_law_1065 ?_
  refine tp_i (y := 2) (by decide) ?_
  refine va_sld hx hb hX hbl hbA hS (show vp_in 2 7 from by unfold vp_in; decide) dL_law_1066 ?_
  refine tp_i (y := xs 2) rfl ?_
  refine lv_aload_n hx hb dL_law_1067 rfl (lv_at hl 3 rfl) ?_
  refine lv_iload_n hx hb dL_law_1068 rfl (lv_at hl 0 rfl) ?_
  refine lv_iconst (v := 3) hx hb dL_law_1069 (by decide) ?_
  refine lv_iadd hx hb dL_law_1070 ?_
  refine tp_i (y := 3) (by decide) ?_
  refine va_sld hx hb hX hbl hbA hS (show vp_in 3 7 from by unfold vp_in; decide) dL_law_1071 ?_
  refine tp_i (y := xs 3) rfl ?_
  have hPc := hP.sub (ws' := [(m0, .inr (12, [.int 0, .ref g1, .int 6, .ref g3, .ref g4, .int 0, .ref g6, .ref g7, .int 0, .ref g9, .ref g10, .ref g11, .ref g12, .ref g13, .ref g14, .int 0, .int 0, .int 0, .int 0, .int 0, .ref g20, .ref g21, .int (-9), .ref g23, .ref g24, .ref g25, .ref g26, .int 0, .ref g28, .ref g29, .ref g30, .ref g31, .ref g32, .int 0, .ref g34, .int 0, .int 0, .long 0, .ref g38, .ref g39, .int 0, .int 0, .int 0, .ref g43, .ref g44, .ref g45, .ref g46, .ref g47, .ref g48, .ref g49, .int 0, .ref g51, .ref g52, .ref g53, .ref g54, .ref g55, .ref g56, .int (-9), .int 0, .int 0, .ref g60, .ref g61, .ref g62, .ref g63, .int 0, .ref g65, .ref g66, .ref g67, .ref g68]))]) [2] rfl
  have hKc := hK.sub (tys' := []) [] rfl
  refine ro_calli (va_runV (As := [.int (xs 1), .int (xs 2), .int (xs 3)]) (rest := [.int (-1)]) ⟨hx, hb, hml, hown, hts⟩ (c_X12_line l D H.size m0 g1 g3 g4 g6 g7 g9 g10 g11 g12 g13 g14 g20 g21 g23 g24 g25 g26 g28 g29 g30 g31 g32 g34 g38 g39 g43 g44 g45 g46 g47 g48 g49 g51 g52 g53 g54 g55 g56 g60 g61 g62 g63 g65 g66 g67 g68 (xs 1) (xs 2) (xs 3)) (cwV 3 hts gm_L_law_X12_line rfl rfl rfl (by decide +kernel) ⟨Nat.le_of_ble_eq_true rfl, Nat.le_of_ble_eq_true rfl⟩) (pA_V hKc hPc (ci := 12) (q0 := 0) rfl rfl) rfl rfl hl.1 rfl (lv_room (Nat.le_of_ble_eq_true rfl)) dL_law_1072 ⟨Nat.le_of_ble_eq_true rfl, Nat.le_of_ble_eq_true rfl⟩) hS hA hP (fun r2 u2 H locs hw2 hP hS => ?_)
  have hw2 : r2 = (-1) := hw2
  subst hw2
  refine lv_icmp_eq (tgt := 1463) hx hb dL_law_1075 (by decide) (fun _ => ?_) (fun q9 => absurd (by decide) q9)
  exact law_tail hx hb hr hlocks hX hbl hS hl (Nat.le_of_ble_eq_true rfl) (Nat.le_of_ble_eq_true rfl)

set_option maxHeartbeats 4000000 in
set_option maxRecDepth 100000 in
theorem law_put {p : Program} {l : Launch} {e : Env} {s : State} {m : MethodId} {below : List Frame} {meth : Method} {c : Code} {b : Nat} {xs : Nat → Int32} (D : va_G) (x0 : Nat) (wo : Nat) (bo : Nat) (ro_ : Nat) (bu : Nat) (ta : Nat) (li : Nat) (ca : Nat) (fc : Nat) (wp : Nat) (ws_ : Nat) (wd : Nat) (wk : Nat) (wz : Nat) (m0 : Nat) (g1 : Nat) (g3 : Nat) (g4 : Nat) (g6 : Nat) (g7 : Nat) (g9 : Nat) (g10 : Nat) (g11 : Nat) (g12 : Nat) (g13 : Nat) (g14 : Nat) (g20 : Nat) (g21 : Nat) (g23 : Nat) (g24 : Nat) (g25 : Nat) (g26 : Nat) (g28 : Nat) (g29 : Nat) (g30 : Nat) (g31 : Nat) (g32 : Nat) (g34 : Nat) (g38 : Nat) (g39 : Nat) (g43 : Nat) (g44 : Nat) (g45 : Nat) (g46 : Nat) (g47 : Nat) (g48 : Nat) (g49 : Nat) (g51 : Nat) (g52 : Nat) (g53 : Nat) (g54 : Nat) (g55 : Nat) (g56 : Nat) (g60 : Nat) (g61 : Nat) (g62 : Nat) (g63 : Nat) (g65 : Nat) (g66 : Nat) (g67 : Nat) (g68 : Nat) (hx : p.tables.exec = Jvm.exec) (hb : c.code = cL_law) (hr : meth.sig.returnType = ret) (hlocks : meth.locks = false) (hml : c.maxLocals = 4) (hown : s.vm.findClass RL = some m.cls) (hts : ∀ w ∈ wm_law, w.before #[Value.ref b] s = true) (hX : va_X b 7 xs s s.heap) (hbl : b < s.heap.size) (hK : va_K D vwCl [] s) (H : Heap) (locs : List Loc) (ls : Array Slot) (hP : va_P D vwCl [(x0, .inr (11, [.ref wo, .ref bo, .ref ro_, .ref bu, .ref ta, .ref li, .ref ca, .null, .ref fc, .int 0, .long 0])), (wo, .inr (10, [.ref wp, .ref ws_, .ref wd, .ref wk, .ref wz, .int 6, .int 0])), (m0, .inr (12, [.int 0, .ref g1, .int 6, .ref g3, .ref g4, .int 0, .ref g6, .ref g7, .int 0, .ref g9, .ref g10, .ref g11, .ref g12, .ref g13, .ref g14, .int 0, .int 0, .int 0, .int 0, .int 0, .ref g20, .ref g21, .int (-9), .ref g23, .ref g24, .ref g25, .ref g26, .int 0, .ref g28, .ref g29, .ref g30, .ref g31, .ref g32, .int 0, .ref g34, .int 0, .int 0, .long 0, .ref g38, .ref g39, .int 0, .int 0, .int 0, .ref g43, .ref g44, .ref g45, .ref g46, .ref g47, .ref g48, .ref g49, .int 0, .ref g51, .ref g52, .ref g53, .ref g54, .ref g55, .ref g56, .int (-9), .int 0, .int 0, .ref g60, .ref g61, .ref g62, .ref g63, .int 0, .ref g65, .ref g66, .ref g67, .ref g68]))] H) (hD : va_D (fun q : Nat => s.heap.size ≤ q) [(x0, .inr (11, [.ref wo, .ref bo, .ref ro_, .ref bu, .ref ta, .ref li, .ref ca, .null, .ref fc, .int 0, .long 0])), (wo, .inr (10, [.ref wp, .ref ws_, .ref wd, .ref wk, .ref wz, .int 6, .int 0])), (m0, .inr (12, [.int 0, .ref g1, .int 6, .ref g3, .ref g4, .int 0, .ref g6, .ref g7, .int 0, .ref g9, .ref g10, .ref g11, .ref g12, .ref g13, .ref g14, .int 0, .int 0, .int 0, .int 0, .int 0, .ref g20, .ref g21, .int (-9), .ref g23, .ref g24, .ref g25, .ref g26, .int 0, .ref g28, .ref g29, .ref g30, .ref g31, .ref g32, .int 0, .ref g34, .int 0, .int 0, .long 0, .ref g38, .ref g39, .int 0, .int 0, .int 0, .ref g43, .ref g44, .ref g45, .ref g46, .ref g47, .ref g48, .ref g49, .int 0, .ref g51, .ref g52, .ref g53, .ref g54, .ref g55, .ref g56, .int (-9), .int 0, .int 0, .ref g60, .ref g61, .ref g62, .ref g63, .int 0, .ref g65, .ref g66, .ref g67, .ref g68]))]) (hS : va_S (fun q : Nat => s.heap.size ≤ q) s.heap H locs) (hl : lv_has ls 4 [(3, .int 0), (2, .ref m0), (1, .ref x0), (0, .ref b)]) : W p l e room_1 s m #[Value.ref b] below meth c H locs 98 48488 (lw_Z below #[Value.ref b] s) (F0 m 1080 ls []) := by
  have hbA : ¬ (fun q : Nat => s.heap.size ≤ q) b := Nat.not_le.mpr hbl
  have hA : ∀ q : Nat, s.heap.size ≤ q → (fun q : Nat => s.heap.size ≤ q) q := fun _ h => h
  refine lv_aload_n hx hb dL_law_1080 rfl (lv_at hl 2 rfl) ?_
  refine lv_aload_n hx hb dL_law_1081 rfl (lv_at hl 3 rfl) ?_
  refine lv_iload_n hx hb dL_law_1082 rfl (lv_at hl 0 rfl) ?_
  refine lv_iconst (v := 1) hx hb dL_law_1083 (by decide) ?_
  refine lv_iadd hx hb dL_law_1084 ?_
  refine tp_i (y := 1) (by decide) ?_
  refine va_sld hx hb hX hbl hbA hS (show vp_in 1 7 from by unfold vp_in; decide) dL_law_1085 ?_
  refine tp_i (y := xs 1) rfl ?_
  refine lv_aload_n hx hb dL_law_1086 rfl (lv_at hl 3 rfl) ?_
  refine lv_iload_n hx hb dL_law_1087 rfl (lv_at hl 0 rfl) ?_
  refine lv_iconst (v := 2) hx hb dL_law_1088 (by decide) ?_
  refine lv_iadd hx hb dL_law_1089 ?_
  refine tp_i (y := 2) (by decide) ?_
  refine va_sld hx hb hX hbl hbA hS (show vp_in 2 7 from by unfold vp_in; decide) dL_law_1090 ?_
  refine tp_i (y := xs 2) rfl ?_
  refine lv_aload_n hx hb dL_law_1091 rfl (lv_at hl 3 rfl) ?_
  refine lv_iload_n hx hb dL_law_1092 rfl (lv_at hl 0 rfl) ?_
  refine lv_iconst (v := 3) hx hb dL_law_1093 (by decide) ?_
  refine lv_iadd hx hb dL_law_1094 ?_
  refine tp_i (y := 3) (by decide) ?_
  refine va_sld hx hb hX hbl hbA hS (show vp_in 3 7 from by unfold vp_in; decide) dL_law_1095 ?_
  refine tp_i (y := xs 3) rfl ?_
  refine lv_aload_n hx hb dL_law_1096 rfl (lv_at hl 3 rfl) ?_
  refine lv_iload_n hx hb dL_law_1097 rfl (lv_at hl 0 rfl) ?_
  refine lv_iconst (v := 4) hx hb dL_law_1098 (by decide) ?_
  refine lv_iadd hx hb dL_law_1099 ?_
  refine tp_i (y := 4) (by decide) ?_
  refine va_sld hx hb hX hbl hbA hS (show vp_in 4 7 from by unfold vp_in; decide) dL_law_1100 ?_
  refine tp_i (y := xs 4) rfl ?_
  refine lv_i2l (v := (xs 4).toInt64) hx hb dL_law_1101 rfl ?_
  refine lv_bipush (v := 32) hx hb dL_law_1102 (by decide) ?_
  refine lv_lshl hx hb dL_law_1104 rfl ?_
  refine lv_topl (fun x1 ex1 => ?_)
  refine lv_aload_n hx hb dL_law_1105 rfl (lv_at hl 3 rfl) ?_
  refine lv_iload_n hx hb dL_law_1106 rfl (lv_at hl 0 rfl) ?_
  refine lv_iconst (v := 5) hx hb dL_law_1107 (by decide) ?_
  refine lv_iadd hx hb dL_law_1108 ?_
  refine tp_i (y := 5) (by decide) ?_
  refine va_sld hx hb hX hbl hbA hS (show vp_in 5 7 from by unfold vp_in; decide) dL_law_1109 ?_
  refine tp_i (y := xs 5) rfl ?_
  refine lv_i2l (v := (xs 5).toInt64) hx hb dL_law_1110 rfl ?_
  refine lv_ldc2 (v := 4294967295) hx hb hown (hts (.constantLong RL 128 (4294967295)) (by decide +kernel)) dL_law_1111 ?_
  refine lv_land hx hb dL_law_1114 ?_
  refine lv_topl (fun x2 ex2 => ?_)
  refine lv_lor hx hb dL_law_1115 ?_
  refine lv_topl (fun x3 ex3 => ?_)
  have hPc := hP.sub (ws' := [(x0, .inr (11, [.ref wo, .ref bo, .ref ro_, .ref bu, .ref ta, .ref li, .ref ca, .null, .ref fc, .int 0, .long 0])), (wo, .inr (10, [.ref wp, .ref ws_, .ref wd, .ref wk, .ref wz, .int 6, .int 0]))]) [0, 1] rfl
  have hKc := hK.sub (tys' := []) [] rfl
  refine ro_calli (va_runV (As := [.int (xs 1), .int (xs 2), .int (xs 3), .long x3]) (rest := []) ⟨hx, hb, hml, hown, hts⟩ (c_X11_put l D H.size x0 wo bo ro_ bu ta li ca fc wp ws_ wd wk wz (xs 1) (xs 2) (xs 3) x3) (cwV 4 hts gm_L_law_X11_put rfl rfl rfl (by decide +kernel) ⟨Nat.le_of_ble_eq_true rfl, Nat.le_of_ble_eq_true rfl⟩) (pA_V hKc hPc (ci := 11) (q0 := 0) rfl rfl) rfl rfl hl.1 rfl (lv_room (Nat.le_of_ble_eq_true rfl)) dL_law_1116 ⟨Nat.le_of_ble_eq_true rfl, Nat.le_of_ble_eq_true rfl⟩) hS hA hP (fun r4 u4 H locs hw4 hP hS => ?_)
  have hw4 : r4 = (-1) := hw4
  subst hw4
  refine lv_aload_n hx hb dL_law_1119 rfl (lv_at hl 1 rfl) ?_
  refine lv_aload_n hx hb dL_law_1120 rfl (lv_at hl 3 rfl) ?_
  refine lv_iload_n hx hb dL_law_1121 rfl (lv_at hl 0 rfl) ?_
  refine lv_iconst (v := 1) hx hb dL_law_1122 (by decide) ?_
  refine lv_iadd hx hb dL_law_1123 ?_
  refine tp_i (y := 1) (by decide) ?_
  refine va_sld hx hb hX hbl hbA hS (show vp_in 1 7 from by unfold vp_in; decide) dL_law_1124 ?_
  refine tp_i (y := xs 1) rfl ?_
  refine lv_aload_n hx hb dL_law_1125 rfl (lv_at hl 3 rfl) ?_
  refine lv_iload_n hx hb dL_law_1126 rfl (lv_at hl 0 rfl) ?_
  refine lv_iconst (v := 2) hx hb dL_law_1127 (by decide) ?_
  refine lv_iadd hx hb dL_law_1128 ?_
  refine tp_i (y := 2) (by decide) ?_
  refine va_sld hx hb hX hbl hbA hS (show vp_in 2 7 from by unfold vp_in; decide) dL_law_1129 ?_
  refine tp_i (y := xs 2) rfl ?_
  refine lv_aload_n hx hb dL_law_1130 rfl (lv_at hl 3 rfl) ?_
  refine lv_iload_n hx hb dL_law_1131 rfl (lv_at hl 0 rfl) ?_
  refine lv_iconst (v := 3) hx hb dL_law_1132 (by decide) ?_
  refine lv_iadd hx hb dL_law_1133 ?_
  refine tp_i (y := 3) (by decide) ?_
  refine va_sld hx hb hX hbl hbA hS (show vp_in 3 7 from by unfold vp_in; decide) dL_law_1134 ?_
  refine tp_i (y := xs 3) rfl ?_
  refine lv_aload_n hx hb dL_law_1135 rfl (lv_at hl 3 rfl) ?_
  refine lv_iload_n hx hb dL_law_1136 rfl (lv_at hl 0 rfl) ?_
  refine lv_iconst (v := 4) hx hb dL_law_1137 (by decide) ?_
  refine lv_iadd hx hb dL_law_1138 ?_
  refine tp_i (y := 4) (by decide) ?_
  refine va_sld hx hb hX hbl hbA hS (show vp_in 4 7 from by unfold vp_in; decide) dL_law_1139 ?_
  refine tp_i (y := xs 4) rfl ?_
  refine lv_i2l (v := (xs 4).toInt64) hx hb dL_law_1140 rfl ?_
  refine lv_bipush (v := 32) hx hb dL_law_1141 (by decide) ?_
  refine lv_lshl hx hb dL_law_1143 rfl ?_
  refine lv_topl (fun x5 ex5 => ?_)
  refine lv_aload_n hx hb dL_law_1144 rfl (lv_at hl 3 rfl) ?_
  refine lv_iload_n hx hb dL_law_1145 rfl (lv_at hl 0 rfl) ?_
  refine lv_iconst (v := 5) hx hb dL_law_1146 (by decide) ?_
  refine lv_iadd hx hb dL_law_1147 ?_
  refine tp_i (y := 5) (by decide) ?_
  refine va_sld hx hb hX hbl hbA hS (show vp_in 5 7 from by unfold vp_in; decide) dL_law_1148 ?_
  refine tp_i (y := xs 5) rfl ?_
  refine lv_i2l (v := (xs 5).toInt64) hx hb dL_law_1149 rfl ?_
  refine lv_ldc2 (v := 4294967295) hx hb hown (hts (.constantLong RL 128 (4294967295)) (by decide +kernel)) dL_law_1150 ?_
  refine lv_land hx hb dL_law_1153 ?_
  refine lv_topl (fun x6 ex6 => ?_)
  refine lv_lor hx hb dL_law_1154 ?_
  refine lv_topl (fun x7 ex7 => ?_)
  have hPc := hP.sub (ws' := [(m0, .inr (12, [.int 0, .ref g1, .int 6, .ref g3, .ref g4, .int 0, .ref g6, .ref g7, .int 0, .ref g9, .ref g10, .ref g11, .ref g12, .ref g13, .ref g14, .int 0, .int 0, .int 0, .int 0, .int 0, .ref g20, .ref g21, .int (-9), .ref g23, .ref g24, .ref g25, .ref g26, .int 0, .ref g28, .ref g29, .ref g30, .ref g31, .ref g32, .int 0, .ref g34, .int 0, .int 0, .long 0, .ref g38, .ref g39, .int 0, .int 0, .int 0, .ref g43, .ref g44, .ref g45, .ref g46, .ref g47, .ref g48, .ref g49, .int 0, .ref g51, .ref g52, .ref g53, .ref g54, .ref g55, .ref g56, .int (-9), .int 0, .int 0, .ref g60, .ref g61, .ref g62, .ref g63, .int 0, .ref g65, .ref g66, .ref g67, .ref g68]))]) [2] rfl
  have hKc := hK.sub (tys' := []) [] rfl
  refine ro_calli (va_runV (As := [.int (xs 1), .int (xs 2), .int (xs 3), .long x7]) (rest := [.int (-1)]) ⟨hx, hb, hml, hown, hts⟩ (c_X12_put l D H.size m0 g1 g3 g4 g6 g7 g9 g10 g11 g12 g13 g14 g20 g21 g23 g24 g25 g26 g28 g29 g30 g31 g32 g34 g38 g39 g43 g44 g45 g46 g47 g48 g49 g51 g52 g53 g54 g55 g56 g60 g61 g62 g63 g65 g66 g67 g68 (xs 1) (xs 2) (xs 3) x7) (cwV 4 hts gm_L_law_X12_put rfl rfl rfl (by decide +kernel) ⟨Nat.le_of_ble_eq_true rfl, Nat.le_of_ble_eq_true rfl⟩) (pA_V hKc hPc (ci := 12) (q0 := 0) rfl rfl) rfl rfl hl.1 rfl (lv_room (Nat.le_of_ble_eq_true rfl)) dL_law_1155 ⟨Nat.le_of_ble_eq_true rfl, Nat.le_of_ble_eq_true rfl⟩) hS hA hP (fun r8 u8 H locs hw8 hP hS => ?_)
  have hw8 : r8 = (-1) := hw8
  subst hw8
  refine lv_icmp_eq (tgt := 1463) hx hb dL_law_1158 (by decide) (fun _ => ?_) (fun q9 => absurd (by decide) q9)
  exact law_tail hx hb hr hlocks hX hbl hS hl (Nat.le_of_ble_eq_true rfl) (Nat.le_of_ble_eq_true rfl)

set_option maxHeartbeats 4000000 in
set_option maxRecDepth 100000 in
theorem law_item {p : Program} {l : Launch} {e : Env} {s : State} {m : MethodId} {below : List Frame} {meth : Method} {c : Code} {b : Nat} {xs : Nat → Int32} (D : va_G) (x0 : Nat) (wo : Nat) (bo : Nat) (ro_ : Nat) (bu : Nat) (ta : Nat) (li : Nat) (ca : Nat) (fc : Nat) (wp : Nat) (ws_ : Nat) (wd : Nat) (wk : Nat) (wz : Nat) (m0 : Nat) (g1 : Nat) (g3 : Nat) (g4 : Nat) (g6 : Nat) (g7 : Nat) (g9 : Nat) (g10 : Nat) (g11 : Nat) (g12 : Nat) (g13 : Nat) (g14 : Nat) (g20 : Nat) (g21 : Nat) (g23 : Nat) (g24 : Nat) (g25 : Nat) (g26 : Nat) (g28 : Nat) (g29 : Nat) (g30 : Nat) (g31 : Nat) (g32 : Nat) (g34 : Nat) (g38 : Nat) (g39 : Nat) (g43 : Nat) (g44 : Nat) (g45 : Nat) (g46 : Nat) (g47 : Nat) (g48 : Nat) (g49 : Nat) (g51 : Nat) (g52 : Nat) (g53 : Nat) (g54 : Nat) (g55 : Nat) (g56 : Nat) (g60 : Nat) (g61 : Nat) (g62 : Nat) (g63 : Nat) (g65 : Nat) (g66 : Nat) (g67 : Nat) (g68 : Nat) (hx : p.tables.exec = Jvm.exec) (hb : c.code = cL_law) (hr : meth.sig.returnType = ret) (hlocks : meth.locks = false) (hml : c.maxLocals = 4) (hown : s.vm.findClass RL = some m.cls) (hts : ∀ w ∈ wm_law, w.before #[Value.ref b] s = true) (hX : va_X b 7 xs s s.heap) (hbl : b < s.heap.size) (hK : va_K D vwCl [] s) (H : Heap) (locs : List Loc) (ls : Array Slot) (hP : va_P D vwCl [(x0, .inr (11, [.ref wo, .ref bo, .ref ro_, .ref bu, .ref ta, .ref li, .ref ca, .null, .ref fc, .int 0, .long 0])), (wo, .inr (10, [.ref wp, .ref ws_, .ref wd, .ref wk, .ref wz, .int 6, .int 0])), (m0, .inr (12, [.int 0, .ref g1, .int 6, .ref g3, .ref g4, .int 0, .ref g6, .ref g7, .int 0, .ref g9, .ref g10, .ref g11, .ref g12, .ref g13, .ref g14, .int 0, .int 0, .int 0, .int 0, .int 0, .ref g20, .ref g21, .int (-9), .ref g23, .ref g24, .ref g25, .ref g26, .int 0, .ref g28, .ref g29, .ref g30, .ref g31, .ref g32, .int 0, .ref g34, .int 0, .int 0, .long 0, .ref g38, .ref g39, .int 0, .int 0, .int 0, .ref g43, .ref g44, .ref g45, .ref g46, .ref g47, .ref g48, .ref g49, .int 0, .ref g51, .ref g52, .ref g53, .ref g54, .ref g55, .ref g56, .int (-9), .int 0, .int 0, .ref g60, .ref g61, .ref g62, .ref g63, .int 0, .ref g65, .ref g66, .ref g67, .ref g68]))] H) (hD : va_D (fun q : Nat => s.heap.size ≤ q) [(x0, .inr (11, [.ref wo, .ref bo, .ref ro_, .ref bu, .ref ta, .ref li, .ref ca, .null, .ref fc, .int 0, .long 0])), (wo, .inr (10, [.ref wp, .ref ws_, .ref wd, .ref wk, .ref wz, .int 6, .int 0])), (m0, .inr (12, [.int 0, .ref g1, .int 6, .ref g3, .ref g4, .int 0, .ref g6, .ref g7, .int 0, .ref g9, .ref g10, .ref g11, .ref g12, .ref g13, .ref g14, .int 0, .int 0, .int 0, .int 0, .int 0, .ref g20, .ref g21, .int (-9), .ref g23, .ref g24, .ref g25, .ref g26, .int 0, .ref g28, .ref g29, .ref g30, .ref g31, .ref g32, .int 0, .ref g34, .int 0, .int 0, .long 0, .ref g38, .ref g39, .int 0, .int 0, .int 0, .ref g43, .ref g44, .ref g45, .ref g46, .ref g47, .ref g48, .ref g49, .int 0, .ref g51, .ref g52, .ref g53, .ref g54, .ref g55, .ref g56, .int (-9), .int 0, .int 0, .ref g60, .ref g61, .ref g62, .ref g63, .int 0, .ref g65, .ref g66, .ref g67, .ref g68]))]) (hS : va_S (fun q : Nat => s.heap.size ≤ q) s.heap H locs) (hl : lv_has ls 4 [(3, .int 0), (2, .ref m0), (1, .ref x0), (0, .ref b)]) : W p l e room_1 s m #[Value.ref b] below meth c H locs 98 48488 (lw_Z below #[Value.ref b] s) (F0 m 1163 ls []) := by
  have hbA : ¬ (fun q : Nat => s.heap.size ≤ q) b := Nat.not_le.mpr hbl
  have hA : ∀ q : Nat, s.heap.size ≤ q → (fun q : Nat => s.heap.size ≤ q) q := fun _ h => h
  refine lv_aload_n hx hb dL_law_1163 rfl (lv_at hl 2 rfl) ?_
  refine lv_aload_n hx hb dL_law_1164 rfl (lv_at hl 3 rfl) ?_
  refine lv_iload_n hx hb dL_law_1165 rfl (lv_at hl 0 rfl) ?_
  refine lv_iconst (v := 1) hx hb dL_law_1166 (by decide) ?_
  refine lv_iadd hx hb dL_law_1167 ?_
  refine tp_i (y := 1) (by decide) ?_
  refine va_sld hx hb hX hbl hbA hS (show vp_in 1 7 from by unfold vp_in; decide) dL_law_1168 ?_
  refine tp_i (y := xs 1) rfl ?_
  refine lv_aload_n hx hb dL_law_1169 rfl (lv_at hl 3 rfl) ?_
  refine lv_iload_n hx hb dL_law_1170 rfl (lv_at hl 0 rfl) ?_
  refine lv_iconst (v := 2) hx hb dL_law_1171 (by decide) ?_
  refine lv_iadd hx hb dL_law_1172 ?_
  refine tp_i (y := 2) (by decide) ?_
  refine va_sld hx hb hX hbl hbA hS (show vp_in 2 7 from by unfold vp_in; decide) dL_law_1173 ?_
  refine tp_i (y := xs 2) rfl ?_
  refine lv_aload_n hx hb dL_law_1174 rfl (lv_at hl 3 rfl) ?_
  refine lv_iload_n hx hb dL_law_1175 rfl (lv_at hl 0 rfl) ?_
  refine lv_iconst (v := 3) hx hb dL_law_1176 (by decide) ?_
  refine lv_iadd hx hb dL_law_1177 ?_
  refine tp_i (y := 3) (by decide) ?_
  refine va_sld hx hb hX hbl hbA hS (show vp_in 3 7 from by unfold vp_in; decide) dL_law_1178 ?_
  refine tp_i (y := xs 3) rfl ?_
  have hPc := hP.sub (ws' := [(x0, .inr (11, [.ref wo, .ref bo, .ref ro_, .ref bu, .ref ta, .ref li, .ref ca, .null, .ref fc, .int 0, .long 0])), (wo, .inr (10, [.ref wp, .ref ws_, .ref wd, .ref wk, .ref wz, .int 6, .int 0]))]) [0, 1] rfl
  have hKc := hK.sub (tys' := []) [] rfl
  refine ro_calli (va_runV (As := [.int (xs 1), .int (xs 2), .int (xs 3)]) (rest := []) ⟨hx, hb, hml, hown, hts⟩ (c_X11_item l D H.size x0 wo bo ro_ bu ta li ca fc wp ws_ wd wk wz (xs 1) (xs 2) (xs 3)) (cwV 3 hts gm_L_law_X11_item rfl rfl rfl (by decide +kernel) ⟨Nat.le_of_ble_eq_true rfl, Nat.le_of_ble_eq_true rfl⟩) (pA_V hKc hPc (ci := 11) (q0 := 0) rfl rfl) rfl rfl hl.1 rfl (lv_room (Nat.le_of_ble_eq_true rfl)) dL_law_1179 ⟨Nat.le_of_ble_eq_true rfl, Nat.le_of_ble_eq_true rfl⟩) hS hA hP (fun r1 u1 H locs hw1 hP hS => ?_)
  have hw1 : r1 = (-1) := hw1
  subst hw1
  refine lv_aload_n hx hb dL_law_1182 rfl (lv_at hl 1 rfl) ?_
  refine lv_aload_n hx hb dL_law_1183 rfl (lv_at hl 3 rfl) ?_
  refine lv_iload_n hx hb dL_law_1184 rfl (lv_at hl 0 rfl) ?_
  refine lv_iconst (v := 1) hx hb dL_law_1185 (by decide) ?_
  refine lv_iadd hx hb dL_law_1186 ?_
  refine tp_i (y := 1) (by decide) ?_
  refine va_sld hx hb hX hbl hbA hS (show vp_in 1 7 from by unfold vp_in; decide) dL_law_1187 ?_
  refine tp_i (y := xs 1) rfl ?_
  refine lv_aload_n hx hb dL_law_1188 rfl (lv_at hl 3 rfl) ?_
  refine lv_iload_n hx hb dL_law_1189 rfl (lv_at hl 0 rfl) ?_
  refine lv_iconst (v := 2) hx hb dL_law_1190 (by decide) ?_
  refine lv_iadd hx hb dL_law_1191 ?_
  refine tp_i (y := 2) (by decide) ?_
  refine va_sld hx hb hX hbl hbA hS (show vp_in 2 7 from by unfold vp_in; decide) dL_law_1192 ?_
  refine tp_i (y := xs 2) rfl ?_
  refine lv_aload_n hx hb dL_law_1193 rfl (lv_at hl 3 rfl) ?_
  refine lv_iload_n hx hb dL_law_1194 rfl (lv_at hl 0 rfl) ?_
  refine lv_iconst (v := 3) hx hb dL_law_1195 (by decide) ?_
  refine lv_iadd hx hb dL_law_1196 ?_
  refine tp_i (y := 3) (by decide) ?_
  refine va_sld hx hb hX hbl hbA hS (show vp_in 3 7 from by unfold vp_in; decide) dL_law_1197 ?_
  refine tp_i (y := xs 3) rfl ?_
  have hPc := hP.sub (ws' := [(m0, .inr (12, [.int 0, .ref g1, .int 6, .ref g3, .ref g4, .int 0, .ref g6, .ref g7, .int 0, .ref g9, .ref g10, .ref g11, .ref g12, .ref g13, .ref g14, .int 0, .int 0, .int 0, .int 0, .int 0, .ref g20, .ref g21, .int (-9), .ref g23, .ref g24, .ref g25, .ref g26, .int 0, .ref g28, .ref g29, .ref g30, .ref g31, .ref g32, .int 0, .ref g34, .int 0, .int 0, .long 0, .ref g38, .ref g39, .int 0, .int 0, .int 0, .ref g43, .ref g44, .ref g45, .ref g46, .ref g47, .ref g48, .ref g49, .int 0, .ref g51, .ref g52, .ref g53, .ref g54, .ref g55, .ref g56, .int (-9), .int 0, .int 0, .ref g60, .ref g61, .ref g62, .ref g63, .int 0, .ref g65, .ref g66, .ref g67, .ref g68]))]) [2] rfl
  have hKc := hK.sub (tys' := []) [] rfl
  refine ro_calli (va_runV (As := [.int (xs 1), .int (xs 2), .int (xs 3)]) (rest := [.int (-1)]) ⟨hx, hb, hml, hown, hts⟩ (c_X12_item l D H.size m0 g1 g3 g4 g6 g7 g9 g10 g11 g12 g13 g14 g20 g21 g23 g24 g25 g26 g28 g29 g30 g31 g32 g34 g38 g39 g43 g44 g45 g46 g47 g48 g49 g51 g52 g53 g54 g55 g56 g60 g61 g62 g63 g65 g66 g67 g68 (xs 1) (xs 2) (xs 3)) (cwV 3 hts gm_L_law_X12_item rfl rfl rfl (by decide +kernel) ⟨Nat.le_of_ble_eq_true rfl, Nat.le_of_ble_eq_true rfl⟩) (pA_V hKc hPc (ci := 12) (q0 := 0) rfl rfl) rfl rfl hl.1 rfl (lv_room (Nat.le_of_ble_eq_true rfl)) dL_law_1198 ⟨Nat.le_of_ble_eq_true rfl, Nat.le_of_ble_eq_true rfl⟩) hS hA hP (fun r2 u2 H locs hw2 hP hS => ?_)
  have hw2 : r2 = (-1) := hw2
  subst hw2
  refine lv_icmp_eq (tgt := 1463) hx hb dL_law_1201 (by decide) (fun _ => ?_) (fun q9 => absurd (by decide) q9)
  exact law_tail hx hb hr hlocks hX hbl hS hl (Nat.le_of_ble_eq_true rfl) (Nat.le_of_ble_eq_true rfl)

set_option maxHeartbeats 4000000 in
set_option maxRecDepth 100000 in
theorem law_copy {p : Program} {l : Launch} {e : Env} {s : State} {m : MethodId} {below : List Frame} {meth : Method} {c : Code} {b : Nat} {xs : Nat → Int32} (D : va_G) (x0 : Nat) (wo : Nat) (bo : Nat) (ro_ : Nat) (bu : Nat) (ta : Nat) (li : Nat) (ca : Nat) (fc : Nat) (wp : Nat) (ws_ : Nat) (wd : Nat) (wk : Nat) (wz : Nat) (m0 : Nat) (g1 : Nat) (g3 : Nat) (g4 : Nat) (g6 : Nat) (g7 : Nat) (g9 : Nat) (g10 : Nat) (g11 : Nat) (g12 : Nat) (g13 : Nat) (g14 : Nat) (g20 : Nat) (g21 : Nat) (g23 : Nat) (g24 : Nat) (g25 : Nat) (g26 : Nat) (g28 : Nat) (g29 : Nat) (g30 : Nat) (g31 : Nat) (g32 : Nat) (g34 : Nat) (g38 : Nat) (g39 : Nat) (g43 : Nat) (g44 : Nat) (g45 : Nat) (g46 : Nat) (g47 : Nat) (g48 : Nat) (g49 : Nat) (g51 : Nat) (g52 : Nat) (g53 : Nat) (g54 : Nat) (g55 : Nat) (g56 : Nat) (g60 : Nat) (g61 : Nat) (g62 : Nat) (g63 : Nat) (g65 : Nat) (g66 : Nat) (g67 : Nat) (g68 : Nat) (hx : p.tables.exec = Jvm.exec) (hb : c.code = cL_law) (hr : meth.sig.returnType = ret) (hlocks : meth.locks = false) (hml : c.maxLocals = 4) (hown : s.vm.findClass RL = some m.cls) (hts : ∀ w ∈ wm_law, w.before #[Value.ref b] s = true) (hX : va_X b 7 xs s s.heap) (hbl : b < s.heap.size) (hK : va_K D vwCl [] s) (H : Heap) (locs : List Loc) (ls : Array Slot) (hP : va_P D vwCl [(x0, .inr (11, [.ref wo, .ref bo, .ref ro_, .ref bu, .ref ta, .ref li, .ref ca, .null, .ref fc, .int 0, .long 0])), (wo, .inr (10, [.ref wp, .ref ws_, .ref wd, .ref wk, .ref wz, .int 6, .int 0])), (m0, .inr (12, [.int 0, .ref g1, .int 6, .ref g3, .ref g4, .int 0, .ref g6, .ref g7, .int 0, .ref g9, .ref g10, .ref g11, .ref g12, .ref g13, .ref g14, .int 0, .int 0, .int 0, .int 0, .int 0, .ref g20, .ref g21, .int (-9), .ref g23, .ref g24, .ref g25, .ref g26, .int 0, .ref g28, .ref g29, .ref g30, .ref g31, .ref g32, .int 0, .ref g34, .int 0, .int 0, .long 0, .ref g38, .ref g39, .int 0, .int 0, .int 0, .ref g43, .ref g44, .ref g45, .ref g46, .ref g47, .ref g48, .ref g49, .int 0, .ref g51, .ref g52, .ref g53, .ref g54, .ref g55, .ref g56, .int (-9), .int 0, .int 0, .ref g60, .ref g61, .ref g62, .ref g63, .int 0, .ref g65, .ref g66, .ref g67, .ref g68]))] H) (hD : va_D (fun q : Nat => s.heap.size ≤ q) [(x0, .inr (11, [.ref wo, .ref bo, .ref ro_, .ref bu, .ref ta, .ref li, .ref ca, .null, .ref fc, .int 0, .long 0])), (wo, .inr (10, [.ref wp, .ref ws_, .ref wd, .ref wk, .ref wz, .int 6, .int 0])), (m0, .inr (12, [.int 0, .ref g1, .int 6, .ref g3, .ref g4, .int 0, .ref g6, .ref g7, .int 0, .ref g9, .ref g10, .ref g11, .ref g12, .ref g13, .ref g14, .int 0, .int 0, .int 0, .int 0, .int 0, .ref g20, .ref g21, .int (-9), .ref g23, .ref g24, .ref g25, .ref g26, .int 0, .ref g28, .ref g29, .ref g30, .ref g31, .ref g32, .int 0, .ref g34, .int 0, .int 0, .long 0, .ref g38, .ref g39, .int 0, .int 0, .int 0, .ref g43, .ref g44, .ref g45, .ref g46, .ref g47, .ref g48, .ref g49, .int 0, .ref g51, .ref g52, .ref g53, .ref g54, .ref g55, .ref g56, .int (-9), .int 0, .int 0, .ref g60, .ref g61, .ref g62, .ref g63, .int 0, .ref g65, .ref g66, .ref g67, .ref g68]))]) (hS : va_S (fun q : Nat => s.heap.size ≤ q) s.heap H locs) (hl : lv_has ls 4 [(3, .int 0), (2, .ref m0), (1, .ref x0), (0, .ref b)]) : W p l e room_1 s m #[Value.ref b] below meth c H locs 98 48488 (lw_Z below #[Value.ref b] s) (F0 m 1206 ls []) := by
  have hbA : ¬ (fun q : Nat => s.heap.size ≤ q) b := Nat.not_le.mpr hbl
  have hA : ∀ q : Nat, s.heap.size ≤ q → (fun q : Nat => s.heap.size ≤ q) q := fun _ h => h
  refine lv_aload_n hx hb dL_law_1206 rfl (lv_at hl 2 rfl) ?_
  refine lv_aload_n hx hb dL_law_1207 rfl (lv_at hl 3 rfl) ?_
  refine lv_iload_n hx hb dL_law_1208 rfl (lv_at hl 0 rfl) ?_
  refine lv_iconst (v := 1) hx hb dL_law_1209 (by decide) ?_
  refine lv_iadd hx hb dL_law_1210 ?_
  refine tp_i (y := 1) (by decide) ?_
  refine va_sld hx hb hX hbl hbA hS (show vp_in 1 7 from by unfold vp_in; decide) dL_law_1211 ?_
  refine tp_i (y := xs 1) rfl ?_
  refine lv_aload_n hx hb dL_law_1212 rfl (lv_at hl 3 rfl) ?_
  refine lv_iload_n hx hb dL_law_1213 rfl (lv_at hl 0 rfl) ?_
  refine lv_iconst (v := 2) hx hb dL_law_1214 (by decide) ?_
  refine lv_iadd hx hb dL_law_1215 ?_
  refine tp_i (y := 2) (by decide) ?_
  refine va_sld hx hb hX hbl hbA hS (show vp_in 2 7 from by unfold vp_in; decide) dL_law_1216 ?_
  refine tp_i (y := xs 2) rfl ?_
  refine lv_aload_n hx hb dL_law_1217 rfl (lv_at hl 3 rfl) ?_
  refine lv_iload_n hx hb dL_law_1218 rfl (lv_at hl 0 rfl) ?_
  refine lv_iconst (v := 3) hx hb dL_law_1219 (by decide) ?_
  refine lv_iadd hx hb dL_law_1220 ?_
  refine tp_i (y := 3) (by decide) ?_
  refine va_sld hx hb hX hbl hbA hS (show vp_in 3 7 from by unfold vp_in; decide) dL_law_1221 ?_
  refine tp_i (y := xs 3) rfl ?_
  refine lv_aload_n hx hb dL_law_1222 rfl (lv_at hl 3 rfl) ?_
  refine lv_iload_n hx hb dL_law_1223 rfl (lv_at hl 0 rfl) ?_
  refine lv_iconst (v := 4) hx hb dL_law_1224 (by decide) ?_
  refine lv_iadd hx hb dL_law_1225 ?_
  refine tp_i (y := 4) (by decide) ?_
  refine va_sld hx hb hX hbl hbA hS (show vp_in 4 7 from by unfold vp_in; decide) dL_law_1226 ?_
  refine tp_i (y := xs 4) rfl ?_
  refine lv_aload_n hx hb dL_law_1227 rfl (lv_at hl 3 rfl) ?_
  refine lv_iload_n hx hb dL_law_1228 rfl (lv_at hl 0 rfl) ?_
  refine lv_iconst (v := 5) hx hb dL_law_1229 (by decide) ?_
  refine lv_iadd hx hb dL_law_1230 ?_
  refine tp_i (y := 5) (by decide) ?_
  refine va_sld hx hb hX hbl hbA hS (show vp_in 5 7 from by unfold vp_in; decide) dL_law_1231 ?_
  refine tp_i (y := xs 5) rfl ?_
  refine lv_aload_n hx hb dL_law_1232 rfl (lv_at hl 3 rfl) ?_
  refine lv_iload_n hx hb dL_law_1233 rfl (lv_at hl 0 rfl) ?_
  refine lv_bipush (v := 6) hx hb dL_law_1234 (by decide) ?_
  refine lv_iadd hx hb dL_law_1236 ?_
  refine tp_i (y := 6) (by decide) ?_
  refine va_sld hx hb hX hbl hbA hS (show vp_in 6 7 from by unfold vp_in; decide) dL_law_1237 ?_
  refine tp_i (y := xs 6) rfl ?_
  have hPc := hP.sub (ws' := [(x0, .inr (11, [.ref wo, .ref bo, .ref ro_, .ref bu, .ref ta, .ref li, .ref ca, .null, .ref fc, .int 0, .long 0])), (wo, .inr (10, [.ref wp, .ref ws_, .ref wd, .ref wk, .ref wz, .int 6, .int 0]))]) [0, 1] rfl
  have hKc := hK.sub (tys' := []) [] rfl
  refine ro_calli (va_runV (As := [.int (xs 1), .int (xs 2), .int (xs 3), .int (xs 4), .int (xs 5), .int (xs 6)]) (rest := []) ⟨hx, hb, hml, hown, hts⟩ (c_X11_copy l D H.size x0 wo bo ro_ bu ta li ca fc wp ws_ wd wk wz (xs 1) (xs 2) (xs 3) (xs 4) (xs 5) (xs 6)) (cwV 6 hts gm_L_law_X11_copy rfl rfl rfl (by decide +kernel) ⟨Nat.le_of_ble_eq_true rfl, Nat.le_of_ble_eq_true rfl⟩) (pA_V hKc hPc (ci := 11) (q0 := 0) rfl rfl) rfl rfl hl.1 rfl (lv_room (Nat.le_of_ble_eq_true rfl)) dL_law_1238 ⟨Nat.le_of_ble_eq_true rfl, Nat.le_of_ble_eq_true rfl⟩) hS hA hP (fun r1 u1 H locs hw1 hP hS => ?_)
  have hw1 : r1 = (-1) := hw1
  subst hw1
  refine lv_aload_n hx hb dL_law_1241 rfl (lv_at hl 1 rfl) ?_
  refine lv_aload_n hx hb dL_law_1242 rfl (lv_at hl 3 rfl) ?_
  refine lv_iload_n hx hb dL_law_1243 rfl (lv_at hl 0 rfl) ?_
  refine lv_iconst (v := 1) hx hb dL_law_1244 (by decide) ?_
  refine lv_iadd hx hb dL_law_1245 ?_
  refine tp_i (y := 1) (by decide) ?_
  refine va_sld hx hb hX hbl hbA hS (show vp_in 1 7 from by unfold vp_in; decide) dL_law_1246 ?_
  refine tp_i (y := xs 1) rfl ?_
  refine lv_aload_n hx hb dL_law_1247 rfl (lv_at hl 3 rfl) ?_
  refine lv_iload_n hx hb dL_law_1248 rfl (lv_at hl 0 rfl) ?_
  refine lv_iconst (v := 2) hx hb dL_law_1249 (by decide) ?_
  refine lv_iadd hx hb dL_law_1250 ?_
  refine tp_i (y := 2) (by decide) ?_
  refine va_sld hx hb hX hbl hbA hS (show vp_in 2 7 from by unfold vp_in; decide) dL_law_1251 ?_
  refine tp_i (y := xs 2) rfl ?_
  refine lv_aload_n hx hb dL_law_1252 rfl (lv_at hl 3 rfl) ?_
  refine lv_iload_n hx hb dL_law_1253 rfl (lv_at hl 0 rfl) ?_
  refine lv_iconst (v := 3) hx hb dL_law_1254 (by decide) ?_
  refine lv_iadd hx hb dL_law_1255 ?_
  refine tp_i (y := 3) (by decide) ?_
  refine va_sld hx hb hX hbl hbA hS (show vp_in 3 7 from by unfold vp_in; decide) dL_law_1256 ?_
  refine tp_i (y := xs 3) rfl ?_
  refine lv_aload_n hx hb dL_law_1257 rfl (lv_at hl 3 rfl) ?_
  refine lv_iload_n hx hb dL_law_1258 rfl (lv_at hl 0 rfl) ?_
  refine lv_iconst (v := 4) hx hb dL_law_1259 (by decide) ?_
  refine lv_iadd hx hb dL_law_1260 ?_
  refine tp_i (y := 4) (by decide) ?_
  refine va_sld hx hb hX hbl hbA hS (show vp_in 4 7 from by unfold vp_in; decide) dL_law_1261 ?_
  refine tp_i (y := xs 4) rfl ?_
  refine lv_aload_n hx hb dL_law_1262 rfl (lv_at hl 3 rfl) ?_
  refine lv_iload_n hx hb dL_law_1263 rfl (lv_at hl 0 rfl) ?_
  refine lv_iconst (v := 5) hx hb dL_law_1264 (by decide) ?_
  refine lv_iadd hx hb dL_law_1265 ?_
  refine tp_i (y := 5) (by decide) ?_
  refine va_sld hx hb hX hbl hbA hS (show vp_in 5 7 from by unfold vp_in; decide) dL_law_1266 ?_
  refine tp_i (y := xs 5) rfl ?_
  refine lv_aload_n hx hb dL_law_1267 rfl (lv_at hl 3 rfl) ?_
  refine lv_iload_n hx hb dL_law_1268 rfl (lv_at hl 0 rfl) ?_
  refine lv_bipush (v := 6) hx hb dL_law_1269 (by decide) ?_
  refine lv_iadd hx hb dL_law_1271 ?_
  refine tp_i (y := 6) (by decide) ?_
  refine va_sld hx hb hX hbl hbA hS (show vp_in 6 7 from by unfold vp_in; decide) dL_law_1272 ?_
  refine tp_i (y := xs 6) rfl ?_
  have hPc := hP.sub (ws' := [(m0, .inr (12, [.int 0, .ref g1, .int 6, .ref g3, .ref g4, .int 0, .ref g6, .ref g7, .int 0, .ref g9, .ref g10, .ref g11, .ref g12, .ref g13, .ref g14, .int 0, .int 0, .int 0, .int 0, .int 0, .ref g20, .ref g21, .int (-9), .ref g23, .ref g24, .ref g25, .ref g26, .int 0, .ref g28, .ref g29, .ref g30, .ref g31, .ref g32, .int 0, .ref g34, .int 0, .int 0, .long 0, .ref g38, .ref g39, .int 0, .int 0, .int 0, .ref g43, .ref g44, .ref g45, .ref g46, .ref g47, .ref g48, .ref g49, .int 0, .ref g51, .ref g52, .ref g53, .ref g54, .ref g55, .ref g56, .int (-9), .int 0, .int 0, .ref g60, .ref g61, .ref g62, .ref g63, .int 0, .ref g65, .ref g66, .ref g67, .ref g68]))]) [2] rfl
  have hKc := hK.sub (tys' := []) [] rfl
  refine ro_calli (va_runV (As := [.int (xs 1), .int (xs 2), .int (xs 3), .int (xs 4), .int (xs 5), .int (xs 6)]) (rest := [.int (-1)]) ⟨hx, hb, hml, hown, hts⟩ (c_X12_copy l D H.size m0 g1 g3 g4 g6 g7 g9 g10 g11 g12 g13 g14 g20 g21 g23 g24 g25 g26 g28 g29 g30 g31 g32 g34 g38 g39 g43 g44 g45 g46 g47 g48 g49 g51 g52 g53 g54 g55 g56 g60 g61 g62 g63 g65 g66 g67 g68 (xs 1) (xs 2) (xs 3) (xs 4) (xs 5) (xs 6)) (cwV 6 hts gm_L_law_X12_copy rfl rfl rfl (by decide +kernel) ⟨Nat.le_of_ble_eq_true rfl, Nat.le_of_ble_eq_true rfl⟩) (pA_V hKc hPc (ci := 12) (q0 := 0) rfl rfl) rfl rfl hl.1 rfl (lv_room (Nat.le_of_ble_eq_true rfl)) dL_law_1273 ⟨Nat.le_of_ble_eq_true rfl, Nat.le_of_ble_eq_true rfl⟩) hS hA hP (fun r2 u2 H locs hw2 hP hS => ?_)
  have hw2 : r2 = (-1) := hw2
  subst hw2
  refine lv_icmp_eq (tgt := 1463) hx hb dL_law_1276 (by decide) (fun _ => ?_) (fun q9 => absurd (by decide) q9)
  exact law_tail hx hb hr hlocks hX hbl hS hl (Nat.le_of_ble_eq_true rfl) (Nat.le_of_ble_eq_true rfl)

