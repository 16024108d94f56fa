set_option maxHeartbeats 4000000 in
set_option maxRecDepth 100000 in
theorem law_kind {p : Program} {l : Launch} {e : Env} {s : State} {m : MethodId} {below : List Frame} {meth : Method} {c : Code} {b : Nat} {xs : Nat → Int32} (D : va_G) (x0 : Nat) (wo : Nat) (bo : Nat) (ro_ : Nat) (bu : Nat) (ta : Nat) (li : Nat) (ca : Nat) (fc : Nat) (wp : Nat) (ws_ : Nat) (wd : Nat) (wk : Nat) (wz : Nat) (cP : ClassId) (fp : Nat → Int32) (cS : ClassId) (fs : Nat → Int32) (m0 : Nat) (g1 : Nat) (g3 : Nat) (g4 : Nat) (g6 : Nat) (g7 : Nat) (g9 : Nat) (g10 : Nat) (g11 : Nat) (g12 : Nat) (g13 : Nat) (g14 : Nat) (g20 : Nat) (g21 : Nat) (g23 : Nat) (g24 : Nat) (g25 : Nat) (g26 : Nat) (g28 : Nat) (g29 : Nat) (g30 : Nat) (g31 : Nat) (g32 : Nat) (g34 : Nat) (g38 : Nat) (g39 : Nat) (g43 : Nat) (g44 : Nat) (g45 : Nat) (g46 : Nat) (g47 : Nat) (g48 : Nat) (g49 : Nat) (g51 : Nat) (g52 : Nat) (g53 : Nat) (g54 : Nat) (g55 : Nat) (g56 : Nat) (g60 : Nat) (g61 : Nat) (g62 : Nat) (g63 : Nat) (g65 : Nat) (g66 : Nat) (g67 : Nat) (g68 : Nat) (eP : ClassId) (vp : Nat → Int32) (hx : p.tables.exec = Jvm.exec) (hb : c.code = cL_law) (hr : meth.sig.returnType = ret) (hlocks : meth.locks = false) (hml : c.maxLocals = 4) (hown : s.vm.findClass RL = some m.cls) (hts : ∀ w ∈ wm_law, w.before #[Value.ref b] s = true) (hX : va_X b 7 xs s s.heap) (hbl : b < s.heap.size) (hK : va_K D vwCl [(cP, .int), (cS, .int), (eP, .int)] s) (H : Heap) (locs : List Loc) (ls : Array Slot) (hP : va_P D vwCl [(x0, .inr (11, [.ref wo, .ref bo, .ref ro_, .ref bu, .ref ta, .ref li, .ref ca, .null, .ref fc, .int 0, .long 0])), (wo, .inr (10, [.ref wp, .ref ws_, .ref wd, .ref wk, .ref wz, .int 6, .int 0])), (wp, .inl (cP, 24, .inl fp)), (ws_, .inl (cS, 24, .inl fs)), (m0, .inr (12, [.int 0, .ref g1, .int 6, .ref g3, .ref g4, .int 0, .ref g6, .ref g7, .int 0, .ref g9, .ref g10, .ref g11, .ref g12, .ref g13, .ref g14, .int 0, .int 0, .int 0, .int 0, .int 0, .ref g20, .ref g21, .int (-9), .ref g23, .ref g24, .ref g25, .ref g26, .int 0, .ref g28, .ref g29, .ref g30, .ref g31, .ref g32, .int 0, .ref g34, .int 0, .int 0, .long 0, .ref g38, .ref g39, .int 0, .int 0, .int 0, .ref g43, .ref g44, .ref g45, .ref g46, .ref g47, .ref g48, .ref g49, .int 0, .ref g51, .ref g52, .ref g53, .ref g54, .ref g55, .ref g56, .int (-9), .int 0, .int 0, .ref g60, .ref g61, .ref g62, .ref g63, .int 0, .ref g65, .ref g66, .ref g67, .ref g68])), (g3, .inl (eP, 24, .inl vp))] H) (hD : va_D (fun q : Nat => s.heap.size ≤ q) [(x0, .inr (11, [.ref wo, .ref bo, .ref ro_, .ref bu, .ref ta, .ref li, .ref ca, .null, .ref fc, .int 0, .long 0])), (wo, .inr (10, [.ref wp, .ref ws_, .ref wd, .ref wk, .ref wz, .int 6, .int 0])), (wp, .inl (cP, 24, .inl fp)), (ws_, .inl (cS, 24, .inl fs)), (m0, .inr (12, [.int 0, .ref g1, .int 6, .ref g3, .ref g4, .int 0, .ref g6, .ref g7, .int 0, .ref g9, .ref g10, .ref g11, .ref g12, .ref g13, .ref g14, .int 0, .int 0, .int 0, .int 0, .int 0, .ref g20, .ref g21, .int (-9), .ref g23, .ref g24, .ref g25, .ref g26, .int 0, .ref g28, .ref g29, .ref g30, .ref g31, .ref g32, .int 0, .ref g34, .int 0, .int 0, .long 0, .ref g38, .ref g39, .int 0, .int 0, .int 0, .ref g43, .ref g44, .ref g45, .ref g46, .ref g47, .ref g48, .ref g49, .int 0, .ref g51, .ref g52, .ref g53, .ref g54, .ref g55, .ref g56, .int (-9), .int 0, .int 0, .ref g60, .ref g61, .ref g62, .ref g63, .int 0, .ref g65, .ref g66, .ref g67, .ref g68])), (g3, .inl (eP, 24, .inl vp))]) (hS : va_S (fun q : Nat => s.heap.size ≤ q) s.heap H locs) (hl : lv_has ls 4 [(3, .int 0), (2, .ref m0), (1, .ref x0), (0, .ref b)]) : W p l e room_1 s m #[Value.ref b] below meth c H locs 98 48488 (lw_Z below #[Value.ref b] s) (F0 m 196 ls []) := by
  have hbA : ¬ (fun q : Nat => s.heap.size ≤ q) b := Nat.not_le.mpr hbl
  have hA : ∀ q : Nat, s.heap.size ≤ q → (fun q : Nat => s.heap.size ≤ q) q := fun _ h => h
  refine lv_aload_n hx hb dL_law_196 rfl (lv_at hl 2 rfl) ?_
  refine lv_aload_n hx hb dL_law_197 rfl (lv_at hl 3 rfl) ?_
  refine lv_iload_n hx hb dL_law_198 rfl (lv_at hl 0 rfl) ?_
  refine lv_iconst (v := 1) hx hb dL_law_199 (by decide) ?_
  refine lv_iadd hx hb dL_law_200 ?_
  refine tp_i (y := 1) (by decide) ?_
  refine va_sld hx hb hX hbl hbA hS (show vp_in 1 7 from by unfold vp_in; decide) dL_law_201 ?_
  refine tp_i (y := xs 1) rfl ?_
  have hPc := hP.sub (ws' := [(x0, .inr (11, [.ref wo, .ref bo, .ref ro_, .ref bu, .ref ta, .ref li, .ref ca, .null, .ref fc, .int 0, .long 0])), (wo, .inr (10, [.ref wp, .ref ws_, .ref wd, .ref wk, .ref wz, .int 6, .int 0])), (wp, .inl (cP, 24, .inl fp)), (ws_, .inl (cS, 24, .inl fs))]) [0, 1, 2, 3] rfl
  have hKc := hK.sub (tys' := [(cP, .int), (cS, .int)]) [0, 1] rfl
  have hDc := hD.sub (ws' := [(x0, .inr (11, [.ref wo, .ref bo, .ref ro_, .ref bu, .ref ta, .ref li, .ref ca, .null, .ref fc, .int 0, .long 0])), (wo, .inr (10, [.ref wp, .ref ws_, .ref wd, .ref wk, .ref wz, .int 6, .int 0])), (wp, .inl (cP, 24, .inl fp)), (ws_, .inl (cS, 24, .inl fs))]) [0, 1, 2, 3] (by decide) rfl
  refine rw_calli (wr := [(m0, .inr (12, [.int 0, .ref g1, .int 6, .ref g3, .ref g4, .int 0, .ref g6, .ref g7, .int 0, .ref g9, .ref g10, .ref g11, .ref g12, .ref g13, .ref g14, .int 0, .int 0, .int 0, .int 0, .int 0, .ref g20, .ref g21, .int (-9), .ref g23, .ref g24, .ref g25, .ref g26, .int 0, .ref g28, .ref g29, .ref g30, .ref g31, .ref g32, .int 0, .ref g34, .int 0, .int 0, .long 0, .ref g38, .ref g39, .int 0, .int 0, .int 0, .ref g43, .ref g44, .ref g45, .ref g46, .ref g47, .ref g48, .ref g49, .int 0, .ref g51, .ref g52, .ref g53, .ref g54, .ref g55, .ref g56, .int (-9), .int 0, .int 0, .ref g60, .ref g61, .ref g62, .ref g63, .int 0, .ref g65, .ref g66, .ref g67, .ref g68])), (g3, .inl (eP, 24, .inl vp))]) (va_runV (As := [.int (xs 1)]) (rest := []) ⟨hx, hb, hml, hown, hts⟩ (c_X11_kind l D H.size x0 wo bo ro_ bu ta li ca fc wp ws_ wd wk wz cP fp cS fs (xs 1)) (cwV 1 hts gm_L_law_X11_kind rfl rfl rfl (by decide +kernel) ⟨Nat.le_of_ble_eq_true rfl, Nat.le_of_ble_eq_true rfl⟩) (pB_V hKc hPc hDc (ci := 11) (q0 := 0) rfl rfl) rfl rfl hl.1 rfl (lv_room (Nat.le_of_ble_eq_true rfl)) dL_law_202 ⟨Nat.le_of_ble_eq_true rfl, Nat.le_of_ble_eq_true rfl⟩) hS hA hK hP hD [0, 1, 2, 3] [4, 5] rfl rfl (by decide) (by decide) (fun r1 u1 H locs hw1 hK hP hD hS => ?_)
  have hP : va_P D vwCl [(m0, .inr (12, [.int 0, .ref g1, .int 6, .ref g3, .ref g4, .int 0, .ref g6, .ref g7, .int 0, .ref g9, .ref g10, .ref g11, .ref g12, .ref g13, .ref g14, .int 0, .int 0, .int 0, .int 0, .int 0, .ref g20, .ref g21, .int (-9), .ref g23, .ref g24, .ref g25, .ref g26, .int 0, .ref g28, .ref g29, .ref g30, .ref g31, .ref g32, .int 0, .ref g34, .int 0, .int 0, .long 0, .ref g38, .ref g39, .int 0, .int 0, .int 0, .ref g43, .ref g44, .ref g45, .ref g46, .ref g47, .ref g48, .ref g49, .int 0, .ref g51, .ref g52, .ref g53, .ref g54, .ref g55, .ref g56, .int (-9), .int 0, .int 0, .ref g60, .ref g61, .ref g62, .ref g63, .int 0, .ref g65, .ref g66, .ref g67, .ref g68])), (g3, .inl (eP, 24, .inl vp))] H := hP
  have hD : va_D (fun q : Nat => s.heap.size ≤ q) [(m0, .inr (12, [.int 0, .ref g1, .int 6, .ref g3, .ref g4, .int 0, .ref g6, .ref g7, .int 0, .ref g9, .ref g10, .ref g11, .ref g12, .ref g13, .ref g14, .int 0, .int 0, .int 0, .int 0, .int 0, .ref g20, .ref g21, .int (-9), .ref g23, .ref g24, .ref g25, .ref g26, .int 0, .ref g28, .ref g29, .ref g30, .ref g31, .ref g32, .int 0, .ref g34, .int 0, .int 0, .long 0, .ref g38, .ref g39, .int 0, .int 0, .int 0, .ref g43, .ref g44, .ref g45, .ref g46, .ref g47, .ref g48, .ref g49, .int 0, .ref g51, .ref g52, .ref g53, .ref g54, .ref g55, .ref g56, .int (-9), .int 0, .int 0, .ref g60, .ref g61, .ref g62, .ref g63, .int 0, .ref g65, .ref g66, .ref g67, .ref g68])), (g3, .inl (eP, 24, .inl vp))] := hD
  have hK : va_K D vwCl [(cP, .int), (cS, .int), (eP, .int)] s := hK
  have hw1 : r1 = if (0 ≤ (xs 1).toInt ∧ (xs 1).toInt < 6) then 6 else -1 := hw1
  refine lv_aload_n hx hb dL_law_205 rfl (lv_at hl 1 rfl) ?_
  refine lv_aload_n hx hb dL_law_206 rfl (lv_at hl 3 rfl) ?_
  refine lv_iload_n hx hb dL_law_207 rfl (lv_at hl 0 rfl) ?_
  refine lv_iconst (v := 1) hx hb dL_law_208 (by decide) ?_
  refine lv_iadd hx hb dL_law_209 ?_
  refine tp_i (y := 1) (by decide) ?_
  refine va_sld hx hb hX hbl hbA hS (show vp_in 1 7 from by unfold vp_in; decide) dL_law_210 ?_
  refine tp_i (y := xs 1) rfl ?_
  have hPc := hP.sub (ws' := [(m0, .inr (12, [.int 0, .ref g1, .int 6, .ref g3, .ref g4, .int 0, .ref g6, .ref g7, .int 0, .ref g9, .ref g10, .ref g11, .ref g12, .ref g13, .ref g14, .int 0, .int 0, .int 0, .int 0, .int 0, .ref g20, .ref g21, .int (-9), .ref g23, .ref g24, .ref g25, .ref g26, .int 0, .ref g28, .ref g29, .ref g30, .ref g31, .ref g32, .int 0, .ref g34, .int 0, .int 0, .long 0, .ref g38, .ref g39, .int 0, .int 0, .int 0, .ref g43, .ref g44, .ref g45, .ref g46, .ref g47, .ref g48, .ref g49, .int 0, .ref g51, .ref g52, .ref g53, .ref g54, .ref g55, .ref g56, .int (-9), .int 0, .int 0, .ref g60, .ref g61, .ref g62, .ref g63, .int 0, .ref g65, .ref g66, .ref g67, .ref g68])), (g3, .inl (eP, 24, .inl vp))]) [0, 1] rfl
  have hKc := hK.sub (tys' := [(eP, .int)]) [2] rfl
  have hDc := hD.sub (ws' := [(m0, .inr (12, [.int 0, .ref g1, .int 6, .ref g3, .ref g4, .int 0, .ref g6, .ref g7, .int 0, .ref g9, .ref g10, .ref g11, .ref g12, .ref g13, .ref g14, .int 0, .int 0, .int 0, .int 0, .int 0, .ref g20, .ref g21, .int (-9), .ref g23, .ref g24, .ref g25, .ref g26, .int 0, .ref g28, .ref g29, .ref g30, .ref g31, .ref g32, .int 0, .ref g34, .int 0, .int 0, .long 0, .ref g38, .ref g39, .int 0, .int 0, .int 0, .ref g43, .ref g44, .ref g45, .ref g46, .ref g47, .ref g48, .ref g49, .int 0, .ref g51, .ref g52, .ref g53, .ref g54, .ref g55, .ref g56, .int (-9), .int 0, .int 0, .ref g60, .ref g61, .ref g62, .ref g63, .int 0, .ref g65, .ref g66, .ref g67, .ref g68])), (g3, .inl (eP, 24, .inl vp))]) [0, 1] (by decide) rfl
  refine rw_calli (wr := []) (va_runV (As := [.int (xs 1)]) (rest := [.int r1]) ⟨hx, hb, hml, hown, hts⟩ (c_X12_kind l D H.size m0 g1 g3 g4 g6 g7 g9 g10 g11 g12 g13 g14 g20 g21 g23 g24 g25 g26 g28 g29 g30 g31 g32 g34 g38 g39 g43 g44 g45 g46 g47 g48 g49 g51 g52 g53 g54 g55 g56 g60 g61 g62 g63 g65 g66 g67 g68 eP vp (xs 1)) (cwV 1 hts gm_L_law_X12_kind rfl rfl rfl (by decide +kernel) ⟨Nat.le_of_ble_eq_true rfl, Nat.le_of_ble_eq_true rfl⟩) (pB_V hKc hPc hDc (ci := 12) (q0 := 0) rfl rfl) rfl rfl hl.1 rfl (lv_room (Nat.le_of_ble_eq_true rfl)) dL_law_211 ⟨Nat.le_of_ble_eq_true rfl, Nat.le_of_ble_eq_true rfl⟩) hS hA hK hP hD [0, 1] [] rfl rfl (by decide) (by decide) (fun r2 u2 H locs hw2 hK hP hD hS => ?_)
  have hP : va_P D vwCl [] H := hP
  have hD : va_D (fun q : Nat => s.heap.size ≤ q) [] := hD
  have hK : va_K D vwCl [(cP, .int), (cS, .int), (eP, .int)] s := hK
  have hw2 : r2 = if (0 ≤ (xs 1).toInt ∧ (xs 1).toInt < 6) then 6 else -1 := hw2
  refine lv_icmp_eq (tgt := 1463) hx hb dL_law_214 (by decide) (fun _ => ?_) (fun q9 => absurd (by rw [hw1, hw2]) q9)
  exact law_tail hx hb hr hlocks hX hbl hS hl (Nat.le_of_ble_eq_true rfl) (Nat.le_of_ble_eq_true rfl)

set_option maxHeartbeats 4000000 in
set_option maxRecDepth 100000 in
theorem law_standard {p : Program} {l : Launch} {e : Env} {s : State} {m : MethodId} {below : List Frame} {meth : Method} {c : Code} {b : Nat} {xs : Nat → Int32} (D : va_G) (x0 : Nat) (wo : Nat) (bo : Nat) (ro_ : Nat) (bu : Nat) (ta : Nat) (li : Nat) (ca : Nat) (fc : Nat) (wp : Nat) (ws_ : Nat) (wd : Nat) (wk : Nat) (wz : Nat) (t0 : Nat) (t1 : Nat) (t2 : Nat) (t3 : Nat) (t4 : Nat) (t5 : Nat) (t6 : Nat) (cD : ClassId) (fd : Nat → Int32) (m0 : Nat) (g1 : Nat) (g3 : Nat) (g4 : Nat) (g6 : Nat) (g7 : Nat) (g9 : Nat) (g10 : Nat) (g11 : Nat) (g12 : Nat) (g13 : Nat) (g14 : Nat) (g20 : Nat) (g21 : Nat) (g23 : Nat) (g24 : Nat) (g25 : Nat) (g26 : Nat) (g28 : Nat) (g29 : Nat) (g30 : Nat) (g31 : Nat) (g32 : Nat) (g34 : Nat) (g38 : Nat) (g39 : Nat) (g43 : Nat) (g44 : Nat) (g45 : Nat) (g46 : Nat) (g47 : Nat) (g48 : Nat) (g49 : Nat) (g51 : Nat) (g52 : Nat) (g53 : Nat) (g54 : Nat) (g55 : Nat) (g56 : Nat) (g60 : Nat) (g61 : Nat) (g62 : Nat) (g63 : Nat) (g65 : Nat) (g66 : Nat) (g67 : Nat) (g68 : Nat) (eD : ClassId) (vd : Nat → Int32) (hx : p.tables.exec = Jvm.exec) (hb : c.code = cL_law) (hr : meth.sig.returnType = ret) (hlocks : meth.locks = false) (hml : c.maxLocals = 4) (hown : s.vm.findClass RL = some m.cls) (hts : ∀ w ∈ wm_law, w.before #[Value.ref b] s = true) (hX : va_X b 7 xs s s.heap) (hbl : b < s.heap.size) (hhfd : ∀ j, j < 144 → fd j = -9) (ehfd : ∀ j, j < 144 → vd j = -9) (hK : va_K D vwCl [(cD, .int), (eD, .int)] s) (H : Heap) (locs : List Loc) (ls : Array Slot) (hP : va_P D vwCl [(x0, .inr (11, [.ref wo, .ref bo, .ref ro_, .ref bu, .ref ta, .ref li, .ref ca, .null, .ref fc, .int 0, .long 0])), (wo, .inr (10, [.ref wp, .ref ws_, .ref wd, .ref wk, .ref wz, .int 6, .int 0])), (wd, .inl (cD, 144, .inl fd)), (ta, .inr (9, [.ref wo, .ref t0, .ref t1, .ref t2, .ref t3, .ref t4, .ref t5, .ref t6, .int 0, .int (-9), .int 0])), (m0, .inr (12, [.int 0, .ref g1, .int 6, .ref g3, .ref g4, .int 0, .ref g6, .ref g7, .int 0, .ref g9, .ref g10, .ref g11, .ref g12, .ref g13, .ref g14, .int 0, .int 0, .int 0, .int 0, .int 0, .ref g20, .ref g21, .int (-9), .ref g23, .ref g24, .ref g25, .ref g26, .int 0, .ref g28, .ref g29, .ref g30, .ref g31, .ref g32, .int 0, .ref g34, .int 0, .int 0, .long 0, .ref g38, .ref g39, .int 0, .int 0, .int 0, .ref g43, .ref g44, .ref g45, .ref g46, .ref g47, .ref g48, .ref g49, .int 0, .ref g51, .ref g52, .ref g53, .ref g54, .ref g55, .ref g56, .int (-9), .int 0, .int 0, .ref g60, .ref g61, .ref g62, .ref g63, .int 0, .ref g65, .ref g66, .ref g67, .ref g68])), (g4, .inl (eD, 144, .inl vd))] H) (hD : va_D (fun q : Nat => s.heap.size ≤ q) [(x0, .inr (11, [.ref wo, .ref bo, .ref ro_, .ref bu, .ref ta, .ref li, .ref ca, .null, .ref fc, .int 0, .long 0])), (wo, .inr (10, [.ref wp, .ref ws_, .ref wd, .ref wk, .ref wz, .int 6, .int 0])), (wd, .inl (cD, 144, .inl fd)), (ta, .inr (9, [.ref wo, .ref t0, .ref t1, .ref t2, .ref t3, .ref t4, .ref t5, .ref t6, .int 0, .int (-9), .int 0])), (m0, .inr (12, [.int 0, .ref g1, .int 6, .ref g3, .ref g4, .int 0, .ref g6, .ref g7, .int 0, .ref g9, .ref g10, .ref g11, .ref g12, .ref g13, .ref g14, .int 0, .int 0, .int 0, .int 0, .int 0, .ref g20, .ref g21, .int (-9), .ref g23, .ref g24, .ref g25, .ref g26, .int 0, .ref g28, .ref g29, .ref g30, .ref g31, .ref g32, .int 0, .ref g34, .int 0, .int 0, .long 0, .ref g38, .ref g39, .int 0, .int 0, .int 0, .ref g43, .ref g44, .ref g45, .ref g46, .ref g47, .ref g48, .ref g49, .int 0, .ref g51, .ref g52, .ref g53, .ref g54, .ref g55, .ref g56, .int (-9), .int 0, .int 0, .ref g60, .ref g61, .ref g62, .ref g63, .int 0, .ref g65, .ref g66, .ref g67, .ref g68])), (g4, .inl (eD, 144, .inl vd))]) (hS : va_S (fun q : Nat => s.heap.size ≤ q) s.heap H locs) (hl : lv_has ls 4 [(3, .int 0), (2, .ref m0), (1, .ref x0), (0, .ref b)]) : W p l e room_1 s m #[Value.ref b] below meth c H locs 98 48488 (lw_Z below #[Value.ref b] s) (F0 m 219 ls []) := by
  have hbA : ¬ (fun q : Nat => s.heap.size ≤ q) b := Nat.not_le.mpr hbl
  have hA : ∀ q : Nat, s.heap.size ≤ q → (fun q : Nat => s.heap.size ≤ q) q := fun _ h => h
  refine lv_aload_n hx hb dL_law_219 rfl (lv_at hl 2 rfl) ?_
  refine lv_aload_n hx hb dL_law_220 rfl (lv_at hl 3 rfl) ?_
  refine lv_iload_n hx hb dL_law_221 rfl (lv_at hl 0 rfl) ?_
  refine lv_iconst (v := 1) hx hb dL_law_222 (by decide) ?_
  refine lv_iadd hx hb dL_law_223 ?_
  refine tp_i (y := 1) (by decide) ?_
  refine va_sld hx hb hX hbl hbA hS (show vp_in 1 7 from by unfold vp_in; decide) dL_law_224 ?_
  refine tp_i (y := xs 1) rfl ?_
  refine lv_aload_n hx hb dL_law_225 rfl (lv_at hl 3 rfl) ?_
  refine lv_iload_n hx hb dL_law_226 rfl (lv_at hl 0 rfl) ?_
  refine lv_iconst (v := 2) hx hb dL_law_227 (by decide) ?_
  refine lv_iadd hx hb dL_law_228 ?_
  refine tp_i (y := 2) (by decide) ?_
  refine va_sld hx hb hX hbl hbA hS (show vp_in 2 7 from by unfold vp_in; decide) dL_law_229 ?_
  refine tp_i (y := xs 2) rfl ?_
  refine lv_aload_n hx hb dL_law_230 rfl (lv_at hl 3 rfl) ?_
  refine lv_iload_n hx hb dL_law_231 rfl (lv_at hl 0 rfl) ?_
  refine lv_iconst (v := 3) hx hb dL_law_232 (by decide) ?_
  refine lv_iadd hx hb dL_law_233 ?_
  refine tp_i (y := 3) (by decide) ?_
  refine va_sld hx hb hX hbl hbA hS (show vp_in 3 7 from by unfold vp_in; decide) dL_law_234 ?_
  refine tp_i (y := xs 3) rfl ?_
  have hPc := hP.sub (ws' := [(x0, .inr (11, [.ref wo, .ref bo, .ref ro_, .ref bu, .ref ta, .ref li, .ref ca, .null, .ref fc, .int 0, .long 0])), (wo, .inr (10, [.ref wp, .ref ws_, .ref wd, .ref wk, .ref wz, .int 6, .int 0])), (wd, .inl (cD, 144, .inl fd)), (ta, .inr (9, [.ref wo, .ref t0, .ref t1, .ref t2, .ref t3, .ref t4, .ref t5, .ref t6, .int 0, .int (-9), .int 0]))]) [0, 1, 2, 3] rfl
  have hKc := hK.sub (tys' := [(cD, .int)]) [0] rfl
  have hDc := hD.sub (ws' := [(x0, .inr (11, [.ref wo, .ref bo, .ref ro_, .ref bu, .ref ta, .ref li, .ref ca, .null, .ref fc, .int 0, .long 0])), (wo, .inr (10, [.ref wp, .ref ws_, .ref wd, .ref wk, .ref wz, .int 6, .int 0])), (wd, .inl (cD, 144, .inl fd)), (ta, .inr (9, [.ref wo, .ref t0, .ref t1, .ref t2, .ref t3, .ref t4, .ref t5, .ref t6, .int 0, .int (-9), .int 0]))]) [0, 1, 2, 3] (by decide) rfl
  refine rw_calli (wr := [(m0, .inr (12, [.int 0, .ref g1, .int 6, .ref g3, .ref g4, .int 0, .ref g6, .ref g7, .int 0, .ref g9, .ref g10, .ref g11, .ref g12, .ref g13, .ref g14, .int 0, .int 0, .int 0, .int 0, .int 0, .ref g20, .ref g21, .int (-9), .ref g23, .ref g24, .ref g25, .ref g26, .int 0, .ref g28, .ref g29, .ref g30, .ref g31, .ref g32, .int 0, .ref g34, .int 0, .int 0, .long 0, .ref g38, .ref g39, .int 0, .int 0, .int 0, .ref g43, .ref g44, .ref g45, .ref g46, .ref g47, .ref g48, .ref g49, .int 0, .ref g51, .ref g52, .ref g53, .ref g54, .ref g55, .ref g56, .int (-9), .int 0, .int 0, .ref g60, .ref g61, .ref g62, .ref g63, .int 0, .ref g65, .ref g66, .ref g67, .ref g68])), (g4, .inl (eD, 144, .inl vd))]) (va_runV (As := [.int (xs 1), .int (xs 2), .int (xs 3)]) (rest := []) ⟨hx, hb, hml, hown, hts⟩ (c_X11_standard l D H.size x0 wo bo ro_ bu ta li ca fc wp ws_ wd wk wz t0 t1 t2 t3 t4 t5 t6 cD fd (xs 1) (xs 2) (xs 3) hhfd) (cwV 3 hts gm_L_law_X11_standard rfl rfl rfl (by decide +kernel) ⟨Nat.le_of_ble_eq_true rfl, Nat.le_of_ble_eq_true rfl⟩) (pB_V hKc hPc hDc (ci := 11) (q0 := 0) rfl rfl) rfl rfl hl.1 rfl (lv_room (Nat.le_of_ble_eq_true rfl)) dL_law_235 ⟨Nat.le_of_ble_eq_true rfl, Nat.le_of_ble_eq_true rfl⟩) hS hA hK hP hD [0, 1, 2, 3] [4, 5] rfl rfl (by decide) (by decide) (fun r1 u1 H locs hw1 hK hP hD hS => ?_)
  have hP : va_P D vwCl [(m0, .inr (12, [.int 0, .ref g1, .int 6, .ref g3, .ref g4, .int 0, .ref g6, .ref g7, .int 0, .ref g9, .ref g10, .ref g11, .ref g12, .ref g13, .ref g14, .int 0, .int 0, .int 0, .int 0, .int 0, .ref g20, .ref g21, .int (-9), .ref g23, .ref g24, .ref g25, .ref g26, .int 0, .ref g28, .ref g29, .ref g30, .ref g31, .ref g32, .int 0, .ref g34, .int 0, .int 0, .long 0, .ref g38, .ref g39, .int 0, .int 0, .int 0, .ref g43, .ref g44, .ref g45, .ref g46, .ref g47, .ref g48, .ref g49, .int 0, .ref g51, .ref g52, .ref g53, .ref g54, .ref g55, .ref g56, .int (-9), .int 0, .int 0, .ref g60, .ref g61, .ref g62, .ref g63, .int 0, .ref g65, .ref g66, .ref g67, .ref g68])), (g4, .inl (eD, 144, .inl vd))] H := hP
  have hD : va_D (fun q : Nat => s.heap.size ≤ q) [(m0, .inr (12, [.int 0, .ref g1, .int 6, .ref g3, .ref g4, .int 0, .ref g6, .ref g7, .int 0, .ref g9, .ref g10, .ref g11, .ref g12, .ref g13, .ref g14, .int 0, .int 0, .int 0, .int 0, .int 0, .ref g20, .ref g21, .int (-9), .ref g23, .ref g24, .ref g25, .ref g26, .int 0, .ref g28, .ref g29, .ref g30, .ref g31, .ref g32, .int 0, .ref g34, .int 0, .int 0, .long 0, .ref g38, .ref g39, .int 0, .int 0, .int 0, .ref g43, .ref g44, .ref g45, .ref g46, .ref g47, .ref g48, .ref g49, .int 0, .ref g51, .ref g52, .ref g53, .ref g54, .ref g55, .ref g56, .int (-9), .int 0, .int 0, .ref g60, .ref g61, .ref g62, .ref g63, .int 0, .ref g65, .ref g66, .ref g67, .ref g68])), (g4, .inl (eD, 144, .inl vd))] := hD
  have hK : va_K D vwCl [(cD, .int), (eD, .int)] s := hK
  have hw1 : r1 = if ((0 ≤ (xs 1).toInt ∧ (xs 1).toInt < 6) ∧ (0 ≤ (xs 2).toInt ∧ (xs 2).toInt < 6) ∧ ((xs 3).toInt = 0 ∨ (xs 3).toInt = 1 ∨ (xs 3).toInt = -9)) then -9 else -1 := hw1
  refine lv_aload_n hx hb dL_law_238 rfl (lv_at hl 1 rfl) ?_
  refine lv_aload_n hx hb dL_law_239 rfl (lv_at hl 3 rfl) ?_
  refine lv_iload_n hx hb dL_law_240 rfl (lv_at hl 0 rfl) ?_
  refine lv_iconst (v := 1) hx hb dL_law_241 (by decide) ?_
  refine lv_iadd hx hb dL_law_242 ?_
  refine tp_i (y := 1) (by decide) ?_
  refine va_sld hx hb hX hbl hbA hS (show vp_in 1 7 from by unfold vp_in; decide) dL_law_243 ?_
  refine tp_i (y := xs 1) rfl ?_
  refine lv_aload_n hx hb dL_law_244 rfl (lv_at hl 3 rfl) ?_
  refine lv_iload_n hx hb dL_law_245 rfl (lv_at hl 0 rfl) ?_
  refine lv_iconst (v := 2) hx hb dL_law_246 (by decide) ?_
  refine lv_iadd hx hb dL_law_247 ?_
  refine tp_i (y := 2) (by decide) ?_
  refine va_sld hx hb hX hbl hbA hS (show vp_in 2 7 from by unfold vp_in; decide) dL_law_248 ?_
  refine tp_i (y := xs 2) rfl ?_
  refine lv_aload_n hx hb dL_law_249 rfl (lv_at hl 3 rfl) ?_
  refine lv_iload_n hx hb dL_law_250 rfl (lv_at hl 0 rfl) ?_
  refine lv_iconst (v := 3) hx hb dL_law_251 (by decide) ?_
  refine lv_iadd hx hb dL_law_252 ?_
  refine tp_i (y := 3) (by decide) ?_
  refine va_sld hx hb hX hbl hbA hS (show vp_in 3 7 from by unfold vp_in; decide) dL_law_253 ?_
  refine tp_i (y := xs 3) rfl ?_
  have hPc := hP.sub (ws' := [(m0, .inr (12, [.int 0, .ref g1, .int 6, .ref g3, .ref g4, .int 0, .ref g6, .ref g7, .int 0, .ref g9, .ref g10, .ref g11, .ref g12, .ref g13, .ref g14, .int 0, .int 0, .int 0, .int 0, .int 0, .ref g20, .ref g21, .int (-9), .ref g23, .ref g24, .ref g25, .ref g26, .int 0, .ref g28, .ref g29, .ref g30, .ref g31, .ref g32, .int 0, .ref g34, .int 0, .int 0, .long 0, .ref g38, .ref g39, .int 0, .int 0, .int 0, .ref g43, .ref g44, .ref g45, .ref g46, .ref g47, .ref g48, .ref g49, .int 0, .ref g51, .ref g52, .ref g53, .ref g54, .ref g55, .ref g56, .int (-9), .int 0, .int 0, .ref g60, .ref g61, .ref g62, .ref g63, .int 0, .ref g65, .ref g66, .ref g67, .ref g68])), (g4, .inl (eD, 144, .inl vd))]) [0, 1] rfl
  have hKc := hK.sub (tys' := [(eD, .int)]) [1] rfl
  have hDc := hD.sub (ws' := [(m0, .inr (12, [.int 0, .ref g1, .int 6, .ref g3, .ref g4, .int 0, .ref g6, .ref g7, .int 0, .ref g9, .ref g10, .ref g11, .ref g12, .ref g13, .ref g14, .int 0, .int 0, .int 0, .int 0, .int 0, .ref g20, .ref g21, .int (-9), .ref g23, .ref g24, .ref g25, .ref g26, .int 0, .ref g28, .ref g29, .ref g30, .ref g31, .ref g32, .int 0, .ref g34, .int 0, .int 0, .long 0, .ref g38, .ref g39, .int 0, .int 0, .int 0, .ref g43, .ref g44, .ref g45, .ref g46, .ref g47, .ref g48, .ref g49, .int 0, .ref g51, .ref g52, .ref g53, .ref g54, .ref g55, .ref g56, .int (-9), .int 0, .int 0, .ref g60, .ref g61, .ref g62, .ref g63, .int 0, .ref g65, .ref g66, .ref g67, .ref g68])), (g4, .inl (eD, 144, .inl vd))]) [0, 1] (by decide) rfl
  refine rw_calli (wr := []) (va_runV (As := [.int (xs 1), .int (xs 2), .int (xs 3)]) (rest := [.int r1]) ⟨hx, hb, hml, hown, hts⟩ (c_X12_standard l D H.size m0 g1 g3 g4 g6 g7 g9 g10 g11 g12 g13 g14 g20 g21 g23 g24 g25 g26 g28 g29 g30 g31 g32 g34 g38 g39 g43 g44 g45 g46 g47 g48 g49 g51 g52 g53 g54 g55 g56 g60 g61 g62 g63 g65 g66 g67 g68 eD vd (xs 1) (xs 2) (xs 3) ehfd) (cwV 3 hts gm_L_law_X12_standard rfl rfl rfl (by decide +kernel) ⟨Nat.le_of_ble_eq_true rfl, Nat.le_of_ble_eq_true rfl⟩) (pB_V hKc hPc hDc (ci := 12) (q0 := 0) rfl rfl) rfl rfl hl.1 rfl (lv_room (Nat.le_of_ble_eq_true rfl)) dL_law_254 ⟨Nat.le_of_ble_eq_true rfl, Nat.le_of_ble_eq_true rfl⟩) hS hA hK hP hD [0, 1] [] rfl rfl (by decide) (by decide) (fun r2 u2 H locs hw2 hK hP hD hS => ?_)
  have hP : va_P D vwCl [] H := hP
  have hD : va_D (fun q : Nat => s.heap.size ≤ q) [] := hD
  have hK : va_K D vwCl [(cD, .int), (eD, .int)] s := hK
  have hw2 : r2 = if ((0 ≤ (xs 1).toInt ∧ (xs 1).toInt < 6) ∧ (0 ≤ (xs 2).toInt ∧ (xs 2).toInt < 6) ∧ ((xs 3).toInt = 0 ∨ (xs 3).toInt = 1 ∨ (xs 3).toInt = -9)) then -9 else -1 := hw2
  refine lv_icmp_eq (tgt := 1463) hx hb dL_law_257 (by decide) (fun _ => ?_) (fun q9 => absurd (by rw [hw1, hw2]) q9)
  exact law_tail hx hb hr hlocks hX hbl hS hl (Nat.le_of_ble_eq_true rfl) (Nat.le_of_ble_eq_true rfl)

set_option maxHeartbeats 4000000 in
set_option maxRecDepth 100000 in
theorem law_make {p : Program} {l : Launch} {e : Env} {s : State} {m : MethodId} {below : List Frame} {meth : Method} {c : Code} {b : Nat} {xs : Nat → Int32} (D : va_G) (x0 : Nat) (wo : Nat) (bo : Nat) (ro_ : Nat) (bu : Nat) (ta : Nat) (li : Nat) (ca : Nat) (fc : Nat) (wp : Nat) (ws_ : Nat) (wd : Nat) (wk : Nat) (wz : Nat) (t0 : Nat) (t1 : Nat) (t2 : Nat) (t3 : Nat) (t4 : Nat) (t5 : Nat) (t6 : Nat) (cK : ClassId) (fk : Nat → Int32) (cZ : ClassId) (fz : Nat → Int32) (m0 : Nat) (g1 : Nat) (g3 : Nat) (g4 : Nat) (g6 : Nat) (g7 : Nat) (g9 : Nat) (g10 : Nat) (g11 : Nat) (g12 : Nat) (g13 : Nat) (g14 : Nat) (g20 : Nat) (g21 : Nat) (g23 : Nat) (g24 : Nat) (g25 : Nat) (g26 : Nat) (g28 : Nat) (g29 : Nat) (g30 : Nat) (g31 : Nat) (g32 : Nat) (g34 : Nat) (g38 : Nat) (g39 : Nat) (g43 : Nat) (g44 : Nat) (g45 : Nat) (g46 : Nat) (g47 : Nat) (g48 : Nat) (g49 : Nat) (g51 : Nat) (g52 : Nat) (g53 : Nat) (g54 : Nat) (g55 : Nat) (g56 : Nat) (g60 : Nat) (g61 : Nat) (g62 : Nat) (g63 : Nat) (g65 : Nat) (g66 : Nat) (g67 : Nat) (g68 : Nat) (eK : ClassId) (vk : Nat → Int32) (eZ : ClassId) (vz : Nat → Int32) (hx : p.tables.exec = Jvm.exec) (hb : c.code = cL_law) (hr : meth.sig.returnType = ret) (hlocks : meth.locks = false) (hml : c.maxLocals = 4) (hown : s.vm.findClass RL = some m.cls) (hts : ∀ w ∈ wm_law, w.before #[Value.ref b] s = true) (hX : va_X b 7 xs s s.heap) (hbl : b < s.heap.size) (hK : va_K D vwCl [(cK, .int), (cZ, .int), (eK, .int), (eZ, .int)] s) (H : Heap) (locs : List Loc) (ls : Array Slot) (hP : va_P D vwCl [(x0, .inr (11, [.ref wo, .ref bo, .ref ro_, .ref bu, .ref ta, .ref li, .ref ca, .null, .ref fc, .int 0, .long 0])), (wo, .inr (10, [.ref wp, .ref ws_, .ref wd, .ref wk, .ref wz, .int 6, .int 0])), (wk, .inl (cK, 30, .inl fk)), (wz, .inl (cZ, 30, .inl fz)), (ta, .inr (9, [.ref wo, .ref t0, .ref t1, .ref t2, .ref t3, .ref t4, .ref t5, .ref t6, .int 0, .int (-9), .int 0])), (m0, .inr (12, [.int 0, .ref g1, .int 6, .ref g3, .ref g4, .int 0, .ref g6, .ref g7, .int 0, .ref g9, .ref g10, .ref g11, .ref g12, .ref g13, .ref g14, .int 0, .int 0, .int 0, .int 0, .int 0, .ref g20, .ref g21, .int (-9), .ref g23, .ref g24, .ref g25, .ref g26, .int 0, .ref g28, .ref g29, .ref g30, .ref g31, .ref g32, .int 0, .ref g34, .int 0, .int 0, .long 0, .ref g38, .ref g39, .int 0, .int 0, .int 0, .ref g43, .ref g44, .ref g45, .ref g46, .ref g47, .ref g48, .ref g49, .int 0, .ref g51, .ref g52, .ref g53, .ref g54, .ref g55, .ref g56, .int (-9), .int 0, .int 0, .ref g60, .ref g61, .ref g62, .ref g63, .int 0, .ref g65, .ref g66, .ref g67, .ref g68])), (g6, .inl (eK, 30, .inl vk)), (g7, .inl (eZ, 30, .inl vz))] H) (hD : va_D (fun q : Nat => s.heap.size ≤ q) [(x0, .inr (11, [.ref wo, .ref bo, .ref ro_, .ref bu, .ref ta, .ref li, .ref ca, .null, .ref fc, .int 0, .long 0])), (wo, .inr (10, [.ref wp, .ref ws_, .ref wd, .ref wk, .ref wz, .int 6, .int 0])), (wk, .inl (cK, 30, .inl fk)), (wz, .inl (cZ, 30, .inl fz)), (ta, .inr (9, [.ref wo, .ref t0, .ref t1, .ref t2, .ref t3, .ref t4, .ref t5, .ref t6, .int 0, .int (-9), .int 0])), (m0, .inr (12, [.int 0, .ref g1, .int 6, .ref g3, .ref g4, .int 0, .ref g6, .ref g7, .int 0, .ref g9, .ref g10, .ref g11, .ref g12, .ref g13, .ref g14, .int 0, .int 0, .int 0, .int 0, .int 0, .ref g20, .ref g21, .int (-9), .ref g23, .ref g24, .ref g25, .ref g26, .int 0, .ref g28, .ref g29, .ref g30, .ref g31, .ref g32, .int 0, .ref g34, .int 0, .int 0, .long 0, .ref g38, .ref g39, .int 0, .int 0, .int 0, .ref g43, .ref g44, .ref g45, .ref g46, .ref g47, .ref g48, .ref g49, .int 0, .ref g51, .ref g52, .ref g53, .ref g54, .ref g55, .ref g56, .int (-9), .int 0, .int 0, .ref g60, .ref g61, .ref g62, .ref g63, .int 0, .ref g65, .ref g66, .ref g67, .ref g68])), (g6, .inl (eK, 30, .inl vk)), (g7, .inl (eZ, 30, .inl vz))]) (hS : va_S (fun q : Nat => s.heap.size ≤ q) s.heap H locs) (hl : lv_has ls 4 [(3, .int 0), (2, .ref m0), (1, .ref x0), (0, .ref b)]) : W p l e room_1 s m #[Value.ref b] below meth c H locs 98 48488 (lw_Z below #[Value.ref b] s) (F0 m 262 ls []) := by
  have hbA : ¬ (fun q : Nat => s.heap.size ≤ q) b := Nat.not_le.mpr hbl
  have hA : ∀ q : Nat, s.heap.size ≤ q → (fun q : Nat => s.heap.size ≤ q) q := fun _ h => h
  refine lv_aload_n hx hb dL_law_262 rfl (lv_at hl 2 rfl) ?_
  refine lv_aload_n hx hb dL_law_263 rfl (lv_at hl 3 rfl) ?_
  refine lv_iload_n hx hb dL_law_264 rfl (lv_at hl 0 rfl) ?_
  refine lv_iconst (v := 1) hx hb dL_law_265 (by decide) ?_
  refine lv_iadd hx hb dL_law_266 ?_
  refine tp_i (y := 1) (by decide) ?_
  refine va_sld hx hb hX hbl hbA hS (show vp_in 1 7 from by unfold vp_in; decide) dL_law_267 ?_
  refine tp_i (y := xs 1) rfl ?_
  refine lv_aload_n hx hb dL_law_268 rfl (lv_at hl 3 rfl) ?_
  refine lv_iload_n hx hb dL_law_269 rfl (lv_at hl 0 rfl) ?_
  refine lv_iconst (v := 2) hx hb dL_law_270 (by decide) ?_
  refine lv_iadd hx hb dL_law_271 ?_
  refine tp_i (y := 2) (by decide) ?_
  refine va_sld hx hb hX hbl hbA hS (show vp_in 2 7 from by unfold vp_in; decide) dL_law_272 ?_
  refine tp_i (y := xs 2) rfl ?_
  have hPc := hP.sub (ws' := [(x0, .inr (11, [.ref wo, .ref bo, .ref ro_, .ref bu, .ref ta, .ref li, .ref ca, .null, .ref fc, .int 0, .long 0])), (wo, .inr (10, [.ref wp, .ref ws_, .ref wd, .ref wk, .ref wz, .int 6, .int 0])), (wk, .inl (cK, 30, .inl fk)), (wz, .inl (cZ, 30, .inl fz)), (ta, .inr (9, [.ref wo, .ref t0, .ref t1, .ref t2, .ref t3, .ref t4, .ref t5, .ref t6, .int 0, .int (-9), .int 0]))]) [0, 1, 2, 3, 4] rfl
  have hKc := hK.sub (tys' := [(cK, .int), (cZ, .int)]) [0, 1] rfl
  have hDc := hD.sub (ws' := [(x0, .inr (11, [.ref wo, .ref bo, .ref ro_, .ref bu, .ref ta, .ref li, .ref ca, .null, .ref fc, .int 0, .long 0])), (wo, .inr (10, [.ref wp, .ref ws_, .ref wd, .ref wk, .ref wz, .int 6, .int 0])), (wk, .inl (cK, 30, .inl fk)), (wz, .inl (cZ, 30, .inl fz)), (ta, .inr (9, [.ref wo, .ref t0, .ref t1, .ref t2, .ref t3, .ref t4, .ref t5, .ref t6, .int 0, .int (-9), .int 0]))]) [0, 1, 2, 3, 4] (by decide) rfl
  refine rw_calli (wr := [(m0, .inr (12, [.int 0, .ref g1, .int 6, .ref g3, .ref g4, .int 0, .ref g6, .ref g7, .int 0, .ref g9, .ref g10, .ref g11, .ref g12, .ref g13, .ref g14, .int 0, .int 0, .int 0, .int 0, .int 0, .ref g20, .ref g21, .int (-9), .ref g23, .ref g24, .ref g25, .ref g26, .int 0, .ref g28, .ref g29, .ref g30, .ref g31, .ref g32, .int 0, .ref g34, .int 0, .int 0, .long 0, .ref g38, .ref g39, .int 0, .int 0, .int 0, .ref g43, .ref g44, .ref g45, .ref g46, .ref g47, .ref g48, .ref g49, .int 0, .ref g51, .ref g52, .ref g53, .ref g54, .ref g55, .ref g56, .int (-9), .int 0, .int 0, .ref g60, .ref g61, .ref g62, .ref g63, .int 0, .ref g65, .ref g66, .ref g67, .ref g68])), (g6, .inl (eK, 30, .inl vk)), (g7, .inl (eZ, 30, .inl vz))]) (va_runV (As := [.int (xs 1), .int (xs 2)]) (rest := []) ⟨hx, hb, hml, hown, hts⟩ (c_X11_make l D H.size x0 wo bo ro_ bu ta li ca fc wp ws_ wd wk wz t0 t1 t2 t3 t4 t5 t6 cK fk cZ fz (xs 1) (xs 2)) (cwV 2 hts gm_L_law_X11_make rfl rfl rfl (by decide +kernel) ⟨Nat.le_of_ble_eq_true rfl, Nat.le_of_ble_eq_true rfl⟩) (pB_V hKc hPc hDc (ci := 11) (q0 := 0) rfl rfl) rfl rfl hl.1 rfl (lv_room (Nat.le_of_ble_eq_true rfl)) dL_law_273 ⟨Nat.le_of_ble_eq_true rfl, Nat.le_of_ble_eq_true rfl⟩) hS hA hK hP hD [0, 1, 2, 3, 4] [5, 6, 7] rfl rfl (by decide) (by decide) (fun r1 u1 H locs hw1 hK hP hD hS => ?_)
  have hP : va_P D vwCl [(m0, .inr (12, [.int 0, .ref g1, .int 6, .ref g3, .ref g4, .int 0, .ref g6, .ref g7, .int 0, .ref g9, .ref g10, .ref g11, .ref g12, .ref g13, .ref g14, .int 0, .int 0, .int 0, .int 0, .int 0, .ref g20, .ref g21, .int (-9), .ref g23, .ref g24, .ref g25, .ref g26, .int 0, .ref g28, .ref g29, .ref g30, .ref g31, .ref g32, .int 0, .ref g34, .int 0, .int 0, .long 0, .ref g38, .ref g39, .int 0, .int 0, .int 0, .ref g43, .ref g44, .ref g45, .ref g46, .ref g47, .ref g48, .ref g49, .int 0, .ref g51, .ref g52, .ref g53, .ref g54, .ref g55, .ref g56, .int (-9), .int 0, .int 0, .ref g60, .ref g61, .ref g62, .ref g63, .int 0, .ref g65, .ref g66, .ref g67, .ref g68])), (g6, .inl (eK, 30, .inl vk)), (g7, .inl (eZ, 30, .inl vz))] H := hP
  have hD : va_D (fun q : Nat => s.heap.size ≤ q) [(m0, .inr (12, [.int 0, .ref g1, .int 6, .ref g3, .ref g4, .int 0, .ref g6, .ref g7, .int 0, .ref g9, .ref g10, .ref g11, .ref g12, .ref g13, .ref g14, .int 0, .int 0, .int 0, .int 0, .int 0, .ref g20, .ref g21, .int (-9), .ref g23, .ref g24, .ref g25, .ref g26, .int 0, .ref g28, .ref g29, .ref g30, .ref g31, .ref g32, .int 0, .ref g34, .int 0, .int 0, .long 0, .ref g38, .ref g39, .int 0, .int 0, .int 0, .ref g43, .ref g44, .ref g45, .ref g46, .ref g47, .ref g48, .ref g49, .int 0, .ref g51, .ref g52, .ref g53, .ref g54, .ref g55, .ref g56, .int (-9), .int 0, .int 0, .ref g60, .ref g61, .ref g62, .ref g63, .int 0, .ref g65, .ref g66, .ref g67, .ref g68])), (g6, .inl (eK, 30, .inl vk)), (g7, .inl (eZ, 30, .inl vz))] := hD
  have hK : va_K D vwCl [(cK, .int), (cZ, .int), (eK, .int), (eZ, .int)] s := hK
  have hw1 : r1 = if ((0 ≤ (xs 1).toInt ∧ (xs 1).toInt < 6) ∧ (0 ≤ (xs 2).toInt ∧ (xs 2).toInt ≤ 99)) then 0 else -1 := hw1
  refine lv_aload_n hx hb dL_law_276 rfl (lv_at hl 1 rfl) ?_
  refine lv_aload_n hx hb dL_law_277 rfl (lv_at hl 3 rfl) ?_
  refine lv_iload_n hx hb dL_law_278 rfl (lv_at hl 0 rfl) ?_
  refine lv_iconst (v := 1) hx hb dL_law_279 (by decide) ?_
  refine lv_iadd hx hb dL_law_280 ?_
  refine tp_i (y := 1) (by decide) ?_
  refine va_sld hx hb hX hbl hbA hS (show vp_in 1 7 from by unfold vp_in; decide) dL_law_281 ?_
  refine tp_i (y := xs 1) rfl ?_
  refine lv_aload_n hx hb dL_law_282 rfl (lv_at hl 3 rfl) ?_
  refine lv_iload_n hx hb dL_law_283 rfl (lv_at hl 0 rfl) ?_
  refine lv_iconst (v := 2) hx hb dL_law_284 (by decide) ?_
  refine lv_iadd hx hb dL_law_285 ?_
  refine tp_i (y := 2) (by decide) ?_
  refine va_sld hx hb hX hbl hbA hS (show vp_in 2 7 from by unfold vp_in; decide) dL_law_286 ?_
  refine tp_i (y := xs 2) rfl ?_
  have hPc := hP.sub (ws' := [(m0, .inr (12, [.int 0, .ref g1, .int 6, .ref g3, .ref g4, .int 0, .ref g6, .ref g7, .int 0, .ref g9, .ref g10, .ref g11, .ref g12, .ref g13, .ref g14, .int 0, .int 0, .int 0, .int 0, .int 0, .ref g20, .ref g21, .int (-9), .ref g23, .ref g24, .ref g25, .ref g26, .int 0, .ref g28, .ref g29, .ref g30, .ref g31, .ref g32, .int 0, .ref g34, .int 0, .int 0, .long 0, .ref g38, .ref g39, .int 0, .int 0, .int 0, .ref g43, .ref g44, .ref g45, .ref g46, .ref g47, .ref g48, .ref g49, .int 0, .ref g51, .ref g52, .ref g53, .ref g54, .ref g55, .ref g56, .int (-9), .int 0, .int 0, .ref g60, .ref g61, .ref g62, .ref g63, .int 0, .ref g65, .ref g66, .ref g67, .ref g68])), (g6, .inl (eK, 30, .inl vk)), (g7, .inl (eZ, 30, .inl vz))]) [0, 1, 2] rfl
  have hKc := hK.sub (tys' := [(eK, .int), (eZ, .int)]) [2, 3] rfl
  have hDc := hD.sub (ws' := [(m0, .inr (12, [.int 0, .ref g1, .int 6, .ref g3, .ref g4, .int 0, .ref g6, .ref g7, .int 0, .ref g9, .ref g10, .ref g11, .ref g12, .ref g13, .ref g14, .int 0, .int 0, .int 0, .int 0, .int 0, .ref g20, .ref g21, .int (-9), .ref g23, .ref g24, .ref g25, .ref g26, .int 0, .ref g28, .ref g29, .ref g30, .ref g31, .ref g32, .int 0, .ref g34, .int 0, .int 0, .long 0, .ref g38, .ref g39, .int 0, .int 0, .int 0, .ref g43, .ref g44, .ref g45, .ref g46, .ref g47, .ref g48, .ref g49, .int 0, .ref g51, .ref g52, .ref g53, .ref g54, .ref g55, .ref g56, .int (-9), .int 0, .int 0, .ref g60, .ref g61, .ref g62, .ref g63, .int 0, .ref g65, .ref g66, .ref g67, .ref g68])), (g6, .inl (eK, 30, .inl vk)), (g7, .inl (eZ, 30, .inl vz))]) [0, 1, 2] (by decide) rfl
  refine rw_calli (wr := []) (va_runV (As := [.int (xs 1), .int (xs 2)]) (rest := [.int r1]) ⟨hx, hb, hml, hown, hts⟩ (c_X12_make l D H.size m0 g1 g3 g4 g6 g7 g9 g10 g11 g12 g13 g14 g20 g21 g23 g24 g25 g26 g28 g29 g30 g31 g32 g34 g38 g39 g43 g44 g45 g46 g47 g48 g49 g51 g52 g53 g54 g55 g56 g60 g61 g62 g63 g65 g66 g67 g68 eK vk eZ vz (xs 1) (xs 2)) (cwV 2 hts gm_L_law_X12_make rfl rfl rfl (by decide +kernel) ⟨Nat.le_of_ble_eq_true rfl, Nat.le_of_ble_eq_true rfl⟩) (pB_V hKc hPc hDc (ci := 12) (q0 := 0) rfl rfl) rfl rfl hl.1 rfl (lv_room (Nat.le_of_ble_eq_true rfl)) dL_law_287 ⟨Nat.le_of_ble_eq_true rfl, Nat.le_of_ble_eq_true rfl⟩) hS hA hK hP hD [0, 1, 2] [] rfl rfl (by decide) (by decide) (fun r2 u2 H locs hw2 hK hP hD hS => ?_)
  have hP : va_P D vwCl [] H := hP
  have hD : va_D (fun q : Nat => s.heap.size ≤ q) [] := hD
  have hK : va_K D vwCl [(cK, .int), (cZ, .int), (eK, .int), (eZ, .int)] s := hK
  have hw2 : r2 = if ((0 ≤ (xs 1).toInt ∧ (xs 1).toInt < 6) ∧ (0 ≤ (xs 2).toInt ∧ (xs 2).toInt ≤ 99)) then 0 else -1 := hw2
  refine lv_icmp_eq (tgt := 1463) hx hb dL_law_290 (by decide) (fun _ => ?_) (fun q9 => absurd (by rw [hw1, hw2]) q9)
  exact law_tail hx hb hr hlocks hX hbl hS hl (Nat.le_of_ble_eq_true rfl) (Nat.le_of_ble_eq_true rfl)

set_option maxHeartbeats 4000000 in
set_option maxRecDepth 100000 in
theorem law_is {p : Program} {l : Launch} {e : Env} {s : State} {m : MethodId} {below : List Frame} {meth : Method} {c : Code} {b : Nat} {xs : Nat → Int32} (D : va_G) (x0 : Nat) (wo : Nat) (bo : Nat) (ro_ : Nat) (bu : Nat) (ta : Nat) (li : Nat) (ca : Nat) (fc : Nat) (wp : Nat) (ws_ : Nat) (wd : Nat) (wk : Nat) (wz : Nat) (m0 : Nat) (g1 : Nat) (g3 : Nat) (g4 : Nat) (g6 : Nat) (g7 : Nat) (g9 : Nat) (g10 : Nat) (g11 : Nat) (g12 : Nat) (g13 : Nat) (g14 : Nat) (g20 : Nat) (g21 : Nat) (g23 : Nat) (g24 : Nat) (g25 : Nat) (g26 : Nat) (g28 : Nat) (g29 : Nat) (g30 : Nat) (g31 : Nat) (g32 : Nat) (g34 : Nat) (g38 : Nat) (g39 : Nat) (g43 : Nat) (g44 : Nat) (g45 : Nat) (g46 : Nat) (g47 : Nat) (g48 : Nat) (g49 : Nat) (g51 : Nat) (g52 : Nat) (g53 : Nat) (g54 : Nat) (g55 : Nat) (g56 : Nat) (g60 : Nat) (g61 : Nat) (g62 : Nat) (g63 : Nat) (g65 : Nat) (g66 : Nat) (g67 : Nat) (g68 : Nat) (hx : p.tables.exec = Jvm.exec) (hb : c.code = cL_law) (hr : meth.sig.returnType = ret) (hlocks : meth.locks = false) (hml : c.maxLocals = 4) (hown : s.vm.findClass RL = some m.cls) (hts : ∀ w ∈ wm_law, w.before #[Value.ref b] s = true) (hX : va_X b 7 xs s s.heap) (hbl : b < s.heap.size) (hK : va_K D vwCl [] s) (H : Heap) (locs : List Loc) (ls : Array Slot) (hP : va_P D vwCl [(x0, .inr (11, [.ref wo, .ref bo, .ref ro_, .ref bu, .ref ta, .ref li, .ref ca, .null, .ref fc, .int 0, .long 0])), (wo, .inr (10, [.ref wp, .ref ws_, .ref wd, .ref wk, .ref wz, .int 6, .int 0])), (m0, .inr (12, [.int 0, .ref g1, .int 6, .ref g3, .ref g4, .int 0, .ref g6, .ref g7, .int 0, .ref g9, .ref g10, .ref g11, .ref g12, .ref g13, .ref g14, .int 0, .int 0, .int 0, .int 0, .int 0, .ref g20, .ref g21, .int (-9), .ref g23, .ref g24, .ref g25, .ref g26, .int 0, .ref g28, .ref g29, .ref g30, .ref g31, .ref g32, .int 0, .ref g34, .int 0, .int 0, .long 0, .ref g38, .ref g39, .int 0, .int 0, .int 0, .ref g43, .ref g44, .ref g45, .ref g46, .ref g47, .ref g48, .ref g49, .int 0, .ref g51, .ref g52, .ref g53, .ref g54, .ref g55, .ref g56, .int (-9), .int 0, .int 0, .ref g60, .ref g61, .ref g62, .ref g63, .int 0, .ref g65, .ref g66, .ref g67, .ref g68]))] H) (hD : va_D (fun q : Nat => s.heap.size ≤ q) [(x0, .inr (11, [.ref wo, .ref bo, .ref ro_, .ref bu, .ref ta, .ref li, .ref ca, .null, .ref fc, .int 0, .long 0])), (wo, .inr (10, [.ref wp, .ref ws_, .ref wd, .ref wk, .ref wz, .int 6, .int 0])), (m0, .inr (12, [.int 0, .ref g1, .int 6, .ref g3, .ref g4, .int 0, .ref g6, .ref g7, .int 0, .ref g9, .ref g10, .ref g11, .ref g12, .ref g13, .ref g14, .int 0, .int 0, .int 0, .int 0, .int 0, .ref g20, .ref g21, .int (-9), .ref g23, .ref g24, .ref g25, .ref g26, .int 0, .ref g28, .ref g29, .ref g30, .ref g31, .ref g32, .int 0, .ref g34, .int 0, .int 0, .long 0, .ref g38, .ref g39, .int 0, .int 0, .int 0, .ref g43, .ref g44, .ref g45, .ref g46, .ref g47, .ref g48, .ref g49, .int 0, .ref g51, .ref g52, .ref g53, .ref g54, .ref g55, .ref g56, .int (-9), .int 0, .int 0, .ref g60, .ref g61, .ref g62, .ref g63, .int 0, .ref g65, .ref g66, .ref g67, .ref g68]))]) (hS : va_S (fun q : Nat => s.heap.size ≤ q) s.heap H locs) (hl : lv_has ls 4 [(3, .int 0), (2, .ref m0), (1, .ref x0), (0, .ref b)]) : W p l e room_1 s m #[Value.ref b] below meth c H locs 98 48488 (lw_Z below #[Value.ref b] s) (F0 m 295 ls []) := by
  have hbA : ¬ (fun q : Nat => s.heap.size ≤ q) b := Nat.not_le.mpr hbl
  have hA : ∀ q : Nat, s.heap.size ≤ q → (fun q : Nat => s.heap.size ≤ q) q := fun _ h => h
  refine lv_aload_n hx hb dL_law_295 rfl (lv_at hl 2 rfl) ?_
  refine lv_aload_n hx hb dL_law_296 rfl (lv_at hl 3 rfl) ?_
  refine lv_iload_n hx hb dL_law_297 rfl (lv_at hl 0 rfl) ?_
  refine lv_iconst (v := 1) hx hb dL_law_298 (by decide) ?_
  refine lv_iadd hx hb dL_law_299 ?_
  refine tp_i (y := 1) (by decide) ?_
  refine va_sld hx hb hX hbl hbA hS (show vp_in 1 7 from by unfold vp_in; decide) dL_law_300 ?_
  refine tp_i (y := xs 1) rfl ?_
  refine lv_aload_n hx hb dL_law_301 rfl (lv_at hl 3 rfl) ?_
  refine lv_iload_n hx hb dL_law_302 rfl (lv_at hl 0 rfl) ?_
  refine lv_iconst (v := 2) hx hb dL_law_303 (by decide) ?_
  refine lv_iadd hx hb dL_law_304 ?_
  refine tp_i (y := 2) (by decide) ?_
  refine va_sld hx hb hX hbl hbA hS (show vp_in 2 7 from by unfold vp_in; decide) dL_law_305 ?_
  refine tp_i (y := xs 2) rfl ?_
  have hPc := hP.sub (ws' := [(x0, .inr (11, [.ref wo, .ref bo, .ref ro_, .ref bu, .ref ta, .ref li, .ref ca, .null, .ref fc, .int 0, .long 0])), (wo, .inr (10, [.ref wp, .ref ws_, .ref wd, .ref wk, .ref wz, .int 6, .int 0]))]) [0, 1] rfl
  have hKc := hK.sub (tys' := []) [] rfl
  refine ro_calli (va_runV (As := [.int (xs 1), .int (xs 2)]) (rest := []) ⟨hx, hb, hml, hown, hts⟩ (c_X11_is l D H.size x0 wo bo ro_ bu ta li ca fc wp ws_ wd wk wz (xs 1) (xs 2)) (cwV 2 hts gm_L_law_X11_is rfl rfl rfl (by decide +kernel) ⟨Nat.le_of_ble_eq_true rfl, Nat.le_of_ble_eq_true rfl⟩) (pA_V hKc hPc (ci := 11) (q0 := 0) rfl rfl) rfl rfl hl.1 rfl (lv_room (Nat.le_of_ble_eq_true rfl)) dL_law_306 ⟨Nat.le_of_ble_eq_true rfl, Nat.le_of_ble_eq_true rfl⟩) hS hA hP (fun r1 u1 H locs hw1 hP hS => ?_)
  have hw1 : r1 = (-1) := hw1
  subst hw1
  refine lv_aload_n hx hb dL_law_309 rfl (lv_at hl 1 rfl) ?_
  refine lv_aload_n hx hb dL_law_310 rfl (lv_at hl 3 rfl) ?_
  refine lv_iload_n hx hb dL_law_311 rfl (lv_at hl 0 rfl) ?_
  refine lv_iconst (v := 1) hx hb dL_law_312 (by decide) ?_
  refine lv_iadd hx hb dL_law_313 ?_
  refine tp_i (y := 1) (by decide) ?_
  refine va_sld hx hb hX hbl hbA hS (show vp_in 1 7 from by unfold vp_in; decide) dL_law_314 ?_
  refine tp_i (y := xs 1) rfl ?_
  refine lv_aload_n hx hb dL_law_315 rfl (lv_at hl 3 rfl) ?_
  refine lv_iload_n hx hb dL_law_316 rfl (lv_at hl 0 rfl) ?_
  refine lv_iconst (v := 2) hx hb dL_law_317 (by decide) ?_
  refine lv_iadd hx hb dL_law_318 ?_
  refine tp_i (y := 2) (by decide) ?_
  refine va_sld hx hb hX hbl hbA hS (show vp_in 2 7 from by unfold vp_in; decide) dL_law_319 ?_
  refine tp_i (y := xs 2) rfl ?_
  have hPc := hP.sub (ws' := [(m0, .inr (12, [.int 0, .ref g1, .int 6, .ref g3, .ref g4, .int 0, .ref g6, .ref g7, .int 0, .ref g9, .ref g10, .ref g11, .ref g12, .ref g13, .ref g14, .int 0, .int 0, .int 0, .int 0, .int 0, .ref g20, .ref g21, .int (-9), .ref g23, .ref g24, .ref g25, .ref g26, .int 0, .ref g28, .ref g29, .ref g30, .ref g31, .ref g32, .int 0, .ref g34, .int 0, .int 0, .long 0, .ref g38, .ref g39, .int 0, .int 0, .int 0, .ref g43, .ref g44, .ref g45, .ref g46, .ref g47, .ref g48, .ref g49, .int 0, .ref g51, .ref g52, .ref g53, .ref g54, .ref g55, .ref g56, .int (-9), .int 0, .int 0, .ref g60, .ref g61, .ref g62, .ref g63, .int 0, .ref g65, .ref g66, .ref g67, .ref g68]))]) [2] rfl
  have hKc := hK.sub (tys' := []) [] rfl
  refine ro_calli (va_runV (As := [.int (xs 1), .int (xs 2)]) (rest := [.int (-1)]) ⟨hx, hb, hml, hown, hts⟩ (c_X12_is l D H.size m0 g1 g3 g4 g6 g7 g9 g10 g11 g12 g13 g14 g20 g21 g23 g24 g25 g26 g28 g29 g30 g31 g32 g34 g38 g39 g43 g44 g45 g46 g47 g48 g49 g51 g52 g53 g54 g55 g56 g60 g61 g62 g63 g65 g66 g67 g68 (xs 1) (xs 2)) (cwV 2 hts gm_L_law_X12_is rfl rfl rfl (by decide +kernel) ⟨Nat.le_of_ble_eq_true rfl, Nat.le_of_ble_eq_true rfl⟩) (pA_V hKc hPc (ci := 12) (q0 := 0) rfl rfl) rfl rfl hl.1 rfl (lv_room (Nat.le_of_ble_eq_true rfl)) dL_law_320 ⟨Nat.le_of_ble_eq_true rfl, Nat.le_of_ble_eq_true rfl⟩) hS hA hP (fun r2 u2 H locs hw2 hP hS => ?_)
  have hw2 : r2 = (-1) := hw2
  subst hw2
  refine lv_icmp_eq (tgt := 1463) hx hb dL_law_323 (by decide) (fun _ => ?_) (fun q9 => absurd (by decide) q9)
  exact law_tail hx hb hr hlocks hX hbl hS hl (Nat.le_of_ble_eq_true rfl) (Nat.le_of_ble_eq_true rfl)

set_option maxHeartbeats 4000000 in
set_option maxRecDepth 100000 in
theorem law_bulk {p : Program} {l : Launch} {e : Env} {s : State} {m : MethodId} {below : List Frame} {meth : Method} {c : Code} {b : Nat} {xs : Nat → Int32} (D : va_G) (x0 : Nat) (wo : Nat) (bo : Nat) (ro_ : Nat) (bu : Nat) (ta : Nat) (li : Nat) (ca : Nat) (fc : Nat) (wp : Nat) (ws_ : Nat) (wd : Nat) (wk : Nat) (wz : Nat) (m0 : Nat) (g1 : Nat) (g3 : Nat) (g4 : Nat) (g6 : Nat) (g7 : Nat) (g9 : Nat) (g10 : Nat) (g11 : Nat) (g12 : Nat) (g13 : Nat) (g14 : Nat) (g20 : Nat) (g21 : Nat) (g23 : Nat) (g24 : Nat) (g25 : Nat) (g26 : Nat) (g28 : Nat) (g29 : Nat) (g30 : Nat) (g31 : Nat) (g32 : Nat) (g34 : Nat) (g38 : Nat) (g39 : Nat) (g43 : Nat) (g44 : Nat) (g45 : Nat) (g46 : Nat) (g47 : Nat) (g48 : Nat) (g49 : Nat) (g51 : Nat) (g52 : Nat) (g53 : Nat) (g54 : Nat) (g55 : Nat) (g56 : Nat) (g60 : Nat) (g61 : Nat) (g62 : Nat) (g63 : Nat) (g65 : Nat) (g66 : Nat) (g67 : Nat) (g68 : Nat) (hx : p.tables.exec = Jvm.exec) (hb : c.code = cL_law) (hr : meth.sig.returnType = ret) (hlocks : meth.locks = false) (hml : c.maxLocals = 4) (hown : s.vm.findClass RL = some m.cls) (hts : ∀ w ∈ wm_law, w.before #[Value.ref b] s = true) (hX : va_X b 7 xs s s.heap) (hbl : b < s.heap.size) (hK : va_K D vwCl [] s) (H : Heap) (locs : List Loc) (ls : Array Slot) (hP : va_P D vwCl [(x0, .inr (11, [.ref wo, .ref bo, .ref ro_, .ref bu, .ref ta, .ref li, .ref ca, .null, .ref fc, .int 0, .long 0])), (wo, .inr (10, [.ref wp, .ref ws_, .ref wd, .ref wk, .ref wz, .int 6, .int 0])), (m0, .inr (12, [.int 0, .ref g1, .int 6, .ref g3, .ref g4, .int 0, .ref g6, .ref g7, .int 0, .ref g9, .ref g10, .ref g11, .ref g12, .ref g13, .ref g14, .int 0, .int 0, .int 0, .int 0, .int 0, .ref g20, .ref g21, .int (-9), .ref g23, .ref g24, .ref g25, .ref g26, .int 0, .ref g28, .ref g29, .ref g30, .ref g31, .ref g32, .int 0, .ref g34, .int 0, .int 0, .long 0, .ref g38, .ref g39, .int 0, .int 0, .int 0, .ref g43, .ref g44, .ref g45, .ref g46, .ref g47, .ref g48, .ref g49, .int 0, .ref g51, .ref g52, .ref g53, .ref g54, .ref g55, .ref g56, .int (-9), .int 0, .int 0, .ref g60, .ref g61, .ref g62, .ref g63, .int 0, .ref g65, .ref g66, .ref g67, .ref g68]))] H) (hD : va_D (fun q : Nat => s.heap.size ≤ q) [(x0, .inr (11, [.ref wo, .ref bo, .ref ro_, .ref bu, .ref ta, .ref li, .ref ca, .null, .ref fc, .int 0, .long 0])), (wo, .inr (10, [.ref wp, .ref ws_, .ref wd, .ref wk, .ref wz, .int 6, .int 0])), (m0, .inr (12, [.int 0, .ref g1, .int 6, .ref g3, .ref g4, .int 0, .ref g6, .ref g7, .int 0, .ref g9, .ref g10, .ref g11, .ref g12, .ref g13, .ref g14, .int 0, .int 0, .int 0, .int 0, .int 0, .ref g20, .ref g21, .int (-9), .ref g23, .ref g24, .ref g25, .ref g26, .int 0, .ref g28, .ref g29, .ref g30, .ref g31, .ref g32, .int 0, .ref g34, .int 0, .int 0, .long 0, .ref g38, .ref g39, .int 0, .int 0, .int 0, .ref g43, .ref g44, .ref g45, .ref g46, .ref g47, .ref g48, .ref g49, .int 0, .ref g51, .ref g52, .ref g53, .ref g54, .ref g55, .ref g56, .int (-9), .int 0, .int 0, .ref g60, .ref g61, .ref g62, .ref g63, .int 0, .ref g65, .ref g66, .ref g67, .ref g68]))]) (hS : va_S (fun q : Nat => s.heap.size ≤ q) s.heap H locs) (hl : lv_has ls 4 [(3, .int 0), (2, .ref m0), (1, .ref x0), (0, .ref b)]) : W p l e room_1 s m #[Value.ref b] below meth c H locs 98 48488 (lw_Z below #[Value.ref b] s) (F0 m 328 ls []) := by
  have hbA : ¬ (fun q : Nat => s.heap.size ≤ q) b := Nat.not_le.mpr hbl
  have hA : ∀ q : Nat, s.heap.size ≤ q → (fun q : Nat => s.heap.size ≤ q) q := fun _ h => h
  refine lv_aload_n hx hb dL_law_328 rfl (lv_at hl 2 rfl) ?_
  refine lv_aload_n hx hb dL_law_329 rfl (lv_at hl 3 rfl) ?_
  refine lv_iload_n hx hb dL_law_330 rfl (lv_at hl 0 rfl) ?_
  refine lv_iconst (v := 1) hx hb dL_law_331 (by decide) ?_
  refine lv_iadd hx hb dL_law_332 ?_
  refine tp_i (y := 1) (by decide) ?_
  refine va_sld hx hb hX hbl hbA hS (show vp_in 1 7 from by unfold vp_in; decide) dL_law_333 ?_
  refine tp_i (y := xs 1) rfl ?_
  have hPc := hP.sub (ws' := [(x0, .inr (11, [.ref wo, .ref bo, .ref ro_, .ref bu, .ref ta, .ref li, .ref ca, .null, .ref fc, .int 0, .long 0])), (wo, .inr (10, [.ref wp, .ref ws_, .ref wd, .ref wk, .ref wz, .int 6, .int 0]))]) [0, 1] rfl
  have hKc := hK.sub (tys' := []) [] rfl
  refine ro_calli (va_runV (As := [.int (xs 1)]) (rest := []) ⟨hx, hb, hml, hown, hts⟩ (c_X11_bulk l D H.size x0 wo bo ro_ bu ta li ca fc wp ws_ wd wk wz (xs 1)) (cwV 1 hts gm_L_law_X11_bulk rfl rfl rfl (by decide +kernel) ⟨Nat.le_of_ble_eq_true rfl, Nat.le_of_ble_eq_true rfl⟩) (pA_V hKc hPc (ci := 11) (q0 := 0) rfl rfl) rfl rfl hl.1 rfl (lv_room (Nat.le_of_ble_eq_true rfl)) dL_law_334 ⟨Nat.le_of_ble_eq_true rfl, Nat.le_of_ble_eq_true rfl⟩) hS hA hP (fun r1 u1 H locs hw1 hP hS => ?_)
  have hw1 : r1 = (-1) := hw1
  subst hw1
  refine lv_aload_n hx hb dL_law_337 rfl (lv_at hl 1 rfl) ?_
  refine lv_aload_n hx hb dL_law_338 rfl (lv_at hl 3 rfl) ?_
  refine lv_iload_n hx hb dL_law_339 rfl (lv_at hl 0 rfl) ?_
  refine lv_iconst (v := 1) hx hb dL_law_340 (by decide) ?_
  refine lv_iadd hx hb dL_law_341 ?_
  refine tp_i (y := 1) (by decide) ?_
  refine va_sld hx hb hX hbl hbA hS (show vp_in 1 7 from by unfold vp_in; decide) dL_law_342 ?_
  refine tp_i (y := xs 1) rfl ?_
  have hPc := hP.sub (ws' := [(m0, .inr (12, [.int 0, .ref g1, .int 6, .ref g3, .ref g4, .int 0, .ref g6, .ref g7, .int 0, .ref g9, .ref g10, .ref g11, .ref g12, .ref g13, .ref g14, .int 0, .int 0, .int 0, .int 0, .int 0, .ref g20, .ref g21, .int (-9), .ref g23, .ref g24, .ref g25, .ref g26, .int 0, .ref g28, .ref g29, .ref g30, .ref g31, .ref g32, .int 0, .ref g34, .int 0, .int 0, .long 0, .ref g38, .ref g39, .int 0, .int 0, .int 0, .ref g43, .ref g44, .ref g45, .ref g46, .ref g47, .ref g48, .ref g49, .int 0, .ref g51, .ref g52, .ref g53, .ref g54, .ref g55, .ref g56, .int (-9), .int 0, .int 0, .ref g60, .ref g61, .ref g62, .ref g63, .int 0, .ref g65, .ref g66, .ref g67, .ref g68]))]) [2] rfl
  have hKc := hK.sub (tys' := []) [] rfl
  refine ro_calli (va_runV (As := [.int (xs 1)]) (rest := [.int (-1)]) ⟨hx, hb, hml, hown, hts⟩ (c_X12_bulk l D H.size m0 g1 g3 g4 g6 g7 g9 g10 g11 g12 g13 g14 g20 g21 g23 g24 g25 g26 g28 g29 g30 g31 g32 g34 g38 g39 g43 g44 g45 g46 g47 g48 g49 g51 g52 g53 g54 g55 g56 g60 g61 g62 g63 g65 g66 g67 g68 (xs 1)) (cwV 1 hts gm_L_law_X12_bulk rfl rfl rfl (by decide +kernel) ⟨Nat.le_of_ble_eq_true rfl, Nat.le_of_ble_eq_true rfl⟩) (pA_V hKc hPc (ci := 12) (q0 := 0) rfl rfl) rfl rfl hl.1 rfl (lv_room (Nat.le_of_ble_eq_true rfl)) dL_law_343 ⟨Nat.le_of_ble_eq_true rfl, Nat.le_of_ble_eq_true rfl⟩) hS hA hP (fun r2 u2 H locs hw2 hP hS => ?_)
  have hw2 : r2 = (-1) := hw2
  subst hw2
  refine lv_icmp_eq (tgt := 1463) hx hb dL_law_346 (by decide) (fun _ => ?_) (fun q9 => absurd (by decide) q9)
  exact law_tail hx hb hr hlocks hX hbl hS hl (Nat.le_of_ble_eq_true rfl) (Nat.le_of_ble_eq_true rfl)

set_option maxHeartbeats 4000000 in
set_option maxRecDepth 100000 in
theorem law_asked {p : Program} {l : Launch} {e : Env} {s : State} {m : MethodId} {below : List Frame} {meth : Method} {c : Code} {b : Nat} {xs : Nat → Int32} (D : va_G) (x0 : Nat) (wo : Nat) (bo : Nat) (ro_ : Nat) (bu : Nat) (ta : Nat) (li : Nat) (ca : Nat) (fc : Nat) (m0 : Nat) (g1 : Nat) (g3 : Nat) (g4 : Nat) (g6 : Nat) (g7 : Nat) (g9 : Nat) (g10 : Nat) (g11 : Nat) (g12 : Nat) (g13 : Nat) (g14 : Nat) (g20 : Nat) (g21 : Nat) (g23 : Nat) (g24 : Nat) (g25 : Nat) (g26 : Nat) (g28 : Nat) (g29 : Nat) (g30 : Nat) (g31 : Nat) (g32 : Nat) (g34 : Nat) (g38 : Nat) (g39 : Nat) (g43 : Nat) (g44 : Nat) (g45 : Nat) (g46 : Nat) (g47 : Nat) (g48 : Nat) (g49 : Nat) (g51 : Nat) (g52 : Nat) (g53 : Nat) (g54 : Nat) (g55 : Nat) (g56 : Nat) (g60 : Nat) (g61 : Nat) (g62 : Nat) (g63 : Nat) (g65 : Nat) (g66 : Nat) (g67 : Nat) (g68 : Nat) (hx : p.tables.exec = Jvm.exec) (hb : c.code = cL_law) (hr : meth.sig.returnType = ret) (hlocks : meth.locks = false) (hml : c.maxLocals = 4) (hown : s.vm.findClass RL = some m.cls) (hts : ∀ w ∈ wm_law, w.before #[Value.ref b] s = true) (hX : va_X b 7 xs s s.heap) (hbl : b < s.heap.size) (hK : va_K D vwCl [] s) (H : Heap) (locs : List Loc) (ls : Array Slot) (hP : va_P D vwCl [(x0, .inr (11, [.ref wo, .ref bo, .ref ro_, .ref bu, .ref ta, .ref li, .ref ca, .null, .ref fc, .int 0, .long 0])), (m0, .inr (12, [.int 0, .ref g1, .int 6, .ref g3, .ref g4, .int 0, .ref g6, .ref g7, .int 0, .ref g9, .ref g10, .ref g11, .ref g12, .ref g13, .ref g14, .int 0, .int 0, .int 0, .int 0, .int 0, .ref g20, .ref g21, .int (-9), .ref g23, .ref g24, .ref g25, .ref g26, .int 0, .ref g28, .ref g29, .ref g30, .ref g31, .ref g32, .int 0, .ref g34, .int 0, .int 0, .long 0, .ref g38, .ref g39, .int 0, .int 0, .int 0, .ref g43, .ref g44, .ref g45, .ref g46, .ref g47, .ref g48, .ref g49, .int 0, .ref g51, .ref g52, .ref g53, .ref g54, .ref g55, .ref g56, .int (-9), .int 0, .int 0, .ref g60, .ref g61, .ref g62, .ref g63, .int 0, .ref g65, .ref g66, .ref g67, .ref g68]))] H) (hD : va_D (fun q : Nat => s.heap.size ≤ q) [(x0, .inr (11, [.ref wo, .ref bo, .ref ro_, .ref bu, .ref ta, .ref li, .ref ca, .null, .ref fc, .int 0, .long 0])), (m0, .inr (12, [.int 0, .ref g1, .int 6, .ref g3, .ref g4, .int 0, .ref g6, .ref g7, .int 0, .ref g9, .ref g10, .ref g11, .ref g12, .ref g13, .ref g14, .int 0, .int 0, .int 0, .int 0, .int 0, .ref g20, .ref g21, .int (-9), .ref g23, .ref g24, .ref g25, .ref g26, .int 0, .ref g28, .ref g29, .ref g30, .ref g31, .ref g32, .int 0, .ref g34, .int 0, .int 0, .long 0, .ref g38, .ref g39, .int 0, .int 0, .int 0, .ref g43, .ref g44, .ref g45, .ref g46, .ref g47, .ref g48, .ref g49, .int 0, .ref g51, .ref g52, .ref g53, .ref g54, .ref g55, .ref g56, .int (-9), .int 0, .int 0, .ref g60, .ref g61, .ref g62, .ref g63, .int 0, .ref g65, .ref g66, .ref g67, .ref g68]))]) (hS : va_S (fun q : Nat => s.heap.size ≤ q) s.heap H locs) (hl : lv_has ls 4 [(3, .int 0), (2, .ref m0), (1, .ref x0), (0, .ref b)]) : W p l e room_1 s m #[Value.ref b] below meth c H locs 98 48488 (lw_Z below #[Value.ref b] s) (F0 m 351 ls []) := by
  have hbA : ¬ (fun q : Nat => s.heap.size ≤ q) b := Nat.not_le.mpr hbl
  have hA : ∀ q : Nat, s.heap.size ≤ q → (fun q : Nat => s.heap.size ≤ q) q := fun _ h => h
  refine lv_aload_n hx hb dL_law_351 rfl (lv_at hl 2 rfl) ?_
  have hPc := hP.sub (ws' := [(x0, .inr (11, [.ref wo, .ref bo, .ref ro_, .ref bu, .ref ta, .ref li, .ref ca, .null, .ref fc, .int 0, .long 0]))]) [0] rfl
  have hKc := hK.sub (tys' := []) [] rfl
  refine ro_calll (va_runV (As := []) (rest := []) ⟨hx, hb, hml, hown, hts⟩ (c_X11_asked l D H.size x0 wo bo ro_ bu ta li ca fc) (cwV 0 hts gm_L_law_X11_asked rfl rfl rfl (by decide +kernel) ⟨Nat.le_of_ble_eq_true rfl, Nat.le_of_ble_eq_true rfl⟩) (pA_V hKc hPc (ci := 11) (q0 := 0) rfl rfl) rfl rfl hl.1 rfl (lv_room (Nat.le_of_ble_eq_true rfl)) dL_law_352 ⟨Nat.le_of_ble_eq_true rfl, Nat.le_of_ble_eq_true rfl⟩) hS hA hP (fun r1 u1 H locs hw1 hP hS => ?_)
  have hw1 : r1 = 0 := hw1
  subst hw1
  refine lv_aload_n hx hb dL_law_355 rfl (lv_at hl 1 rfl) ?_
  have hPc := hP.sub (ws' := [(m0, .inr (12, [.int 0, .ref g1, .int 6, .ref g3, .ref g4, .int 0, .ref g6, .ref g7, .int 0, .ref g9, .ref g10, .ref g11, .ref g12, .ref g13, .ref g14, .int 0, .int 0, .int 0, .int 0, .int 0, .ref g20, .ref g21, .int (-9), .ref g23, .ref g24, .ref g25, .ref g26, .int 0, .ref g28, .ref g29, .ref g30, .ref g31, .ref g32, .int 0, .ref g34, .int 0, .int 0, .long 0, .ref g38, .ref g39, .int 0, .int 0, .int 0, .ref g43, .ref g44, .ref g45, .ref g46, .ref g47, .ref g48, .ref g49, .int 0, .ref g51, .ref g52, .ref g53, .ref g54, .ref g55, .ref g56, .int (-9), .int 0, .int 0, .ref g60, .ref g61, .ref g62, .ref g63, .int 0, .ref g65, .ref g66, .ref g67, .ref g68]))]) [1] rfl
  have hKc := hK.sub (tys' := []) [] rfl
  refine ro_calll (va_runV (As := []) (rest := [.long 0]) ⟨hx, hb, hml, hown, hts⟩ (c_X12_asked l D H.size m0 g1 g3 g4 g6 g7 g9 g10 g11 g12 g13 g14 g20 g21 g23 g24 g25 g26 g28 g29 g30 g31 g32 g34 g38 g39 g43 g44 g45 g46 g47 g48 g49 g51 g52 g53 g54 g55 g56 g60 g61 g62 g63 g65 g66 g67 g68) (cwV 0 hts gm_L_law_X12_asked rfl rfl rfl (by decide +kernel) ⟨Nat.le_of_ble_eq_true rfl, Nat.le_of_ble_eq_true rfl⟩) (pA_V hKc hPc (ci := 12) (q0 := 0) rfl rfl) rfl rfl hl.1 rfl (lv_room (Nat.le_of_ble_eq_true rfl)) dL_law_356 ⟨Nat.le_of_ble_eq_true rfl, Nat.le_of_ble_eq_true rfl⟩) hS hA hP (fun r2 u2 H locs hw2 hP hS => ?_)
  have hw2 : r2 = 0 := hw2
  subst hw2
  refine W.lcmp hx hb dL_law_359 ?_
  refine tp_i (y := 0) (by decide) ?_
  refine lv_if_eq (tgt := 1463) hx hb dL_law_360 (by decide) (fun _ => ?_) (fun q9 => absurd (by decide) q9)
  exact law_tail hx hb hr hlocks hX hbl hS hl (Nat.le_of_ble_eq_true rfl) (Nat.le_of_ble_eq_true rfl)

set_option maxHeartbeats 4000000 in
set_option maxRecDepth 100000 in
theorem law_trace {p : Program} {l : Launch} {e : Env} {s : State} {m : MethodId} {below : List Frame} {meth : Method} {c : Code} {b : Nat} {xs : Nat → Int32} (D : va_G) (x0 : Nat) (wo : Nat) (bo : Nat) (ro_ : Nat) (bu : Nat) (ta : Nat) (li : Nat) (ca : Nat) (fc : Nat) (u0 : Nat) (u1 : Nat) (m0 : Nat) (g1 : Nat) (g3 : Nat) (g4 : Nat) (g6 : Nat) (g7 : Nat) (g9 : Nat) (g10 : Nat) (g11 : Nat) (g12 : Nat) (g13 : Nat) (g14 : Nat) (g20 : Nat) (g21 : Nat) (g23 : Nat) (g24 : Nat) (g25 : Nat) (g26 : Nat) (g28 : Nat) (g29 : Nat) (g30 : Nat) (g31 : Nat) (g32 : Nat) (g34 : Nat) (g38 : Nat) (g39 : Nat) (g43 : Nat) (g44 : Nat) (g45 : Nat) (g46 : Nat) (g47 : Nat) (g48 : Nat) (g49 : Nat) (g51 : Nat) (g52 : Nat) (g53 : Nat) (g54 : Nat) (g55 : Nat) (g56 : Nat) (g60 : Nat) (g61 : Nat) (g62 : Nat) (g63 : Nat) (g65 : Nat) (g66 : Nat) (g67 : Nat) (g68 : Nat) (hx : p.tables.exec = Jvm.exec) (hb : c.code = cL_law) (hr : meth.sig.returnType = ret) (hlocks : meth.locks = false) (hml : c.maxLocals = 4) (hown : s.vm.findClass RL = some m.cls) (hts : ∀ w ∈ wm_law, w.before #[Value.ref b] s = true) (hX : va_X b 7 xs s s.heap) (hbl : b < s.heap.size) (hK : va_K D vwCl [] s) (H : Heap) (locs : List Loc) (ls : Array Slot) (hP : va_P D vwCl [(x0, .inr (11, [.ref wo, .ref bo, .ref ro_, .ref bu, .ref ta, .ref li, .ref ca, .null, .ref fc, .int 0, .long 0])), (bu, .inr (2, [.ref u0, .ref u1, .int 0, .int 0])), (m0, .inr (12, [.int 0, .ref g1, .int 6, .ref g3, .ref g4, .int 0, .ref g6, .ref g7, .int 0, .ref g9, .ref g10, .ref g11, .ref g12, .ref g13, .ref g14, .int 0, .int 0, .int 0, .int 0, .int 0, .ref g20, .ref g21, .int (-9), .ref g23, .ref g24, .ref g25, .ref g26, .int 0, .ref g28, .ref g29, .ref g30, .ref g31, .ref g32, .int 0, .ref g34, .int 0, .int 0, .long 0, .ref g38, .ref g39, .int 0, .int 0, .int 0, .ref g43, .ref g44, .ref g45, .ref g46, .ref g47, .ref g48, .ref g49, .int 0, .ref g51, .ref g52, .ref g53, .ref g54, .ref g55, .ref g56, .int (-9), .int 0, .int 0, .ref g60, .ref g61, .ref g62, .ref g63, .int 0, .ref g65, .ref g66, .ref g67, .ref g68]))] H) (hD : va_D (fun q : Nat => s.heap.size ≤ q) [(x0, .inr (11, [.ref wo, .ref bo, .ref ro_, .ref bu, .ref ta, .ref li, .ref ca, .null, .ref fc, .int 0, .long 0])), (bu, .inr (2, [.ref u0, .ref u1, .int 0, .int 0])), (m0, .inr (12, [.int 0, .ref g1, .int 6, .ref g3, .ref g4, .int 0, .ref g6, .ref g7, .int 0, .ref g9, .ref g10, .ref g11, .ref g12, .ref g13, .ref g14, .int 0, .int 0, .int 0, .int 0, .int 0, .ref g20, .ref g21, .int (-9), .ref g23, .ref g24, .ref g25, .ref g26, .int 0, .ref g28, .ref g29, .ref g30, .ref g31, .ref g32, .int 0, .ref g34, .int 0, .int 0, .long 0, .ref g38, .ref g39, .int 0, .int 0, .int 0, .ref g43, .ref g44, .ref g45, .ref g46, .ref g47, .ref g48, .ref g49, .int 0, .ref g51, .ref g52, .ref g53, .ref g54, .ref g55, .ref g56, .int (-9), .int 0, .int 0, .ref g60, .ref g61, .ref g62, .ref g63, .int 0, .ref g65, .ref g66, .ref g67, .ref g68]))]) (hS : va_S (fun q : Nat => s.heap.size ≤ q) s.heap H locs) (hl : lv_has ls 4 [(3, .int 0), (2, .ref m0), (1, .ref x0), (0, .ref b)]) : W p l e room_1 s m #[Value.ref b] below meth c H locs 98 48488 (lw_Z below #[Value.ref b] s) (F0 m 365 ls []) := by
  have hbA : ¬ (fun q : Nat => s.heap.size ≤ q) b := Nat.not_le.mpr hbl
  have hA : ∀ q : Nat, s.heap.size ≤ q → (fun q : Nat => s.heap.size ≤ q) q := fun _ h => h
  refine lv_aload_n hx hb dL_law_365 rfl (lv_at hl 2 rfl) ?_
  refine lv_aload_n hx hb dL_law_366 rfl (lv_at hl 3 rfl) ?_
  refine lv_iload_n hx hb dL_law_367 rfl (lv_at hl 0 rfl) ?_
  refine lv_iconst (v := 1) hx hb dL_law_368 (by decide) ?_
  refine lv_iadd hx hb dL_law_369 ?_
  refine tp_i (y := 1) (by decide) ?_
  refine va_sld hx hb hX hbl hbA hS (show vp_in 1 7 from by unfold vp_in; decide) dL_law_370 ?_
  refine tp_i (y := xs 1) rfl ?_
  have hPc := hP.sub (ws' := [(x0, .inr (11, [.ref wo, .ref bo, .ref ro_, .ref bu, .ref ta, .ref li, .ref ca, .null, .ref fc, .int 0, .long 0])), (bu, .inr (2, [.ref u0, .ref u1, .int 0, .int 0]))]) [0, 1] rfl
  have hKc := hK.sub (tys' := []) [] rfl
  refine ro_calli (va_runV (As := [.int (xs 1)]) (rest := []) ⟨hx, hb, hml, hown, hts⟩ (c_X11_trace l D H.size x0 wo bo ro_ bu ta li ca fc u0 u1 (xs 1)) (cwV 1 hts gm_L_law_X11_trace rfl rfl rfl (by decide +kernel) ⟨Nat.le_of_ble_eq_true rfl, Nat.le_of_ble_eq_true rfl⟩) (pA_V hKc hPc (ci := 11) (q0 := 0) rfl rfl) rfl rfl hl.1 rfl (lv_room (Nat.le_of_ble_eq_true rfl)) dL_law_371 ⟨Nat.le_of_ble_eq_true rfl, Nat.le_of_ble_eq_true rfl⟩) hS hA hP (fun r1 u1 H locs hw1 hP hS => ?_)
  have hw1 : r1 = (-9) := hw1
  subst hw1
  refine lv_aload_n hx hb dL_law_374 rfl (lv_at hl 1 rfl) ?_
  refine lv_aload_n hx hb dL_law_375 rfl (lv_at hl 3 rfl) ?_
  refine lv_iload_n hx hb dL_law_376 rfl (lv_at hl 0 rfl) ?_
  refine lv_iconst (v := 1) hx hb dL_law_377 (by decide) ?_
  refine lv_iadd hx hb dL_law_378 ?_
  refine tp_i (y := 1) (by decide) ?_
  refine va_sld hx hb hX hbl hbA hS (show vp_in 1 7 from by unfold vp_in; decide) dL_law_379 ?_
  refine tp_i (y := xs 1) rfl ?_
  have hPc := hP.sub (ws' := [(m0, .inr (12, [.int 0, .ref g1, .int 6, .ref g3, .ref g4, .int 0, .ref g6, .ref g7, .int 0, .ref g9, .ref g10, .ref g11, .ref g12, .ref g13, .ref g14, .int 0, .int 0, .int 0, .int 0, .int 0, .ref g20, .ref g21, .int (-9), .ref g23, .ref g24, .ref g25, .ref g26, .int 0, .ref g28, .ref g29, .ref g30, .ref g31, .ref g32, .int 0, .ref g34, .int 0, .int 0, .long 0, .ref g38, .ref g39, .int 0, .int 0, .int 0, .ref g43, .ref g44, .ref g45, .ref g46, .ref g47, .ref g48, .ref g49, .int 0, .ref g51, .ref g52, .ref g53, .ref g54, .ref g55, .ref g56, .int (-9), .int 0, .int 0, .ref g60, .ref g61, .ref g62, .ref g63, .int 0, .ref g65, .ref g66, .ref g67, .ref g68]))]) [2] rfl
  have hKc := hK.sub (tys' := []) [] rfl
  refine ro_calli (va_runV (As := [.int (xs 1)]) (rest := [.int (-9)]) ⟨hx, hb, hml, hown, hts⟩ (c_X12_trace l D H.size m0 g1 g3 g4 g6 g7 g9 g10 g11 g12 g13 g14 g20 g21 g23 g24 g25 g26 g28 g29 g30 g31 g32 g34 g38 g39 g43 g44 g45 g46 g47 g48 g49 g51 g52 g53 g54 g55 g56 g60 g61 g62 g63 g65 g66 g67 g68 (xs 1)) (cwV 1 hts gm_L_law_X12_trace rfl rfl rfl (by decide +kernel) ⟨Nat.le_of_ble_eq_true rfl, Nat.le_of_ble_eq_true rfl⟩) (pA_V hKc hPc (ci := 12) (q0 := 0) rfl rfl) rfl rfl hl.1 rfl (lv_room (Nat.le_of_ble_eq_true rfl)) dL_law_380 ⟨Nat.le_of_ble_eq_true rfl, Nat.le_of_ble_eq_true rfl⟩) hS hA hP (fun r2 u2 H locs hw2 hP hS => ?_)
  have hw2 : r2 = (-9) := hw2
  subst hw2
  refine lv_icmp_eq (tgt := 1463) hx hb dL_law_383 (by decide) (fun _ => ?_) (fun q9 => absurd (by decide) q9)
  exact law_tail hx hb hr hlocks hX hbl hS hl (Nat.le_of_ble_eq_true rfl) (Nat.le_of_ble_eq_true rfl)

set_option maxHeartbeats 4000000 in
set_option maxRecDepth 100000 in
theorem law_share {p : Program} {l : Launch} {e : Env} {s : State} {m : MethodId} {below : List Frame} {meth : Method} {c : Code} {b : Nat} {xs : Nat → Int32} (D : va_G) (x0 : Nat) (wo : Nat) (bo : Nat) (ro_ : Nat) (bu : Nat) (ta : Nat) (li : Nat) (ca : Nat) (fc : Nat) (wp : Nat) (ws_ : Nat) (wd : Nat) (wk : Nat) (wz : Nat) (m0 : Nat) (g1 : Nat) (g3 : Nat) (g4 : Nat) (g6 : Nat) (g7 : Nat) (g9 : Nat) (g10 : Nat) (g11 : Nat) (g12 : Nat) (g13 : Nat) (g14 : Nat) (g20 : Nat) (g21 : Nat) (g23 : Nat) (g24 : Nat) (g25 : Nat) (g26 : Nat) (g28 : Nat) (g29 : Nat) (g30 : Nat) (g31 : Nat) (g32 : Nat) (g34 : Nat) (g38 : Nat) (g39 : Nat) (g43 : Nat) (g44 : Nat) (g45 : Nat) (g46 : Nat) (g47 : Nat) (g48 : Nat) (g49 : Nat) (g51 : Nat) (g52 : Nat) (g53 : Nat) (g54 : Nat) (g55 : Nat) (g56 : Nat) (g60 : Nat) (g61 : Nat) (g62 : Nat) (g63 : Nat) (g65 : Nat) (g66 : Nat) (g67 : Nat) (g68 : Nat) (hx : p.tables.exec = Jvm.exec) (hb : c.code = cL_law) (hr : meth.sig.returnType = ret) (hlocks : meth.locks = false) (hml : c.maxLocals = 4) (hown : s.vm.findClass RL = some m.cls) (hts : ∀ w ∈ wm_law, w.before #[Value.ref b] s = true) (hX : va_X b 7 xs s s.heap) (hbl : b < s.heap.size) (hK : va_K D vwCl [] s) (H : Heap) (locs : List Loc) (ls : Array Slot) (hP : va_P D vwCl [(x0, .inr (11, [.ref wo, .ref bo, .ref ro_, .ref bu, .ref ta, .ref li, .ref ca, .null, .ref fc, .int 0, .long 0])), (wo, .inr (10, [.ref wp, .ref ws_, .ref wd, .ref wk, .ref wz, .int 6, .int 0])), (m0, .inr (12, [.int 0, .ref g1, .int 6, .ref g3, .ref g4, .int 0, .ref g6, .ref g7, .int 0, .ref g9, .ref g10, .ref g11, .ref g12, .ref g13, .ref g14, .int 0, .int 0, .int 0, .int 0, .int 0, .ref g20, .ref g21, .int (-9), .ref g23, .ref g24, .ref g25, .ref g26, .int 0, .ref g28, .ref g29, .ref g30, .ref g31, .ref g32, .int 0, .ref g34, .int 0, .int 0, .long 0, .ref g38, .ref g39, .int 0, .int 0, .int 0, .ref g43, .ref g44, .ref g45, .ref g46, .ref g47, .ref g48, .ref g49, .int 0, .ref g51, .ref g52, .ref g53, .ref g54, .ref g55, .ref g56, .int (-9), .int 0, .int 0, .ref g60, .ref g61, .ref g62, .ref g63, .int 0, .ref g65, .ref g66, .ref g67, .ref g68]))] H) (hD : va_D (fun q : Nat => s.heap.size ≤ q) [(x0, .inr (11, [.ref wo, .ref bo, .ref ro_, .ref bu, .ref ta, .ref li, .ref ca, .null, .ref fc, .int 0, .long 0])), (wo, .inr (10, [.ref wp, .ref ws_, .ref wd, .ref wk, .ref wz, .int 6, .int 0])), (m0, .inr (12, [.int 0, .ref g1, .int 6, .ref g3, .ref g4, .int 0, .ref g6, .ref g7, .int 0, .ref g9, .ref g10, .ref g11, .ref g12, .ref g13, .ref g14, .int 0, .int 0, .int 0, .int 0, .int 0, .ref g20, .ref g21, .int (-9), .ref g23, .ref g24, .ref g25, .ref g26, .int 0, .ref g28, .ref g29, .ref g30, .ref g31, .ref g32, .int 0, .ref g34, .int 0, .int 0, .long 0, .ref g38, .ref g39, .int 0, .int 0, .int 0, .ref g43, .ref g44, .ref g45, .ref g46, .ref g47, .ref g48, .ref g49, .int 0, .ref g51, .ref g52, .ref g53, .ref g54, .ref g55, .ref g56, .int (-9), .int 0, .int 0, .ref g60, .ref g61, .ref g62, .ref g63, .int 0, .ref g65, .ref g66, .ref g67, .ref g68]))]) (hS : va_S (fun q : Nat => s.heap.size ≤ q) s.heap H locs) (hl : lv_has ls 4 [(3, .int 0), (2, .ref m0), (1, .ref x0), (0, .ref b)]) : W p l e room_1 s m #[Value.ref b] below meth c H locs 98 48488 (lw_Z below #[Value.ref b] s) (F0 m 388 ls []) := by
  have hbA : ¬ (fun q : Nat => s.heap.size ≤ q) b := Nat.not_le.mpr hbl
  have hA : ∀ q : Nat, s.heap.size ≤ q → (fun q : Nat => s.heap.size ≤ q) q := fun _ h => h
  refine lv_aload_n hx hb dL_law_388 rfl (lv_at hl 2 rfl) ?_
  refine lv_aload_n hx hb dL_law_389 rfl (lv_at hl 3 rfl) ?_
  refine lv_iload_n hx hb dL_law_390 rfl (lv_at hl 0 rfl) ?_
  refine lv_iconst (v := 1) hx hb dL_law_391 (by decide) ?_
  refine lv_iadd hx hb dL_law_392 ?_
  refine tp_i (y := 1) (by decide) ?_
  refine va_sld hx hb hX hbl hbA hS (show vp_in 1 7 from by unfold vp_in; decide) dL_law_393 ?_
  refine tp_i (y := xs 1) rfl ?_
  refine lv_aload_n hx hb dL_law_394 rfl (lv_at hl 3 rfl) ?_
  refine lv_iload_n hx hb dL_law_395 rfl (lv_at hl 0 rfl) ?_
  refine lv_iconst (v := 2) hx hb dL_law_396 (by decide) ?_
  refine lv_iadd hx hb dL_law_397 ?_
  refine tp_i (y := 2) (by decide) ?_
  refine va_sld hx hb hX hbl hbA hS (show vp_in 2 7 from by unfold vp_in; decide) dL_law_398 ?_
  refine tp_i (y := xs 2) rfl ?_
  have hPc := hP.sub (ws' := [(x0, .inr (11, [.ref wo, .ref bo, .ref ro_, .ref bu, .ref ta, .ref li, .ref ca, .null, .ref fc, .int 0, .long 0])), (wo, .inr (10, [.ref wp, .ref ws_, .ref wd, .ref wk, .ref wz, .int 6, .int 0]))]) [0, 1] rfl
  have hKc := hK.sub (tys' := []) [] rfl
  refine ro_calli (va_runV (As := [.int (xs 1), .int (xs 2)]) (rest := []) ⟨hx, hb, hml, hown, hts⟩ (c_X11_share l D H.size x0 wo bo ro_ bu ta li ca fc wp ws_ wd wk wz (xs 1) (xs 2)) (cwV 2 hts gm_L_law_X11_share rfl rfl rfl (by decide +kernel) ⟨Nat.le_of_ble_eq_true rfl, Nat.le_of_ble_eq_true rfl⟩) (pA_V hKc hPc (ci := 11) (q0 := 0) rfl rfl) rfl rfl hl.1 rfl (lv_room (Nat.le_of_ble_eq_true rfl)) dL_law_399 ⟨Nat.le_of_ble_eq_true rfl, Nat.le_of_ble_eq_true rfl⟩) hS hA hP (fun r1 u1 H locs hw1 hP hS => ?_)
  have hw1 : r1 = (-1) := hw1
  subst hw1
  refine lv_aload_n hx hb dL_law_402 rfl (lv_at hl 1 rfl) ?_
  refine lv_aload_n hx hb dL_law_403 rfl (lv_at hl 3 rfl) ?_
  refine lv_iload_n hx hb dL_law_404 rfl (lv_at hl 0 rfl) ?_
  refine lv_iconst (v := 1) hx hb dL_law_405 (by decide) ?_
  refine lv_iadd hx hb dL_law_406 ?_
  refine tp_i (y := 1) (by decide) ?_
  refine va_sld hx hb hX hbl hbA hS (show vp_in 1 7 from by unfold vp_in; decide) dL_law_407 ?_
  refine tp_i (y := xs 1) rfl ?_
  refine lv_aload_n hx hb dL_law_408 rfl (lv_at hl 3 rfl) ?_
  refine lv_iload_n hx hb dL_law_409 rfl (lv_at hl 0 rfl) ?_
  refine lv_iconst (v := 2) hx hb dL_law_410 (by decide) ?_
  refine lv_iadd hx hb dL_law_411 ?_
  refine tp_i (y := 2) (by decide) ?_
  refine va_sld hx hb hX hbl hbA hS (show vp_in 2 7 from by unfold vp_in; decide) dL_law_412 ?_
  refine tp_i (y := xs 2) rfl ?_
  have hPc := hP.sub (ws' := [(m0, .inr (12, [.int 0, .ref g1, .int 6, .ref g3, .ref g4, .int 0, .ref g6, .ref g7, .int 0, .ref g9, .ref g10, .ref g11, .ref g12, .ref g13, .ref g14, .int 0, .int 0, .int 0, .int 0, .int 0, .ref g20, .ref g21, .int (-9), .ref g23, .ref g24, .ref g25, .ref g26, .int 0, .ref g28, .ref g29, .ref g30, .ref g31, .ref g32, .int 0, .ref g34, .int 0, .int 0, .long 0, .ref g38, .ref g39, .int 0, .int 0, .int 0, .ref g43, .ref g44, .ref g45, .ref g46, .ref g47, .ref g48, .ref g49, .int 0, .ref g51, .ref g52, .ref g53, .ref g54, .ref g55, .ref g56, .int (-9), .int 0, .int 0, .ref g60, .ref g61, .ref g62, .ref g63, .int 0, .ref g65, .ref g66, .ref g67, .ref g68]))]) [2] rfl
  have hKc := hK.sub (tys' := []) [] rfl
  refine ro_calli (va_runV (As := [.int (xs 1), .int (xs 2)]) (rest := [.int (-1)]) ⟨hx, hb, hml, hown, hts⟩ (c_X12_share l D H.size m0 g1 g3 g4 g6 g7 g9 g10 g11 g12 g13 g14 g20 g21 g23 g24 g25 g26 g28 g29 g30 g31 g32 g34 g38 g39 g43 g44 g45 g46 g47 g48 g49 g51 g52 g53 g54 g55 g56 g60 g61 g62 g63 g65 g66 g67 g68 (xs 1) (xs 2)) (cwV 2 hts gm_L_law_X12_share rfl rfl rfl (by decide +kernel) ⟨Nat.le_of_ble_eq_true rfl, Nat.le_of_ble_eq_true rfl⟩) (pA_V hKc hPc (ci := 12) (q0 := 0) rfl rfl) rfl rfl hl.1 rfl (lv_room (Nat.le_of_ble_eq_true rfl)) dL_law_413 ⟨Nat.le_of_ble_eq_true rfl, Nat.le_of_ble_eq_true rfl⟩) hS hA hP (fun r2 u2 H locs hw2 hP hS => ?_)
  have hw2 : r2 = (-1) := hw2
  subst hw2
  refine lv_icmp_eq (tgt := 1463) hx hb dL_law_416 (by decide) (fun _ => ?_) (fun q9 => absurd (by decide) q9)
  exact law_tail hx hb hr hlocks hX hbl hS hl (Nat.le_of_ble_eq_true rfl) (Nat.le_of_ble_eq_true rfl)

set_option maxHeartbeats 4000000 in
set_option maxRecDepth 100000 in
theorem law_say {p : Program} {l : Launch} {e : Env} {s : State} {m : MethodId} {below : List Frame} {meth : Method} {c : Code} {b : Nat} {xs : Nat → Int32} (D : va_G) (x0 : Nat) (wo : Nat) (bo : Nat) (ro_ : Nat) (bu : Nat) (ta : Nat) (li : Nat) (ca : Nat) (fc : Nat) (wp : Nat) (ws_ : Nat) (wd : Nat) (wk : Nat) (wz : Nat) (b0 : Nat) (b1 : Nat) (b2 : Nat) (b3 : Nat) (b4 : Nat) (b5 : Nat) (b6 : Nat) (b7 : Nat) (b8 : Nat) (b9 : Nat) (b10 : Nat) (m0 : Nat) (g1 : Nat) (g3 : Nat) (g4 : Nat) (g6 : Nat) (g7 : Nat) (g9 : Nat) (g10 : Nat) (g11 : Nat) (g12 : Nat) (g13 : Nat) (g14 : Nat) (g20 : Nat) (g21 : Nat) (g23 : Nat) (g24 : Nat) (g25 : Nat) (g26 : Nat) (g28 : Nat) (g29 : Nat) (g30 : Nat) (g31 : Nat) (g32 : Nat) (g34 : Nat) (g38 : Nat) (g39 : Nat) (g43 : Nat) (g44 : Nat) (g45 : Nat) (g46 : Nat) (g47 : Nat) (g48 : Nat) (g49 : Nat) (g51 : Nat) (g52 : Nat) (g53 : Nat) (g54 : Nat) (g55 : Nat) (g56 : Nat) (g60 : Nat) (g61 : Nat) (g62 : Nat) (g63 : Nat) (g65 : Nat) (g66 : Nat) (g67 : Nat) (g68 : Nat) (hx : p.tables.exec = Jvm.exec) (hb : c.code = cL_law) (hr : meth.sig.returnType = ret) (hlocks : meth.locks = false) (hml : c.maxLocals = 4) (hown : s.vm.findClass RL = some m.cls) (hts : ∀ w ∈ wm_law, w.before #[Value.ref b] s = true) (hX : va_X b 7 xs s s.heap) (hbl : b < s.heap.size) (hK : va_K D vwCl [] s) (H : Heap) (locs : List Loc) (ls : Array Slot) (hP : va_P D vwCl [(x0, .inr (11, [.ref wo, .ref bo, .ref ro_, .ref bu, .ref ta, .ref li, .ref ca, .null, .ref fc, .int 0, .long 0])), (wo, .inr (10, [.ref wp, .ref ws_, .ref wd, .ref wk, .ref wz, .int 6, .int 0])), (bo, .inr (1, [.ref wo, .ref b0, .ref b1, .ref b2, .ref b3, .ref b4, .ref b5, .ref b6, .ref b7, .ref b8, .ref b9, .ref b10, .int 0, .int 0, .int 0])), (m0, .inr (12, [.int 0, .ref g1, .int 6, .ref g3, .ref g4, .int 0, .ref g6, .ref g7, .int 0, .ref g9, .ref g10, .ref g11, .ref g12, .ref g13, .ref g14, .int 0, .int 0, .int 0, .int 0, .int 0, .ref g20, .ref g21, .int (-9), .ref g23, .ref g24, .ref g25, .ref g26, .int 0, .ref g28, .ref g29, .ref g30, .ref g31, .ref g32, .int 0, .ref g34, .int 0, .int 0, .long 0, .ref g38, .ref g39, .int 0, .int 0, .int 0, .ref g43, .ref g44, .ref g45, .ref g46, .ref g47, .ref g48, .ref g49, .int 0, .ref g51, .ref g52, .ref g53, .ref g54, .ref g55, .ref g56, .int (-9), .int 0, .int 0, .ref g60, .ref g61, .ref g62, .ref g63, .int 0, .ref g65, .ref g66, .ref g67, .ref g68]))] H) (hD : va_D (fun q : Nat => s.heap.size ≤ q) [(x0, .inr (11, [.ref wo, .ref bo, .ref ro_, .ref bu, .ref ta, .ref li, .ref ca, .null, .ref fc, .int 0, .long 0])), (wo, .inr (10, [.ref wp, .ref ws_, .ref wd, .ref wk, .ref wz, .int 6, .int 0])), (bo, .inr (1, [.ref wo, .ref b0, .ref b1, .ref b2, .ref b3, .ref b4, .ref b5, .ref b6, .ref b7, .ref b8, .ref b9, .ref b10, .int 0, .int 0, .int 0])), (m0, .inr (12, [.int 0, .ref g1, .int 6, .ref g3, .ref g4, .int 0, .ref g6, .ref g7, .int 0, .ref g9, .ref g10, .ref g11, .ref g12, .ref g13, .ref g14, .int 0, .int 0, .int 0, .int 0, .int 0, .ref g20, .ref g21, .int (-9), .ref g23, .ref g24, .ref g25, .ref g26, .int 0, .ref g28, .ref g29, .ref g30, .ref g31, .ref g32, .int 0, .ref g34, .int 0, .int 0, .long 0, .ref g38, .ref g39, .int 0, .int 0, .int 0, .ref g43, .ref g44, .ref g45, .ref g46, .ref g47, .ref g48, .ref g49, .int 0, .ref g51, .ref g52, .ref g53, .ref g54, .ref g55, .ref g56, .int (-9), .int 0, .int 0, .ref g60, .ref g61, .ref g62, .ref g63, .int 0, .ref g65, .ref g66, .ref g67, .ref g68]))]) (hS : va_S (fun q : Nat => s.heap.size ≤ q) s.heap H locs) (hl : lv_has ls 4 [(3, .int 0), (2, .ref m0), (1, .ref x0), (0, .ref b)]) : W p l e room_1 s m #[Value.ref b] below meth c H locs 98 48488 (lw_Z below #[Value.ref b] s) (F0 m 421 ls []) := by
  have hbA : ¬ (fun q : Nat => s.heap.size ≤ q) b := Nat.not_le.mpr hbl
  have hA : ∀ q : Nat, s.heap.size ≤ q → (fun q : Nat => s.heap.size ≤ q) q := fun _ h => h
  refine lv_aload_n hx hb dL_law_421 rfl (lv_at hl 2 rfl) ?_
  refine lv_aload_n hx hb dL_law_422 rfl (lv_at hl 3 rfl) ?_
  refine lv_iload_n hx hb dL_law_423 rfl (lv_at hl 0 rfl) ?_
  refine lv_iconst (v := 1) hx hb dL_law_424 (by decide) ?_
  refine lv_iadd hx hb dL_law_425 ?_
  refine tp_i (y := 1) (by decide) ?_
  refine va_sld hx hb hX hbl hbA hS (show vp_in 1 7 from by unfold vp_in; decide) dL_law_426 ?_
  refine tp_i (y := xs 1) rfl ?_
  refine lv_aload_n hx hb dL_law_427 rfl (lv_at hl 3 rfl) ?_
  refine lv_iload_n hx hb dL_law_428 rfl (lv_at hl 0 rfl) ?_
  refine lv_iconst (v := 2) hx hb dL_law_429 (by decide) ?_
  refine lv_iadd hx hb dL_law_430 ?_
  refine tp_i (y := 2) (by decide) ?_
  refine va_sld hx hb hX hbl hbA hS (show vp_in 2 7 from by unfold vp_in; decide) dL_law_431 ?_
  refine tp_i (y := xs 2) rfl ?_
  refine lv_aload_n hx hb dL_law_432 rfl (lv_at hl 3 rfl) ?_
  refine lv_iload_n hx hb dL_law_433 rfl (lv_at hl 0 rfl) ?_
  refine lv_iconst (v := 3) hx hb dL_law_434 (by decide) ?_
  refine lv_iadd hx hb dL_law_435 ?_
  refine tp_i (y := 3) (by decide) ?_
  refine va_sld hx hb hX hbl hbA hS (show vp_in 3 7 from by unfold vp_in; decide) dL_law_436 ?_
  refine tp_i (y := xs 3) rfl ?_
  refine lv_aload_n hx hb dL_law_437 rfl (lv_at hl 3 rfl) ?_
  refine lv_iload_n hx hb dL_law_438 rfl (lv_at hl 0 rfl) ?_
  refine lv_iconst (v := 4) hx hb dL_law_439 (by decide) ?_
  refine lv_iadd hx hb dL_law_440 ?_
  refine tp_i (y := 4) (by decide) ?_
  refine va_sld hx hb hX hbl hbA hS (show vp_in 4 7 from by unfold vp_in; decide) dL_law_441 ?_
  refine tp_i (y := xs 4) rfl ?_
  have hPc := hP.sub (ws' := [(x0, .inr (11, [.ref wo, .ref bo, .ref ro_, .ref bu, .ref ta, .ref li, .ref ca, .null, .ref fc, .int 0, .long 0])), (wo, .inr (10, [.ref wp, .ref ws_, .ref wd, .ref wk, .ref wz, .int 6, .int 0])), (bo, .inr (1, [.ref wo, .ref b0, .ref b1, .ref b2, .ref b3, .ref b4, .ref b5, .ref b6, .ref b7, .ref b8, .ref b9, .ref b10, .int 0, .int 0, .int 0]))]) [0, 1, 2] rfl
  have hKc := hK.sub (tys' := []) [] rfl
  have hDc := hD.sub (ws' := [(x0, .inr (11, [.ref wo, .ref bo, .ref ro_, .ref bu, .ref ta, .ref li, .ref ca, .null, .ref fc, .int 0, .long 0])), (wo, .inr (10, [.ref wp, .ref ws_, .ref wd, .ref wk, .ref wz, .int 6, .int 0])), (bo, .inr (1, [.ref wo, .ref b0, .ref b1, .ref b2, .ref b3, .ref b4, .ref b5, .ref b6, .ref b7, .ref b8, .ref b9, .ref b10, .int 0, .int 0, .int 0]))]) [0, 1, 2] (by decide) rfl
  refine rw_calli (wr := [(m0, .inr (12, [.int 0, .ref g1, .int 6, .ref g3, .ref g4, .int 0, .ref g6, .ref g7, .int 0, .ref g9, .ref g10, .ref g11, .ref g12, .ref g13, .ref g14, .int 0, .int 0, .int 0, .int 0, .int 0, .ref g20, .ref g21, .int (-9), .ref g23, .ref g24, .ref g25, .ref g26, .int 0, .ref g28, .ref g29, .ref g30, .ref g31, .ref g32, .int 0, .ref g34, .int 0, .int 0, .long 0, .ref g38, .ref g39, .int 0, .int 0, .int 0, .ref g43, .ref g44, .ref g45, .ref g46, .ref g47, .ref g48, .ref g49, .int 0, .ref g51, .ref g52, .ref g53, .ref g54, .ref g55, .ref g56, .int (-9), .int 0, .int 0, .ref g60, .ref g61, .ref g62, .ref g63, .int 0, .ref g65, .ref g66, .ref g67, .ref g68]))]) (va_runV (As := [.int (xs 1), .int (xs 2), .int (xs 3), .int (xs 4)]) (rest := []) ⟨hx, hb, hml, hown, hts⟩ (c_X11_say l D H.size x0 wo bo ro_ bu ta li ca fc wp ws_ wd wk wz b0 b1 b2 b3 b4 b5 b6 b7 b8 b9 b10 (xs 1) (xs 2) (xs 3) (xs 4)) (cwV 4 hts gm_L_law_X11_say rfl rfl rfl (by decide +kernel) ⟨Nat.le_of_ble_eq_true rfl, Nat.le_of_ble_eq_true rfl⟩) (pB_V hKc hPc hDc (ci := 11) (q0 := 0) rfl rfl) rfl rfl hl.1 rfl (lv_room (Nat.le_of_ble_eq_true rfl)) dL_law_442 ⟨Nat.le_of_ble_eq_true rfl, Nat.le_of_ble_eq_true rfl⟩) hS hA hK hP hD [0, 1, 2] [3] rfl rfl (by decide) (by decide) (fun r1 u1 H locs hw1 hK hP hD hS => ?_)
  have hP : va_P D vwCl [(m0, .inr (12, [.int 0, .ref g1, .int 6, .ref g3, .ref g4, .int 0, .ref g6, .ref g7, .int 0, .ref g9, .ref g10, .ref g11, .ref g12, .ref g13, .ref g14, .int 0, .int 0, .int 0, .int 0, .int 0, .ref g20, .ref g21, .int (-9), .ref g23, .ref g24, .ref g25, .ref g26, .int 0, .ref g28, .ref g29, .ref g30, .ref g31, .ref g32, .int 0, .ref g34, .int 0, .int 0, .long 0, .ref g38, .ref g39, .int 0, .int 0, .int 0, .ref g43, .ref g44, .ref g45, .ref g46, .ref g47, .ref g48, .ref g49, .int 0, .ref g51, .ref g52, .ref g53, .ref g54, .ref g55, .ref g56, .int (-9), .int 0, .int 0, .ref g60, .ref g61, .ref g62, .ref g63, .int 0, .ref g65, .ref g66, .ref g67, .ref g68]))] H := hP
  have hD : va_D (fun q : Nat => s.heap.size ≤ q) [(m0, .inr (12, [.int 0, .ref g1, .int 6, .ref g3, .ref g4, .int 0, .ref g6, .ref g7, .int 0, .ref g9, .ref g10, .ref g11, .ref g12, .ref g13, .ref g14, .int 0, .int 0, .int 0, .int 0, .int 0, .ref g20, .ref g21, .int (-9), .ref g23, .ref g24, .ref g25, .ref g26, .int 0, .ref g28, .ref g29, .ref g30, .ref g31, .ref g32, .int 0, .ref g34, .int 0, .int 0, .long 0, .ref g38, .ref g39, .int 0, .int 0, .int 0, .ref g43, .ref g44, .ref g45, .ref g46, .ref g47, .ref g48, .ref g49, .int 0, .ref g51, .ref g52, .ref g53, .ref g54, .ref g55, .ref g56, .int (-9), .int 0, .int 0, .ref g60, .ref g61, .ref g62, .ref g63, .int 0, .ref g65, .ref g66, .ref g67, .ref g68]))] := hD
  have hK : va_K D vwCl [] s := hK
  have hw1 : r1 = (-1) := hw1
  subst hw1
  refine lv_aload_n hx hb dL_law_445 rfl (lv_at hl 1 rfl) ?_
  refine lv_aload_n hx hb dL_law_446 rfl (lv_at hl 3 rfl) ?_
  refine lv_iload_n hx hb dL_law_447 rfl (lv_at hl 0 rfl) ?_
  refine lv_iconst (v := 1) hx hb dL_law_448 (by decide) ?_
  refine lv_iadd hx hb dL_law_449 ?_
  refine tp_i (y := 1) (by decide) ?_
  refine va_sld hx hb hX hbl hbA hS (show vp_in 1 7 from by unfold vp_in; decide) dL_law_450 ?_
  refine tp_i (y := xs 1) rfl ?_
  refine lv_aload_n hx hb dL_law_451 rfl (lv_at hl 3 rfl) ?_
  refine lv_iload_n hx hb dL_law_452 rfl (lv_at hl 0 rfl) ?_
  refine lv_iconst (v := 2) hx hb dL_law_453 (by decide) ?_
  refine lv_iadd hx hb dL_law_454 ?_
  refine tp_i (y := 2) (by decide) ?_
  refine va_sld hx hb hX hbl hbA hS (show vp_in 2 7 from by unfold vp_in; decide) dL_law_455 ?_
  refine tp_i (y := xs 2) rfl ?_
  refine lv_aload_n hx hb dL_law_456 rfl (lv_at hl 3 rfl) ?_
  refine lv_iload_n hx hb dL_law_457 rfl (lv_at hl 0 rfl) ?_
  refine lv_iconst (v := 3) hx hb dL_law_458 (by decide) ?_
  refine lv_iadd hx hb dL_law_459 ?_
  refine tp_i (y := 3) (by decide) ?_
  refine va_sld hx hb hX hbl hbA hS (show vp_in 3 7 from by unfold vp_in; decide) dL_law_460 ?_
  refine tp_i (y := xs 3) rfl ?_
  refine lv_aload_n hx hb dL_law_461 rfl (lv_at hl 3 rfl) ?_
  refine lv_iload_n hx hb dL_law_462 rfl (lv_at hl 0 rfl) ?_
  refine lv_iconst (v := 4) hx hb dL_law_463 (by decide) ?_
  refine lv_iadd hx hb dL_law_464 ?_
  refine tp_i (y := 4) (by decide) ?_
  refine va_sld hx hb hX hbl hbA hS (show vp_in 4 7 from by unfold vp_in; decide) dL_law_465 ?_
  refine tp_i (y := xs 4) rfl ?_
  have hPc := hP.sub (ws' := [(m0, .inr (12, [.int 0, .ref g1, .int 6, .ref g3, .ref g4, .int 0, .ref g6, .ref g7, .int 0, .ref g9, .ref g10, .ref g11, .ref g12, .ref g13, .ref g14, .int 0, .int 0, .int 0, .int 0, .int 0, .ref g20, .ref g21, .int (-9), .ref g23, .ref g24, .ref g25, .ref g26, .int 0, .ref g28, .ref g29, .ref g30, .ref g31, .ref g32, .int 0, .ref g34, .int 0, .int 0, .long 0, .ref g38, .ref g39, .int 0, .int 0, .int 0, .ref g43, .ref g44, .ref g45, .ref g46, .ref g47, .ref g48, .ref g49, .int 0, .ref g51, .ref g52, .ref g53, .ref g54, .ref g55, .ref g56, .int (-9), .int 0, .int 0, .ref g60, .ref g61, .ref g62, .ref g63, .int 0, .ref g65, .ref g66, .ref g67, .ref g68]))]) [0] rfl
  have hKc := hK.sub (tys' := []) [] rfl
  have hDc := hD.sub (ws' := [(m0, .inr (12, [.int 0, .ref g1, .int 6, .ref g3, .ref g4, .int 0, .ref g6, .ref g7, .int 0, .ref g9, .ref g10, .ref g11, .ref g12, .ref g13, .ref g14, .int 0, .int 0, .int 0, .int 0, .int 0, .ref g20, .ref g21, .int (-9), .ref g23, .ref g24, .ref g25, .ref g26, .int 0, .ref g28, .ref g29, .ref g30, .ref g31, .ref g32, .int 0, .ref g34, .int 0, .int 0, .long 0, .ref g38, .ref g39, .int 0, .int 0, .int 0, .ref g43, .ref g44, .ref g45, .ref g46, .ref g47, .ref g48, .ref g49, .int 0, .ref g51, .ref g52, .ref g53, .ref g54, .ref g55, .ref g56, .int (-9), .int 0, .int 0, .ref g60, .ref g61, .ref g62, .ref g63, .int 0, .ref g65, .ref g66, .ref g67, .ref g68]))]) [0] (by decide) rfl
  refine rw_calli (wr := []) (va_runV (As := [.int (xs 1), .int (xs 2), .int (xs 3), .int (xs 4)]) (rest := [.int (-1)]) ⟨hx, hb, hml, hown, hts⟩ (c_X12_say l D H.size m0 g1 g3 g4 g6 g7 g9 g10 g11 g12 g13 g14 g20 g21 g23 g24 g25 g26 g28 g29 g30 g31 g32 g34 g38 g39 g43 g44 g45 g46 g47 g48 g49 g51 g52 g53 g54 g55 g56 g60 g61 g62 g63 g65 g66 g67 g68 (xs 1) (xs 2) (xs 3) (xs 4)) (cwV 4 hts gm_L_law_X12_say rfl rfl rfl (by decide +kernel) ⟨Nat.le_of_ble_eq_true rfl, Nat.le_of_ble_eq_true rfl⟩) (pB_V hKc hPc hDc (ci := 12) (q0 := 0) rfl rfl) rfl rfl hl.1 rfl (lv_room (Nat.le_of_ble_eq_true rfl)) dL_law_466 ⟨Nat.le_of_ble_eq_true rfl, Nat.le_of_ble_eq_true rfl⟩) hS hA hK hP hD [0] [] rfl rfl (by decide) (by decide) (fun r2 u2 H locs hw2 hK hP hD hS => ?_)
  have hP : va_P D vwCl [] H := hP
  have hD : va_D (fun q : Nat => s.heap.size ≤ q) [] := hD
  have hK : va_K D vwCl [] s := hK
  have hw2 : r2 = (-1) := hw2
  subst hw2
  refine lv_icmp_eq (tgt := 1463) hx hb dL_law_469 (by decide) (fun _ => ?_) (fun q9 => absurd (by decide) q9)
  exact law_tail hx hb hr hlocks hX hbl hS hl (Nat.le_of_ble_eq_true rfl) (Nat.le_of_ble_eq_true rfl)

set_option maxHeartbeats 4000000 in
set_option maxRecDepth 100000 in
theorem law_unsay {p : Program} {l : Launch} {e : Env} {s : State} {m : MethodId} {below : List Frame} {meth : Method} {c : Code} {b : Nat} {xs : Nat → Int32} (D : va_G) (x0 : Nat) (wo : Nat) (bo : Nat) (ro_ : Nat) (bu : Nat) (ta : Nat) (li : Nat) (ca : Nat) (fc : Nat) (b0 : Nat) (b1 : Nat) (b2 : Nat) (b3 : Nat) (b4 : Nat) (b5 : Nat) (b6 : Nat) (b7 : Nat) (b8 : Nat) (b9 : Nat) (b10 : Nat) (m0 : Nat) (g1 : Nat) (g3 : Nat) (g4 : Nat) (g6 : Nat) (g7 : Nat) (g9 : Nat) (g10 : Nat) (g11 : Nat) (g12 : Nat) (g13 : Nat) (g14 : Nat) (g20 : Nat) (g21 : Nat) (g23 : Nat) (g24 : Nat) (g25 : Nat) (g26 : Nat) (g28 : Nat) (g29 : Nat) (g30 : Nat) (g31 : Nat) (g32 : Nat) (g34 : Nat) (g38 : Nat) (g39 : Nat) (g43 : Nat) (g44 : Nat) (g45 : Nat) (g46 : Nat) (g47 : Nat) (g48 : Nat) (g49 : Nat) (g51 : Nat) (g52 : Nat) (g53 : Nat) (g54 : Nat) (g55 : Nat) (g56 : Nat) (g60 : Nat) (g61 : Nat) (g62 : Nat) (g63 : Nat) (g65 : Nat) (g66 : Nat) (g67 : Nat) (g68 : Nat) (hx : p.tables.exec = Jvm.exec) (hb : c.code = cL_law) (hr : meth.sig.returnType = ret) (hlocks : meth.locks = false) (hml : c.maxLocals = 4) (hown : s.vm.findClass RL = some m.cls) (hts : ∀ w ∈ wm_law, w.before #[Value.ref b] s = true) (hX : va_X b 7 xs s s.heap) (hbl : b < s.heap.size) (hK : va_K D vwCl [] s) (H : Heap) (locs : List Loc) (ls : Array Slot) (hP : va_P D vwCl [(x0, .inr (11, [.ref wo, .ref bo, .ref ro_, .ref bu, .ref ta, .ref li, .ref ca, .null, .ref fc, .int 0, .long 0])), (bo, .inr (1, [.ref wo, .ref b0, .ref b1, .ref b2, .ref b3, .ref b4, .ref b5, .ref b6, .ref b7, .ref b8, .ref b9, .ref b10, .int 0, .int 0, .int 0])), (m0, .inr (12, [.int 0, .ref g1, .int 6, .ref g3, .ref g4, .int 0, .ref g6, .ref g7, .int 0, .ref g9, .ref g10, .ref g11, .ref g12, .ref g13, .ref g14, .int 0, .int 0, .int 0, .int 0, .int 0, .ref g20, .ref g21, .int (-9), .ref g23, .ref g24, .ref g25, .ref g26, .int 0, .ref g28, .ref g29, .ref g30, .ref g31, .ref g32, .int 0, .ref g34, .int 0, .int 0, .long 0, .ref g38, .ref g39, .int 0, .int 0, .int 0, .ref g43, .ref g44, .ref g45, .ref g46, .ref g47, .ref g48, .ref g49, .int 0, .ref g51, .ref g52, .ref g53, .ref g54, .ref g55, .ref g56, .int (-9), .int 0, .int 0, .ref g60, .ref g61, .ref g62, .ref g63, .int 0, .ref g65, .ref g66, .ref g67, .ref g68]))] H) (hD : va_D (fun q : Nat => s.heap.size ≤ q) [(x0, .inr (11, [.ref wo, .ref bo, .ref ro_, .ref bu, .ref ta, .ref li, .ref ca, .null, .ref fc, .int 0, .long 0])), (bo, .inr (1, [.ref wo, .ref b0, .ref b1, .ref b2, .ref b3, .ref b4, .ref b5, .ref b6, .ref b7, .ref b8, .ref b9, .ref b10, .int 0, .int 0, .int 0])), (m0, .inr (12, [.int 0, .ref g1, .int 6, .ref g3, .ref g4, .int 0, .ref g6, .ref g7, .int 0, .ref g9, .ref g10, .ref g11, .ref g12, .ref g13, .ref g14, .int 0, .int 0, .int 0, .int 0, .int 0, .ref g20, .ref g21, .int (-9), .ref g23, .ref g24, .ref g25, .ref g26, .int 0, .ref g28, .ref g29, .ref g30, .ref g31, .ref g32, .int 0, .ref g34, .int 0, .int 0, .long 0, .ref g38, .ref g39, .int 0, .int 0, .int 0, .ref g43, .ref g44, .ref g45, .ref g46, .ref g47, .ref g48, .ref g49, .int 0, .ref g51, .ref g52, .ref g53, .ref g54, .ref g55, .ref g56, .int (-9), .int 0, .int 0, .ref g60, .ref g61, .ref g62, .ref g63, .int 0, .ref g65, .ref g66, .ref g67, .ref g68]))]) (hS : va_S (fun q : Nat => s.heap.size ≤ q) s.heap H locs) (hl : lv_has ls 4 [(3, .int 0), (2, .ref m0), (1, .ref x0), (0, .ref b)]) : W p l e room_1 s m #[Value.ref b] below meth c H locs 98 48488 (lw_Z below #[Value.ref b] s) (F0 m 474 ls []) := by
  have hbA : ¬ (fun q : Nat => s.heap.size ≤ q) b := Nat.not_le.mpr hbl
  have hA : ∀ q : Nat, s.heap.size ≤ q → (fun q : Nat => s.heap.size ≤ q) q := fun _ h => h
  refine lv_aload_n hx hb dL_law_474 rfl (lv_at hl 2 rfl) ?_
  refine lv_aload_n hx hb dL_law_475 rfl (lv_at hl 3 rfl) ?_
  refine lv_iload_n hx hb dL_law_476 rfl (lv_at hl 0 rfl) ?_
  refine lv_iconst (v := 1) hx hb dL_law_477 (by decide) ?_
  refine lv_iadd hx hb dL_law_478 ?_
  refine tp_i (y := 1) (by decide) ?_
  refine va_sld hx hb hX hbl hbA hS (show vp_in 1 7 from by unfold vp_in; decide) dL_law_479 ?_
  refine tp_i (y := xs 1) rfl ?_
  have hPc := hP.sub (ws' := [(x0, .inr (11, [.ref wo, .ref bo, .ref ro_, .ref bu, .ref ta, .ref li, .ref ca, .null, .ref fc, .int 0, .long 0])), (bo, .inr (1, [.ref wo, .ref b0, .ref b1, .ref b2, .ref b3, .ref b4, .ref b5, .ref b6, .ref b7, .ref b8, .ref b9, .ref b10, .int 0, .int 0, .int 0]))]) [0, 1] rfl
  have hKc := hK.sub (tys' := []) [] rfl
  refine ro_calli (va_runV (As := [.int (xs 1)]) (rest := []) ⟨hx, hb, hml, hown, hts⟩ (c_X11_unsay l D H.size x0 wo bo ro_ bu ta li ca fc b0 b1 b2 b3 b4 b5 b6 b7 b8 b9 b10 (xs 1)) (cwV 1 hts gm_L_law_X11_unsay rfl rfl rfl (by decide +kernel) ⟨Nat.le_of_ble_eq_true rfl, Nat.le_of_ble_eq_true rfl⟩) (pA_V hKc hPc (ci := 11) (q0 := 0) rfl rfl) rfl rfl hl.1 rfl (lv_room (Nat.le_of_ble_eq_true rfl)) dL_law_480 ⟨Nat.le_of_ble_eq_true rfl, Nat.le_of_ble_eq_true rfl⟩) hS hA hP (fun r1 u1 H locs hw1 hP hS => ?_)
  have hw1 : r1 = (-1) := hw1
  subst hw1
  refine lv_aload_n hx hb dL_law_483 rfl (lv_at hl 1 rfl) ?_
  refine lv_aload_n hx hb dL_law_484 rfl (lv_at hl 3 rfl) ?_
  refine lv_iload_n hx hb dL_law_485 rfl (lv_at hl 0 rfl) ?_
  refine lv_iconst (v := 1) hx hb dL_law_486 (by decide) ?_
  refine lv_iadd hx hb dL_law_487 ?_
  refine tp_i (y := 1) (by decide) ?_
  refine va_sld hx hb hX hbl hbA hS (show vp_in 1 7 from by unfold vp_in; decide) dL_law_488 ?_
  refine tp_i (y := xs 1) rfl ?_
  have hPc := hP.sub (ws' := [(m0, .inr (12, [.int 0, .ref g1, .int 6, .ref g3, .ref g4, .int 0, .ref g6, .ref g7, .int 0, .ref g9, .ref g10, .ref g11, .ref g12, .ref g13, .ref g14, .int 0, .int 0, .int 0, .int 0, .int 0, .ref g20, .ref g21, .int (-9), .ref g23, .ref g24, .ref g25, .ref g26, .int 0, .ref g28, .ref g29, .ref g30, .ref g31, .ref g32, .int 0, .ref g34, .int 0, .int 0, .long 0, .ref g38, .ref g39, .int 0, .int 0, .int 0, .ref g43, .ref g44, .ref g45, .ref g46, .ref g47, .ref g48, .ref g49, .int 0, .ref g51, .ref g52, .ref g53, .ref g54, .ref g55, .ref g56, .int (-9), .int 0, .int 0, .ref g60, .ref g61, .ref g62, .ref g63, .int 0, .ref g65, .ref g66, .ref g67, .ref g68]))]) [2] rfl
  have hKc := hK.sub (tys' := []) [] rfl
  refine ro_calli (va_runV (As := [.int (xs 1)]) (rest := [.int (-1)]) ⟨hx, hb, hml, hown, hts⟩ (c_X12_unsay l D H.size m0 g1 g3 g4 g6 g7 g9 g10 g11 g12 g13 g14 g20 g21 g23 g24 g25 g26 g28 g29 g30 g31 g32 g34 g38 g39 g43 g44 g45 g46 g47 g48 g49 g51 g52 g53 g54 g55 g56 g60 g61 g62 g63 g65 g66 g67 g68 (xs 1)) (cwV 1 hts gm_L_law_X12_unsay rfl rfl rfl (by decide +kernel) ⟨Nat.le_of_ble_eq_true rfl, Nat.le_of_ble_eq_true rfl⟩) (pA_V hKc hPc (ci := 12) (q0 := 0) rfl rfl) rfl rfl hl.1 rfl (lv_room (Nat.le_of_ble_eq_true rfl)) dL_law_489 ⟨Nat.le_of_ble_eq_true rfl, Nat.le_of_ble_eq_true rfl⟩) hS hA hP (fun r2 u2 H locs hw2 hP hS => ?_)
  have hw2 : r2 = (-1) := hw2
  subst hw2
  refine lv_icmp_eq (tgt := 1463) hx hb dL_law_492 (by decide) (fun _ => ?_) (fun q9 => absurd (by decide) q9)
  exact law_tail hx hb hr hlocks hX hbl hS hl (Nat.le_of_ble_eq_true rfl) (Nat.le_of_ble_eq_true rfl)

