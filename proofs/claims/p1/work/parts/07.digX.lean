def wm_X11_digestKinds : List Cond := .code yX11_digestKinds cX11_digestKinds 7 (some .long) :: (([.fieldLink RX11 10 "TalePlay" "world" "LTalePlay$World;", .fieldLink RX11 84 "TalePlay$World" "kinds" "I", .constantLong RX11 362 (31), .fieldLink RX11 364 "TalePlay$World" "parents" "[I", .fieldLink RX11 367 "TalePlay$World" "standards" "[I"] : List Cond) ++ wsX110 ++ wsX100)
set_option maxHeartbeats 4000000 in
set_option maxRecDepth 100000 in
theorem c_X11_digestKinds (l : Launch) (D : va_G) (sz : Nat) (x0 : Nat) (wo : Nat) (bo : Nat) (ro_ : Nat) (bu : Nat) (ta : Nat) (li : Nat) (ca : Nat) (fc : Nat) (wp : Nat) (ws_ : Nat) (wd : Nat) (wk : Nat) (wz : Nat) (cP : ClassId) (fp : Nat → Int32) (cD : ClassId) (fd : Nat → Int32) (hp0 : fp 0 = -9) (hp1 : fp 1 = -9) (hp2 : fp 2 = 1) (hp3 : fp 3 = 1) (hp4 : fp 4 = 1) (hp5 : fp 5 = 1) (hfd : ∀ j, j < 144 → fd j = -9) : Met l yX11_digestKinds wm_X11_digestKinds ({ frames := 0, cells := 0, slots := 0, locals := 0 }) (va_Pc [.ref x0, .long 17] (pA D sz [(x0, .inr (11, [.ref wo, .ref bo, .ref ro_, .ref bu, .ref ta, .ref li, .ref ca, .null, .ref fc, .int 0, .long 0])), (wo, .inr (10, [.ref wp, .ref ws_, .ref wd, .ref wk, .ref wz, .int 6, .int 0])), (wp, .inl (cP, 24, .inl fp)), (wd, .inl (cD, 144, .inl fd))] [(cP, .int), (cD, .int)])) (va_Ql (fun (r : Int64) (_ : Unit) => r = (-3475150264839019343)) oA (ro sz)) 0 0 (ro sz) := by
  refine Met.ofW (cc := cX11_digestKinds) (maxL := 7) (ret := (some .long)) (by decide) rfl ?_
  intro p e s m args below meth c s₁ B hml hv
  obtain ⟨rfl, hsz, hP, hK⟩ := hv
  have hx := B.exec
  have hb := B.bytes
  have hr := B.returns
  have hts := atoms_spec (ws := wm_X11_digestKinds) B.pre
  have hown : s.vm.findClass RX11 = some m.cls := findClass_of_methodNamed B.named
  have hlocks := B.notSynchronized
  subst hsz
  have hA : ∀ q : Nat, s.heap.size ≤ q → ro s.heap.size q := fun _ h => h
  have hS : va_S (ro s.heap.size) s.heap s.heap [] := va_S.rf
  have hP : va_P D vwCl [(x0, .inr (11, [.ref wo, .ref bo, .ref ro_, .ref bu, .ref ta, .ref li, .ref ca, .null, .ref fc, .int 0, .long 0])), (wo, .inr (10, [.ref wp, .ref ws_, .ref wd, .ref wk, .ref wz, .int 6, .int 0])), (wp, .inl (cP, 24, .inl fp)), (wd, .inl (cD, 144, .inl fd))] s.heap := hP
  have hl := lv_entry ([.ref x0, .long 17]) (n := 7) (Nat.le_of_ble_eq_true rfl)
  rw [lg_entry_eq]
  generalize (lg_sl ([.ref x0, .long 17]) ++ List.replicate (7 - (lg_sl ([.ref x0, .long 17])).length) Slot.unset).toArray = ls at hl ⊢
  have hl : lv_has ls 7 [(0, .ref x0), (1, .long 17)] := hl
  refine lv_lload_n hx hb dX11_digestKinds_0 rfl (lv_at hl 1 rfl) ?_
  refine lv_lstore_n (lv' := [(3, .long 17), (0, .ref x0), (1, .long 17)]) hx hb dX11_digestKinds_1 rfl hl (by decide) rfl (fun ls hl => ?_)
  refine lv_iconst (v := 0) hx hb dX11_digestKinds_2 (by decide) ?_
  refine lv_istore (lv' := [(5, .int 0), (3, .long 17), (0, .ref x0), (1, .long 17)]) hx hb dX11_digestKinds_3 hl (by decide) rfl (fun ls hl => ?_)
  refine lv_iload hx hb dX11_digestKinds_5 (lv_at hl 0 rfl) ?_
  refine lv_aload_n hx hb dX11_digestKinds_7 rfl (lv_at hl 2 rfl) ?_
  refine va_get (D := D) (ci := 11) (v := .ref wo) (C := RX11) (T := TX11) (N := 11) hx hb hts (fun _ h => List.mem_cons_of_mem _ (List.mem_append_left _ (List.mem_append_right _ h))) hown hK hP 0 rfl rfl 0 (by decide) (hts (.fieldLink RX11 10 "TalePlay" "world" "LTalePlay$World;") (by decide +kernel)) (fun _ h9 => h9) rfl dX11_digestKinds_8 ?_
  refine va_get (D := D) (ci := 10) (v := .int 6) (C := RX10) (T := TX10) (N := 7) hx hb hts (fun _ h => List.mem_cons_of_mem _ (List.mem_append_right _ h)) hown hK hP 1 rfl rfl 5 (by decide) (hts (.fieldLink RX11 84 "TalePlay$World" "kinds" "I") (by decide +kernel)) (fun _ h9 => h9) rfl dX11_digestKinds_11 ?_
  refine lv_icmp_ge (tgt := 81) hx hb dX11_digestKinds_14 (by decide) (fun q9 => absurd q9 (by decide)) (fun _ => ?_)
  refine lv_ldc2 (v := 31) hx hb hown (hts (.constantLong RX11 362 (31)) (by decide +kernel)) dX11_digestKinds_17 ?_
  refine lv_lload_n hx hb dX11_digestKinds_20 rfl (lv_at hl 1 rfl) ?_
  refine lv_lmul hx hb dX11_digestKinds_21 ?_
  refine tp_l (y := 527) (by decide) ?_
  refine lv_aload_n hx hb dX11_digestKinds_22 rfl (lv_at hl 2 rfl) ?_
  refine va_get (D := D) (ci := 11) (v := .ref wo) (C := RX11) (T := TX11) (N := 11) hx hb hts (fun _ h => List.mem_cons_of_mem _ (List.mem_append_left _ (List.mem_append_right _ h))) hown hK hP 0 rfl rfl 0 (by decide) (hts (.fieldLink RX11 10 "TalePlay" "world" "LTalePlay$World;") (by decide +kernel)) (fun _ h9 => h9) rfl dX11_digestKinds_23 ?_
  refine va_get (D := D) (ci := 10) (v := .ref wp) (C := RX10) (T := TX10) (N := 7) hx hb hts (fun _ h => List.mem_cons_of_mem _ (List.mem_append_right _ h)) hown hK hP 1 rfl rfl 0 (by decide) (hts (.fieldLink RX11 364 "TalePlay$World" "parents" "[I") (by decide +kernel)) (fun _ h9 => h9) rfl dX11_digestKinds_26 ?_
  refine lv_iload hx hb dX11_digestKinds_29 (lv_at hl 0 rfl) ?_
  refine va_iald hx hb hK hP 2 0 rfl rfl (show vp_in 0 24 from by unfold vp_in; decide) dX11_digestKinds_31 ?_
  refine tp_i (y := (-9)) hp0 ?_
  refine lv_i2l (v := (-9)) hx hb dX11_digestKinds_32 (by decide) ?_
  refine lv_ladd hx hb dX11_digestKinds_33 ?_
  refine tp_l (y := 518) (by decide) ?_
  refine lv_lstore_n (lv' := [(3, .long 518), (5, .int 0), (0, .ref x0), (1, .long 17)]) hx hb dX11_digestKinds_34 rfl hl (by decide) rfl (fun ls hl => ?_)
  refine lv_iconst (v := 0) hx hb dX11_digestKinds_35 (by decide) ?_
  refine lv_istore (lv' := [(6, .int 0), (3, .long 518), (5, .int 0), (0, .ref x0), (1, .long 17)]) hx hb dX11_digestKinds_36 hl (by decide) rfl (fun ls hl => ?_)
  refine lv_iload hx hb dX11_digestKinds_38 (lv_at hl 0 rfl) ?_
  refine lv_bipush (v := 6) hx hb dX11_digestKinds_40 (by decide) ?_
  refine lv_icmp_ge (tgt := 75) hx hb dX11_digestKinds_42 (by decide) (fun q9 => absurd q9 (by decide)) (fun _ => ?_)
  refine lv_ldc2 (v := 31) hx hb hown (hts (.constantLong RX11 362 (31)) (by decide +kernel)) dX11_digestKinds_45 ?_
  refine lv_lload_n hx hb dX11_digestKinds_48 rfl (lv_at hl 1 rfl) ?_
  refine lv_lmul hx hb dX11_digestKinds_49 ?_
  refine tp_l (y := 16058) (by decide) ?_
  refine lv_aload_n hx hb dX11_digestKinds_50 rfl (lv_at hl 3 rfl) ?_
  refine va_get (D := D) (ci := 11) (v := .ref wo) (C := RX11) (T := TX11) (N := 11) hx hb hts (fun _ h => List.mem_cons_of_mem _ (List.mem_append_left _ (List.mem_append_right _ h))) hown hK hP 0 rfl rfl 0 (by decide) (hts (.fieldLink RX11 10 "TalePlay" "world" "LTalePlay$World;") (by decide +kernel)) (fun _ h9 => h9) rfl dX11_digestKinds_51 ?_
  refine va_get (D := D) (ci := 10) (v := .ref wd) (C := RX10) (T := TX10) (N := 7) hx hb hts (fun _ h => List.mem_cons_of_mem _ (List.mem_append_right _ h)) hown hK hP 1 rfl rfl 2 (by decide) (hts (.fieldLink RX11 367 "TalePlay$World" "standards" "[I") (by decide +kernel)) (fun _ h9 => h9) rfl dX11_digestKinds_54 ?_
  refine lv_iload hx hb dX11_digestKinds_57 (lv_at hl 2 rfl) ?_
  refine lv_bipush (v := 6) hx hb dX11_digestKinds_59 (by decide) ?_
  refine lv_imul hx hb dX11_digestKinds_61 ?_
  refine tp_i (y := 0) (by decide) ?_
  refine lv_iload hx hb dX11_digestKinds_62 (lv_at hl 0 rfl) ?_
  refine lv_iadd hx hb dX11_digestKinds_64 ?_
  refine tp_i (y := 0) (by decide) ?_
  refine va_iald hx hb hK hP 3 1 rfl rfl (show vp_in 0 144 from by unfold vp_in; decide) dX11_digestKinds_65 ?_
  refine tp_i (y := (-9)) (hfd _ (by decide)) ?_
  refine lv_i2l (v := (-9)) hx hb dX11_digestKinds_66 (by decide) ?_
  refine lv_ladd hx hb dX11_digestKinds_67 ?_
  refine tp_l (y := 16049) (by decide) ?_
  refine lv_lstore_n (lv' := [(3, .long 16049), (6, .int 0), (5, .int 0), (0, .ref x0), (1, .long 17)]) hx hb dX11_digestKinds_68 rfl hl (by decide) rfl (fun ls hl => ?_)
  refine lv_iinc (v := 1) (lv' := [(6, .int 1), (3, .long 16049), (5, .int 0), (0, .ref x0), (1, .long 17)]) hx hb dX11_digestKinds_69 hl (k := 1) rfl (by decide) (by decide) rfl (fun ls hl => ?_)
  refine lv_goto (tgt := 38) hx hb dX11_digestKinds_72 (by decide) ?_
  refine lv_iload hx hb dX11_digestKinds_38 (lv_at hl 0 rfl) ?_
  refine lv_bipush (v := 6) hx hb dX11_digestKinds_40 (by decide) ?_
  refine lv_icmp_ge (tgt := 75) hx hb dX11_digestKinds_42 (by decide) (fun q9 => absurd q9 (by decide)) (fun _ => ?_)
  refine lv_ldc2 (v := 31) hx hb hown (hts (.constantLong RX11 362 (31)) (by decide +kernel)) dX11_digestKinds_45 ?_
  refine lv_lload_n hx hb dX11_digestKinds_48 rfl (lv_at hl 1 rfl) ?_
  refine lv_lmul hx hb dX11_digestKinds_49 ?_
  refine tp_l (y := 497519) (by decide) ?_
  refine lv_aload_n hx hb dX11_digestKinds_50 rfl (lv_at hl 3 rfl) ?_
  refine va_get (D := D) (ci := 11) (v := .ref wo) (C := RX11) (T := TX11) (N := 11) hx hb hts (fun _ h => List.mem_cons_of_mem _ (List.mem_append_left _ (List.mem_append_right _ h))) hown hK hP 0 rfl rfl 0 (by decide) (hts (.fieldLink RX11 10 "TalePlay" "world" "LTalePlay$World;") (by decide +kernel)) (fun _ h9 => h9) rfl dX11_digestKinds_51 ?_
  refine va_get (D := D) (ci := 10) (v := .ref wd) (C := RX10) (T := TX10) (N := 7) hx hb hts (fun _ h => List.mem_cons_of_mem _ (List.mem_append_right _ h)) hown hK hP 1 rfl rfl 2 (by decide) (hts (.fieldLink RX11 367 "TalePlay$World" "standards" "[I") (by decide +kernel)) (fun _ h9 => h9) rfl dX11_digestKinds_54 ?_
  refine lv_iload hx hb dX11_digestKinds_57 (lv_at hl 2 rfl) ?_
  refine lv_bipush (v := 6) hx hb dX11_digestKinds_59 (by decide) ?_
  refine lv_imul hx hb dX11_digestKinds_61 ?_
  refine tp_i (y := 0) (by decide) ?_
  refine lv_iload hx hb dX11_digestKinds_62 (lv_at hl 0 rfl) ?_
  refine lv_iadd hx hb dX11_digestKinds_64 ?_
  refine tp_i (y := 1) (by decide) ?_
  refine va_iald hx hb hK hP 3 1 rfl rfl (show vp_in 1 144 from by unfold vp_in; decide) dX11_digestKinds_65 ?_
  refine tp_i (y := (-9)) (hfd _ (by decide)) ?_
  refine lv_i2l (v := (-9)) hx hb dX11_digestKinds_66 (by decide) ?_
  refine lv_ladd hx hb dX11_digestKinds_67 ?_
  refine tp_l (y := 497510) (by decide) ?_
  refine lv_lstore_n (lv' := [(3, .long 497510), (6, .int 1), (5, .int 0), (0, .ref x0), (1, .long 17)]) hx hb dX11_digestKinds_68 rfl hl (by decide) rfl (fun ls hl => ?_)
  refine lv_iinc (v := 2) (lv' := [(6, .int 2), (3, .long 497510), (5, .int 0), (0, .ref x0), (1, .long 17)]) hx hb dX11_digestKinds_69 hl (k := 1) rfl (by decide) (by decide) rfl (fun ls hl => ?_)
  refine lv_goto (tgt := 38) hx hb dX11_digestKinds_72 (by decide) ?_
  refine lv_iload hx hb dX11_digestKinds_38 (lv_at hl 0 rfl) ?_
  refine lv_bipush (v := 6) hx hb dX11_digestKinds_40 (by decide) ?_
  refine lv_icmp_ge (tgt := 75) hx hb dX11_digestKinds_42 (by decide) (fun q9 => absurd q9 (by decide)) (fun _ => ?_)
  refine lv_ldc2 (v := 31) hx hb hown (hts (.constantLong RX11 362 (31)) (by decide +kernel)) dX11_digestKinds_45 ?_
  refine lv_lload_n hx hb dX11_digestKinds_48 rfl (lv_at hl 1 rfl) ?_
  refine lv_lmul hx hb dX11_digestKinds_49 ?_
  refine tp_l (y := 15422810) (by decide) ?_
  refine lv_aload_n hx hb dX11_digestKinds_50 rfl (lv_at hl 3 rfl) ?_
  refine va_get (D := D) (ci := 11) (v := .ref wo) (C := RX11) (T := TX11) (N := 11) hx hb hts (fun _ h => List.mem_cons_of_mem _ (List.mem_append_left _ (List.mem_append_right _ h))) hown hK hP 0 rfl rfl 0 (by decide) (hts (.fieldLink RX11 10 "TalePlay" "world" "LTalePlay$World;") (by decide +kernel)) (fun _ h9 => h9) rfl dX11_digestKinds_51 ?_
  refine va_get (D := D) (ci := 10) (v := .ref wd) (C := RX10) (T := TX10) (N := 7) hx hb hts (fun _ h => List.mem_cons_of_mem _ (List.mem_append_right _ h)) hown hK hP 1 rfl rfl 2 (by decide) (hts (.fieldLink RX11 367 "TalePlay$World" "standards" "[I") (by decide +kernel)) (fun _ h9 => h9) rfl dX11_digestKinds_54 ?_
  refine lv_iload hx hb dX11_digestKinds_57 (lv_at hl 2 rfl) ?_
  refine lv_bipush (v := 6) hx hb dX11_digestKinds_59 (by decide) ?_
  refine lv_imul hx hb dX11_digestKinds_61 ?_
  refine tp_i (y := 0) (by decide) ?_
  refine lv_iload hx hb dX11_digestKinds_62 (lv_at hl 0 rfl) ?_
  refine lv_iadd hx hb dX11_digestKinds_64 ?_
  refine tp_i (y := 2) (by decide) ?_
  refine va_iald hx hb hK hP 3 1 rfl rfl (show vp_in 2 144 from by unfold vp_in; decide) dX11_digestKinds_65 ?_
  refine tp_i (y := (-9)) (hfd _ (by decide)) ?_
  refine lv_i2l (v := (-9)) hx hb dX11_digestKinds_66 (by decide) ?_
  refine lv_ladd hx hb dX11_digestKinds_67 ?_
  refine tp_l (y := 15422801) (by decide) ?_
  refine lv_lstore_n (lv' := [(3, .long 15422801), (6, .int 2), (5, .int 0), (0, .ref x0), (1, .long 17)]) hx hb dX11_digestKinds_68 rfl hl (by decide) rfl (fun ls hl => ?_)
  refine lv_iinc (v := 3) (lv' := [(6, .int 3), (3, .long 15422801), (5, .int 0), (0, .ref x0), (1, .long 17)]) hx hb dX11_digestKinds_69 hl (k := 1) rfl (by decide) (by decide) rfl (fun ls hl => ?_)
  refine lv_goto (tgt := 38) hx hb dX11_digestKinds_72 (by decide) ?_
  refine lv_iload hx hb dX11_digestKinds_38 (lv_at hl 0 rfl) ?_
  refine lv_bipush (v := 6) hx hb dX11_digestKinds_40 (by decide) ?_
  refine lv_icmp_ge (tgt := 75) hx hb dX11_digestKinds_42 (by decide) (fun q9 => absurd q9 (by decide)) (fun _ => ?_)
  refine lv_ldc2 (v := 31) hx hb hown (hts (.constantLong RX11 362 (31)) (by decide +kernel)) dX11_digestKinds_45 ?_
  refine lv_lload_n hx hb dX11_digestKinds_48 rfl (lv_at hl 1 rfl) ?_
  refine lv_lmul hx hb dX11_digestKinds_49 ?_
  refine tp_l (y := 478106831) (by decide) ?_
  refine lv_aload_n hx hb dX11_digestKinds_50 rfl (lv_at hl 3 rfl) ?_
  refine va_get (D := D) (ci := 11) (v := .ref wo) (C := RX11) (T := TX11) (N := 11) hx hb hts (fun _ h => List.mem_cons_of_mem _ (List.mem_append_left _ (List.mem_append_right _ h))) hown hK hP 0 rfl rfl 0 (by decide) (hts (.fieldLink RX11 10 "TalePlay" "world" "LTalePlay$World;") (by decide +kernel)) (fun _ h9 => h9) rfl dX11_digestKinds_51 ?_
  refine va_get (D := D) (ci := 10) (v := .ref wd) (C := RX10) (T := TX10) (N := 7) hx hb hts (fun _ h => List.mem_cons_of_mem _ (List.mem_append_right _ h)) hown hK hP 1 rfl rfl 2 (by decide) (hts (.fieldLink RX11 367 "TalePlay$World" "standards" "[I") (by decide +kernel)) (fun _ h9 => h9) rfl dX11_digestKinds_54 ?_
  refine lv_iload hx hb dX11_digestKinds_57 (lv_at hl 2 rfl) ?_
  refine lv_bipush (v := 6) hx hb dX11_digestKinds_59 (by decide) ?_
  refine lv_imul hx hb dX11_digestKinds_61 ?_
  refine tp_i (y := 0) (by decide) ?_
  refine lv_iload hx hb dX11_digestKinds_62 (lv_at hl 0 rfl) ?_
  refine lv_iadd hx hb dX11_digestKinds_64 ?_
  refine tp_i (y := 3) (by decide) ?_
  refine va_iald hx hb hK hP 3 1 rfl rfl (show vp_in 3 144 from by unfold vp_in; decide) dX11_digestKinds_65 ?_
  refine tp_i (y := (-9)) (hfd _ (by decide)) ?_
  refine lv_i2l (v := (-9)) hx hb dX11_digestKinds_66 (by decide) ?_
  refine lv_ladd hx hb dX11_digestKinds_67 ?_
  refine tp_l (y := 478106822) (by decide) ?_
  refine lv_lstore_n (lv' := [(3, .long 478106822), (6, .int 3), (5, .int 0), (0, .ref x0), (1, .long 17)]) hx hb dX11_digestKinds_68 rfl hl (by decide) rfl (fun ls hl => ?_)
  refine lv_iinc (v := 4) (lv' := [(6, .int 4), (3, .long 478106822), (5, .int 0), (0, .ref x0), (1, .long 17)]) hx hb dX11_digestKinds_69 hl (k := 1) rfl (by decide) (by decide) rfl (fun ls hl => ?_)
  refine lv_goto (tgt := 38) hx hb dX11_digestKinds_72 (by decide) ?_
  refine lv_iload hx hb dX11_digestKinds_38 (lv_at hl 0 rfl) ?_
  refine lv_bipush (v := 6) hx hb dX11_digestKinds_40 (by decide) ?_
  refine lv_icmp_ge (tgt := 75) hx hb dX11_digestKinds_42 (by decide) (fun q9 => absurd q9 (by decide)) (fun _ => ?_)
  refine lv_ldc2 (v := 31) hx hb hown (hts (.constantLong RX11 362 (31)) (by decide +kernel)) dX11_digestKinds_45 ?_
  refine lv_lload_n hx hb dX11_digestKinds_48 rfl (lv_at hl 1 rfl) ?_
  refine lv_lmul hx hb dX11_digestKinds_49 ?_
  refine tp_l (y := 14821311482) (by decide) ?_
  refine lv_aload_n hx hb dX11_digestKinds_50 rfl (lv_at hl 3 rfl) ?_
  refine va_get (D := D) (ci := 11) (v := .ref wo) (C := RX11) (T := TX11) (N := 11) hx hb hts (fun _ h => List.mem_cons_of_mem _ (List.mem_append_left _ (List.mem_append_right _ h))) hown hK hP 0 rfl rfl 0 (by decide) (hts (.fieldLink RX11 10 "TalePlay" "world" "LTalePlay$World;") (by decide +kernel)) (fun _ h9 => h9) rfl dX11_digestKinds_51 ?_
  refine va_get (D := D) (ci := 10) (v := .ref wd) (C := RX10) (T := TX10) (N := 7) hx hb hts (fun _ h => List.mem_cons_of_mem _ (List.mem_append_right _ h)) hown hK hP 1 rfl rfl 2 (by decide) (hts (.fieldLink RX11 367 "TalePlay$World" "standards" "[I") (by decide +kernel)) (fun _ h9 => h9) rfl dX11_digestKinds_54 ?_
  refine lv_iload hx hb dX11_digestKinds_57 (lv_at hl 2 rfl) ?_
  refine lv_bipush (v := 6) hx hb dX11_digestKinds_59 (by decide) ?_
  refine lv_imul hx hb dX11_digestKinds_61 ?_
  refine tp_i (y := 0) (by decide) ?_
  refine lv_iload hx hb dX11_digestKinds_62 (lv_at hl 0 rfl) ?_
  refine lv_iadd hx hb dX11_digestKinds_64 ?_
  refine tp_i (y := 4) (by decide) ?_
  refine va_iald hx hb hK hP 3 1 rfl rfl (show vp_in 4 144 from by unfold vp_in; decide) dX11_digestKinds_65 ?_
  refine tp_i (y := (-9)) (hfd _ (by decide)) ?_
  refine lv_i2l (v := (-9)) hx hb dX11_digestKinds_66 (by decide) ?_
  refine lv_ladd hx hb dX11_digestKinds_67 ?_
  refine tp_l (y := 14821311473) (by decide) ?_
  refine lv_lstore_n (lv' := [(3, .long 14821311473), (6, .int 4), (5, .int 0), (0, .ref x0), (1, .long 17)]) hx hb dX11_digestKinds_68 rfl hl (by decide) rfl (fun ls hl => ?_)
  refine lv_iinc (v := 5) (lv' := [(6, .int 5), (3, .long 14821311473), (5, .int 0), (0, .ref x0), (1, .long 17)]) hx hb dX11_digestKinds_69 hl (k := 1) rfl (by decide) (by decide) rfl (fun ls hl => ?_)
  refine lv_goto (tgt := 38) hx hb dX11_digestKinds_72 (by decide) ?_
  refine lv_iload hx hb dX11_digestKinds_38 (lv_at hl 0 rfl) ?_
  refine lv_bipush (v := 6) hx hb dX11_digestKinds_40 (by decide) ?_
  refine lv_icmp_ge (tgt := 75) hx hb dX11_digestKinds_42 (by decide) (fun q9 => absurd q9 (by decide)) (fun _ => ?_)
  refine lv_ldc2 (v := 31) hx hb hown (hts (.constantLong RX11 362 (31)) (by decide +kernel)) dX11_digestKinds_45 ?_
  refine lv_lload_n hx hb dX11_digestKinds_48 rfl (lv_at hl 1 rfl) ?_
  refine lv_lmul hx hb dX11_digestKinds_49 ?_
  refine tp_l (y := 459460655663) (by decide) ?_
  refine lv_aload_n hx hb dX11_digestKinds_50 rfl (lv_at hl 3 rfl) ?_
  refine va_get (D := D) (ci := 11) (v := .ref wo) (C := RX11) (T := TX11) (N := 11) hx hb hts (fun _ h => List.mem_cons_of_mem _ (List.mem_append_left _ (List.mem_append_right _ h))) hown hK hP 0 rfl rfl 0 (by decide) (hts (.fieldLink RX11 10 "TalePlay" "world" "LTalePlay$World;") (by decide +kernel)) (fun _ h9 => h9) rfl dX11_digestKinds_51 ?_
  refine va_get (D := D) (ci := 10) (v := .ref wd) (C := RX10) (T := TX10) (N := 7) hx hb hts (fun _ h => List.mem_cons_of_mem _ (List.mem_append_right _ h)) hown hK hP 1 rfl rfl 2 (by decide) (hts (.fieldLink RX11 367 "TalePlay$World" "standards" "[I") (by decide +kernel)) (fun _ h9 => h9) rfl dX11_digestKinds_54 ?_
  refine lv_iload hx hb dX11_digestKinds_57 (lv_at hl 2 rfl) ?_
  refine lv_bipush (v := 6) hx hb dX11_digestKinds_59 (by decide) ?_
  refine lv_imul hx hb dX11_digestKinds_61 ?_
  refine tp_i (y := 0) (by decide) ?_
  refine lv_iload hx hb dX11_digestKinds_62 (lv_at hl 0 rfl) ?_
  refine lv_iadd hx hb dX11_digestKinds_64 ?_
  refine tp_i (y := 5) (by decide) ?_
  refine va_iald hx hb hK hP 3 1 rfl rfl (show vp_in 5 144 from by unfold vp_in; decide) dX11_digestKinds_65 ?_
  refine tp_i (y := (-9)) (hfd _ (by decide)) ?_
  refine lv_i2l (v := (-9)) hx hb dX11_digestKinds_66 (by decide) ?_
  refine lv_ladd hx hb dX11_digestKinds_67 ?_
  refine tp_l (y := 459460655654) (by decide) ?_
  refine lv_lstore_n (lv' := [(3, .long 459460655654), (6, .int 5), (5, .int 0), (0, .ref x0), (1, .long 17)]) hx hb dX11_digestKinds_68 rfl hl (by decide) rfl (fun ls hl => ?_)
  refine lv_iinc (v := 6) (lv' := [(6, .int 6), (3, .long 459460655654), (5, .int 0), (0, .ref x0), (1, .long 17)]) hx hb dX11_digestKinds_69 hl (k := 1) rfl (by decide) (by decide) rfl (fun ls hl => ?_)
  refine lv_goto (tgt := 38) hx hb dX11_digestKinds_72 (by decide) ?_
  refine lv_iload hx hb dX11_digestKinds_38 (lv_at hl 0 rfl) ?_
  refine lv_bipush (v := 6) hx hb dX11_digestKinds_40 (by decide) ?_
  refine lv_icmp_ge (tgt := 75) hx hb dX11_digestKinds_42 (by decide) (fun _ => ?_) (fun q9 => absurd (by decide) q9)
  refine lv_iinc (v := 1) (lv' := [(5, .int 1), (6, .int 6), (3, .long 459460655654), (0, .ref x0), (1, .long 17)]) hx hb dX11_digestKinds_75 hl (k := 2) rfl (by decide) (by decide) rfl (fun ls hl => ?_)
  refine lv_goto (tgt := 5) hx hb dX11_digestKinds_78 (by decide) ?_
  refine lv_iload hx hb dX11_digestKinds_5 (lv_at hl 0 rfl) ?_
  refine lv_aload_n hx hb dX11_digestKinds_7 rfl (lv_at hl 3 rfl) ?_
  refine va_get (D := D) (ci := 11) (v := .ref wo) (C := RX11) (T := TX11) (N := 11) hx hb hts (fun _ h => List.mem_cons_of_mem _ (List.mem_append_left _ (List.mem_append_right _ h))) hown hK hP 0 rfl rfl 0 (by decide) (hts (.fieldLink RX11 10 "TalePlay" "world" "LTalePlay$World;") (by decide +kernel)) (fun _ h9 => h9) rfl dX11_digestKinds_8 ?_
  refine va_get (D := D) (ci := 10) (v := .int 6) (C := RX10) (T := TX10) (N := 7) hx hb hts (fun _ h => List.mem_cons_of_mem _ (List.mem_append_right _ h)) hown hK hP 1 rfl rfl 5 (by decide) (hts (.fieldLink RX11 84 "TalePlay$World" "kinds" "I") (by decide +kernel)) (fun _ h9 => h9) rfl dX11_digestKinds_11 ?_
  refine lv_icmp_ge (tgt := 81) hx hb dX11_digestKinds_14 (by decide) (fun q9 => absurd q9 (by decide)) (fun _ => ?_)
  refine lv_ldc2 (v := 31) hx hb hown (hts (.constantLong RX11 362 (31)) (by decide +kernel)) dX11_digestKinds_17 ?_
  refine lv_lload_n hx hb dX11_digestKinds_20 rfl (lv_at hl 2 rfl) ?_
  refine lv_lmul hx hb dX11_digestKinds_21 ?_
  refine tp_l (y := 14243280325274) (by decide) ?_
  refine lv_aload_n hx hb dX11_digestKinds_22 rfl (lv_at hl 3 rfl) ?_
  refine va_get (D := D) (ci := 11) (v := .ref wo) (C := RX11) (T := TX11) (N := 11) hx hb hts (fun _ h => List.mem_cons_of_mem _ (List.mem_append_left _ (List.mem_append_right _ h))) hown hK hP 0 rfl rfl 0 (by decide) (hts (.fieldLink RX11 10 "TalePlay" "world" "LTalePlay$World;") (by decide +kernel)) (fun _ h9 => h9) rfl dX11_digestKinds_23 ?_
  refine va_get (D := D) (ci := 10) (v := .ref wp) (C := RX10) (T := TX10) (N := 7) hx hb hts (fun _ h => List.mem_cons_of_mem _ (List.mem_append_right _ h)) hown hK hP 1 rfl rfl 0 (by decide) (hts (.fieldLink RX11 364 "TalePlay$World" "parents" "[I") (by decide +kernel)) (fun _ h9 => h9) rfl dX11_digestKinds_26 ?_
  refine lv_iload hx hb dX11_digestKinds_29 (lv_at hl 0 rfl) ?_
  refine va_iald hx hb hK hP 2 0 rfl rfl (show vp_in 1 24 from by unfold vp_in; decide) dX11_digestKinds_31 ?_
  refine tp_i (y := (-9)) hp1 ?_
  refine lv_i2l (v := (-9)) hx hb dX11_digestKinds_32 (by decide) ?_
  refine lv_ladd hx hb dX11_digestKinds_33 ?_
  refine tp_l (y := 14243280325265) (by decide) ?_
  refine lv_lstore_n (lv' := [(3, .long 14243280325265), (5, .int 1), (6, .int 6), (0, .ref x0), (1, .long 17)]) hx hb dX11_digestKinds_34 rfl hl (by decide) rfl (fun ls hl => ?_)
  refine lv_iconst (v := 0) hx hb dX11_digestKinds_35 (by decide) ?_
  refine lv_istore (lv' := [(6, .int 0), (3, .long 14243280325265), (5, .int 1), (0, .ref x0), (1, .long 17)]) hx hb dX11_digestKinds_36 hl (by decide) rfl (fun ls hl => ?_)
  refine lv_iload hx hb dX11_digestKinds_38 (lv_at hl 0 rfl) ?_
  refine lv_bipush (v := 6) hx hb dX11_digestKinds_40 (by decide) ?_
  refine lv_icmp_ge (tgt := 75) hx hb dX11_digestKinds_42 (by decide) (fun q9 => absurd q9 (by decide)) (fun _ => ?_)
  refine lv_ldc2 (v := 31) hx hb hown (hts (.constantLong RX11 362 (31)) (by decide +kernel)) dX11_digestKinds_45 ?_
  refine lv_lload_n hx hb dX11_digestKinds_48 rfl (lv_at hl 1 rfl) ?_
  refine lv_lmul hx hb dX11_digestKinds_49 ?_
  refine tp_l (y := 441541690083215) (by decide) ?_
  refine lv_aload_n hx hb dX11_digestKinds_50 rfl (lv_at hl 3 rfl) ?_
  refine va_get (D := D) (ci := 11) (v := .ref wo) (C := RX11) (T := TX11) (N := 11) hx hb hts (fun _ h => List.mem_cons_of_mem _ (List.mem_append_left _ (List.mem_append_right _ h))) hown hK hP 0 rfl rfl 0 (by decide) (hts (.fieldLink RX11 10 "TalePlay" "world" "LTalePlay$World;") (by decide +kernel)) (fun _ h9 => h9) rfl dX11_digestKinds_51 ?_
  refine va_get (D := D) (ci := 10) (v := .ref wd) (C := RX10) (T := TX10) (N := 7) hx hb hts (fun _ h => List.mem_cons_of_mem _ (List.mem_append_right _ h)) hown hK hP 1 rfl rfl 2 (by decide) (hts (.fieldLink RX11 367 "TalePlay$World" "standards" "[I") (by decide +kernel)) (fun _ h9 => h9) rfl dX11_digestKinds_54 ?_
  refine lv_iload hx hb dX11_digestKinds_57 (lv_at hl 2 rfl) ?_
  refine lv_bipush (v := 6) hx hb dX11_digestKinds_59 (by decide) ?_
  refine lv_imul hx hb dX11_digestKinds_61 ?_
  refine tp_i (y := 6) (by decide) ?_
  refine lv_iload hx hb dX11_digestKinds_62 (lv_at hl 0 rfl) ?_
  refine lv_iadd hx hb dX11_digestKinds_64 ?_
  refine tp_i (y := 6) (by decide) ?_
  refine va_iald hx hb hK hP 3 1 rfl rfl (show vp_in 6 144 from by unfold vp_in; decide) dX11_digestKinds_65 ?_
  refine tp_i (y := (-9)) (hfd _ (by decide)) ?_
  refine lv_i2l (v := (-9)) hx hb dX11_digestKinds_66 (by decide) ?_
  refine lv_ladd hx hb dX11_digestKinds_67 ?_
  refine tp_l (y := 441541690083206) (by decide) ?_
  refine lv_lstore_n (lv' := [(3, .long 441541690083206), (6, .int 0), (5, .int 1), (0, .ref x0), (1, .long 17)]) hx hb dX11_digestKinds_68 rfl hl (by decide) rfl (fun ls hl => ?_)
  refine lv_iinc (v := 1) (lv' := [(6, .int 1), (3, .long 441541690083206), (5, .int 1), (0, .ref x0), (1, .long 17)]) hx hb dX11_digestKinds_69 hl (k := 1) rfl (by decide) (by decide) rfl (fun ls hl => ?_)
  refine lv_goto (tgt := 38) hx hb dX11_digestKinds_72 (by decide) ?_
  refine lv_iload hx hb dX11_digestKinds_38 (lv_at hl 0 rfl) ?_
  refine lv_bipush (v := 6) hx hb dX11_digestKinds_40 (by decide) ?_
  refine lv_icmp_ge (tgt := 75) hx hb dX11_digestKinds_42 (by decide) (fun q9 => absurd q9 (by decide)) (fun _ => ?_)
  refine lv_ldc2 (v := 31) hx hb hown (hts (.constantLong RX11 362 (31)) (by decide +kernel)) dX11_digestKinds_45 ?_
  refine lv_lload_n hx hb dX11_digestKinds_48 rfl (lv_at hl 1 rfl) ?_
  refine lv_lmul hx hb dX11_digestKinds_49 ?_
  refine tp_l (y := 13687792392579386) (by decide) ?_
  refine lv_aload_n hx hb dX11_digestKinds_50 rfl (lv_at hl 3 rfl) ?_
  refine va_get (D := D) (ci := 11) (v := .ref wo) (C := RX11) (T := TX11) (N := 11) hx hb hts (fun _ h => List.mem_cons_of_mem _ (List.mem_append_left _ (List.mem_append_right _ h))) hown hK hP 0 rfl rfl 0 (by decide) (hts (.fieldLink RX11 10 "TalePlay" "world" "LTalePlay$World;") (by decide +kernel)) (fun _ h9 => h9) rfl dX11_digestKinds_51 ?_
  refine va_get (D := D) (ci := 10) (v := .ref wd) (C := RX10) (T := TX10) (N := 7) hx hb hts (fun _ h => List.mem_cons_of_mem _ (List.mem_append_right _ h)) hown hK hP 1 rfl rfl 2 (by decide) (hts (.fieldLink RX11 367 "TalePlay$World" "standards" "[I") (by decide +kernel)) (fun _ h9 => h9) rfl dX11_digestKinds_54 ?_
  refine lv_iload hx hb dX11_digestKinds_57 (lv_at hl 2 rfl) ?_
  refine lv_bipush (v := 6) hx hb dX11_digestKinds_59 (by decide) ?_
  refine lv_imul hx hb dX11_digestKinds_61 ?_
  refine tp_i (y := 6) (by decide) ?_
  refine lv_iload hx hb dX11_digestKinds_62 (lv_at hl 0 rfl) ?_
  refine lv_iadd hx hb dX11_digestKinds_64 ?_
  refine tp_i (y := 7) (by decide) ?_
  refine va_iald hx hb hK hP 3 1 rfl rfl (show vp_in 7 144 from by unfold vp_in; decide) dX11_digestKinds_65 ?_
  refine tp_i (y := (-9)) (hfd _ (by decide)) ?_
  refine lv_i2l (v := (-9)) hx hb dX11_digestKinds_66 (by decide) ?_
  refine lv_ladd hx hb dX11_digestKinds_67 ?_
  refine tp_l (y := 13687792392579377) (by decide) ?_
  refine lv_lstore_n (lv' := [(3, .long 13687792392579377), (6, .int 1), (5, .int 1), (0, .ref x0), (1, .long 17)]) hx hb dX11_digestKinds_68 rfl hl (by decide) rfl (fun ls hl => ?_)
  refine lv_iinc (v := 2) (lv' := [(6, .int 2), (3, .long 13687792392579377), (5, .int 1), (0, .ref x0), (1, .long 17)]) hx hb dX11_digestKinds_69 hl (k := 1) rfl (by decide) (by decide) rfl (fun ls hl => ?_)
  refine lv_goto (tgt := 38) hx hb dX11_digestKinds_72 (by decide) ?_
  refine lv_iload hx hb dX11_digestKinds_38 (lv_at hl 0 rfl) ?_
  refine lv_bipush (v := 6) hx hb dX11_digestKinds_40 (by decide) ?_
  refine lv_icmp_ge (tgt := 75) hx hb dX11_digestKinds_42 (by decide) (fun q9 => absurd q9 (by decide)) (fun _ => ?_)
  refine lv_ldc2 (v := 31) hx hb hown (hts (.constantLong RX11 362 (31)) (by decide +kernel)) dX11_digestKinds_45 ?_
  refine lv_lload_n hx hb dX11_digestKinds_48 rfl (lv_at hl 1 rfl) ?_
  refine lv_lmul hx hb dX11_digestKinds_49 ?_
  refine tp_l (y := 424321564169960687) (by decide) ?_
  refine lv_aload_n hx hb dX11_digestKinds_50 rfl (lv_at hl 3 rfl) ?_
  refine va_get (D := D) (ci := 11) (v := .ref wo) (C := RX11) (T := TX11) (N := 11) hx hb hts (fun _ h => List.mem_cons_of_mem _ (List.mem_append_left _ (List.mem_append_right _ h))) hown hK hP 0 rfl rfl 0 (by decide) (hts (.fieldLink RX11 10 "TalePlay" "world" "LTalePlay$World;") (by decide +kernel)) (fun _ h9 => h9) rfl dX11_digestKinds_51 ?_
  refine va_get (D := D) (ci := 10) (v := .ref wd) (C := RX10) (T := TX10) (N := 7) hx hb hts (fun _ h => List.mem_cons_of_mem _ (List.mem_append_right _ h)) hown hK hP 1 rfl rfl 2 (by decide) (hts (.fieldLink RX11 367 "TalePlay$World" "standards" "[I") (by decide +kernel)) (fun _ h9 => h9) rfl dX11_digestKinds_54 ?_
  refine lv_iload hx hb dX11_digestKinds_57 (lv_at hl 2 rfl) ?_
  refine lv_bipush (v := 6) hx hb dX11_digestKinds_59 (by decide) ?_
  refine lv_imul hx hb dX11_digestKinds_61 ?_
  refine tp_i (y := 6) (by decide) ?_
  refine lv_iload hx hb dX11_digestKinds_62 (lv_at hl 0 rfl) ?_
  refine lv_iadd hx hb dX11_digestKinds_64 ?_
  refine tp_i (y := 8) (by decide) ?_
  refine va_iald hx hb hK hP 3 1 rfl rfl (show vp_in 8 144 from by unfold vp_in; decide) dX11_digestKinds_65 ?_
  refine tp_i (y := (-9)) (hfd _ (by decide)) ?_
  refine lv_i2l (v := (-9)) hx hb dX11_digestKinds_66 (by decide) ?_
  refine lv_ladd hx hb dX11_digestKinds_67 ?_
  refine tp_l (y := 424321564169960678) (by decide) ?_
  refine lv_lstore_n (lv' := [(3, .long 424321564169960678), (6, .int 2), (5, .int 1), (0, .ref x0), (1, .long 17)]) hx hb dX11_digestKinds_68 rfl hl (by decide) rfl (fun ls hl => ?_)
  refine lv_iinc (v := 3) (lv' := [(6, .int 3), (3, .long 424321564169960678), (5, .int 1), (0, .ref x0), (1, .long 17)]) hx hb dX11_digestKinds_69 hl (k := 1) rfl (by decide) (by decide) rfl (fun ls hl => ?_)
  refine lv_goto (tgt := 38) hx hb dX11_digestKinds_72 (by decide) ?_
  refine lv_iload hx hb dX11_digestKinds_38 (lv_at hl 0 rfl) ?_
  refine lv_bipush (v := 6) hx hb dX11_digestKinds_40 (by decide) ?_
  refine lv_icmp_ge (tgt := 75) hx hb dX11_digestKinds_42 (by decide) (fun q9 => absurd q9 (by decide)) (fun _ => ?_)
  refine lv_ldc2 (v := 31) hx hb hown (hts (.constantLong RX11 362 (31)) (by decide +kernel)) dX11_digestKinds_45 ?_
  refine lv_lload_n hx hb dX11_digestKinds_48 rfl (lv_at hl 1 rfl) ?_
  refine lv_lmul hx hb dX11_digestKinds_49 ?_
  refine tp_l (y := (-5292775584440770598)) (by decide) ?_
  refine lv_aload_n hx hb dX11_digestKinds_50 rfl (lv_at hl 3 rfl) ?_
  refine va_get (D := D) (ci := 11) (v := .ref wo) (C := RX11) (T := TX11) (N := 11) hx hb hts (fun _ h => List.mem_cons_of_mem _ (List.mem_append_left _ (List.mem_append_right _ h))) hown hK hP 0 rfl rfl 0 (by decide) (hts (.fieldLink RX11 10 "TalePlay" "world" "LTalePlay$World;") (by decide +kernel)) (fun _ h9 => h9) rfl dX11_digestKinds_51 ?_
  refine va_get (D := D) (ci := 10) (v := .ref wd) (C := RX10) (T := TX10) (N := 7) hx hb hts (fun _ h => List.mem_cons_of_mem _ (List.mem_append_right _ h)) hown hK hP 1 rfl rfl 2 (by decide) (hts (.fieldLink RX11 367 "TalePlay$World" "standards" "[I") (by decide +kernel)) (fun _ h9 => h9) rfl dX11_digestKinds_54 ?_
  refine lv_iload hx hb dX11_digestKinds_57 (lv_at hl 2 rfl) ?_
  refine lv_bipush (v := 6) hx hb dX11_digestKinds_59 (by decide) ?_
  refine lv_imul hx hb dX11_digestKinds_61 ?_
  refine tp_i (y := 6) (by decide) ?_
  refine lv_iload hx hb dX11_digestKinds_62 (lv_at hl 0 rfl) ?_
  refine lv_iadd hx hb dX11_digestKinds_64 ?_
  refine tp_i (y := 9) (by decide) ?_
  refine va_iald hx hb hK hP 3 1 rfl rfl (show vp_in 9 144 from by unfold vp_in; decide) dX11_digestKinds_65 ?_
  refine tp_i (y := (-9)) (hfd _ (by decide)) ?_
  refine lv_i2l (v := (-9)) hx hb dX11_digestKinds_66 (by decide) ?_
  refine lv_ladd hx hb dX11_digestKinds_67 ?_
  refine tp_l (y := (-5292775584440770607)) (by decide) ?_
  refine lv_lstore_n (lv' := [(3, .long (-5292775584440770607)), (6, .int 3), (5, .int 1), (0, .ref x0), (1, .long 17)]) hx hb dX11_digestKinds_68 rfl hl (by decide) rfl (fun ls hl => ?_)
  refine lv_iinc (v := 4) (lv' := [(6, .int 4), (3, .long (-5292775584440770607)), (5, .int 1), (0, .ref x0), (1, .long 17)]) hx hb dX11_digestKinds_69 hl (k := 1) rfl (by decide) (by decide) rfl (fun ls hl => ?_)
  refine lv_goto (tgt := 38) hx hb dX11_digestKinds_72 (by decide) ?_
  refine lv_iload hx hb dX11_digestKinds_38 (lv_at hl 0 rfl) ?_
  refine lv_bipush (v := 6) hx hb dX11_digestKinds_40 (by decide) ?_
  refine lv_icmp_ge (tgt := 75) hx hb dX11_digestKinds_42 (by decide) (fun q9 => absurd q9 (by decide)) (fun _ => ?_)
  refine lv_ldc2 (v := 31) hx hb hown (hts (.constantLong RX11 362 (31)) (by decide +kernel)) dX11_digestKinds_45 ?_
  refine lv_lload_n hx hb dX11_digestKinds_48 rfl (lv_at hl 1 rfl) ?_
  refine lv_lmul hx hb dX11_digestKinds_49 ?_
  refine tp_l (y := 1944653545722075727) (by decide) ?_
  refine lv_aload_n hx hb dX11_digestKinds_50 rfl (lv_at hl 3 rfl) ?_
  refine va_get (D := D) (ci := 11) (v := .ref wo) (C := RX11) (T := TX11) (N := 11) hx hb hts (fun _ h => List.mem_cons_of_mem _ (List.mem_append_left _ (List.mem_append_right _ h))) hown hK hP 0 rfl rfl 0 (by decide) (hts (.fieldLink RX11 10 "TalePlay" "world" "LTalePlay$World;") (by decide +kernel)) (fun _ h9 => h9) rfl dX11_digestKinds_51 ?_
  refine va_get (D := D) (ci := 10) (v := .ref wd) (C := RX10) (T := TX10) (N := 7) hx hb hts (fun _ h => List.mem_cons_of_mem _ (List.mem_append_right _ h)) hown hK hP 1 rfl rfl 2 (by decide) (hts (.fieldLink RX11 367 "TalePlay$World" "standards" "[I") (by decide +kernel)) (fun _ h9 => h9) rfl dX11_digestKinds_54 ?_
  refine lv_iload hx hb dX11_digestKinds_57 (lv_at hl 2 rfl) ?_
  refine lv_bipush (v := 6) hx hb dX11_digestKinds_59 (by decide) ?_
  refine lv_imul hx hb dX11_digestKinds_61 ?_
  refine tp_i (y := 6) (by decide) ?_
  refine lv_iload hx hb dX11_digestKinds_62 (lv_at hl 0 rfl) ?_
  refine lv_iadd hx hb dX11_digestKinds_64 ?_
  refine tp_i (y := 10) (by decide) ?_
  refine va_iald hx hb hK hP 3 1 rfl rfl (show vp_in 10 144 from by unfold vp_in; decide) dX11_digestKinds_65 ?_
  refine tp_i (y := (-9)) (hfd _ (by decide)) ?_
  refine lv_i2l (v := (-9)) hx hb dX11_digestKinds_66 (by decide) ?_
  refine lv_ladd hx hb dX11_digestKinds_67 ?_
  refine tp_l (y := 1944653545722075718) (by decide) ?_
  refine lv_lstore_n (lv' := [(3, .long 1944653545722075718), (6, .int 4), (5, .int 1), (0, .ref x0), (1, .long 17)]) hx hb dX11_digestKinds_68 rfl hl (by decide) rfl (fun ls hl => ?_)
  refine lv_iinc (v := 5) (lv' := [(6, .int 5), (3, .long 1944653545722075718), (5, .int 1), (0, .ref x0), (1, .long 17)]) hx hb dX11_digestKinds_69 hl (k := 1) rfl (by decide) (by decide) rfl (fun ls hl => ?_)
  refine lv_goto (tgt := 38) hx hb dX11_digestKinds_72 (by decide) ?_
  refine lv_iload hx hb dX11_digestKinds_38 (lv_at hl 0 rfl) ?_
  refine lv_bipush (v := 6) hx hb dX11_digestKinds_40 (by decide) ?_
  refine lv_icmp_ge (tgt := 75) hx hb dX11_digestKinds_42 (by decide) (fun q9 => absurd q9 (by decide)) (fun _ => ?_)
  refine lv_ldc2 (v := 31) hx hb hown (hts (.constantLong RX11 362 (31)) (by decide +kernel)) dX11_digestKinds_45 ?_
  refine lv_lload_n hx hb dX11_digestKinds_48 rfl (lv_at hl 1 rfl) ?_
  refine lv_lmul hx hb dX11_digestKinds_49 ?_
  refine tp_l (y := 4944027696255692410) (by decide) ?_
  refine lv_aload_n hx hb dX11_digestKinds_50 rfl (lv_at hl 3 rfl) ?_
  refine va_get (D := D) (ci := 11) (v := .ref wo) (C := RX11) (T := TX11) (N := 11) hx hb hts (fun _ h => List.mem_cons_of_mem _ (List.mem_append_left _ (List.mem_append_right _ h))) hown hK hP 0 rfl rfl 0 (by decide) (hts (.fieldLink RX11 10 "TalePlay" "world" "LTalePlay$World;") (by decide +kernel)) (fun _ h9 => h9) rfl dX11_digestKinds_51 ?_
  refine va_get (D := D) (ci := 10) (v := .ref wd) (C := RX10) (T := TX10) (N := 7) hx hb hts (fun _ h => List.mem_cons_of_mem _ (List.mem_append_right _ h)) hown hK hP 1 rfl rfl 2 (by decide) (hts (.fieldLink RX11 367 "TalePlay$World" "standards" "[I") (by decide +kernel)) (fun _ h9 => h9) rfl dX11_digestKinds_54 ?_
  refine lv_iload hx hb dX11_digestKinds_57 (lv_at hl 2 rfl) ?_
  refine lv_bipush (v := 6) hx hb dX11_digestKinds_59 (by decide) ?_
  refine lv_imul hx hb dX11_digestKinds_61 ?_
  refine tp_i (y := 6) (by decide) ?_
  refine lv_iload hx hb dX11_digestKinds_62 (lv_at hl 0 rfl) ?_
  refine lv_iadd hx hb dX11_digestKinds_64 ?_
  refine tp_i (y := 11) (by decide) ?_
  refine va_iald hx hb hK hP 3 1 rfl rfl (show vp_in 11 144 from by unfold vp_in; decide) dX11_digestKinds_65 ?_
  refine tp_i (y := (-9)) (hfd _ (by decide)) ?_
  refine lv_i2l (v := (-9)) hx hb dX11_digestKinds_66 (by decide) ?_
  refine lv_ladd hx hb dX11_digestKinds_67 ?_
  refine tp_l (y := 4944027696255692401) (by decide) ?_
  refine lv_lstore_n (lv' := [(3, .long 4944027696255692401), (6, .int 5), (5, .int 1), (0, .ref x0), (1, .long 17)]) hx hb dX11_digestKinds_68 rfl hl (by decide) rfl (fun ls hl => ?_)
  refine lv_iinc (v := 6) (lv' := [(6, .int 6), (3, .long 4944027696255692401), (5, .int 1), (0, .ref x0), (1, .long 17)]) hx hb dX11_digestKinds_69 hl (k := 1) rfl (by decide) (by decide) rfl (fun ls hl => ?_)
  refine lv_goto (tgt := 38) hx hb dX11_digestKinds_72 (by decide) ?_
  refine lv_iload hx hb dX11_digestKinds_38 (lv_at hl 0 rfl) ?_
  refine lv_bipush (v := 6) hx hb dX11_digestKinds_40 (by decide) ?_
  refine lv_icmp_ge (tgt := 75) hx hb dX11_digestKinds_42 (by decide) (fun _ => ?_) (fun q9 => absurd (by decide) q9)
  refine lv_iinc (v := 2) (lv' := [(5, .int 2), (6, .int 6), (3, .long 4944027696255692401), (0, .ref x0), (1, .long 17)]) hx hb dX11_digestKinds_75 hl (k := 2) rfl (by decide) (by decide) rfl (fun ls hl => ?_)
  refine lv_goto (tgt := 5) hx hb dX11_digestKinds_78 (by decide) ?_
  refine lv_iload hx hb dX11_digestKinds_5 (lv_at hl 0 rfl) ?_
  refine lv_aload_n hx hb dX11_digestKinds_7 rfl (lv_at hl 3 rfl) ?_
  refine va_get (D := D) (ci := 11) (v := .ref wo) (C := RX11) (T := TX11) (N := 11) hx hb hts (fun _ h => List.mem_cons_of_mem _ (List.mem_append_left _ (List.mem_append_right _ h))) hown hK hP 0 rfl rfl 0 (by decide) (hts (.fieldLink RX11 10 "TalePlay" "world" "LTalePlay$World;") (by decide +kernel)) (fun _ h9 => h9) rfl dX11_digestKinds_8 ?_
  refine va_get (D := D) (ci := 10) (v := .int 6) (C := RX10) (T := TX10) (N := 7) hx hb hts (fun _ h => List.mem_cons_of_mem _ (List.mem_append_right _ h)) hown hK hP 1 rfl rfl 5 (by decide) (hts (.fieldLink RX11 84 "TalePlay$World" "kinds" "I") (by decide +kernel)) (fun _ h9 => h9) rfl dX11_digestKinds_11 ?_
  refine lv_icmp_ge (tgt := 81) hx hb dX11_digestKinds_14 (by decide) (fun q9 => absurd q9 (by decide)) (fun _ => ?_)
  refine lv_ldc2 (v := 31) hx hb hown (hts (.constantLong RX11 362 (31)) (by decide +kernel)) dX11_digestKinds_17 ?_
  refine lv_lload_n hx hb dX11_digestKinds_20 rfl (lv_at hl 2 rfl) ?_
  refine lv_lmul hx hb dX11_digestKinds_21 ?_
  refine tp_l (y := 5690905994250051503) (by decide) ?_
  refine lv_aload_n hx hb dX11_digestKinds_22 rfl (lv_at hl 3 rfl) ?_
  refine va_get (D := D) (ci := 11) (v := .ref wo) (C := RX11) (T := TX11) (N := 11) hx hb hts (fun _ h => List.mem_cons_of_mem _ (List.mem_append_left _ (List.mem_append_right _ h))) hown hK hP 0 rfl rfl 0 (by decide) (hts (.fieldLink RX11 10 "TalePlay" "world" "LTalePlay$World;") (by decide +kernel)) (fun _ h9 => h9) rfl dX11_digestKinds_23 ?_
  refine va_get (D := D) (ci := 10) (v := .ref wp) (C := RX10) (T := TX10) (N := 7) hx hb hts (fun _ h => List.mem_cons_of_mem _ (List.mem_append_right _ h)) hown hK hP 1 rfl rfl 0 (by decide) (hts (.fieldLink RX11 364 "TalePlay$World" "parents" "[I") (by decide +kernel)) (fun _ h9 => h9) rfl dX11_digestKinds_26 ?_
  refine lv_iload hx hb dX11_digestKinds_29 (lv_at hl 0 rfl) ?_
  refine va_iald hx hb hK hP 2 0 rfl rfl (show vp_in 2 24 from by unfold vp_in; decide) dX11_digestKinds_31 ?_
  refine tp_i (y := 1) hp2 ?_
  refine lv_i2l (v := 1) hx hb dX11_digestKinds_32 (by decide) ?_
  refine lv_ladd hx hb dX11_digestKinds_33 ?_
  refine tp_l (y := 5690905994250051504) (by decide) ?_
  refine lv_lstore_n (lv' := [(3, .long 5690905994250051504), (5, .int 2), (6, .int 6), (0, .ref x0), (1, .long 17)]) hx hb dX11_digestKinds_34 rfl hl (by decide) rfl (fun ls hl => ?_)
  refine lv_iconst (v := 0) hx hb dX11_digestKinds_35 (by decide) ?_
  refine lv_istore (lv' := [(6, .int 0), (3, .long 5690905994250051504), (5, .int 2), (0, .ref x0), (1, .long 17)]) hx hb dX11_digestKinds_36 hl (by decide) rfl (fun ls hl => ?_)
  refine lv_iload hx hb dX11_digestKinds_38 (lv_at hl 0 rfl) ?_
  refine lv_bipush (v := 6) hx hb dX11_digestKinds_40 (by decide) ?_
  refine lv_icmp_ge (tgt := 75) hx hb dX11_digestKinds_42 (by decide) (fun q9 => absurd q9 (by decide)) (fun _ => ?_)
  refine lv_ldc2 (v := 31) hx hb hown (hts (.constantLong RX11 362 (31)) (by decide +kernel)) dX11_digestKinds_45 ?_
  refine lv_lload_n hx hb dX11_digestKinds_48 rfl (lv_at hl 1 rfl) ?_
  refine lv_lmul hx hb dX11_digestKinds_49 ?_
  refine tp_l (y := (-8049354915343919536)) (by decide) ?_
  refine lv_aload_n hx hb dX11_digestKinds_50 rfl (lv_at hl 3 rfl) ?_
  refine va_get (D := D) (ci := 11) (v := .ref wo) (C := RX11) (T := TX11) (N := 11) hx hb hts (fun _ h => List.mem_cons_of_mem _ (List.mem_append_left _ (List.mem_append_right _ h))) hown hK hP 0 rfl rfl 0 (by decide) (hts (.fieldLink RX11 10 "TalePlay" "world" "LTalePlay$World;") (by decide +kernel)) (fun _ h9 => h9) rfl dX11_digestKinds_51 ?_
  refine va_get (D := D) (ci := 10) (v := .ref wd) (C := RX10) (T := TX10) (N := 7) hx hb hts (fun _ h => List.mem_cons_of_mem _ (List.mem_append_right _ h)) hown hK hP 1 rfl rfl 2 (by decide) (hts (.fieldLink RX11 367 "TalePlay$World" "standards" "[I") (by decide +kernel)) (fun _ h9 => h9) rfl dX11_digestKinds_54 ?_
  refine lv_iload hx hb dX11_digestKinds_57 (lv_at hl 2 rfl) ?_
  refine lv_bipush (v := 6) hx hb dX11_digestKinds_59 (by decide) ?_
  refine lv_imul hx hb dX11_digestKinds_61 ?_
  refine tp_i (y := 12) (by decide) ?_
  refine lv_iload hx hb dX11_digestKinds_62 (lv_at hl 0 rfl) ?_
  refine lv_iadd hx hb dX11_digestKinds_64 ?_
  refine tp_i (y := 12) (by decide) ?_
  refine va_iald hx hb hK hP 3 1 rfl rfl (show vp_in 12 144 from by unfold vp_in; decide) dX11_digestKinds_65 ?_
  refine tp_i (y := (-9)) (hfd _ (by decide)) ?_
  refine lv_i2l (v := (-9)) hx hb dX11_digestKinds_66 (by decide) ?_
  refine lv_ladd hx hb dX11_digestKinds_67 ?_
  refine tp_l (y := (-8049354915343919545)) (by decide) ?_
  refine lv_lstore_n (lv' := [(3, .long (-8049354915343919545)), (6, .int 0), (5, .int 2), (0, .ref x0), (1, .long 17)]) hx hb dX11_digestKinds_68 rfl hl (by decide) rfl (fun ls hl => ?_)
  refine lv_iinc (v := 1) (lv' := [(6, .int 1), (3, .long (-8049354915343919545)), (5, .int 2), (0, .ref x0), (1, .long 17)]) hx hb dX11_digestKinds_69 hl (k := 1) rfl (by decide) (by decide) rfl (fun ls hl => ?_)
  refine lv_goto (tgt := 38) hx hb dX11_digestKinds_72 (by decide) ?_
  refine lv_iload hx hb dX11_digestKinds_38 (lv_at hl 0 rfl) ?_
  refine lv_bipush (v := 6) hx hb dX11_digestKinds_40 (by decide) ?_
  refine lv_icmp_ge (tgt := 75) hx hb dX11_digestKinds_42 (by decide) (fun q9 => absurd q9 (by decide)) (fun _ => ?_)
  refine lv_ldc2 (v := 31) hx hb hown (hts (.constantLong RX11 362 (31)) (by decide +kernel)) dX11_digestKinds_45 ?_
  refine lv_lload_n hx hb dX11_digestKinds_48 rfl (lv_at hl 1 rfl) ?_
  refine lv_lmul hx hb dX11_digestKinds_49 ?_
  refine tp_l (y := 8724414656272216729) (by decide) ?_
  refine lv_aload_n hx hb dX11_digestKinds_50 rfl (lv_at hl 3 rfl) ?_
  refine va_get (D := D) (ci := 11) (v := .ref wo) (C := RX11) (T := TX11) (N := 11) hx hb hts (fun _ h => List.mem_cons_of_mem _ (List.mem_append_left _ (List.mem_append_right _ h))) hown hK hP 0 rfl rfl 0 (by decide) (hts (.fieldLink RX11 10 "TalePlay" "world" "LTalePlay$World;") (by decide +kernel)) (fun _ h9 => h9) rfl dX11_digestKinds_51 ?_
  refine va_get (D := D) (ci := 10) (v := .ref wd) (C := RX10) (T := TX10) (N := 7) hx hb hts (fun _ h => List.mem_cons_of_mem _ (List.mem_append_right _ h)) hown hK hP 1 rfl rfl 2 (by decide) (hts (.fieldLink RX11 367 "TalePlay$World" "standards" "[I") (by decide +kernel)) (fun _ h9 => h9) rfl dX11_digestKinds_54 ?_
  refine lv_iload hx hb dX11_digestKinds_57 (lv_at hl 2 rfl) ?_
  refine lv_bipush (v := 6) hx hb dX11_digestKinds_59 (by decide) ?_
  refine lv_imul hx hb dX11_digestKinds_61 ?_
  refine tp_i (y := 12) (by decide) ?_
  refine lv_iload hx hb dX11_digestKinds_62 (lv_at hl 0 rfl) ?_
  refine lv_iadd hx hb dX11_digestKinds_64 ?_
  refine tp_i (y := 13) (by decide) ?_
  refine va_iald hx hb hK hP 3 1 rfl rfl (show vp_in 13 144 from by unfold vp_in; decide) dX11_digestKinds_65 ?_
  refine tp_i (y := (-9)) (hfd _ (by decide)) ?_
  refine lv_i2l (v := (-9)) hx hb dX11_digestKinds_66 (by decide) ?_
  refine lv_ladd hx hb dX11_digestKinds_67 ?_
  refine tp_l (y := 8724414656272216720) (by decide) ?_
  refine lv_lstore_n (lv' := [(3, .long 8724414656272216720), (6, .int 1), (5, .int 2), (0, .ref x0), (1, .long 17)]) hx hb dX11_digestKinds_68 rfl hl (by decide) rfl (fun ls hl => ?_)
  refine lv_iinc (v := 2) (lv' := [(6, .int 2), (3, .long 8724414656272216720), (5, .int 2), (0, .ref x0), (1, .long 17)]) hx hb dX11_digestKinds_69 hl (k := 1) rfl (by decide) (by decide) rfl (fun ls hl => ?_)
  refine lv_goto (tgt := 38) hx hb dX11_digestKinds_72 (by decide) ?_
  refine lv_iload hx hb dX11_digestKinds_38 (lv_at hl 0 rfl) ?_
  refine lv_bipush (v := 6) hx hb dX11_digestKinds_40 (by decide) ?_
  refine lv_icmp_ge (tgt := 75) hx hb dX11_digestKinds_42 (by decide) (fun q9 => absurd q9 (by decide)) (fun _ => ?_)
  refine lv_ldc2 (v := 31) hx hb hown (hts (.constantLong RX11 362 (31)) (by decide +kernel)) dX11_digestKinds_45 ?_
  refine lv_lload_n hx hb dX11_digestKinds_48 rfl (lv_at hl 1 rfl) ?_
  refine lv_lmul hx hb dX11_digestKinds_49 ?_
  refine tp_l (y := (-6244306761204555920)) (by decide) ?_
  refine lv_aload_n hx hb dX11_digestKinds_50 rfl (lv_at hl 3 rfl) ?_
  refine va_get (D := D) (ci := 11) (v := .ref wo) (C := RX11) (T := TX11) (N := 11) hx hb hts (fun _ h => List.mem_cons_of_mem _ (List.mem_append_left _ (List.mem_append_right _ h))) hown hK hP 0 rfl rfl 0 (by decide) (hts (.fieldLink RX11 10 "TalePlay" "world" "LTalePlay$World;") (by decide +kernel)) (fun _ h9 => h9) rfl dX11_digestKinds_51 ?_
  refine va_get (D := D) (ci := 10) (v := .ref wd) (C := RX10) (T := TX10) (N := 7) hx hb hts (fun _ h => List.mem_cons_of_mem _ (List.mem_append_right _ h)) hown hK hP 1 rfl rfl 2 (by decide) (hts (.fieldLink RX11 367 "TalePlay$World" "standards" "[I") (by decide +kernel)) (fun _ h9 => h9) rfl dX11_digestKinds_54 ?_
  refine lv_iload hx hb dX11_digestKinds_57 (lv_at hl 2 rfl) ?_
  refine lv_bipush (v := 6) hx hb dX11_digestKinds_59 (by decide) ?_
  refine lv_imul hx hb dX11_digestKinds_61 ?_
  refine tp_i (y := 12) (by decide) ?_
  refine lv_iload hx hb dX11_digestKinds_62 (lv_at hl 0 rfl) ?_
  refine lv_iadd hx hb dX11_digestKinds_64 ?_
  refine tp_i (y := 14) (by decide) ?_
  refine va_iald hx hb hK hP 3 1 rfl rfl (show vp_in 14 144 from by unfold vp_in; decide) dX11_digestKinds_65 ?_
  refine tp_i (y := (-9)) (hfd _ (by decide)) ?_
  refine lv_i2l (v := (-9)) hx hb dX11_digestKinds_66 (by decide) ?_
  refine lv_ladd hx hb dX11_digestKinds_67 ?_
  refine tp_l (y := (-6244306761204555929)) (by decide) ?_
  refine lv_lstore_n (lv' := [(3, .long (-6244306761204555929)), (6, .int 2), (5, .int 2), (0, .ref x0), (1, .long 17)]) hx hb dX11_digestKinds_68 rfl hl (by decide) rfl (fun ls hl => ?_)
  refine lv_iinc (v := 3) (lv' := [(6, .int 3), (3, .long (-6244306761204555929)), (5, .int 2), (0, .ref x0), (1, .long 17)]) hx hb dX11_digestKinds_69 hl (k := 1) rfl (by decide) (by decide) rfl (fun ls hl => ?_)
  refine lv_goto (tgt := 38) hx hb dX11_digestKinds_72 (by decide) ?_
  refine lv_iload hx hb dX11_digestKinds_38 (lv_at hl 0 rfl) ?_
  refine lv_bipush (v := 6) hx hb dX11_digestKinds_40 (by decide) ?_
  refine lv_icmp_ge (tgt := 75) hx hb dX11_digestKinds_42 (by decide) (fun q9 => absurd q9 (by decide)) (fun _ => ?_)
  refine lv_ldc2 (v := 31) hx hb hown (hts (.constantLong RX11 362 (31)) (by decide +kernel)) dX11_digestKinds_45 ?_
  refine lv_lload_n hx hb dX11_digestKinds_48 rfl (lv_at hl 1 rfl) ?_
  refine lv_lmul hx hb dX11_digestKinds_49 ?_
  refine tp_l (y := (-9106068860245717639)) (by decide) ?_
  refine lv_aload_n hx hb dX11_digestKinds_50 rfl (lv_at hl 3 rfl) ?_
  refine va_get (D := D) (ci := 11) (v := .ref wo) (C := RX11) (T := TX11) (N := 11) hx hb hts (fun _ h => List.mem_cons_of_mem _ (List.mem_append_left _ (List.mem_append_right _ h))) hown hK hP 0 rfl rfl 0 (by decide) (hts (.fieldLink RX11 10 "TalePlay" "world" "LTalePlay$World;") (by decide +kernel)) (fun _ h9 => h9) rfl dX11_digestKinds_51 ?_
  refine va_get (D := D) (ci := 10) (v := .ref wd) (C := RX10) (T := TX10) (N := 7) hx hb hts (fun _ h => List.mem_cons_of_mem _ (List.mem_append_right _ h)) hown hK hP 1 rfl rfl 2 (by decide) (hts (.fieldLink RX11 367 "TalePlay$World" "standards" "[I") (by decide +kernel)) (fun _ h9 => h9) rfl dX11_digestKinds_54 ?_
  refine lv_iload hx hb dX11_digestKinds_57 (lv_at hl 2 rfl) ?_
  refine lv_bipush (v := 6) hx hb dX11_digestKinds_59 (by decide) ?_
  refine lv_imul hx hb dX11_digestKinds_61 ?_
  refine tp_i (y := 12) (by decide) ?_
  refine lv_iload hx hb dX11_digestKinds_62 (lv_at hl 0 rfl) ?_
  refine lv_iadd hx hb dX11_digestKinds_64 ?_
  refine tp_i (y := 15) (by decide) ?_
  refine va_iald hx hb hK hP 3 1 rfl rfl (show vp_in 15 144 from by unfold vp_in; decide) dX11_digestKinds_65 ?_
  refine tp_i (y := (-9)) (hfd _ (by decide)) ?_
  refine lv_i2l (v := (-9)) hx hb dX11_digestKinds_66 (by decide) ?_
  refine lv_ladd hx hb dX11_digestKinds_67 ?_
  refine tp_l (y := (-9106068860245717648)) (by decide) ?_
  refine lv_lstore_n (lv' := [(3, .long (-9106068860245717648)), (6, .int 3), (5, .int 2), (0, .ref x0), (1, .long 17)]) hx hb dX11_digestKinds_68 rfl hl (by decide) rfl (fun ls hl => ?_)
  refine lv_iinc (v := 4) (lv' := [(6, .int 4), (3, .long (-9106068860245717648)), (5, .int 2), (0, .ref x0), (1, .long 17)]) hx hb dX11_digestKinds_69 hl (k := 1) rfl (by decide) (by decide) rfl (fun ls hl => ?_)
  refine lv_goto (tgt := 38) hx hb dX11_digestKinds_72 (by decide) ?_
  refine lv_iload hx hb dX11_digestKinds_38 (lv_at hl 0 rfl) ?_
  refine lv_bipush (v := 6) hx hb dX11_digestKinds_40 (by decide) ?_
  refine lv_icmp_ge (tgt := 75) hx hb dX11_digestKinds_42 (by decide) (fun q9 => absurd q9 (by decide)) (fun _ => ?_)
  refine lv_ldc2 (v := 31) hx hb hown (hts (.constantLong RX11 362 (31)) (by decide +kernel)) dX11_digestKinds_45 ?_
  refine lv_lload_n hx hb dX11_digestKinds_48 rfl (lv_at hl 1 rfl) ?_
  refine lv_lmul hx hb dX11_digestKinds_49 ?_
  refine tp_l (y := (-5586973561973972848)) (by decide) ?_
  refine lv_aload_n hx hb dX11_digestKinds_50 rfl (lv_at hl 3 rfl) ?_
  refine va_get (D := D) (ci := 11) (v := .ref wo) (C := RX11) (T := TX11) (N := 11) hx hb hts (fun _ h => List.mem_cons_of_mem _ (List.mem_append_left _ (List.mem_append_right _ h))) hown hK hP 0 rfl rfl 0 (by decide) (hts (.fieldLink RX11 10 "TalePlay" "world" "LTalePlay$World;") (by decide +kernel)) (fun _ h9 => h9) rfl dX11_digestKinds_51 ?_
  refine va_get (D := D) (ci := 10) (v := .ref wd) (C := RX10) (T := TX10) (N := 7) hx hb hts (fun _ h => List.mem_cons_of_mem _ (List.mem_append_right _ h)) hown hK hP 1 rfl rfl 2 (by decide) (hts (.fieldLink RX11 367 "TalePlay$World" "standards" "[I") (by decide +kernel)) (fun _ h9 => h9) rfl dX11_digestKinds_54 ?_
  refine lv_iload hx hb dX11_digestKinds_57 (lv_at hl 2 rfl) ?_
  refine lv_bipush (v := 6) hx hb dX11_digestKinds_59 (by decide) ?_
  refine lv_imul hx hb dX11_digestKinds_61 ?_
  refine tp_i (y := 12) (by decide) ?_
  refine lv_iload hx hb dX11_digestKinds_62 (lv_at hl 0 rfl) ?_
  refine lv_iadd hx hb dX11_digestKinds_64 ?_
  refine tp_i (y := 16) (by decide) ?_
  refine va_iald hx hb hK hP 3 1 rfl rfl (show vp_in 16 144 from by unfold vp_in; decide) dX11_digestKinds_65 ?_
  refine tp_i (y := (-9)) (hfd _ (by decide)) ?_
  refine lv_i2l (v := (-9)) hx hb dX11_digestKinds_66 (by decide) ?_
  refine lv_ladd hx hb dX11_digestKinds_67 ?_
  refine tp_l (y := (-5586973561973972857)) (by decide) ?_
  refine lv_lstore_n (lv' := [(3, .long (-5586973561973972857)), (6, .int 4), (5, .int 2), (0, .ref x0), (1, .long 17)]) hx hb dX11_digestKinds_68 rfl hl (by decide) rfl (fun ls hl => ?_)
  refine lv_iinc (v := 5) (lv' := [(6, .int 5), (3, .long (-5586973561973972857)), (5, .int 2), (0, .ref x0), (1, .long 17)]) hx hb dX11_digestKinds_69 hl (k := 1) rfl (by decide) (by decide) rfl (fun ls hl => ?_)
  refine lv_goto (tgt := 38) hx hb dX11_digestKinds_72 (by decide) ?_
  refine lv_iload hx hb dX11_digestKinds_38 (lv_at hl 0 rfl) ?_
  refine lv_bipush (v := 6) hx hb dX11_digestKinds_40 (by decide) ?_
  refine lv_icmp_ge (tgt := 75) hx hb dX11_digestKinds_42 (by decide) (fun q9 => absurd q9 (by decide)) (fun _ => ?_)
  refine lv_ldc2 (v := 31) hx hb hown (hts (.constantLong RX11 362 (31)) (by decide +kernel)) dX11_digestKinds_45 ?_
  refine lv_lload_n hx hb dX11_digestKinds_48 rfl (lv_at hl 1 rfl) ?_
  refine lv_lmul hx hb dX11_digestKinds_49 ?_
  refine tp_l (y := (-7175483757807194023)) (by decide) ?_
  refine lv_aload_n hx hb dX11_digestKinds_50 rfl (lv_at hl 3 rfl) ?_
  refine va_get (D := D) (ci := 11) (v := .ref wo) (C := RX11) (T := TX11) (N := 11) hx hb hts (fun _ h => List.mem_cons_of_mem _ (List.mem_append_left _ (List.mem_append_right _ h))) hown hK hP 0 rfl rfl 0 (by decide) (hts (.fieldLink RX11 10 "TalePlay" "world" "LTalePlay$World;") (by decide +kernel)) (fun _ h9 => h9) rfl dX11_digestKinds_51 ?_
  refine va_get (D := D) (ci := 10) (v := .ref wd) (C := RX10) (T := TX10) (N := 7) hx hb hts (fun _ h => List.mem_cons_of_mem _ (List.mem_append_right _ h)) hown hK hP 1 rfl rfl 2 (by decide) (hts (.fieldLink RX11 367 "TalePlay$World" "standards" "[I") (by decide +kernel)) (fun _ h9 => h9) rfl dX11_digestKinds_54 ?_
  refine lv_iload hx hb dX11_digestKinds_57 (lv_at hl 2 rfl) ?_
  refine lv_bipush (v := 6) hx hb dX11_digestKinds_59 (by decide) ?_
  refine lv_imul hx hb dX11_digestKinds_61 ?_
  refine tp_i (y := 12) (by decide) ?_
  refine lv_iload hx hb dX11_digestKinds_62 (lv_at hl 0 rfl) ?_
  refine lv_iadd hx hb dX11_digestKinds_64 ?_
  refine tp_i (y := 17) (by decide) ?_
  refine va_iald hx hb hK hP 3 1 rfl rfl (show vp_in 17 144 from by unfold vp_in; decide) dX11_digestKinds_65 ?_
  refine tp_i (y := (-9)) (hfd _ (by decide)) ?_
  refine lv_i2l (v := (-9)) hx hb dX11_digestKinds_66 (by decide) ?_
  refine lv_ladd hx hb dX11_digestKinds_67 ?_
  refine tp_l (y := (-7175483757807194032)) (by decide) ?_
  refine lv_lstore_n (lv' := [(3, .long (-7175483757807194032)), (6, .int 5), (5, .int 2), (0, .ref x0), (1, .long 17)]) hx hb dX11_digestKinds_68 rfl hl (by decide) rfl (fun ls hl => ?_)
  refine lv_iinc (v := 6) (lv' := [(6, .int 6), (3, .long (-7175483757807194032)), (5, .int 2), (0, .ref x0), (1, .long 17)]) hx hb dX11_digestKinds_69 hl (k := 1) rfl (by decide) (by decide) rfl (fun ls hl => ?_)
  refine lv_goto (tgt := 38) hx hb dX11_digestKinds_72 (by decide) ?_
  refine lv_iload hx hb dX11_digestKinds_38 (lv_at hl 0 rfl) ?_
  refine lv_bipush (v := 6) hx hb dX11_digestKinds_40 (by decide) ?_
  refine lv_icmp_ge (tgt := 75) hx hb dX11_digestKinds_42 (by decide) (fun _ => ?_) (fun q9 => absurd (by decide) q9)
  refine lv_iinc (v := 3) (lv' := [(5, .int 3), (6, .int 6), (3, .long (-7175483757807194032)), (0, .ref x0), (1, .long 17)]) hx hb dX11_digestKinds_75 hl (k := 2) rfl (by decide) (by decide) rfl (fun ls hl => ?_)
  refine lv_goto (tgt := 5) hx hb dX11_digestKinds_78 (by decide) ?_
  refine lv_iload hx hb dX11_digestKinds_5 (lv_at hl 0 rfl) ?_
  refine lv_aload_n hx hb dX11_digestKinds_7 rfl (lv_at hl 3 rfl) ?_
  refine va_get (D := D) (ci := 11) (v := .ref wo) (C := RX11) (T := TX11) (N := 11) hx hb hts (fun _ h => List.mem_cons_of_mem _ (List.mem_append_left _ (List.mem_append_right _ h))) hown hK hP 0 rfl rfl 0 (by decide) (hts (.fieldLink RX11 10 "TalePlay" "world" "LTalePlay$World;") (by decide +kernel)) (fun _ h9 => h9) rfl dX11_digestKinds_8 ?_
  refine va_get (D := D) (ci := 10) (v := .int 6) (C := RX10) (T := TX10) (N := 7) hx hb hts (fun _ h => List.mem_cons_of_mem _ (List.mem_append_right _ h)) hown hK hP 1 rfl rfl 5 (by decide) (hts (.fieldLink RX11 84 "TalePlay$World" "kinds" "I") (by decide +kernel)) (fun _ h9 => h9) rfl dX11_digestKinds_11 ?_
  refine lv_icmp_ge (tgt := 81) hx hb dX11_digestKinds_14 (by decide) (fun q9 => absurd q9 (by decide)) (fun _ => ?_)
  refine lv_ldc2 (v := 31) hx hb hown (hts (.constantLong RX11 362 (31)) (by decide +kernel)) dX11_digestKinds_17 ?_
  refine lv_lload_n hx hb dX11_digestKinds_20 rfl (lv_at hl 2 rfl) ?_
  refine lv_lmul hx hb dX11_digestKinds_21 ?_
  refine tp_l (y := (-1079067607508395600)) (by decide) ?_
  refine lv_aload_n hx hb dX11_digestKinds_22 rfl (lv_at hl 3 rfl) ?_
  refine va_get (D := D) (ci := 11) (v := .ref wo) (C := RX11) (T := TX11) (N := 11) hx hb hts (fun _ h => List.mem_cons_of_mem _ (List.mem_append_left _ (List.mem_append_right _ h))) hown hK hP 0 rfl rfl 0 (by decide) (hts (.fieldLink RX11 10 "TalePlay" "world" "LTalePlay$World;") (by decide +kernel)) (fun _ h9 => h9) rfl dX11_digestKinds_23 ?_
  refine va_get (D := D) (ci := 10) (v := .ref wp) (C := RX10) (T := TX10) (N := 7) hx hb hts (fun _ h => List.mem_cons_of_mem _ (List.mem_append_right _ h)) hown hK hP 1 rfl rfl 0 (by decide) (hts (.fieldLink RX11 364 "TalePlay$World" "parents" "[I") (by decide +kernel)) (fun _ h9 => h9) rfl dX11_digestKinds_26 ?_
  refine lv_iload hx hb dX11_digestKinds_29 (lv_at hl 0 rfl) ?_
  refine va_iald hx hb hK hP 2 0 rfl rfl (show vp_in 3 24 from by unfold vp_in; decide) dX11_digestKinds_31 ?_
  refine tp_i (y := 1) hp3 ?_
  refine lv_i2l (v := 1) hx hb dX11_digestKinds_32 (by decide) ?_
  refine lv_ladd hx hb dX11_digestKinds_33 ?_
  refine tp_l (y := (-1079067607508395599)) (by decide) ?_
  refine lv_lstore_n (lv' := [(3, .long (-1079067607508395599)), (5, .int 3), (6, .int 6), (0, .ref x0), (1, .long 17)]) hx hb dX11_digestKinds_34 rfl hl (by decide) rfl (fun ls hl => ?_)
  refine lv_iconst (v := 0) hx hb dX11_digestKinds_35 (by decide) ?_
  refine lv_istore (lv' := [(6, .int 0), (3, .long (-1079067607508395599)), (5, .int 3), (0, .ref x0), (1, .long 17)]) hx hb dX11_digestKinds_36 hl (by decide) rfl (fun ls hl => ?_)
  refine lv_iload hx hb dX11_digestKinds_38 (lv_at hl 0 rfl) ?_
  refine lv_bipush (v := 6) hx hb dX11_digestKinds_40 (by decide) ?_
  refine lv_icmp_ge (tgt := 75) hx hb dX11_digestKinds_42 (by decide) (fun q9 => absurd q9 (by decide)) (fun _ => ?_)
  refine lv_ldc2 (v := 31) hx hb hown (hts (.constantLong RX11 362 (31)) (by decide +kernel)) dX11_digestKinds_45 ?_
  refine lv_lload_n hx hb dX11_digestKinds_48 rfl (lv_at hl 1 rfl) ?_
  refine lv_lmul hx hb dX11_digestKinds_49 ?_
  refine tp_l (y := 3442392314658839663) (by decide) ?_
  refine lv_aload_n hx hb dX11_digestKinds_50 rfl (lv_at hl 3 rfl) ?_
  refine va_get (D := D) (ci := 11) (v := .ref wo) (C := RX11) (T := TX11) (N := 11) hx hb hts (fun _ h => List.mem_cons_of_mem _ (List.mem_append_left _ (List.mem_append_right _ h))) hown hK hP 0 rfl rfl 0 (by decide) (hts (.fieldLink RX11 10 "TalePlay" "world" "LTalePlay$World;") (by decide +kernel)) (fun _ h9 => h9) rfl dX11_digestKinds_51 ?_
  refine va_get (D := D) (ci := 10) (v := .ref wd) (C := RX10) (T := TX10) (N := 7) hx hb hts (fun _ h => List.mem_cons_of_mem _ (List.mem_append_right _ h)) hown hK hP 1 rfl rfl 2 (by decide) (hts (.fieldLink RX11 367 "TalePlay$World" "standards" "[I") (by decide +kernel)) (fun _ h9 => h9) rfl dX11_digestKinds_54 ?_
  refine lv_iload hx hb dX11_digestKinds_57 (lv_at hl 2 rfl) ?_
  refine lv_bipush (v := 6) hx hb dX11_digestKinds_59 (by decide) ?_
  refine lv_imul hx hb dX11_digestKinds_61 ?_
  refine tp_i (y := 18) (by decide) ?_
  refine lv_iload hx hb dX11_digestKinds_62 (lv_at hl 0 rfl) ?_
  refine lv_iadd hx hb dX11_digestKinds_64 ?_
  refine tp_i (y := 18) (by decide) ?_
  refine va_iald hx hb hK hP 3 1 rfl rfl (show vp_in 18 144 from by unfold vp_in; decide) dX11_digestKinds_65 ?_
  refine tp_i (y := (-9)) (hfd _ (by decide)) ?_
  refine lv_i2l (v := (-9)) hx hb dX11_digestKinds_66 (by decide) ?_
  refine lv_ladd hx hb dX11_digestKinds_67 ?_
  refine tp_l (y := 3442392314658839654) (by decide) ?_
  refine lv_lstore_n (lv' := [(3, .long 3442392314658839654), (6, .int 0), (5, .int 3), (0, .ref x0), (1, .long 17)]) hx hb dX11_digestKinds_68 rfl hl (by decide) rfl (fun ls hl => ?_)
  refine lv_iinc (v := 1) (lv' := [(6, .int 1), (3, .long 3442392314658839654), (5, .int 3), (0, .ref x0), (1, .long 17)]) hx hb dX11_digestKinds_69 hl (k := 1) rfl (by decide) (by decide) rfl (fun ls hl => ?_)
  refine lv_goto (tgt := 38) hx hb dX11_digestKinds_72 (by decide) ?_
  refine lv_iload hx hb dX11_digestKinds_38 (lv_at hl 0 rfl) ?_
  refine lv_bipush (v := 6) hx hb dX11_digestKinds_40 (by decide) ?_
  refine lv_icmp_ge (tgt := 75) hx hb dX11_digestKinds_42 (by decide) (fun q9 => absurd q9 (by decide)) (fun _ => ?_)
  refine lv_ldc2 (v := 31) hx hb hown (hts (.constantLong RX11 362 (31)) (by decide +kernel)) dX11_digestKinds_45 ?_
  refine lv_lload_n hx hb dX11_digestKinds_48 rfl (lv_at hl 1 rfl) ?_
  refine lv_lmul hx hb dX11_digestKinds_49 ?_
  refine tp_l (y := (-3966302687833280422)) (by decide) ?_
  refine lv_aload_n hx hb dX11_digestKinds_50 rfl (lv_at hl 3 rfl) ?_
  refine va_get (D := D) (ci := 11) (v := .ref wo) (C := RX11) (T := TX11) (N := 11) hx hb hts (fun _ h => List.mem_cons_of_mem _ (List.mem_append_left _ (List.mem_append_right _ h))) hown hK hP 0 rfl rfl 0 (by decide) (hts (.fieldLink RX11 10 "TalePlay" "world" "LTalePlay$World;") (by decide +kernel)) (fun _ h9 => h9) rfl dX11_digestKinds_51 ?_
  refine va_get (D := D) (ci := 10) (v := .ref wd) (C := RX10) (T := TX10) (N := 7) hx hb hts (fun _ h => List.mem_cons_of_mem _ (List.mem_append_right _ h)) hown hK hP 1 rfl rfl 2 (by decide) (hts (.fieldLink RX11 367 "TalePlay$World" "standards" "[I") (by decide +kernel)) (fun _ h9 => h9) rfl dX11_digestKinds_54 ?_
  refine lv_iload hx hb dX11_digestKinds_57 (lv_at hl 2 rfl) ?_
  refine lv_bipush (v := 6) hx hb dX11_digestKinds_59 (by decide) ?_
  refine lv_imul hx hb dX11_digestKinds_61 ?_
  refine tp_i (y := 18) (by decide) ?_
  refine lv_iload hx hb dX11_digestKinds_62 (lv_at hl 0 rfl) ?_
  refine lv_iadd hx hb dX11_digestKinds_64 ?_
  refine tp_i (y := 19) (by decide) ?_
  refine va_iald hx hb hK hP 3 1 rfl rfl (show vp_in 19 144 from by unfold vp_in; decide) dX11_digestKinds_65 ?_
  refine tp_i (y := (-9)) (hfd _ (by decide)) ?_
  refine lv_i2l (v := (-9)) hx hb dX11_digestKinds_66 (by decide) ?_
  refine lv_ladd hx hb dX11_digestKinds_67 ?_
  refine tp_l (y := (-3966302687833280431)) (by decide) ?_
  refine lv_lstore_n (lv' := [(3, .long (-3966302687833280431)), (6, .int 1), (5, .int 3), (0, .ref x0), (1, .long 17)]) hx hb dX11_digestKinds_68 rfl hl (by decide) rfl (fun ls hl => ?_)
  refine lv_iinc (v := 2) (lv' := [(6, .int 2), (3, .long (-3966302687833280431)), (5, .int 3), (0, .ref x0), (1, .long 17)]) hx hb dX11_digestKinds_69 hl (k := 1) rfl (by decide) (by decide) rfl (fun ls hl => ?_)
  refine lv_goto (tgt := 38) hx hb dX11_digestKinds_72 (by decide) ?_
  refine lv_iload hx hb dX11_digestKinds_38 (lv_at hl 0 rfl) ?_
  refine lv_bipush (v := 6) hx hb dX11_digestKinds_40 (by decide) ?_
  refine lv_icmp_ge (tgt := 75) hx hb dX11_digestKinds_42 (by decide) (fun q9 => absurd q9 (by decide)) (fun _ => ?_)
  refine lv_ldc2 (v := 31) hx hb hown (hts (.constantLong RX11 362 (31)) (by decide +kernel)) dX11_digestKinds_45 ?_
  refine lv_lload_n hx hb dX11_digestKinds_48 rfl (lv_at hl 1 rfl) ?_
  refine lv_lmul hx hb dX11_digestKinds_49 ?_
  refine tp_l (y := 6171825193135167951) (by decide) ?_
  refine lv_aload_n hx hb dX11_digestKinds_50 rfl (lv_at hl 3 rfl) ?_
  refine va_get (D := D) (ci := 11) (v := .ref wo) (C := RX11) (T := TX11) (N := 11) hx hb hts (fun _ h => List.mem_cons_of_mem _ (List.mem_append_left _ (List.mem_append_right _ h))) hown hK hP 0 rfl rfl 0 (by decide) (hts (.fieldLink RX11 10 "TalePlay" "world" "LTalePlay$World;") (by decide +kernel)) (fun _ h9 => h9) rfl dX11_digestKinds_51 ?_
  refine va_get (D := D) (ci := 10) (v := .ref wd) (C := RX10) (T := TX10) (N := 7) hx hb hts (fun _ h => List.mem_cons_of_mem _ (List.mem_append_right _ h)) hown hK hP 1 rfl rfl 2 (by decide) (hts (.fieldLink RX11 367 "TalePlay$World" "standards" "[I") (by decide +kernel)) (fun _ h9 => h9) rfl dX11_digestKinds_54 ?_
  refine lv_iload hx hb dX11_digestKinds_57 (lv_at hl 2 rfl) ?_
  refine lv_bipush (v := 6) hx hb dX11_digestKinds_59 (by decide) ?_
  refine lv_imul hx hb dX11_digestKinds_61 ?_
  refine tp_i (y := 18) (by decide) ?_
  refine lv_iload hx hb dX11_digestKinds_62 (lv_at hl 0 rfl) ?_
  refine lv_iadd hx hb dX11_digestKinds_64 ?_
  refine tp_i (y := 20) (by decide) ?_
  refine va_iald hx hb hK hP 3 1 rfl rfl (show vp_in 20 144 from by unfold vp_in; decide) dX11_digestKinds_65 ?_
  refine tp_i (y := (-9)) (hfd _ (by decide)) ?_
  refine lv_i2l (v := (-9)) hx hb dX11_digestKinds_66 (by decide) ?_
  refine lv_ladd hx hb dX11_digestKinds_67 ?_
  refine tp_l (y := 6171825193135167942) (by decide) ?_
  refine lv_lstore_n (lv' := [(3, .long 6171825193135167942), (6, .int 2), (5, .int 3), (0, .ref x0), (1, .long 17)]) hx hb dX11_digestKinds_68 rfl hl (by decide) rfl (fun ls hl => ?_)
  refine lv_iinc (v := 3) (lv' := [(6, .int 3), (3, .long 6171825193135167942), (5, .int 3), (0, .ref x0), (1, .long 17)]) hx hb dX11_digestKinds_69 hl (k := 1) rfl (by decide) (by decide) rfl (fun ls hl => ?_)
  refine lv_goto (tgt := 38) hx hb dX11_digestKinds_72 (by decide) ?_
  refine lv_iload hx hb dX11_digestKinds_38 (lv_at hl 0 rfl) ?_
  refine lv_bipush (v := 6) hx hb dX11_digestKinds_40 (by decide) ?_
  refine lv_icmp_ge (tgt := 75) hx hb dX11_digestKinds_42 (by decide) (fun q9 => absurd q9 (by decide)) (fun _ => ?_)
  refine lv_ldc2 (v := 31) hx hb hown (hts (.constantLong RX11 362 (31)) (by decide +kernel)) dX11_digestKinds_45 ?_
  refine lv_lload_n hx hb dX11_digestKinds_48 rfl (lv_at hl 1 rfl) ?_
  refine lv_lmul hx hb dX11_digestKinds_49 ?_
  refine tp_l (y := 6859140250094690042) (by decide) ?_
  refine lv_aload_n hx hb dX11_digestKinds_50 rfl (lv_at hl 3 rfl) ?_
  refine va_get (D := D) (ci := 11) (v := .ref wo) (C := RX11) (T := TX11) (N := 11) hx hb hts (fun _ h => List.mem_cons_of_mem _ (List.mem_append_left _ (List.mem_append_right _ h))) hown hK hP 0 rfl rfl 0 (by decide) (hts (.fieldLink RX11 10 "TalePlay" "world" "LTalePlay$World;") (by decide +kernel)) (fun _ h9 => h9) rfl dX11_digestKinds_51 ?_
  refine va_get (D := D) (ci := 10) (v := .ref wd) (C := RX10) (T := TX10) (N := 7) hx hb hts (fun _ h => List.mem_cons_of_mem _ (List.mem_append_right _ h)) hown hK hP 1 rfl rfl 2 (by decide) (hts (.fieldLink RX11 367 "TalePlay$World" "standards" "[I") (by decide +kernel)) (fun _ h9 => h9) rfl dX11_digestKinds_54 ?_
  refine lv_iload hx hb dX11_digestKinds_57 (lv_at hl 2 rfl) ?_
  refine lv_bipush (v := 6) hx hb dX11_digestKinds_59 (by decide) ?_
  refine lv_imul hx hb dX11_digestKinds_61 ?_
  refine tp_i (y := 18) (by decide) ?_
  refine lv_iload hx hb dX11_digestKinds_62 (lv_at hl 0 rfl) ?_
  refine lv_iadd hx hb dX11_digestKinds_64 ?_
  refine tp_i (y := 21) (by decide) ?_
  refine va_iald hx hb hK hP 3 1 rfl rfl (show vp_in 21 144 from by unfold vp_in; decide) dX11_digestKinds_65 ?_
  refine tp_i (y := (-9)) (hfd _ (by decide)) ?_
  refine lv_i2l (v := (-9)) hx hb dX11_digestKinds_66 (by decide) ?_
  refine lv_ladd hx hb dX11_digestKinds_67 ?_
  refine tp_l (y := 6859140250094690033) (by decide) ?_
  refine lv_lstore_n (lv' := [(3, .long 6859140250094690033), (6, .int 3), (5, .int 3), (0, .ref x0), (1, .long 17)]) hx hb dX11_digestKinds_68 rfl hl (by decide) rfl (fun ls hl => ?_)
  refine lv_iinc (v := 4) (lv' := [(6, .int 4), (3, .long 6859140250094690033), (5, .int 3), (0, .ref x0), (1, .long 17)]) hx hb dX11_digestKinds_69 hl (k := 1) rfl (by decide) (by decide) rfl (fun ls hl => ?_)
  refine lv_goto (tgt := 38) hx hb dX11_digestKinds_72 (by decide) ?_
  refine lv_iload hx hb dX11_digestKinds_38 (lv_at hl 0 rfl) ?_
  refine lv_bipush (v := 6) hx hb dX11_digestKinds_40 (by decide) ?_
  refine lv_icmp_ge (tgt := 75) hx hb dX11_digestKinds_42 (by decide) (fun q9 => absurd q9 (by decide)) (fun _ => ?_)
  refine lv_ldc2 (v := 31) hx hb hown (hts (.constantLong RX11 362 (31)) (by decide +kernel)) dX11_digestKinds_45 ?_
  refine lv_lload_n hx hb dX11_digestKinds_48 rfl (lv_at hl 1 rfl) ?_
  refine lv_lmul hx hb dX11_digestKinds_49 ?_
  refine tp_l (y := (-8727581131579228369)) (by decide) ?_
  refine lv_aload_n hx hb dX11_digestKinds_50 rfl (lv_at hl 3 rfl) ?_
  refine va_get (D := D) (ci := 11) (v := .ref wo) (C := RX11) (T := TX11) (N := 11) hx hb hts (fun _ h => List.mem_cons_of_mem _ (List.mem_append_left _ (List.mem_append_right _ h))) hown hK hP 0 rfl rfl 0 (by decide) (hts (.fieldLink RX11 10 "TalePlay" "world" "LTalePlay$World;") (by decide +kernel)) (fun _ h9 => h9) rfl dX11_digestKinds_51 ?_
  refine va_get (D := D) (ci := 10) (v := .ref wd) (C := RX10) (T := TX10) (N := 7) hx hb hts (fun _ h => List.mem_cons_of_mem _ (List.mem_append_right _ h)) hown hK hP 1 rfl rfl 2 (by decide) (hts (.fieldLink RX11 367 "TalePlay$World" "standards" "[I") (by decide +kernel)) (fun _ h9 => h9) rfl dX11_digestKinds_54 ?_
  refine lv_iload hx hb dX11_digestKinds_57 (lv_at hl 2 rfl) ?_
  refine lv_bipush (v := 6) hx hb dX11_digestKinds_59 (by decide) ?_
  refine lv_imul hx hb dX11_digestKinds_61 ?_
  refine tp_i (y := 18) (by decide) ?_
  refine lv_iload hx hb dX11_digestKinds_62 (lv_at hl 0 rfl) ?_
  refine lv_iadd hx hb dX11_digestKinds_64 ?_
  refine tp_i (y := 22) (by decide) ?_
  refine va_iald hx hb hK hP 3 1 rfl rfl (show vp_in 22 144 from by unfold vp_in; decide) dX11_digestKinds_65 ?_
  refine tp_i (y := (-9)) (hfd _ (by decide)) ?_
  refine lv_i2l (v := (-9)) hx hb dX11_digestKinds_66 (by decide) ?_
  refine lv_ladd hx hb dX11_digestKinds_67 ?_
  refine tp_l (y := (-8727581131579228378)) (by decide) ?_
  refine lv_lstore_n (lv' := [(3, .long (-8727581131579228378)), (6, .int 4), (5, .int 3), (0, .ref x0), (1, .long 17)]) hx hb dX11_digestKinds_68 rfl hl (by decide) rfl (fun ls hl => ?_)
  refine lv_iinc (v := 5) (lv' := [(6, .int 5), (3, .long (-8727581131579228378)), (5, .int 3), (0, .ref x0), (1, .long 17)]) hx hb dX11_digestKinds_69 hl (k := 1) rfl (by decide) (by decide) rfl (fun ls hl => ?_)
  refine lv_goto (tgt := 38) hx hb dX11_digestKinds_72 (by decide) ?_
  refine lv_iload hx hb dX11_digestKinds_38 (lv_at hl 0 rfl) ?_
  refine lv_bipush (v := 6) hx hb dX11_digestKinds_40 (by decide) ?_
  refine lv_icmp_ge (tgt := 75) hx hb dX11_digestKinds_42 (by decide) (fun q9 => absurd q9 (by decide)) (fun _ => ?_)
  refine lv_ldc2 (v := 31) hx hb hown (hts (.constantLong RX11 362 (31)) (by decide +kernel)) dX11_digestKinds_45 ?_
  refine lv_lload_n hx hb dX11_digestKinds_48 rfl (lv_at hl 1 rfl) ?_
  refine lv_lmul hx hb dX11_digestKinds_49 ?_
  refine tp_l (y := 6146146026687194522) (by decide) ?_
  refine lv_aload_n hx hb dX11_digestKinds_50 rfl (lv_at hl 3 rfl) ?_
  refine va_get (D := D) (ci := 11) (v := .ref wo) (C := RX11) (T := TX11) (N := 11) hx hb hts (fun _ h => List.mem_cons_of_mem _ (List.mem_append_left _ (List.mem_append_right _ h))) hown hK hP 0 rfl rfl 0 (by decide) (hts (.fieldLink RX11 10 "TalePlay" "world" "LTalePlay$World;") (by decide +kernel)) (fun _ h9 => h9) rfl dX11_digestKinds_51 ?_
  refine va_get (D := D) (ci := 10) (v := .ref wd) (C := RX10) (T := TX10) (N := 7) hx hb hts (fun _ h => List.mem_cons_of_mem _ (List.mem_append_right _ h)) hown hK hP 1 rfl rfl 2 (by decide) (hts (.fieldLink RX11 367 "TalePlay$World" "standards" "[I") (by decide +kernel)) (fun _ h9 => h9) rfl dX11_digestKinds_54 ?_
  refine lv_iload hx hb dX11_digestKinds_57 (lv_at hl 2 rfl) ?_
  refine lv_bipush (v := 6) hx hb dX11_digestKinds_59 (by decide) ?_
  refine lv_imul hx hb dX11_digestKinds_61 ?_
  refine tp_i (y := 18) (by decide) ?_
  refine lv_iload hx hb dX11_digestKinds_62 (lv_at hl 0 rfl) ?_
  refine lv_iadd hx hb dX11_digestKinds_64 ?_
  refine tp_i (y := 23) (by decide) ?_
  refine va_iald hx hb hK hP 3 1 rfl rfl (show vp_in 23 144 from by unfold vp_in; decide) dX11_digestKinds_65 ?_
  refine tp_i (y := (-9)) (hfd _ (by decide)) ?_
  refine lv_i2l (v := (-9)) hx hb dX11_digestKinds_66 (by decide) ?_
  refine lv_ladd hx hb dX11_digestKinds_67 ?_
  refine tp_l (y := 6146146026687194513) (by decide) ?_
  refine lv_lstore_n (lv' := [(3, .long 6146146026687194513), (6, .int 5), (5, .int 3), (0, .ref x0), (1, .long 17)]) hx hb dX11_digestKinds_68 rfl hl (by decide) rfl (fun ls hl => ?_)
  refine lv_iinc (v := 6) (lv' := [(6, .int 6), (3, .long 6146146026687194513), (5, .int 3), (0, .ref x0), (1, .long 17)]) hx hb dX11_digestKinds_69 hl (k := 1) rfl (by decide) (by decide) rfl (fun ls hl => ?_)
  refine lv_goto (tgt := 38) hx hb dX11_digestKinds_72 (by decide) ?_
  refine lv_iload hx hb dX11_digestKinds_38 (lv_at hl 0 rfl) ?_
  refine lv_bipush (v := 6) hx hb dX11_digestKinds_40 (by decide) ?_
  refine lv_icmp_ge (tgt := 75) hx hb dX11_digestKinds_42 (by decide) (fun _ => ?_) (fun q9 => absurd (by decide) q9)
  refine lv_iinc (v := 4) (lv' := [(5, .int 4), (6, .int 6), (3, .long 6146146026687194513), (0, .ref x0), (1, .long 17)]) hx hb dX11_digestKinds_75 hl (k := 2) rfl (by decide) (by decide) rfl (fun ls hl => ?_)
  refine lv_goto (tgt := 5) hx hb dX11_digestKinds_78 (by decide) ?_
  refine lv_iload hx hb dX11_digestKinds_5 (lv_at hl 0 rfl) ?_
  refine lv_aload_n hx hb dX11_digestKinds_7 rfl (lv_at hl 3 rfl) ?_
  refine va_get (D := D) (ci := 11) (v := .ref wo) (C := RX11) (T := TX11) (N := 11) hx hb hts (fun _ h => List.mem_cons_of_mem _ (List.mem_append_left _ (List.mem_append_right _ h))) hown hK hP 0 rfl rfl 0 (by decide) (hts (.fieldLink RX11 10 "TalePlay" "world" "LTalePlay$World;") (by decide +kernel)) (fun _ h9 => h9) rfl dX11_digestKinds_8 ?_
  refine va_get (D := D) (ci := 10) (v := .int 6) (C := RX10) (T := TX10) (N := 7) hx hb hts (fun _ h => List.mem_cons_of_mem _ (List.mem_append_right _ h)) hown hK hP 1 rfl rfl 5 (by decide) (hts (.fieldLink RX11 84 "TalePlay$World" "kinds" "I") (by decide +kernel)) (fun _ h9 => h9) rfl dX11_digestKinds_11 ?_
  refine lv_icmp_ge (tgt := 81) hx hb dX11_digestKinds_14 (by decide) (fun q9 => absurd q9 (by decide)) (fun _ => ?_)
  refine lv_ldc2 (v := 31) hx hb hown (hts (.constantLong RX11 362 (31)) (by decide +kernel)) dX11_digestKinds_17 ?_
  refine lv_lload_n hx hb dX11_digestKinds_20 rfl (lv_at hl 2 rfl) ?_
  refine lv_lmul hx hb dX11_digestKinds_21 ?_
  refine tp_l (y := 6063086090207513743) (by decide) ?_
  refine lv_aload_n hx hb dX11_digestKinds_22 rfl (lv_at hl 3 rfl) ?_
  refine va_get (D := D) (ci := 11) (v := .ref wo) (C := RX11) (T := TX11) (N := 11) hx hb hts (fun _ h => List.mem_cons_of_mem _ (List.mem_append_left _ (List.mem_append_right _ h))) hown hK hP 0 rfl rfl 0 (by decide) (hts (.fieldLink RX11 10 "TalePlay" "world" "LTalePlay$World;") (by decide +kernel)) (fun _ h9 => h9) rfl dX11_digestKinds_23 ?_
  refine va_get (D := D) (ci := 10) (v := .ref wp) (C := RX10) (T := TX10) (N := 7) hx hb hts (fun _ h => List.mem_cons_of_mem _ (List.mem_append_right _ h)) hown hK hP 1 rfl rfl 0 (by decide) (hts (.fieldLink RX11 364 "TalePlay$World" "parents" "[I") (by decide +kernel)) (fun _ h9 => h9) rfl dX11_digestKinds_26 ?_
  refine lv_iload hx hb dX11_digestKinds_29 (lv_at hl 0 rfl) ?_
  refine va_iald hx hb hK hP 2 0 rfl rfl (show vp_in 4 24 from by unfold vp_in; decide) dX11_digestKinds_31 ?_
  refine tp_i (y := 1) hp4 ?_
  refine lv_i2l (v := 1) hx hb dX11_digestKinds_32 (by decide) ?_
  refine lv_ladd hx hb dX11_digestKinds_33 ?_
  refine tp_l (y := 6063086090207513744) (by decide) ?_
  refine lv_lstore_n (lv' := [(3, .long 6063086090207513744), (5, .int 4), (6, .int 6), (0, .ref x0), (1, .long 17)]) hx hb dX11_digestKinds_34 rfl hl (by decide) rfl (fun ls hl => ?_)
  refine lv_iconst (v := 0) hx hb dX11_digestKinds_35 (by decide) ?_
  refine lv_istore (lv' := [(6, .int 0), (3, .long 6063086090207513744), (5, .int 4), (0, .ref x0), (1, .long 17)]) hx hb dX11_digestKinds_36 hl (by decide) rfl (fun ls hl => ?_)
  refine lv_iload hx hb dX11_digestKinds_38 (lv_at hl 0 rfl) ?_
  refine lv_bipush (v := 6) hx hb dX11_digestKinds_40 (by decide) ?_
  refine lv_icmp_ge (tgt := 75) hx hb dX11_digestKinds_42 (by decide) (fun q9 => absurd q9 (by decide)) (fun _ => ?_)
  refine lv_ldc2 (v := 31) hx hb hown (hts (.constantLong RX11 362 (31)) (by decide +kernel)) dX11_digestKinds_45 ?_
  refine lv_lload_n hx hb dX11_digestKinds_48 rfl (lv_at hl 1 rfl) ?_
  refine lv_lmul hx hb dX11_digestKinds_49 ?_
  refine tp_l (y := 3488228059337409904) (by decide) ?_
  refine lv_aload_n hx hb dX11_digestKinds_50 rfl (lv_at hl 3 rfl) ?_
  refine va_get (D := D) (ci := 11) (v := .ref wo) (C := RX11) (T := TX11) (N := 11) hx hb hts (fun _ h => List.mem_cons_of_mem _ (List.mem_append_left _ (List.mem_append_right _ h))) hown hK hP 0 rfl rfl 0 (by decide) (hts (.fieldLink RX11 10 "TalePlay" "world" "LTalePlay$World;") (by decide +kernel)) (fun _ h9 => h9) rfl dX11_digestKinds_51 ?_
  refine va_get (D := D) (ci := 10) (v := .ref wd) (C := RX10) (T := TX10) (N := 7) hx hb hts (fun _ h => List.mem_cons_of_mem _ (List.mem_append_right _ h)) hown hK hP 1 rfl rfl 2 (by decide) (hts (.fieldLink RX11 367 "TalePlay$World" "standards" "[I") (by decide +kernel)) (fun _ h9 => h9) rfl dX11_digestKinds_54 ?_
  refine lv_iload hx hb dX11_digestKinds_57 (lv_at hl 2 rfl) ?_
  refine lv_bipush (v := 6) hx hb dX11_digestKinds_59 (by decide) ?_
  refine lv_imul hx hb dX11_digestKinds_61 ?_
  refine tp_i (y := 24) (by decide) ?_
  refine lv_iload hx hb dX11_digestKinds_62 (lv_at hl 0 rfl) ?_
  refine lv_iadd hx hb dX11_digestKinds_64 ?_
  refine tp_i (y := 24) (by decide) ?_
  refine va_iald hx hb hK hP 3 1 rfl rfl (show vp_in 24 144 from by unfold vp_in; decide) dX11_digestKinds_65 ?_
  refine tp_i (y := (-9)) (hfd _ (by decide)) ?_
  refine lv_i2l (v := (-9)) hx hb dX11_digestKinds_66 (by decide) ?_
  refine lv_ladd hx hb dX11_digestKinds_67 ?_
  refine tp_l (y := 3488228059337409895) (by decide) ?_
  refine lv_lstore_n (lv' := [(3, .long 3488228059337409895), (6, .int 0), (5, .int 4), (0, .ref x0), (1, .long 17)]) hx hb dX11_digestKinds_68 rfl hl (by decide) rfl (fun ls hl => ?_)
  refine lv_iinc (v := 1) (lv' := [(6, .int 1), (3, .long 3488228059337409895), (5, .int 4), (0, .ref x0), (1, .long 17)]) hx hb dX11_digestKinds_69 hl (k := 1) rfl (by decide) (by decide) rfl (fun ls hl => ?_)
  refine lv_goto (tgt := 38) hx hb dX11_digestKinds_72 (by decide) ?_
  refine lv_iload hx hb dX11_digestKinds_38 (lv_at hl 0 rfl) ?_
  refine lv_bipush (v := 6) hx hb dX11_digestKinds_40 (by decide) ?_
  refine lv_icmp_ge (tgt := 75) hx hb dX11_digestKinds_42 (by decide) (fun q9 => absurd q9 (by decide)) (fun _ => ?_)
  refine lv_ldc2 (v := 31) hx hb hown (hts (.constantLong RX11 362 (31)) (by decide +kernel)) dX11_digestKinds_45 ?_
  refine lv_lload_n hx hb dX11_digestKinds_48 rfl (lv_at hl 1 rfl) ?_
  refine lv_lmul hx hb dX11_digestKinds_49 ?_
  refine tp_l (y := (-2545394602797602951)) (by decide) ?_
  refine lv_aload_n hx hb dX11_digestKinds_50 rfl (lv_at hl 3 rfl) ?_
  refine va_get (D := D) (ci := 11) (v := .ref wo) (C := RX11) (T := TX11) (N := 11) hx hb hts (fun _ h => List.mem_cons_of_mem _ (List.mem_append_left _ (List.mem_append_right _ h))) hown hK hP 0 rfl rfl 0 (by decide) (hts (.fieldLink RX11 10 "TalePlay" "world" "LTalePlay$World;") (by decide +kernel)) (fun _ h9 => h9) rfl dX11_digestKinds_51 ?_
  refine va_get (D := D) (ci := 10) (v := .ref wd) (C := RX10) (T := TX10) (N := 7) hx hb hts (fun _ h => List.mem_cons_of_mem _ (List.mem_append_right _ h)) hown hK hP 1 rfl rfl 2 (by decide) (hts (.fieldLink RX11 367 "TalePlay$World" "standards" "[I") (by decide +kernel)) (fun _ h9 => h9) rfl dX11_digestKinds_54 ?_
  refine lv_iload hx hb dX11_digestKinds_57 (lv_at hl 2 rfl) ?_
  refine lv_bipush (v := 6) hx hb dX11_digestKinds_59 (by decide) ?_
  refine lv_imul hx hb dX11_digestKinds_61 ?_
  refine tp_i (y := 24) (by decide) ?_
  refine lv_iload hx hb dX11_digestKinds_62 (lv_at hl 0 rfl) ?_
  refine lv_iadd hx hb dX11_digestKinds_64 ?_
  refine tp_i (y := 25) (by decide) ?_
  refine va_iald hx hb hK hP 3 1 rfl rfl (show vp_in 25 144 from by unfold vp_in; decide) dX11_digestKinds_65 ?_
  refine tp_i (y := (-9)) (hfd _ (by decide)) ?_
  refine lv_i2l (v := (-9)) hx hb dX11_digestKinds_66 (by decide) ?_
  refine lv_ladd hx hb dX11_digestKinds_67 ?_
  refine tp_l (y := (-2545394602797602960)) (by decide) ?_
  refine lv_lstore_n (lv' := [(3, .long (-2545394602797602960)), (6, .int 1), (5, .int 4), (0, .ref x0), (1, .long 17)]) hx hb dX11_digestKinds_68 rfl hl (by decide) rfl (fun ls hl => ?_)
  refine lv_iinc (v := 2) (lv' := [(6, .int 2), (3, .long (-2545394602797602960)), (5, .int 4), (0, .ref x0), (1, .long 17)]) hx hb dX11_digestKinds_69 hl (k := 1) rfl (by decide) (by decide) rfl (fun ls hl => ?_)
  refine lv_goto (tgt := 38) hx hb dX11_digestKinds_72 (by decide) ?_
  refine lv_iload hx hb dX11_digestKinds_38 (lv_at hl 0 rfl) ?_
  refine lv_bipush (v := 6) hx hb dX11_digestKinds_40 (by decide) ?_
  refine lv_icmp_ge (tgt := 75) hx hb dX11_digestKinds_42 (by decide) (fun q9 => absurd q9 (by decide)) (fun _ => ?_)
  refine lv_ldc2 (v := 31) hx hb hown (hts (.constantLong RX11 362 (31)) (by decide +kernel)) dX11_digestKinds_45 ?_
  refine lv_lload_n hx hb dX11_digestKinds_48 rfl (lv_at hl 1 rfl) ?_
  refine lv_lmul hx hb dX11_digestKinds_49 ?_
  refine tp_l (y := (-5120256391887485296)) (by decide) ?_
  refine lv_aload_n hx hb dX11_digestKinds_50 rfl (lv_at hl 3 rfl) ?_
  refine va_get (D := D) (ci := 11) (v := .ref wo) (C := RX11) (T := TX11) (N := 11) hx hb hts (fun _ h => List.mem_cons_of_mem _ (List.mem_append_left _ (List.mem_append_right _ h))) hown hK hP 0 rfl rfl 0 (by decide) (hts (.fieldLink RX11 10 "TalePlay" "world" "LTalePlay$World;") (by decide +kernel)) (fun _ h9 => h9) rfl dX11_digestKinds_51 ?_
  refine va_get (D := D) (ci := 10) (v := .ref wd) (C := RX10) (T := TX10) (N := 7) hx hb hts (fun _ h => List.mem_cons_of_mem _ (List.mem_append_right _ h)) hown hK hP 1 rfl rfl 2 (by decide) (hts (.fieldLink RX11 367 "TalePlay$World" "standards" "[I") (by decide +kernel)) (fun _ h9 => h9) rfl dX11_digestKinds_54 ?_
  refine lv_iload hx hb dX11_digestKinds_57 (lv_at hl 2 rfl) ?_
  refine lv_bipush (v := 6) hx hb dX11_digestKinds_59 (by decide) ?_
  refine lv_imul hx hb dX11_digestKinds_61 ?_
  refine tp_i (y := 24) (by decide) ?_
  refine lv_iload hx hb dX11_digestKinds_62 (lv_at hl 0 rfl) ?_
  refine lv_iadd hx hb dX11_digestKinds_64 ?_
  refine tp_i (y := 26) (by decide) ?_
  refine va_iald hx hb hK hP 3 1 rfl rfl (show vp_in 26 144 from by unfold vp_in; decide) dX11_digestKinds_65 ?_
  refine tp_i (y := (-9)) (hfd _ (by decide)) ?_
  refine lv_i2l (v := (-9)) hx hb dX11_digestKinds_66 (by decide) ?_
  refine lv_ladd hx hb dX11_digestKinds_67 ?_
  refine tp_l (y := (-5120256391887485305)) (by decide) ?_
  refine lv_lstore_n (lv' := [(3, .long (-5120256391887485305)), (6, .int 2), (5, .int 4), (0, .ref x0), (1, .long 17)]) hx hb dX11_digestKinds_68 rfl hl (by decide) rfl (fun ls hl => ?_)
  refine lv_iinc (v := 3) (lv' := [(6, .int 3), (3, .long (-5120256391887485305)), (5, .int 4), (0, .ref x0), (1, .long 17)]) hx hb dX11_digestKinds_69 hl (k := 1) rfl (by decide) (by decide) rfl (fun ls hl => ?_)
  refine lv_goto (tgt := 38) hx hb dX11_digestKinds_72 (by decide) ?_
  refine lv_iload hx hb dX11_digestKinds_38 (lv_at hl 0 rfl) ?_
  refine lv_bipush (v := 6) hx hb dX11_digestKinds_40 (by decide) ?_
  refine lv_icmp_ge (tgt := 75) hx hb dX11_digestKinds_42 (by decide) (fun q9 => absurd q9 (by decide)) (fun _ => ?_)
  refine lv_ldc2 (v := 31) hx hb hown (hts (.constantLong RX11 362 (31)) (by decide +kernel)) dX11_digestKinds_45 ?_
  refine lv_lload_n hx hb dX11_digestKinds_48 rfl (lv_at hl 1 rfl) ?_
  refine lv_lmul hx hb dX11_digestKinds_49 ?_
  refine tp_l (y := 7292748514873920089) (by decide) ?_
  refine lv_aload_n hx hb dX11_digestKinds_50 rfl (lv_at hl 3 rfl) ?_
  refine va_get (D := D) (ci := 11) (v := .ref wo) (C := RX11) (T := TX11) (N := 11) hx hb hts (fun _ h => List.mem_cons_of_mem _ (List.mem_append_left _ (List.mem_append_right _ h))) hown hK hP 0 rfl rfl 0 (by decide) (hts (.fieldLink RX11 10 "TalePlay" "world" "LTalePlay$World;") (by decide +kernel)) (fun _ h9 => h9) rfl dX11_digestKinds_51 ?_
  refine va_get (D := D) (ci := 10) (v := .ref wd) (C := RX10) (T := TX10) (N := 7) hx hb hts (fun _ h => List.mem_cons_of_mem _ (List.mem_append_right _ h)) hown hK hP 1 rfl rfl 2 (by decide) (hts (.fieldLink RX11 367 "TalePlay$World" "standards" "[I") (by decide +kernel)) (fun _ h9 => h9) rfl dX11_digestKinds_54 ?_
  refine lv_iload hx hb dX11_digestKinds_57 (lv_at hl 2 rfl) ?_
  refine lv_bipush (v := 6) hx hb dX11_digestKinds_59 (by decide) ?_
  refine lv_imul hx hb dX11_digestKinds_61 ?_
  refine tp_i (y := 24) (by decide) ?_
  refine lv_iload hx hb dX11_digestKinds_62 (lv_at hl 0 rfl) ?_
  refine lv_iadd hx hb dX11_digestKinds_64 ?_
  refine tp_i (y := 27) (by decide) ?_
  refine va_iald hx hb hK hP 3 1 rfl rfl (show vp_in 27 144 from by unfold vp_in; decide) dX11_digestKinds_65 ?_
  refine tp_i (y := (-9)) (hfd _ (by decide)) ?_
  refine lv_i2l (v := (-9)) hx hb dX11_digestKinds_66 (by decide) ?_
  refine lv_ladd hx hb dX11_digestKinds_67 ?_
  refine tp_l (y := 7292748514873920080) (by decide) ?_
  refine lv_lstore_n (lv' := [(3, .long 7292748514873920080), (6, .int 3), (5, .int 4), (0, .ref x0), (1, .long 17)]) hx hb dX11_digestKinds_68 rfl hl (by decide) rfl (fun ls hl => ?_)
  refine lv_iinc (v := 4) (lv' := [(6, .int 4), (3, .long 7292748514873920080), (5, .int 4), (0, .ref x0), (1, .long 17)]) hx hb dX11_digestKinds_69 hl (k := 1) rfl (by decide) (by decide) rfl (fun ls hl => ?_)
  refine lv_goto (tgt := 38) hx hb dX11_digestKinds_72 (by decide) ?_
  refine lv_iload hx hb dX11_digestKinds_38 (lv_at hl 0 rfl) ?_
  refine lv_bipush (v := 6) hx hb dX11_digestKinds_40 (by decide) ?_
  refine lv_icmp_ge (tgt := 75) hx hb dX11_digestKinds_42 (by decide) (fun q9 => absurd q9 (by decide)) (fun _ => ?_)
  refine lv_ldc2 (v := 31) hx hb hown (hts (.constantLong RX11 362 (31)) (by decide +kernel)) dX11_digestKinds_45 ?_
  refine lv_lload_n hx hb dX11_digestKinds_48 rfl (lv_at hl 1 rfl) ?_
  refine lv_lmul hx hb dX11_digestKinds_49 ?_
  refine tp_l (y := 4714275076576903088) (by decide) ?_
  refine lv_aload_n hx hb dX11_digestKinds_50 rfl (lv_at hl 3 rfl) ?_
  refine va_get (D := D) (ci := 11) (v := .ref wo) (C := RX11) (T := TX11) (N := 11) hx hb hts (fun _ h => List.mem_cons_of_mem _ (List.mem_append_left _ (List.mem_append_right _ h))) hown hK hP 0 rfl rfl 0 (by decide) (hts (.fieldLink RX11 10 "TalePlay" "world" "LTalePlay$World;") (by decide +kernel)) (fun _ h9 => h9) rfl dX11_digestKinds_51 ?_
  refine va_get (D := D) (ci := 10) (v := .ref wd) (C := RX10) (T := TX10) (N := 7) hx hb hts (fun _ h => List.mem_cons_of_mem _ (List.mem_append_right _ h)) hown hK hP 1 rfl rfl 2 (by decide) (hts (.fieldLink RX11 367 "TalePlay$World" "standards" "[I") (by decide +kernel)) (fun _ h9 => h9) rfl dX11_digestKinds_54 ?_
  refine lv_iload hx hb dX11_digestKinds_57 (lv_at hl 2 rfl) ?_
  refine lv_bipush (v := 6) hx hb dX11_digestKinds_59 (by decide) ?_
  refine lv_imul hx hb dX11_digestKinds_61 ?_
  refine tp_i (y := 24) (by decide) ?_
  refine lv_iload hx hb dX11_digestKinds_62 (lv_at hl 0 rfl) ?_
  refine lv_iadd hx hb dX11_digestKinds_64 ?_
  refine tp_i (y := 28) (by decide) ?_
  refine va_iald hx hb hK hP 3 1 rfl rfl (show vp_in 28 144 from by unfold vp_in; decide) dX11_digestKinds_65 ?_
  refine tp_i (y := (-9)) (hfd _ (by decide)) ?_
  refine lv_i2l (v := (-9)) hx hb dX11_digestKinds_66 (by decide) ?_
  refine lv_ladd hx hb dX11_digestKinds_67 ?_
  refine tp_l (y := 4714275076576903079) (by decide) ?_
  refine lv_lstore_n (lv' := [(3, .long 4714275076576903079), (6, .int 4), (5, .int 4), (0, .ref x0), (1, .long 17)]) hx hb dX11_digestKinds_68 rfl hl (by decide) rfl (fun ls hl => ?_)
  refine lv_iinc (v := 5) (lv' := [(6, .int 5), (3, .long 4714275076576903079), (5, .int 4), (0, .ref x0), (1, .long 17)]) hx hb dX11_digestKinds_69 hl (k := 1) rfl (by decide) (by decide) rfl (fun ls hl => ?_)
  refine lv_goto (tgt := 38) hx hb dX11_digestKinds_72 (by decide) ?_
  refine lv_iload hx hb dX11_digestKinds_38 (lv_at hl 0 rfl) ?_
  refine lv_bipush (v := 6) hx hb dX11_digestKinds_40 (by decide) ?_
  refine lv_icmp_ge (tgt := 75) hx hb dX11_digestKinds_42 (by decide) (fun q9 => absurd q9 (by decide)) (fun _ => ?_)
  refine lv_ldc2 (v := 31) hx hb hown (hts (.constantLong RX11 362 (31)) (by decide +kernel)) dX11_digestKinds_45 ?_
  refine lv_lload_n hx hb dX11_digestKinds_48 rfl (lv_at hl 1 rfl) ?_
  refine lv_lmul hx hb dX11_digestKinds_49 ?_
  refine tp_l (y := (-1431425215792417479)) (by decide) ?_
  refine lv_aload_n hx hb dX11_digestKinds_50 rfl (lv_at hl 3 rfl) ?_
  refine va_get (D := D) (ci := 11) (v := .ref wo) (C := RX11) (T := TX11) (N := 11) hx hb hts (fun _ h => List.mem_cons_of_mem _ (List.mem_append_left _ (List.mem_append_right _ h))) hown hK hP 0 rfl rfl 0 (by decide) (hts (.fieldLink RX11 10 "TalePlay" "world" "LTalePlay$World;") (by decide +kernel)) (fun _ h9 => h9) rfl dX11_digestKinds_51 ?_
  refine va_get (D := D) (ci := 10) (v := .ref wd) (C := RX10) (T := TX10) (N := 7) hx hb hts (fun _ h => List.mem_cons_of_mem _ (List.mem_append_right _ h)) hown hK hP 1 rfl rfl 2 (by decide) (hts (.fieldLink RX11 367 "TalePlay$World" "standards" "[I") (by decide +kernel)) (fun _ h9 => h9) rfl dX11_digestKinds_54 ?_
  refine lv_iload hx hb dX11_digestKinds_57 (lv_at hl 2 rfl) ?_
  refine lv_bipush (v := 6) hx hb dX11_digestKinds_59 (by decide) ?_
  refine lv_imul hx hb dX11_digestKinds_61 ?_
  refine tp_i (y := 24) (by decide) ?_
  refine lv_iload hx hb dX11_digestKinds_62 (lv_at hl 0 rfl) ?_
  refine lv_iadd hx hb dX11_digestKinds_64 ?_
  refine tp_i (y := 29) (by decide) ?_
  refine va_iald hx hb hK hP 3 1 rfl rfl (show vp_in 29 144 from by unfold vp_in; decide) dX11_digestKinds_65 ?_
  refine tp_i (y := (-9)) (hfd _ (by decide)) ?_
  refine lv_i2l (v := (-9)) hx hb dX11_digestKinds_66 (by decide) ?_
  refine lv_ladd hx hb dX11_digestKinds_67 ?_
  refine tp_l (y := (-1431425215792417488)) (by decide) ?_
  refine lv_lstore_n (lv' := [(3, .long (-1431425215792417488)), (6, .int 5), (5, .int 4), (0, .ref x0), (1, .long 17)]) hx hb dX11_digestKinds_68 rfl hl (by decide) rfl (fun ls hl => ?_)
  refine lv_iinc (v := 6) (lv' := [(6, .int 6), (3, .long (-1431425215792417488)), (5, .int 4), (0, .ref x0), (1, .long 17)]) hx hb dX11_digestKinds_69 hl (k := 1) rfl (by decide) (by decide) rfl (fun ls hl => ?_)
  refine lv_goto (tgt := 38) hx hb dX11_digestKinds_72 (by decide) ?_
  refine lv_iload hx hb dX11_digestKinds_38 (lv_at hl 0 rfl) ?_
  refine lv_bipush (v := 6) hx hb dX11_digestKinds_40 (by decide) ?_
  refine lv_icmp_ge (tgt := 75) hx hb dX11_digestKinds_42 (by decide) (fun _ => ?_) (fun q9 => absurd (by decide) q9)
  refine lv_iinc (v := 5) (lv' := [(5, .int 5), (6, .int 6), (3, .long (-1431425215792417488)), (0, .ref x0), (1, .long 17)]) hx hb dX11_digestKinds_75 hl (k := 2) rfl (by decide) (by decide) rfl (fun ls hl => ?_)
  refine lv_goto (tgt := 5) hx hb dX11_digestKinds_78 (by decide) ?_
  refine lv_iload hx hb dX11_digestKinds_5 (lv_at hl 0 rfl) ?_
  refine lv_aload_n hx hb dX11_digestKinds_7 rfl (lv_at hl 3 rfl) ?_
  refine va_get (D := D) (ci := 11) (v := .ref wo) (C := RX11) (T := TX11) (N := 11) hx hb hts (fun _ h => List.mem_cons_of_mem _ (List.mem_append_left _ (List.mem_append_right _ h))) hown hK hP 0 rfl rfl 0 (by decide) (hts (.fieldLink RX11 10 "TalePlay" "world" "LTalePlay$World;") (by decide +kernel)) (fun _ h9 => h9) rfl dX11_digestKinds_8 ?_
  refine va_get (D := D) (ci := 10) (v := .int 6) (C := RX10) (T := TX10) (N := 7) hx hb hts (fun _ h => List.mem_cons_of_mem _ (List.mem_append_right _ h)) hown hK hP 1 rfl rfl 5 (by decide) (hts (.fieldLink RX11 84 "TalePlay$World" "kinds" "I") (by decide +kernel)) (fun _ h9 => h9) rfl dX11_digestKinds_11 ?_
  refine lv_icmp_ge (tgt := 81) hx hb dX11_digestKinds_14 (by decide) (fun q9 => absurd q9 (by decide)) (fun _ => ?_)
  refine lv_ldc2 (v := 31) hx hb hown (hts (.constantLong RX11 362 (31)) (by decide +kernel)) dX11_digestKinds_17 ?_
  refine lv_lload_n hx hb dX11_digestKinds_20 rfl (lv_at hl 2 rfl) ?_
  refine lv_lmul hx hb dX11_digestKinds_21 ?_
  refine tp_l (y := (-7480693542145838896)) (by decide) ?_
  refine lv_aload_n hx hb dX11_digestKinds_22 rfl (lv_at hl 3 rfl) ?_
  refine va_get (D := D) (ci := 11) (v := .ref wo) (C := RX11) (T := TX11) (N := 11) hx hb hts (fun _ h => List.mem_cons_of_mem _ (List.mem_append_left _ (List.mem_append_right _ h))) hown hK hP 0 rfl rfl 0 (by decide) (hts (.fieldLink RX11 10 "TalePlay" "world" "LTalePlay$World;") (by decide +kernel)) (fun _ h9 => h9) rfl dX11_digestKinds_23 ?_
  refine va_get (D := D) (ci := 10) (v := .ref wp) (C := RX10) (T := TX10) (N := 7) hx hb hts (fun _ h => List.mem_cons_of_mem _ (List.mem_append_right _ h)) hown hK hP 1 rfl rfl 0 (by decide) (hts (.fieldLink RX11 364 "TalePlay$World" "parents" "[I") (by decide +kernel)) (fun _ h9 => h9) rfl dX11_digestKinds_26 ?_
  refine lv_iload hx hb dX11_digestKinds_29 (lv_at hl 0 rfl) ?_
  refine va_iald hx hb hK hP 2 0 rfl rfl (show vp_in 5 24 from by unfold vp_in; decide) dX11_digestKinds_31 ?_
  refine tp_i (y := 1) hp5 ?_
  refine lv_i2l (v := 1) hx hb dX11_digestKinds_32 (by decide) ?_
  refine lv_ladd hx hb dX11_digestKinds_33 ?_
  refine tp_l (y := (-7480693542145838895)) (by decide) ?_
  refine lv_lstore_n (lv' := [(3, .long (-7480693542145838895)), (5, .int 5), (6, .int 6), (0, .ref x0), (1, .long 17)]) hx hb dX11_digestKinds_34 rfl hl (by decide) rfl (fun ls hl => ?_)
  refine lv_iconst (v := 0) hx hb dX11_digestKinds_35 (by decide) ?_
  refine lv_istore (lv' := [(6, .int 0), (3, .long (-7480693542145838895)), (5, .int 5), (0, .ref x0), (1, .long 17)]) hx hb dX11_digestKinds_36 hl (by decide) rfl (fun ls hl => ?_)
  refine lv_iload hx hb dX11_digestKinds_38 (lv_at hl 0 rfl) ?_
  refine lv_bipush (v := 6) hx hb dX11_digestKinds_40 (by decide) ?_
  refine lv_icmp_ge (tgt := 75) hx hb dX11_digestKinds_42 (by decide) (fun q9 => absurd q9 (by decide)) (fun _ => ?_)
  refine lv_ldc2 (v := 31) hx hb hown (hts (.constantLong RX11 362 (31)) (by decide +kernel)) dX11_digestKinds_45 ?_
  refine lv_lload_n hx hb dX11_digestKinds_48 rfl (lv_at hl 1 rfl) ?_
  refine lv_lmul hx hb dX11_digestKinds_49 ?_
  refine tp_l (y := 7906173151703165263) (by decide) ?_
  refine lv_aload_n hx hb dX11_digestKinds_50 rfl (lv_at hl 3 rfl) ?_
  refine va_get (D := D) (ci := 11) (v := .ref wo) (C := RX11) (T := TX11) (N := 11) hx hb hts (fun _ h => List.mem_cons_of_mem _ (List.mem_append_left _ (List.mem_append_right _ h))) hown hK hP 0 rfl rfl 0 (by decide) (hts (.fieldLink RX11 10 "TalePlay" "world" "LTalePlay$World;") (by decide +kernel)) (fun _ h9 => h9) rfl dX11_digestKinds_51 ?_
  refine va_get (D := D) (ci := 10) (v := .ref wd) (C := RX10) (T := TX10) (N := 7) hx hb hts (fun _ h => List.mem_cons_of_mem _ (List.mem_append_right _ h)) hown hK hP 1 rfl rfl 2 (by decide) (hts (.fieldLink RX11 367 "TalePlay$World" "standards" "[I") (by decide +kernel)) (fun _ h9 => h9) rfl dX11_digestKinds_54 ?_
  refine lv_iload hx hb dX11_digestKinds_57 (lv_at hl 2 rfl) ?_
  refine lv_bipush (v := 6) hx hb dX11_digestKinds_59 (by decide) ?_
  refine lv_imul hx hb dX11_digestKinds_61 ?_
  refine tp_i (y := 30) (by decide) ?_
  refine lv_iload hx hb dX11_digestKinds_62 (lv_at hl 0 rfl) ?_
  refine lv_iadd hx hb dX11_digestKinds_64 ?_
  refine tp_i (y := 30) (by decide) ?_
  refine va_iald hx hb hK hP 3 1 rfl rfl (show vp_in 30 144 from by unfold vp_in; decide) dX11_digestKinds_65 ?_
  refine tp_i (y := (-9)) (hfd _ (by decide)) ?_
  refine lv_i2l (v := (-9)) hx hb dX11_digestKinds_66 (by decide) ?_
  refine lv_ladd hx hb dX11_digestKinds_67 ?_
  refine tp_l (y := 7906173151703165254) (by decide) ?_
  refine lv_lstore_n (lv' := [(3, .long 7906173151703165254), (6, .int 0), (5, .int 5), (0, .ref x0), (1, .long 17)]) hx hb dX11_digestKinds_68 rfl hl (by decide) rfl (fun ls hl => ?_)
  refine lv_iinc (v := 1) (lv' := [(6, .int 1), (3, .long 7906173151703165254), (5, .int 5), (0, .ref x0), (1, .long 17)]) hx hb dX11_digestKinds_69 hl (k := 1) rfl (by decide) (by decide) rfl (fun ls hl => ?_)
  refine lv_goto (tgt := 38) hx hb dX11_digestKinds_72 (by decide) ?_
  refine lv_iload hx hb dX11_digestKinds_38 (lv_at hl 0 rfl) ?_
  refine lv_bipush (v := 6) hx hb dX11_digestKinds_40 (by decide) ?_
  refine lv_icmp_ge (tgt := 75) hx hb dX11_digestKinds_42 (by decide) (fun q9 => absurd q9 (by decide)) (fun _ => ?_)
  refine lv_ldc2 (v := 31) hx hb hown (hts (.constantLong RX11 362 (31)) (by decide +kernel)) dX11_digestKinds_45 ?_
  refine lv_lload_n hx hb dX11_digestKinds_48 rfl (lv_at hl 1 rfl) ?_
  refine lv_lmul hx hb dX11_digestKinds_49 ?_
  refine tp_l (y := 5283694744573951866) (by decide) ?_
  refine lv_aload_n hx hb dX11_digestKinds_50 rfl (lv_at hl 3 rfl) ?_
  refine va_get (D := D) (ci := 11) (v := .ref wo) (C := RX11) (T := TX11) (N := 11) hx hb hts (fun _ h => List.mem_cons_of_mem _ (List.mem_append_left _ (List.mem_append_right _ h))) hown hK hP 0 rfl rfl 0 (by decide) (hts (.fieldLink RX11 10 "TalePlay" "world" "LTalePlay$World;") (by decide +kernel)) (fun _ h9 => h9) rfl dX11_digestKinds_51 ?_
  refine va_get (D := D) (ci := 10) (v := .ref wd) (C := RX10) (T := TX10) (N := 7) hx hb hts (fun _ h => List.mem_cons_of_mem _ (List.mem_append_right _ h)) hown hK hP 1 rfl rfl 2 (by decide) (hts (.fieldLink RX11 367 "TalePlay$World" "standards" "[I") (by decide +kernel)) (fun _ h9 => h9) rfl dX11_digestKinds_54 ?_
  refine lv_iload hx hb dX11_digestKinds_57 (lv_at hl 2 rfl) ?_
  refine lv_bipush (v := 6) hx hb dX11_digestKinds_59 (by decide) ?_
  refine lv_imul hx hb dX11_digestKinds_61 ?_
  refine tp_i (y := 30) (by decide) ?_
  refine lv_iload hx hb dX11_digestKinds_62 (lv_at hl 0 rfl) ?_
  refine lv_iadd hx hb dX11_digestKinds_64 ?_
  refine tp_i (y := 31) (by decide) ?_
  refine va_iald hx hb hK hP 3 1 rfl rfl (show vp_in 31 144 from by unfold vp_in; decide) dX11_digestKinds_65 ?_
  refine tp_i (y := (-9)) (hfd _ (by decide)) ?_
  refine lv_i2l (v := (-9)) hx hb dX11_digestKinds_66 (by decide) ?_
  refine lv_ladd hx hb dX11_digestKinds_67 ?_
  refine tp_l (y := 5283694744573951857) (by decide) ?_
  refine lv_lstore_n (lv' := [(3, .long 5283694744573951857), (6, .int 1), (5, .int 5), (0, .ref x0), (1, .long 17)]) hx hb dX11_digestKinds_68 rfl hl (by decide) rfl (fun ls hl => ?_)
  refine lv_iinc (v := 2) (lv' := [(6, .int 2), (3, .long 5283694744573951857), (5, .int 5), (0, .ref x0), (1, .long 17)]) hx hb dX11_digestKinds_69 hl (k := 1) rfl (by decide) (by decide) rfl (fun ls hl => ?_)
  refine lv_goto (tgt := 38) hx hb dX11_digestKinds_72 (by decide) ?_
  refine lv_iload hx hb dX11_digestKinds_38 (lv_at hl 0 rfl) ?_
  refine lv_bipush (v := 6) hx hb dX11_digestKinds_40 (by decide) ?_
  refine lv_icmp_ge (tgt := 75) hx hb dX11_digestKinds_42 (by decide) (fun q9 => absurd q9 (by decide)) (fun _ => ?_)
  refine lv_ldc2 (v := 31) hx hb hown (hts (.constantLong RX11 362 (31)) (by decide +kernel)) dX11_digestKinds_45 ?_
  refine lv_lload_n hx hb dX11_digestKinds_48 rfl (lv_at hl 1 rfl) ?_
  refine lv_lmul hx hb dX11_digestKinds_49 ?_
  refine tp_l (y := (-2226159581593456977)) (by decide) ?_
  refine lv_aload_n hx hb dX11_digestKinds_50 rfl (lv_at hl 3 rfl) ?_
  refine va_get (D := D) (ci := 11) (v := .ref wo) (C := RX11) (T := TX11) (N := 11) hx hb hts (fun _ h => List.mem_cons_of_mem _ (List.mem_append_left _ (List.mem_append_right _ h))) hown hK hP 0 rfl rfl 0 (by decide) (hts (.fieldLink RX11 10 "TalePlay" "world" "LTalePlay$World;") (by decide +kernel)) (fun _ h9 => h9) rfl dX11_digestKinds_51 ?_
  refine va_get (D := D) (ci := 10) (v := .ref wd) (C := RX10) (T := TX10) (N := 7) hx hb hts (fun _ h => List.mem_cons_of_mem _ (List.mem_append_right _ h)) hown hK hP 1 rfl rfl 2 (by decide) (hts (.fieldLink RX11 367 "TalePlay$World" "standards" "[I") (by decide +kernel)) (fun _ h9 => h9) rfl dX11_digestKinds_54 ?_
  refine lv_iload hx hb dX11_digestKinds_57 (lv_at hl 2 rfl) ?_
  refine lv_bipush (v := 6) hx hb dX11_digestKinds_59 (by decide) ?_
  refine lv_imul hx hb dX11_digestKinds_61 ?_
  refine tp_i (y := 30) (by decide) ?_
  refine lv_iload hx hb dX11_digestKinds_62 (lv_at hl 0 rfl) ?_
  refine lv_iadd hx hb dX11_digestKinds_64 ?_
  refine tp_i (y := 32) (by decide) ?_
  refine va_iald hx hb hK hP 3 1 rfl rfl (show vp_in 32 144 from by unfold vp_in; decide) dX11_digestKinds_65 ?_
  refine tp_i (y := (-9)) (hfd _ (by decide)) ?_
  refine lv_i2l (v := (-9)) hx hb dX11_digestKinds_66 (by decide) ?_
  refine lv_ladd hx hb dX11_digestKinds_67 ?_
  refine tp_l (y := (-2226159581593456986)) (by decide) ?_
  refine lv_lstore_n (lv' := [(3, .long (-2226159581593456986)), (6, .int 2), (5, .int 5), (0, .ref x0), (1, .long 17)]) hx hb dX11_digestKinds_68 rfl hl (by decide) rfl (fun ls hl => ?_)
  refine lv_iinc (v := 3) (lv' := [(6, .int 3), (3, .long (-2226159581593456986)), (5, .int 5), (0, .ref x0), (1, .long 17)]) hx hb dX11_digestKinds_69 hl (k := 1) rfl (by decide) (by decide) rfl (fun ls hl => ?_)
  refine lv_goto (tgt := 38) hx hb dX11_digestKinds_72 (by decide) ?_
  refine lv_iload hx hb dX11_digestKinds_38 (lv_at hl 0 rfl) ?_
  refine lv_bipush (v := 6) hx hb dX11_digestKinds_40 (by decide) ?_
  refine lv_icmp_ge (tgt := 75) hx hb dX11_digestKinds_42 (by decide) (fun q9 => absurd q9 (by decide)) (fun _ => ?_)
  refine lv_ldc2 (v := 31) hx hb hown (hts (.constantLong RX11 362 (31)) (by decide +kernel)) dX11_digestKinds_45 ?_
  refine lv_lload_n hx hb dX11_digestKinds_48 rfl (lv_at hl 1 rfl) ?_
  refine lv_lmul hx hb dX11_digestKinds_49 ?_
  refine tp_l (y := 4776029265441039898) (by decide) ?_
  refine lv_aload_n hx hb dX11_digestKinds_50 rfl (lv_at hl 3 rfl) ?_
  refine va_get (D := D) (ci := 11) (v := .ref wo) (C := RX11) (T := TX11) (N := 11) hx hb hts (fun _ h => List.mem_cons_of_mem _ (List.mem_append_left _ (List.mem_append_right _ h))) hown hK hP 0 rfl rfl 0 (by decide) (hts (.fieldLink RX11 10 "TalePlay" "world" "LTalePlay$World;") (by decide +kernel)) (fun _ h9 => h9) rfl dX11_digestKinds_51 ?_
  refine va_get (D := D) (ci := 10) (v := .ref wd) (C := RX10) (T := TX10) (N := 7) hx hb hts (fun _ h => List.mem_cons_of_mem _ (List.mem_append_right _ h)) hown hK hP 1 rfl rfl 2 (by decide) (hts (.fieldLink RX11 367 "TalePlay$World" "standards" "[I") (by decide +kernel)) (fun _ h9 => h9) rfl dX11_digestKinds_54 ?_
  refine lv_iload hx hb dX11_digestKinds_57 (lv_at hl 2 rfl) ?_
  refine lv_bipush (v := 6) hx hb dX11_digestKinds_59 (by decide) ?_
  refine lv_imul hx hb dX11_digestKinds_61 ?_
  refine tp_i (y := 30) (by decide) ?_
  refine lv_iload hx hb dX11_digestKinds_62 (lv_at hl 0 rfl) ?_
  refine lv_iadd hx hb dX11_digestKinds_64 ?_
  refine tp_i (y := 33) (by decide) ?_
  refine va_iald hx hb hK hP 3 1 rfl rfl (show vp_in 33 144 from by unfold vp_in; decide) dX11_digestKinds_65 ?_
  refine tp_i (y := (-9)) (hfd _ (by decide)) ?_
  refine lv_i2l (v := (-9)) hx hb dX11_digestKinds_66 (by decide) ?_
  refine lv_ladd hx hb dX11_digestKinds_67 ?_
  refine tp_l (y := 4776029265441039889) (by decide) ?_
  refine lv_lstore_n (lv' := [(3, .long 4776029265441039889), (6, .int 3), (5, .int 5), (0, .ref x0), (1, .long 17)]) hx hb dX11_digestKinds_68 rfl hl (by decide) rfl (fun ls hl => ?_)
  refine lv_iinc (v := 4) (lv' := [(6, .int 4), (3, .long 4776029265441039889), (5, .int 5), (0, .ref x0), (1, .long 17)]) hx hb dX11_digestKinds_69 hl (k := 1) rfl (by decide) (by decide) rfl (fun ls hl => ?_)
  refine lv_goto (tgt := 38) hx hb dX11_digestKinds_72 (by decide) ?_
  refine lv_iload hx hb dX11_digestKinds_38 (lv_at hl 0 rfl) ?_
  refine lv_bipush (v := 6) hx hb dX11_digestKinds_40 (by decide) ?_
  refine lv_icmp_ge (tgt := 75) hx hb dX11_digestKinds_42 (by decide) (fun q9 => absurd q9 (by decide)) (fun _ => ?_)
  refine lv_ldc2 (v := 31) hx hb hown (hts (.constantLong RX11 362 (31)) (by decide +kernel)) dX11_digestKinds_45 ?_
  refine lv_lload_n hx hb dX11_digestKinds_48 rfl (lv_at hl 1 rfl) ?_
  refine lv_lmul hx hb dX11_digestKinds_49 ?_
  refine tp_l (y := 482954638995823631) (by decide) ?_
  refine lv_aload_n hx hb dX11_digestKinds_50 rfl (lv_at hl 3 rfl) ?_
  refine va_get (D := D) (ci := 11) (v := .ref wo) (C := RX11) (T := TX11) (N := 11) hx hb hts (fun _ h => List.mem_cons_of_mem _ (List.mem_append_left _ (List.mem_append_right _ h))) hown hK hP 0 rfl rfl 0 (by decide) (hts (.fieldLink RX11 10 "TalePlay" "world" "LTalePlay$World;") (by decide +kernel)) (fun _ h9 => h9) rfl dX11_digestKinds_51 ?_
  refine va_get (D := D) (ci := 10) (v := .ref wd) (C := RX10) (T := TX10) (N := 7) hx hb hts (fun _ h => List.mem_cons_of_mem _ (List.mem_append_right _ h)) hown hK hP 1 rfl rfl 2 (by decide) (hts (.fieldLink RX11 367 "TalePlay$World" "standards" "[I") (by decide +kernel)) (fun _ h9 => h9) rfl dX11_digestKinds_54 ?_
  refine lv_iload hx hb dX11_digestKinds_57 (lv_at hl 2 rfl) ?_
  refine lv_bipush (v := 6) hx hb dX11_digestKinds_59 (by decide) ?_
  refine lv_imul hx hb dX11_digestKinds_61 ?_
  refine tp_i (y := 30) (by decide) ?_
  refine lv_iload hx hb dX11_digestKinds_62 (lv_at hl 0 rfl) ?_
  refine lv_iadd hx hb dX11_digestKinds_64 ?_
  refine tp_i (y := 34) (by decide) ?_
  refine va_iald hx hb hK hP 3 1 rfl rfl (show vp_in 34 144 from by unfold vp_in; decide) dX11_digestKinds_65 ?_
  refine tp_i (y := (-9)) (hfd _ (by decide)) ?_
  refine lv_i2l (v := (-9)) hx hb dX11_digestKinds_66 (by decide) ?_
  refine lv_ladd hx hb dX11_digestKinds_67 ?_
  refine tp_l (y := 482954638995823622) (by decide) ?_
  refine lv_lstore_n (lv' := [(3, .long 482954638995823622), (6, .int 4), (5, .int 5), (0, .ref x0), (1, .long 17)]) hx hb dX11_digestKinds_68 rfl hl (by decide) rfl (fun ls hl => ?_)
  refine lv_iinc (v := 5) (lv' := [(6, .int 5), (3, .long 482954638995823622), (5, .int 5), (0, .ref x0), (1, .long 17)]) hx hb dX11_digestKinds_69 hl (k := 1) rfl (by decide) (by decide) rfl (fun ls hl => ?_)
  refine lv_goto (tgt := 38) hx hb dX11_digestKinds_72 (by decide) ?_
  refine lv_iload hx hb dX11_digestKinds_38 (lv_at hl 0 rfl) ?_
  refine lv_bipush (v := 6) hx hb dX11_digestKinds_40 (by decide) ?_
  refine lv_icmp_ge (tgt := 75) hx hb dX11_digestKinds_42 (by decide) (fun q9 => absurd q9 (by decide)) (fun _ => ?_)
  refine lv_ldc2 (v := 31) hx hb hown (hts (.constantLong RX11 362 (31)) (by decide +kernel)) dX11_digestKinds_45 ?_
  refine lv_lload_n hx hb dX11_digestKinds_48 rfl (lv_at hl 1 rfl) ?_
  refine lv_lmul hx hb dX11_digestKinds_49 ?_
  refine tp_l (y := (-3475150264839019334)) (by decide) ?_
  refine lv_aload_n hx hb dX11_digestKinds_50 rfl (lv_at hl 3 rfl) ?_
  refine va_get (D := D) (ci := 11) (v := .ref wo) (C := RX11) (T := TX11) (N := 11) hx hb hts (fun _ h => List.mem_cons_of_mem _ (List.mem_append_left _ (List.mem_append_right _ h))) hown hK hP 0 rfl rfl 0 (by decide) (hts (.fieldLink RX11 10 "TalePlay" "world" "LTalePlay$World;") (by decide +kernel)) (fun _ h9 => h9) rfl dX11_digestKinds_51 ?_
  refine va_get (D := D) (ci := 10) (v := .ref wd) (C := RX10) (T := TX10) (N := 7) hx hb hts (fun _ h => List.mem_cons_of_mem _ (List.mem_append_right _ h)) hown hK hP 1 rfl rfl 2 (by decide) (hts (.fieldLink RX11 367 "TalePlay$World" "standards" "[I") (by decide +kernel)) (fun _ h9 => h9) rfl dX11_digestKinds_54 ?_
  refine lv_iload hx hb dX11_digestKinds_57 (lv_at hl 2 rfl) ?_
  refine lv_bipush (v := 6) hx hb dX11_digestKinds_59 (by decide) ?_
  refine lv_imul hx hb dX11_digestKinds_61 ?_
  refine tp_i (y := 30) (by decide) ?_
  refine lv_iload hx hb dX11_digestKinds_62 (lv_at hl 0 rfl) ?_
  refine lv_iadd hx hb dX11_digestKinds_64 ?_
  refine tp_i (y := 35) (by decide) ?_
  refine va_iald hx hb hK hP 3 1 rfl rfl (show vp_in 35 144 from by unfold vp_in; decide) dX11_digestKinds_65 ?_
  refine tp_i (y := (-9)) (hfd _ (by decide)) ?_
  refine lv_i2l (v := (-9)) hx hb dX11_digestKinds_66 (by decide) ?_
  refine lv_ladd hx hb dX11_digestKinds_67 ?_
  refine tp_l (y := (-3475150264839019343)) (by decide) ?_
  refine lv_lstore_n (lv' := [(3, .long (-3475150264839019343)), (6, .int 5), (5, .int 5), (0, .ref x0), (1, .long 17)]) hx hb dX11_digestKinds_68 rfl hl (by decide) rfl (fun ls hl => ?_)
  refine lv_iinc (v := 6) (lv' := [(6, .int 6), (3, .long (-3475150264839019343)), (5, .int 5), (0, .ref x0), (1, .long 17)]) hx hb dX11_digestKinds_69 hl (k := 1) rfl (by decide) (by decide) rfl (fun ls hl => ?_)
  refine lv_goto (tgt := 38) hx hb dX11_digestKinds_72 (by decide) ?_
  refine lv_iload hx hb dX11_digestKinds_38 (lv_at hl 0 rfl) ?_
  refine lv_bipush (v := 6) hx hb dX11_digestKinds_40 (by decide) ?_
  refine lv_icmp_ge (tgt := 75) hx hb dX11_digestKinds_42 (by decide) (fun _ => ?_) (fun q9 => absurd (by decide) q9)
  refine lv_iinc (v := 6) (lv' := [(5, .int 6), (6, .int 6), (3, .long (-3475150264839019343)), (0, .ref x0), (1, .long 17)]) hx hb dX11_digestKinds_75 hl (k := 2) rfl (by decide) (by decide) rfl (fun ls hl => ?_)
  refine lv_goto (tgt := 5) hx hb dX11_digestKinds_78 (by decide) ?_
  refine lv_iload hx hb dX11_digestKinds_5 (lv_at hl 0 rfl) ?_
  refine lv_aload_n hx hb dX11_digestKinds_7 rfl (lv_at hl 3 rfl) ?_
  refine va_get (D := D) (ci := 11) (v := .ref wo) (C := RX11) (T := TX11) (N := 11) hx hb hts (fun _ h => List.mem_cons_of_mem _ (List.mem_append_left _ (List.mem_append_right _ h))) hown hK hP 0 rfl rfl 0 (by decide) (hts (.fieldLink RX11 10 "TalePlay" "world" "LTalePlay$World;") (by decide +kernel)) (fun _ h9 => h9) rfl dX11_digestKinds_8 ?_
  refine va_get (D := D) (ci := 10) (v := .int 6) (C := RX10) (T := TX10) (N := 7) hx hb hts (fun _ h => List.mem_cons_of_mem _ (List.mem_append_right _ h)) hown hK hP 1 rfl rfl 5 (by decide) (hts (.fieldLink RX11 84 "TalePlay$World" "kinds" "I") (by decide +kernel)) (fun _ h9 => h9) rfl dX11_digestKinds_11 ?_
  refine lv_icmp_ge (tgt := 81) hx hb dX11_digestKinds_14 (by decide) (fun _ => ?_) (fun q9 => absurd (by decide) q9)
  refine lv_lload_n hx hb dX11_digestKinds_81 rfl (lv_at hl 2 rfl) ?_
  exact ro_lret hx hb hr hlocks hS dX11_digestKinds_82 rfl

def wm_X11_digestObjects : List Cond := .code yX11_digestObjects cX11_digestObjects 7 (some .long) :: (([.fieldLink RX11 10 "TalePlay" "world" "LTalePlay$World;", .fieldLink RX11 102 "TalePlay$World" "objects" "I"] : List Cond) ++ wsX110 ++ wsX100)
set_option maxHeartbeats 4000000 in
set_option maxRecDepth 100000 in
theorem c_X11_digestObjects (l : Launch) (D : va_G) (sz : Nat) (x0 : Nat) (wo : Nat) (bo : Nat) (ro_ : Nat) (bu : Nat) (ta : Nat) (li : Nat) (ca : Nat) (fc : Nat) (wp : Nat) (ws_ : Nat) (wd : Nat) (wk : Nat) (wz : Nat) : Met l yX11_digestObjects wm_X11_digestObjects ({ frames := 0, cells := 0, slots := 0, locals := 0 }) (va_Pc [.ref x0, .long (-3475150264839019343)] (pA D sz [(x0, .inr (11, [.ref wo, .ref bo, .ref ro_, .ref bu, .ref ta, .ref li, .ref ca, .null, .ref fc, .int 0, .long 0])), (wo, .inr (10, [.ref wp, .ref ws_, .ref wd, .ref wk, .ref wz, .int 6, .int 0]))] [])) (va_Ql (fun (r : Int64) (_ : Unit) => r = (-3475150264839019343)) oA (ro sz)) 0 0 (ro sz) := by
  refine Met.ofW (cc := cX11_digestObjects) (maxL := 7) (ret := (some .long)) (by decide) rfl ?_
  intro p e s m args below meth c s₁ B hml hv
  obtain ⟨rfl, hsz, hP, hK⟩ := hv
  have hx := B.exec
  have hb := B.bytes
  have hr := B.returns
  have hts := atoms_spec (ws := wm_X11_digestObjects) B.pre
  have hown : s.vm.findClass RX11 = some m.cls := findClass_of_methodNamed B.named
  have hlocks := B.notSynchronized
  subst hsz
  have hA : ∀ q : Nat, s.heap.size ≤ q → ro s.heap.size q := fun _ h => h
  have hS : va_S (ro s.heap.size) s.heap s.heap [] := va_S.rf
  have hP : va_P D vwCl [(x0, .inr (11, [.ref wo, .ref bo, .ref ro_, .ref bu, .ref ta, .ref li, .ref ca, .null, .ref fc, .int 0, .long 0])), (wo, .inr (10, [.ref wp, .ref ws_, .ref wd, .ref wk, .ref wz, .int 6, .int 0]))] s.heap := hP
  have hl := lv_entry ([.ref x0, .long (-3475150264839019343)]) (n := 7) (Nat.le_of_ble_eq_true rfl)
  rw [lg_entry_eq]
  generalize (lg_sl ([.ref x0, .long (-3475150264839019343)]) ++ List.replicate (7 - (lg_sl ([.ref x0, .long (-3475150264839019343)])).length) Slot.unset).toArray = ls at hl ⊢
  have hl : lv_has ls 7 [(0, .ref x0), (1, .long (-3475150264839019343))] := hl
  refine lv_lload_n hx hb dX11_digestObjects_0 rfl (lv_at hl 1 rfl) ?_
  refine lv_lstore_n (lv' := [(3, .long (-3475150264839019343)), (0, .ref x0), (1, .long (-3475150264839019343))]) hx hb dX11_digestObjects_1 rfl hl (by decide) rfl (fun ls hl => ?_)
  refine lv_iconst (v := 0) hx hb dX11_digestObjects_2 (by decide) ?_
  refine lv_istore (lv' := [(5, .int 0), (3, .long (-3475150264839019343)), (0, .ref x0), (1, .long (-3475150264839019343))]) hx hb dX11_digestObjects_3 hl (by decide) rfl (fun ls hl => ?_)
  refine lv_iload hx hb dX11_digestObjects_5 (lv_at hl 0 rfl) ?_
  refine lv_aload_n hx hb dX11_digestObjects_7 rfl (lv_at hl 2 rfl) ?_
  refine va_get (D := D) (ci := 11) (v := .ref wo) (C := RX11) (T := TX11) (N := 11) hx hb hts (fun _ h => List.mem_cons_of_mem _ (List.mem_append_left _ (List.mem_append_right _ h))) hown hK hP 0 rfl rfl 0 (by decide) (hts (.fieldLink RX11 10 "TalePlay" "world" "LTalePlay$World;") (by decide +kernel)) (fun _ h9 => h9) rfl dX11_digestObjects_8 ?_
  refine va_get (D := D) (ci := 10) (v := .int 0) (C := RX10) (T := TX10) (N := 7) hx hb hts (fun _ h => List.mem_cons_of_mem _ (List.mem_append_right _ h)) hown hK hP 1 rfl rfl 6 (by decide) (hts (.fieldLink RX11 102 "TalePlay$World" "objects" "I") (by decide +kernel)) (fun _ h9 => h9) rfl dX11_digestObjects_11 ?_
  refine lv_icmp_ge (tgt := 144) hx hb dX11_digestObjects_14 (by decide) (fun _ => ?_) (fun q9 => absurd (by decide) q9)
  refine lv_lload_n hx hb dX11_digestObjects_144 rfl (lv_at hl 1 rfl) ?_
  exact ro_lret hx hb hr hlocks hS dX11_digestObjects_145 rfl

def wm_X11_digestSentences : List Cond := .code yX11_digestSentences cX11_digestSentences 7 (some .long) :: (([.fieldLink RX11 21 "TalePlay" "book" "LTalePlay$Book;", .fieldLink RX11 168 "TalePlay$Book" "total" "I"] : List Cond) ++ wsX110 ++ wsX10)
set_option maxHeartbeats 4000000 in
set_option maxRecDepth 100000 in
theorem c_X11_digestSentences (l : Launch) (D : va_G) (sz : Nat) (x0 : Nat) (wo : Nat) (bo : Nat) (ro_ : Nat) (bu : Nat) (ta : Nat) (li : Nat) (ca : Nat) (fc : Nat) (b0 : Nat) (b1 : Nat) (b2 : Nat) (b3 : Nat) (b4 : Nat) (b5 : Nat) (b6 : Nat) (b7 : Nat) (b8 : Nat) (b9 : Nat) (b10 : Nat) : Met l yX11_digestSentences wm_X11_digestSentences ({ frames := 0, cells := 0, slots := 0, locals := 0 }) (va_Pc [.ref x0, .long (-3475150264839019343)] (pA D sz [(x0, .inr (11, [.ref wo, .ref bo, .ref ro_, .ref bu, .ref ta, .ref li, .ref ca, .null, .ref fc, .int 0, .long 0])), (bo, .inr (1, [.ref wo, .ref b0, .ref b1, .ref b2, .ref b3, .ref b4, .ref b5, .ref b6, .ref b7, .ref b8, .ref b9, .ref b10, .int 0, .int 0, .int 0]))] [])) (va_Ql (fun (r : Int64) (_ : Unit) => r = (-3475150264839019343)) oA (ro sz)) 0 0 (ro sz) := by
  refine Met.ofW (cc := cX11_digestSentences) (maxL := 7) (ret := (some .long)) (by decide) rfl ?_
  intro p e s m args below meth c s₁ B hml hv
  obtain ⟨rfl, hsz, hP, hK⟩ := hv
  have hx := B.exec
  have hb := B.bytes
  have hr := B.returns
  have hts := atoms_spec (ws := wm_X11_digestSentences) B.pre
  have hown : s.vm.findClass RX11 = some m.cls := findClass_of_methodNamed B.named
  have hlocks := B.notSynchronized
  subst hsz
  have hA : ∀ q : Nat, s.heap.size ≤ q → ro s.heap.size q := fun _ h => h
  have hS : va_S (ro s.heap.size) s.heap s.heap [] := va_S.rf
  have hP : va_P D vwCl [(x0, .inr (11, [.ref wo, .ref bo, .ref ro_, .ref bu, .ref ta, .ref li, .ref ca, .null, .ref fc, .int 0, .long 0])), (bo, .inr (1, [.ref wo, .ref b0, .ref b1, .ref b2, .ref b3, .ref b4, .ref b5, .ref b6, .ref b7, .ref b8, .ref b9, .ref b10, .int 0, .int 0, .int 0]))] s.heap := hP
  have hl := lv_entry ([.ref x0, .long (-3475150264839019343)]) (n := 7) (Nat.le_of_ble_eq_true rfl)
  rw [lg_entry_eq]
  generalize (lg_sl ([.ref x0, .long (-3475150264839019343)]) ++ List.replicate (7 - (lg_sl ([.ref x0, .long (-3475150264839019343)])).length) Slot.unset).toArray = ls at hl ⊢
  have hl : lv_has ls 7 [(0, .ref x0), (1, .long (-3475150264839019343))] := hl
  refine lv_lload_n hx hb dX11_digestSentences_0 rfl (lv_at hl 1 rfl) ?_
  refine lv_lstore_n (lv' := [(3, .long (-3475150264839019343)), (0, .ref x0), (1, .long (-3475150264839019343))]) hx hb dX11_digestSentences_1 rfl hl (by decide) rfl (fun ls hl => ?_)
  refine lv_iconst (v := 0) hx hb dX11_digestSentences_2 (by decide) ?_
  refine lv_istore (lv' := [(5, .int 0), (3, .long (-3475150264839019343)), (0, .ref x0), (1, .long (-3475150264839019343))]) hx hb dX11_digestSentences_3 hl (by decide) rfl (fun ls hl => ?_)
  refine lv_iload hx hb dX11_digestSentences_5 (lv_at hl 0 rfl) ?_
  refine lv_aload_n hx hb dX11_digestSentences_7 rfl (lv_at hl 2 rfl) ?_
  refine va_get (D := D) (ci := 11) (v := .ref bo) (C := RX11) (T := TX11) (N := 11) hx hb hts (fun _ h => List.mem_cons_of_mem _ (List.mem_append_left _ (List.mem_append_right _ h))) hown hK hP 0 rfl rfl 1 (by decide) (hts (.fieldLink RX11 21 "TalePlay" "book" "LTalePlay$Book;") (by decide +kernel)) (fun _ h9 => h9) rfl dX11_digestSentences_8 ?_
  refine va_get (D := D) (ci := 1) (v := .int 0) (C := RX1) (T := TX1) (N := 15) hx hb hts (fun _ h => List.mem_cons_of_mem _ (List.mem_append_right _ h)) hown hK hP 1 rfl rfl 13 (by decide) (hts (.fieldLink RX11 168 "TalePlay$Book" "total" "I") (by decide +kernel)) (fun _ h9 => h9) rfl dX11_digestSentences_11 ?_
  refine lv_icmp_ge (tgt := 57) hx hb dX11_digestSentences_14 (by decide) (fun _ => ?_) (fun q9 => absurd (by decide) q9)
  refine lv_lload_n hx hb dX11_digestSentences_57 rfl (lv_at hl 1 rfl) ?_
  exact ro_lret hx hb hr hlocks hS dX11_digestSentences_58 rfl

def wm_X11_digest : List Cond := .code yX11_digest cX11_digest 1 (some .long) :: (([.constantLong RX11 350 (17), .methodLink RX11 352 yX11_digestKinds, .instanceMethod yX11_digestKinds, .selects RX11 yX11_digestKinds yX11_digestKinds, .initialized RX11, .code yX11_digestKinds cX11_digestKinds 7 (some .long), .fieldLink RX11 10 "TalePlay" "world" "LTalePlay$World;", .fieldLink RX11 84 "TalePlay$World" "kinds" "I", .constantLong RX11 362 (31), .fieldLink RX11 364 "TalePlay$World" "parents" "[I", .fieldLink RX11 367 "TalePlay$World" "standards" "[I", .methodLink RX11 356 yX11_digestObjects, .instanceMethod yX11_digestObjects, .selects RX11 yX11_digestObjects yX11_digestObjects, .code yX11_digestObjects cX11_digestObjects 7 (some .long), .fieldLink RX11 102 "TalePlay$World" "objects" "I", .methodLink RX11 359 yX11_digestSentences, .instanceMethod yX11_digestSentences, .selects RX11 yX11_digestSentences yX11_digestSentences, .code yX11_digestSentences cX11_digestSentences 7 (some .long), .fieldLink RX11 21 "TalePlay" "book" "LTalePlay$Book;", .fieldLink RX11 168 "TalePlay$Book" "total" "I"] : List Cond) ++ wsX110 ++ wsX100 ++ wsX10)
set_option maxRecDepth 20000 in
theorem gm_X11_digest_X11_digestKinds : GoodIn wm_X11_digest (wsV RX11 352 RX11 yX11_digestKinds wm_X11_digestKinds) := goodIn_app (goodIn_of _ (by decide +kernel)) (goodIn_r _ [6, 7, 8, 9, 10, 11, 23, 24, 25, 26, 27, 28, 29, 30, 31, 32, 33, 34, 35, 36, 37, 38, 39, 40] (by decide +kernel) (by decide +kernel))
set_option maxRecDepth 20000 in
theorem gm_X11_digest_X11_digestObjects : GoodIn wm_X11_digest (wsV RX11 356 RX11 yX11_digestObjects wm_X11_digestObjects) := goodIn_app (goodIn_of _ (by decide +kernel)) (goodIn_r _ [15, 7, 16, 23, 24, 25, 26, 27, 28, 29, 30, 31, 32, 33, 34, 35, 36, 37, 38, 39, 40] (by decide +kernel) (by decide +kernel))
set_option maxRecDepth 20000 in
theorem gm_X11_digest_X11_digestSentences : GoodIn wm_X11_digest (wsV RX11 359 RX11 yX11_digestSentences wm_X11_digestSentences) := goodIn_app (goodIn_of _ (by decide +kernel)) (goodIn_r _ [20, 21, 22, 23, 24, 25, 26, 27, 28, 29, 30, 31, 32, 33, 41, 42, 43, 44, 45, 46, 47, 48, 49, 50, 51, 52, 53, 54, 55] (by decide +kernel) (by decide +kernel))
set_option maxHeartbeats 4000000 in
set_option maxRecDepth 100000 in
theorem c_X11_digest (l : Launch) (D : va_G) (sz : Nat) (x0 : Nat) (wo : Nat) (bo : Nat) (ro_ : Nat) (bu : Nat) (ta : Nat) (li : Nat) (ca : Nat) (fc : Nat) (wp : Nat) (ws_ : Nat) (wd : Nat) (wk : Nat) (wz : Nat) (b0 : Nat) (b1 : Nat) (b2 : Nat) (b3 : Nat) (b4 : Nat) (b5 : Nat) (b6 : Nat) (b7 : Nat) (b8 : Nat) (b9 : Nat) (b10 : Nat) (cP : ClassId) (fp : Nat → Int32) (cD : ClassId) (fd : Nat → Int32) (hp0 : fp 0 = -9) (hp1 : fp 1 = -9) (hp2 : fp 2 = 1) (hp3 : fp 3 = 1) (hp4 : fp 4 = 1) (hp5 : fp 5 = 1) (hfd : ∀ j, j < 144 → fd j = -9) : Met l yX11_digest wm_X11_digest ({ frames := 1, cells := 0, slots := 0, locals := 26 }) (va_Pc [.ref x0] (pA D sz [(x0, .inr (11, [.ref wo, .ref bo, .ref ro_, .ref bu, .ref ta, .ref li, .ref ca, .null, .ref fc, .int 0, .long 0])), (wo, .inr (10, [.ref wp, .ref ws_, .ref wd, .ref wk, .ref wz, .int 6, .int 0])), (wp, .inl (cP, 24, .inl fp)), (wd, .inl (cD, 144, .inl fd)), (bo, .inr (1, [.ref wo, .ref b0, .ref b1, .ref b2, .ref b3, .ref b4, .ref b5, .ref b6, .ref b7, .ref b8, .ref b9, .ref b10, .int 0, .int 0, .int 0]))] [(cP, .int), (cD, .int)])) (va_Ql (fun (r : Int64) (_ : Unit) => r = (-3475150264839019343)) oA (ro sz)) 0 0 (ro sz) := by
  refine Met.ofW (cc := cX11_digest) (maxL := 1) (ret := (some .long)) (by decide) rfl ?_
  intro p e s m args below meth c s₁ B hml hv
  obtain ⟨rfl, hsz, hP, hK⟩ := hv
  have hx := B.exec
  have hb := B.bytes
  have hr := B.returns
  have hts := atoms_spec (ws := wm_X11_digest) B.pre
  have hown : s.vm.findClass RX11 = some m.cls := findClass_of_methodNamed B.named
  have hlocks := B.notSynchronized
  subst hsz
  have hA : ∀ q : Nat, s.heap.size ≤ q → ro s.heap.size q := fun _ h => h
  have hS : va_S (ro s.heap.size) s.heap s.heap [] := va_S.rf
  have hP : va_P D vwCl [(x0, .inr (11, [.ref wo, .ref bo, .ref ro_, .ref bu, .ref ta, .ref li, .ref ca, .null, .ref fc, .int 0, .long 0])), (wo, .inr (10, [.ref wp, .ref ws_, .ref wd, .ref wk, .ref wz, .int 6, .int 0])), (wp, .inl (cP, 24, .inl fp)), (wd, .inl (cD, 144, .inl fd)), (bo, .inr (1, [.ref wo, .ref b0, .ref b1, .ref b2, .ref b3, .ref b4, .ref b5, .ref b6, .ref b7, .ref b8, .ref b9, .ref b10, .int 0, .int 0, .int 0]))] s.heap := hP
  have hl := lv_entry ([.ref x0]) (n := 1) (Nat.le_of_ble_eq_true rfl)
  rw [lg_entry_eq]
  generalize (lg_sl ([.ref x0]) ++ List.replicate (1 - (lg_sl ([.ref x0])).length) Slot.unset).toArray = ls at hl ⊢
  have hl : lv_has ls 1 [(0, .ref x0)] := hl
  refine lv_aload_n hx hb dX11_digest_0 rfl (lv_at hl 0 rfl) ?_
  refine lv_aload_n hx hb dX11_digest_1 rfl (lv_at hl 0 rfl) ?_
  refine lv_aload_n hx hb dX11_digest_2 rfl (lv_at hl 0 rfl) ?_
  refine lv_ldc2 (v := 17) hx hb hown (hts (.constantLong RX11 350 (17)) (by decide +kernel)) dX11_digest_3 ?_
  have hPc := hP.sub (ws' := [(x0, .inr (11, [.ref wo, .ref bo, .ref ro_, .ref bu, .ref ta, .ref li, .ref ca, .null, .ref fc, .int 0, .long 0])), (wo, .inr (10, [.ref wp, .ref ws_, .ref wd, .ref wk, .ref wz, .int 6, .int 0])), (wp, .inl (cP, 24, .inl fp)), (wd, .inl (cD, 144, .inl fd))]) [0, 1, 2, 3] rfl
  have hKc := hK.sub (tys' := [(cP, .int), (cD, .int)]) [0, 1] rfl
  refine ro_calll (va_runV (As := [.long 17]) (rest := [.ref x0, .ref x0]) ⟨hx, hb, hml, hown, hts⟩ (c_X11_digestKinds l D s.heap.size x0 wo bo ro_ bu ta li ca fc wp ws_ wd wk wz cP fp cD fd hp0 hp1 hp2 hp3 hp4 hp5 hfd) (cwV 1 hts gm_X11_digest_X11_digestKinds rfl rfl rfl (by decide +kernel) ⟨Nat.le_of_ble_eq_true rfl, Nat.le_of_ble_eq_true rfl⟩) (pA_V hKc hPc (ci := 11) (q0 := 0) rfl rfl) rfl rfl hl.1 rfl (lv_room (Nat.le_of_ble_eq_true rfl)) dX11_digest_6 ⟨Nat.le_of_ble_eq_true rfl, Nat.le_of_ble_eq_true rfl⟩) hS hA hP (fun r1 u1 H locs hw1 hP hS => ?_)
  have hw1 : r1 = (-3475150264839019343) := hw1
  subst hw1
  have hPc := hP.sub (ws' := [(x0, .inr (11, [.ref wo, .ref bo, .ref ro_, .ref bu, .ref ta, .ref li, .ref ca, .null, .ref fc, .int 0, .long 0])), (wo, .inr (10, [.ref wp, .ref ws_, .ref wd, .ref wk, .ref wz, .int 6, .int 0]))]) [0, 1] rfl
  have hKc := hK.sub (tys' := []) [] rfl
  refine ro_calll (va_runV (As := [.long (-3475150264839019343)]) (rest := [.ref x0]) ⟨hx, hb, hml, hown, hts⟩ (c_X11_digestObjects l D H.size x0 wo bo ro_ bu ta li ca fc wp ws_ wd wk wz) (cwV 1 hts gm_X11_digest_X11_digestObjects rfl rfl rfl (by decide +kernel) ⟨Nat.le_of_ble_eq_true rfl, Nat.le_of_ble_eq_true rfl⟩) (pA_V hKc hPc (ci := 11) (q0 := 0) rfl rfl) rfl rfl hl.1 rfl (lv_room (Nat.le_of_ble_eq_true rfl)) dX11_digest_9 ⟨Nat.le_of_ble_eq_true rfl, Nat.le_of_ble_eq_true rfl⟩) hS hA hP (fun r2 u2 H locs hw2 hP hS => ?_)
  have hw2 : r2 = (-3475150264839019343) := hw2
  subst hw2
  have hPc := hP.sub (ws' := [(x0, .inr (11, [.ref wo, .ref bo, .ref ro_, .ref bu, .ref ta, .ref li, .ref ca, .null, .ref fc, .int 0, .long 0])), (bo, .inr (1, [.ref wo, .ref b0, .ref b1, .ref b2, .ref b3, .ref b4, .ref b5, .ref b6, .ref b7, .ref b8, .ref b9, .ref b10, .int 0, .int 0, .int 0]))]) [0, 4] rfl
  have hKc := hK.sub (tys' := []) [] rfl
  refine ro_calll (va_runV (As := [.long (-3475150264839019343)]) (rest := []) ⟨hx, hb, hml, hown, hts⟩ (c_X11_digestSentences l D H.size x0 wo bo ro_ bu ta li ca fc b0 b1 b2 b3 b4 b5 b6 b7 b8 b9 b10) (cwV 1 hts gm_X11_digest_X11_digestSentences rfl rfl rfl (by decide +kernel) ⟨Nat.le_of_ble_eq_true rfl, Nat.le_of_ble_eq_true rfl⟩) (pA_V hKc hPc (ci := 11) (q0 := 0) rfl rfl) rfl rfl hl.1 rfl (lv_room (Nat.le_of_ble_eq_true rfl)) dX11_digest_12 ⟨Nat.le_of_ble_eq_true rfl, Nat.le_of_ble_eq_true rfl⟩) hS hA hP (fun r3 u3 H locs hw3 hP hS => ?_)
  have hw3 : r3 = (-3475150264839019343) := hw3
  subst hw3
  exact ro_lret hx hb hr hlocks hS dX11_digest_15 rfl

