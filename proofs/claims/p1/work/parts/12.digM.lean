def wm_X12_digest : List Cond := .code yX12_digest cX12_digest 6 (some .long) :: (([.constantLong RX12 453 (17), .fieldLink RX12 151 "TalePlayModel" "kinds" "I", .constantLong RX12 455 (31), .fieldLink RX12 13 "TalePlayModel" "parentOf" "[I", .fieldLink RX12 16 "TalePlayModel" "defaults" "[I", .fieldLink RX12 155 "TalePlayModel" "player" "I", .fieldLink RX12 177 "TalePlayModel" "objects" "I", .fieldLink RX12 202 "TalePlayModel" "sentences" "I"] : List Cond) ++ wsX120)
set_option maxHeartbeats 4000000 in
set_option maxRecDepth 100000 in
theorem c_X12_digest (l : Launch) (D : va_G) (sz : Nat) (m0 : Nat) (g1 : Nat) (g3 : Nat) (g4 : Nat) (g6 : Nat) (g7 : Nat) (g9 : Nat) (g10 : Nat) (g11 : Nat) (g12 : Nat) (g13 : Nat) (g14 : Nat) (g20 : Nat) (g21 : Nat) (g23 : Nat) (g24 : Nat) (g25 : Nat) (g26 : Nat) (g28 : Nat) (g29 : Nat) (g30 : Nat) (g31 : Nat) (g32 : Nat) (g34 : Nat) (g38 : Nat) (g39 : Nat) (g43 : Nat) (g44 : Nat) (g45 : Nat) (g46 : Nat) (g47 : Nat) (g48 : Nat) (g49 : Nat) (g51 : Nat) (g52 : Nat) (g53 : Nat) (g54 : Nat) (g55 : Nat) (g56 : Nat) (g60 : Nat) (g61 : Nat) (g62 : Nat) (g63 : Nat) (g65 : Nat) (g66 : Nat) (g67 : Nat) (g68 : Nat) (cP : ClassId) (fp : Nat → Int32) (cD : ClassId) (fd : Nat → Int32) (hp0 : fp 0 = -9) (hp1 : fp 1 = -9) (hp2 : fp 2 = 1) (hp3 : fp 3 = 1) (hp4 : fp 4 = 1) (hp5 : fp 5 = 1) (hfd : ∀ j, j < 144 → fd j = -9) : Met l yX12_digest wm_X12_digest ({ frames := 0, cells := 0, slots := 0, locals := 0 }) (va_Pc [.ref m0] (pA D sz [(m0, .inr (12, [.int 0, .ref g1, .int 6, .ref g3, .ref g4, .int 0, .ref g6, .ref g7, .int 0, .ref g9, .ref g10, .ref g11, .ref g12, .ref g13, .ref g14, .int 0, .int 0, .int 0, .int 0, .int 0, .ref g20, .ref g21, .int (-9), .ref g23, .ref g24, .ref g25, .ref g26, .int 0, .ref g28, .ref g29, .ref g30, .ref g31, .ref g32, .int 0, .ref g34, .int 0, .int 0, .long 0, .ref g38, .ref g39, .int 0, .int 0, .int 0, .ref g43, .ref g44, .ref g45, .ref g46, .ref g47, .ref g48, .ref g49, .int 0, .ref g51, .ref g52, .ref g53, .ref g54, .ref g55, .ref g56, .int (-9), .int 0, .int 0, .ref g60, .ref g61, .ref g62, .ref g63, .int 0, .ref g65, .ref g66, .ref g67, .ref g68])), (g3, .inl (cP, 24, .inl fp)), (g4, .inl (cD, 144, .inl fd))] [(cP, .int), (cD, .int)])) (va_Ql (fun (r : Int64) (_ : Unit) => r = (-3475150264839019343)) oA (ro sz)) 0 0 (ro sz) := by
  refine Met.ofW (cc := cX12_digest) (maxL := 6) (ret := (some .long)) (by decide) rfl ?_
  intro p e s m args below meth c s₁ B hml hv
  obtain ⟨rfl, hsz, hP, hK⟩ := hv
  have hx := B.exec
  have hb := B.bytes
  have hr := B.returns
  have hts := atoms_spec (ws := wm_X12_digest) B.pre
  have hown : s.vm.findClass RX12 = some m.cls := findClass_of_methodNamed B.named
  have hlocks := B.notSynchronized
  subst hsz
  have hA : ∀ q : Nat, s.heap.size ≤ q → ro s.heap.size q := fun _ h => h
  have hS : va_S (ro s.heap.size) s.heap s.heap [] := va_S.rf
  have hP : va_P D vwCl [(m0, .inr (12, [.int 0, .ref g1, .int 6, .ref g3, .ref g4, .int 0, .ref g6, .ref g7, .int 0, .ref g9, .ref g10, .ref g11, .ref g12, .ref g13, .ref g14, .int 0, .int 0, .int 0, .int 0, .int 0, .ref g20, .ref g21, .int (-9), .ref g23, .ref g24, .ref g25, .ref g26, .int 0, .ref g28, .ref g29, .ref g30, .ref g31, .ref g32, .int 0, .ref g34, .int 0, .int 0, .long 0, .ref g38, .ref g39, .int 0, .int 0, .int 0, .ref g43, .ref g44, .ref g45, .ref g46, .ref g47, .ref g48, .ref g49, .int 0, .ref g51, .ref g52, .ref g53, .ref g54, .ref g55, .ref g56, .int (-9), .int 0, .int 0, .ref g60, .ref g61, .ref g62, .ref g63, .int 0, .ref g65, .ref g66, .ref g67, .ref g68])), (g3, .inl (cP, 24, .inl fp)), (g4, .inl (cD, 144, .inl fd))] s.heap := hP
  have hl := lv_entry ([.ref m0]) (n := 6) (Nat.le_of_ble_eq_true rfl)
  rw [lg_entry_eq]
  generalize (lg_sl ([.ref m0]) ++ List.replicate (6 - (lg_sl ([.ref m0])).length) Slot.unset).toArray = ls at hl ⊢
  have hl : lv_has ls 6 [(0, .ref m0)] := hl
  refine lv_ldc2 (v := 17) hx hb hown (hts (.constantLong RX12 453 (17)) (by decide +kernel)) dX12_digest_0 ?_
  refine lv_lstore_n (lv' := [(1, .long 17), (0, .ref m0)]) hx hb dX12_digest_3 rfl hl (by decide) rfl (fun ls hl => ?_)
  refine lv_iconst (v := 0) hx hb dX12_digest_4 (by decide) ?_
  refine lv_istore_n (lv' := [(3, .int 0), (1, .long 17), (0, .ref m0)]) hx hb dX12_digest_5 rfl hl (by decide) rfl (fun ls hl => ?_)
  refine lv_iload_n hx hb dX12_digest_6 rfl (lv_at hl 0 rfl) ?_
  refine lv_aload_n hx hb dX12_digest_7 rfl (lv_at hl 2 rfl) ?_
  refine va_get (D := D) (ci := 12) (v := .int 6) (C := RX12) (T := TX12) (N := 69) hx hb hts (fun _ h => List.mem_cons_of_mem _ (List.mem_append_right _ h)) hown hK hP 0 rfl rfl 2 (by decide) (hts (.fieldLink RX12 151 "TalePlayModel" "kinds" "I") (by decide +kernel)) (fun _ h9 => h9) rfl dX12_digest_8 ?_
  refine lv_icmp_ge (tgt := 70) hx hb dX12_digest_11 (by decide) (fun q9 => absurd q9 (by decide)) (fun _ => ?_)
  refine lv_ldc2 (v := 31) hx hb hown (hts (.constantLong RX12 455 (31)) (by decide +kernel)) dX12_digest_14 ?_
  refine lv_lload_n hx hb dX12_digest_17 rfl (lv_at hl 1 rfl) ?_
  refine lv_lmul hx hb dX12_digest_18 ?_
  refine tp_l (y := 527) (by decide) ?_
  refine lv_aload_n hx hb dX12_digest_19 rfl (lv_at hl 2 rfl) ?_
  refine va_get (D := D) (ci := 12) (v := .ref g3) (C := RX12) (T := TX12) (N := 69) hx hb hts (fun _ h => List.mem_cons_of_mem _ (List.mem_append_right _ h)) hown hK hP 0 rfl rfl 3 (by decide) (hts (.fieldLink RX12 13 "TalePlayModel" "parentOf" "[I") (by decide +kernel)) (fun _ h9 => h9) rfl dX12_digest_20 ?_
  refine lv_iload_n hx hb dX12_digest_23 rfl (lv_at hl 0 rfl) ?_
  refine va_iald hx hb hK hP 1 0 rfl rfl (show vp_in 0 24 from by unfold vp_in; decide) dX12_digest_24 ?_
  refine tp_i (y := (-9)) hp0 ?_
  refine lv_i2l (v := (-9)) hx hb dX12_digest_25 (by decide) ?_
  refine lv_ladd hx hb dX12_digest_26 ?_
  refine tp_l (y := 518) (by decide) ?_
  refine lv_lstore_n (lv' := [(1, .long 518), (3, .int 0), (0, .ref m0)]) hx hb dX12_digest_27 rfl hl (by decide) rfl (fun ls hl => ?_)
  refine lv_iconst (v := 0) hx hb dX12_digest_28 (by decide) ?_
  refine lv_istore (lv' := [(4, .int 0), (1, .long 518), (3, .int 0), (0, .ref m0)]) hx hb dX12_digest_29 hl (by decide) rfl (fun ls hl => ?_)
  refine lv_iload hx hb dX12_digest_31 (lv_at hl 0 rfl) ?_
  refine lv_bipush (v := 6) hx hb dX12_digest_33 (by decide) ?_
  refine lv_icmp_ge (tgt := 64) hx hb dX12_digest_35 (by decide) (fun q9 => absurd q9 (by decide)) (fun _ => ?_)
  refine lv_ldc2 (v := 31) hx hb hown (hts (.constantLong RX12 455 (31)) (by decide +kernel)) dX12_digest_38 ?_
  refine lv_lload_n hx hb dX12_digest_41 rfl (lv_at hl 1 rfl) ?_
  refine lv_lmul hx hb dX12_digest_42 ?_
  refine tp_l (y := 16058) (by decide) ?_
  refine lv_aload_n hx hb dX12_digest_43 rfl (lv_at hl 3 rfl) ?_
  refine va_get (D := D) (ci := 12) (v := .ref g4) (C := RX12) (T := TX12) (N := 69) hx hb hts (fun _ h => List.mem_cons_of_mem _ (List.mem_append_right _ h)) hown hK hP 0 rfl rfl 4 (by decide) (hts (.fieldLink RX12 16 "TalePlayModel" "defaults" "[I") (by decide +kernel)) (fun _ h9 => h9) rfl dX12_digest_44 ?_
  refine lv_bipush (v := 6) hx hb dX12_digest_47 (by decide) ?_
  refine lv_iload_n hx hb dX12_digest_49 rfl (lv_at hl 2 rfl) ?_
  refine lv_imul hx hb dX12_digest_50 ?_
  refine tp_i (y := 0) (by decide) ?_
  refine lv_iload hx hb dX12_digest_51 (lv_at hl 0 rfl) ?_
  refine lv_iadd hx hb dX12_digest_53 ?_
  refine tp_i (y := 0) (by decide) ?_
  refine va_iald hx hb hK hP 2 1 rfl rfl (show vp_in 0 144 from by unfold vp_in; decide) dX12_digest_54 ?_
  refine tp_i (y := (-9)) (hfd _ (by decide)) ?_
  refine lv_i2l (v := (-9)) hx hb dX12_digest_55 (by decide) ?_
  refine lv_ladd hx hb dX12_digest_56 ?_
  refine tp_l (y := 16049) (by decide) ?_
  refine lv_lstore_n (lv' := [(1, .long 16049), (4, .int 0), (3, .int 0), (0, .ref m0)]) hx hb dX12_digest_57 rfl hl (by decide) rfl (fun ls hl => ?_)
  refine lv_iinc (v := 1) (lv' := [(4, .int 1), (1, .long 16049), (3, .int 0), (0, .ref m0)]) hx hb dX12_digest_58 hl (k := 1) rfl (by decide) (by decide) rfl (fun ls hl => ?_)
  refine lv_goto (tgt := 31) hx hb dX12_digest_61 (by decide) ?_
  refine lv_iload hx hb dX12_digest_31 (lv_at hl 0 rfl) ?_
  refine lv_bipush (v := 6) hx hb dX12_digest_33 (by decide) ?_
  refine lv_icmp_ge (tgt := 64) hx hb dX12_digest_35 (by decide) (fun q9 => absurd q9 (by decide)) (fun _ => ?_)
  refine lv_ldc2 (v := 31) hx hb hown (hts (.constantLong RX12 455 (31)) (by decide +kernel)) dX12_digest_38 ?_
  refine lv_lload_n hx hb dX12_digest_41 rfl (lv_at hl 1 rfl) ?_
  refine lv_lmul hx hb dX12_digest_42 ?_
  refine tp_l (y := 497519) (by decide) ?_
  refine lv_aload_n hx hb dX12_digest_43 rfl (lv_at hl 3 rfl) ?_
  refine va_get (D := D) (ci := 12) (v := .ref g4) (C := RX12) (T := TX12) (N := 69) hx hb hts (fun _ h => List.mem_cons_of_mem _ (List.mem_append_right _ h)) hown hK hP 0 rfl rfl 4 (by decide) (hts (.fieldLink RX12 16 "TalePlayModel" "defaults" "[I") (by decide +kernel)) (fun _ h9 => h9) rfl dX12_digest_44 ?_
  refine lv_bipush (v := 6) hx hb dX12_digest_47 (by decide) ?_
  refine lv_iload_n hx hb dX12_digest_49 rfl (lv_at hl 2 rfl) ?_
  refine lv_imul hx hb dX12_digest_50 ?_
  refine tp_i (y := 0) (by decide) ?_
  refine lv_iload hx hb dX12_digest_51 (lv_at hl 0 rfl) ?_
  refine lv_iadd hx hb dX12_digest_53 ?_
  refine tp_i (y := 1) (by decide) ?_
  refine va_iald hx hb hK hP 2 1 rfl rfl (show vp_in 1 144 from by unfold vp_in; decide) dX12_digest_54 ?_
  refine tp_i (y := (-9)) (hfd _ (by decide)) ?_
  refine lv_i2l (v := (-9)) hx hb dX12_digest_55 (by decide) ?_
  refine lv_ladd hx hb dX12_digest_56 ?_
  refine tp_l (y := 497510) (by decide) ?_
  refine lv_lstore_n (lv' := [(1, .long 497510), (4, .int 1), (3, .int 0), (0, .ref m0)]) hx hb dX12_digest_57 rfl hl (by decide) rfl (fun ls hl => ?_)
  refine lv_iinc (v := 2) (lv' := [(4, .int 2), (1, .long 497510), (3, .int 0), (0, .ref m0)]) hx hb dX12_digest_58 hl (k := 1) rfl (by decide) (by decide) rfl (fun ls hl => ?_)
  refine lv_goto (tgt := 31) hx hb dX12_digest_61 (by decide) ?_
  refine lv_iload hx hb dX12_digest_31 (lv_at hl 0 rfl) ?_
  refine lv_bipush (v := 6) hx hb dX12_digest_33 (by decide) ?_
  refine lv_icmp_ge (tgt := 64) hx hb dX12_digest_35 (by decide) (fun q9 => absurd q9 (by decide)) (fun _ => ?_)
  refine lv_ldc2 (v := 31) hx hb hown (hts (.constantLong RX12 455 (31)) (by decide +kernel)) dX12_digest_38 ?_
  refine lv_lload_n hx hb dX12_digest_41 rfl (lv_at hl 1 rfl) ?_
  refine lv_lmul hx hb dX12_digest_42 ?_
  refine tp_l (y := 15422810) (by decide) ?_
  refine lv_aload_n hx hb dX12_digest_43 rfl (lv_at hl 3 rfl) ?_
  refine va_get (D := D) (ci := 12) (v := .ref g4) (C := RX12) (T := TX12) (N := 69) hx hb hts (fun _ h => List.mem_cons_of_mem _ (List.mem_append_right _ h)) hown hK hP 0 rfl rfl 4 (by decide) (hts (.fieldLink RX12 16 "TalePlayModel" "defaults" "[I") (by decide +kernel)) (fun _ h9 => h9) rfl dX12_digest_44 ?_
  refine lv_bipush (v := 6) hx hb dX12_digest_47 (by decide) ?_
  refine lv_iload_n hx hb dX12_digest_49 rfl (lv_at hl 2 rfl) ?_
  refine lv_imul hx hb dX12_digest_50 ?_
  refine tp_i (y := 0) (by decide) ?_
  refine lv_iload hx hb dX12_digest_51 (lv_at hl 0 rfl) ?_
  refine lv_iadd hx hb dX12_digest_53 ?_
  refine tp_i (y := 2) (by decide) ?_
  refine va_iald hx hb hK hP 2 1 rfl rfl (show vp_in 2 144 from by unfold vp_in; decide) dX12_digest_54 ?_
  refine tp_i (y := (-9)) (hfd _ (by decide)) ?_
  refine lv_i2l (v := (-9)) hx hb dX12_digest_55 (by decide) ?_
  refine lv_ladd hx hb dX12_digest_56 ?_
  refine tp_l (y := 15422801) (by decide) ?_
  refine lv_lstore_n (lv' := [(1, .long 15422801), (4, .int 2), (3, .int 0), (0, .ref m0)]) hx hb dX12_digest_57 rfl hl (by decide) rfl (fun ls hl => ?_)
  refine lv_iinc (v := 3) (lv' := [(4, .int 3), (1, .long 15422801), (3, .int 0), (0, .ref m0)]) hx hb dX12_digest_58 hl (k := 1) rfl (by decide) (by decide) rfl (fun ls hl => ?_)
  refine lv_goto (tgt := 31) hx hb dX12_digest_61 (by decide) ?_
  refine lv_iload hx hb dX12_digest_31 (lv_at hl 0 rfl) ?_
  refine lv_bipush (v := 6) hx hb dX12_digest_33 (by decide) ?_
  refine lv_icmp_ge (tgt := 64) hx hb dX12_digest_35 (by decide) (fun q9 => absurd q9 (by decide)) (fun _ => ?_)
  refine lv_ldc2 (v := 31) hx hb hown (hts (.constantLong RX12 455 (31)) (by decide +kernel)) dX12_digest_38 ?_
  refine lv_lload_n hx hb dX12_digest_41 rfl (lv_at hl 1 rfl) ?_
  refine lv_lmul hx hb dX12_digest_42 ?_
  refine tp_l (y := 478106831) (by decide) ?_
  refine lv_aload_n hx hb dX12_digest_43 rfl (lv_at hl 3 rfl) ?_
  refine va_get (D := D) (ci := 12) (v := .ref g4) (C := RX12) (T := TX12) (N := 69) hx hb hts (fun _ h => List.mem_cons_of_mem _ (List.mem_append_right _ h)) hown hK hP 0 rfl rfl 4 (by decide) (hts (.fieldLink RX12 16 "TalePlayModel" "defaults" "[I") (by decide +kernel)) (fun _ h9 => h9) rfl dX12_digest_44 ?_
  refine lv_bipush (v := 6) hx hb dX12_digest_47 (by decide) ?_
  refine lv_iload_n hx hb dX12_digest_49 rfl (lv_at hl 2 rfl) ?_
  refine lv_imul hx hb dX12_digest_50 ?_
  refine tp_i (y := 0) (by decide) ?_
  refine lv_iload hx hb dX12_digest_51 (lv_at hl 0 rfl) ?_
  refine lv_iadd hx hb dX12_digest_53 ?_
  refine tp_i (y := 3) (by decide) ?_
  refine va_iald hx hb hK hP 2 1 rfl rfl (show vp_in 3 144 from by unfold vp_in; decide) dX12_digest_54 ?_
  refine tp_i (y := (-9)) (hfd _ (by decide)) ?_
  refine lv_i2l (v := (-9)) hx hb dX12_digest_55 (by decide) ?_
  refine lv_ladd hx hb dX12_digest_56 ?_
  refine tp_l (y := 478106822) (by decide) ?_
  refine lv_lstore_n (lv' := [(1, .long 478106822), (4, .int 3), (3, .int 0), (0, .ref m0)]) hx hb dX12_digest_57 rfl hl (by decide) rfl (fun ls hl => ?_)
  refine lv_iinc (v := 4) (lv' := [(4, .int 4), (1, .long 478106822), (3, .int 0), (0, .ref m0)]) hx hb dX12_digest_58 hl (k := 1) rfl (by decide) (by decide) rfl (fun ls hl => ?_)
  refine lv_goto (tgt := 31) hx hb dX12_digest_61 (by decide) ?_
  refine lv_iload hx hb dX12_digest_31 (lv_at hl 0 rfl) ?_
  refine lv_bipush (v := 6) hx hb dX12_digest_33 (by decide) ?_
  refine lv_icmp_ge (tgt := 64) hx hb dX12_digest_35 (by decide) (fun q9 => absurd q9 (by decide)) (fun _ => ?_)
  refine lv_ldc2 (v := 31) hx hb hown (hts (.constantLong RX12 455 (31)) (by decide +kernel)) dX12_digest_38 ?_
  refine lv_lload_n hx hb dX12_digest_41 rfl (lv_at hl 1 rfl) ?_
  refine lv_lmul hx hb dX12_digest_42 ?_
  refine tp_l (y := 14821311482) (by decide) ?_
  refine lv_aload_n hx hb dX12_digest_43 rfl (lv_at hl 3 rfl) ?_
  refine va_get (D := D) (ci := 12) (v := .ref g4) (C := RX12) (T := TX12) (N := 69) hx hb hts (fun _ h => List.mem_cons_of_mem _ (List.mem_append_right _ h)) hown hK hP 0 rfl rfl 4 (by decide) (hts (.fieldLink RX12 16 "TalePlayModel" "defaults" "[I") (by decide +kernel)) (fun _ h9 => h9) rfl dX12_digest_44 ?_
  refine lv_bipush (v := 6) hx hb dX12_digest_47 (by decide) ?_
  refine lv_iload_n hx hb dX12_digest_49 rfl (lv_at hl 2 rfl) ?_
  refine lv_imul hx hb dX12_digest_50 ?_
  refine tp_i (y := 0) (by decide) ?_
  refine lv_iload hx hb dX12_digest_51 (lv_at hl 0 rfl) ?_
  refine lv_iadd hx hb dX12_digest_53 ?_
  refine tp_i (y := 4) (by decide) ?_
  refine va_iald hx hb hK hP 2 1 rfl rfl (show vp_in 4 144 from by unfold vp_in; decide) dX12_digest_54 ?_
  refine tp_i (y := (-9)) (hfd _ (by decide)) ?_
  refine lv_i2l (v := (-9)) hx hb dX12_digest_55 (by decide) ?_
  refine lv_ladd hx hb dX12_digest_56 ?_
  refine tp_l (y := 14821311473) (by decide) ?_
  refine lv_lstore_n (lv' := [(1, .long 14821311473), (4, .int 4), (3, .int 0), (0, .ref m0)]) hx hb dX12_digest_57 rfl hl (by decide) rfl (fun ls hl => ?_)
  refine lv_iinc (v := 5) (lv' := [(4, .int 5), (1, .long 14821311473), (3, .int 0), (0, .ref m0)]) hx hb dX12_digest_58 hl (k := 1) rfl (by decide) (by decide) rfl (fun ls hl => ?_)
  refine lv_goto (tgt := 31) hx hb dX12_digest_61 (by decide) ?_
  refine lv_iload hx hb dX12_digest_31 (lv_at hl 0 rfl) ?_
  refine lv_bipush (v := 6) hx hb dX12_digest_33 (by decide) ?_
  refine lv_icmp_ge (tgt := 64) hx hb dX12_digest_35 (by decide) (fun q9 => absurd q9 (by decide)) (fun _ => ?_)
  refine lv_ldc2 (v := 31) hx hb hown (hts (.constantLong RX12 455 (31)) (by decide +kernel)) dX12_digest_38 ?_
  refine lv_lload_n hx hb dX12_digest_41 rfl (lv_at hl 1 rfl) ?_
  refine lv_lmul hx hb dX12_digest_42 ?_
  refine tp_l (y := 459460655663) (by decide) ?_
  refine lv_aload_n hx hb dX12_digest_43 rfl (lv_at hl 3 rfl) ?_
  refine va_get (D := D) (ci := 12) (v := .ref g4) (C := RX12) (T := TX12) (N := 69) hx hb hts (fun _ h => List.mem_cons_of_mem _ (List.mem_append_right _ h)) hown hK hP 0 rfl rfl 4 (by decide) (hts (.fieldLink RX12 16 "TalePlayModel" "defaults" "[I") (by decide +kernel)) (fun _ h9 => h9) rfl dX12_digest_44 ?_
  refine lv_bipush (v := 6) hx hb dX12_digest_47 (by decide) ?_
  refine lv_iload_n hx hb dX12_digest_49 rfl (lv_at hl 2 rfl) ?_
  refine lv_imul hx hb dX12_digest_50 ?_
  refine tp_i (y := 0) (by decide) ?_
  refine lv_iload hx hb dX12_digest_51 (lv_at hl 0 rfl) ?_
  refine lv_iadd hx hb dX12_digest_53 ?_
  refine tp_i (y := 5) (by decide) ?_
  refine va_iald hx hb hK hP 2 1 rfl rfl (show vp_in 5 144 from by unfold vp_in; decide) dX12_digest_54 ?_
  refine tp_i (y := (-9)) (hfd _ (by decide)) ?_
  refine lv_i2l (v := (-9)) hx hb dX12_digest_55 (by decide) ?_
  refine lv_ladd hx hb dX12_digest_56 ?_
  refine tp_l (y := 459460655654) (by decide) ?_
  refine lv_lstore_n (lv' := [(1, .long 459460655654), (4, .int 5), (3, .int 0), (0, .ref m0)]) hx hb dX12_digest_57 rfl hl (by decide) rfl (fun ls hl => ?_)
  refine lv_iinc (v := 6) (lv' := [(4, .int 6), (1, .long 459460655654), (3, .int 0), (0, .ref m0)]) hx hb dX12_digest_58 hl (k := 1) rfl (by decide) (by decide) rfl (fun ls hl => ?_)
  refine lv_goto (tgt := 31) hx hb dX12_digest_61 (by decide) ?_
  refine lv_iload hx hb dX12_digest_31 (lv_at hl 0 rfl) ?_
  refine lv_bipush (v := 6) hx hb dX12_digest_33 (by decide) ?_
  refine lv_icmp_ge (tgt := 64) hx hb dX12_digest_35 (by decide) (fun _ => ?_) (fun q9 => absurd (by decide) q9)
  refine lv_iinc (v := 1) (lv' := [(3, .int 1), (4, .int 6), (1, .long 459460655654), (0, .ref m0)]) hx hb dX12_digest_64 hl (k := 2) rfl (by decide) (by decide) rfl (fun ls hl => ?_)
  refine lv_goto (tgt := 6) hx hb dX12_digest_67 (by decide) ?_
  refine lv_iload_n hx hb dX12_digest_6 rfl (lv_at hl 0 rfl) ?_
  refine lv_aload_n hx hb dX12_digest_7 rfl (lv_at hl 3 rfl) ?_
  refine va_get (D := D) (ci := 12) (v := .int 6) (C := RX12) (T := TX12) (N := 69) hx hb hts (fun _ h => List.mem_cons_of_mem _ (List.mem_append_right _ h)) hown hK hP 0 rfl rfl 2 (by decide) (hts (.fieldLink RX12 151 "TalePlayModel" "kinds" "I") (by decide +kernel)) (fun _ h9 => h9) rfl dX12_digest_8 ?_
  refine lv_icmp_ge (tgt := 70) hx hb dX12_digest_11 (by decide) (fun q9 => absurd q9 (by decide)) (fun _ => ?_)
  refine lv_ldc2 (v := 31) hx hb hown (hts (.constantLong RX12 455 (31)) (by decide +kernel)) dX12_digest_14 ?_
  refine lv_lload_n hx hb dX12_digest_17 rfl (lv_at hl 2 rfl) ?_
  refine lv_lmul hx hb dX12_digest_18 ?_
  refine tp_l (y := 14243280325274) (by decide) ?_
  refine lv_aload_n hx hb dX12_digest_19 rfl (lv_at hl 3 rfl) ?_
  refine va_get (D := D) (ci := 12) (v := .ref g3) (C := RX12) (T := TX12) (N := 69) hx hb hts (fun _ h => List.mem_cons_of_mem _ (List.mem_append_right _ h)) hown hK hP 0 rfl rfl 3 (by decide) (hts (.fieldLink RX12 13 "TalePlayModel" "parentOf" "[I") (by decide +kernel)) (fun _ h9 => h9) rfl dX12_digest_20 ?_
  refine lv_iload_n hx hb dX12_digest_23 rfl (lv_at hl 0 rfl) ?_
  refine va_iald hx hb hK hP 1 0 rfl rfl (show vp_in 1 24 from by unfold vp_in; decide) dX12_digest_24 ?_
  refine tp_i (y := (-9)) hp1 ?_
  refine lv_i2l (v := (-9)) hx hb dX12_digest_25 (by decide) ?_
  refine lv_ladd hx hb dX12_digest_26 ?_
  refine tp_l (y := 14243280325265) (by decide) ?_
  refine lv_lstore_n (lv' := [(1, .long 14243280325265), (3, .int 1), (4, .int 6), (0, .ref m0)]) hx hb dX12_digest_27 rfl hl (by decide) rfl (fun ls hl => ?_)
  refine lv_iconst (v := 0) hx hb dX12_digest_28 (by decide) ?_
  refine lv_istore (lv' := [(4, .int 0), (1, .long 14243280325265), (3, .int 1), (0, .ref m0)]) hx hb dX12_digest_29 hl (by decide) rfl (fun ls hl => ?_)
  refine lv_iload hx hb dX12_digest_31 (lv_at hl 0 rfl) ?_
  refine lv_bipush (v := 6) hx hb dX12_digest_33 (by decide) ?_
  refine lv_icmp_ge (tgt := 64) hx hb dX12_digest_35 (by decide) (fun q9 => absurd q9 (by decide)) (fun _ => ?_)
  refine lv_ldc2 (v := 31) hx hb hown (hts (.constantLong RX12 455 (31)) (by decide +kernel)) dX12_digest_38 ?_
  refine lv_lload_n hx hb dX12_digest_41 rfl (lv_at hl 1 rfl) ?_
  refine lv_lmul hx hb dX12_digest_42 ?_
  refine tp_l (y := 441541690083215) (by decide) ?_
  refine lv_aload_n hx hb dX12_digest_43 rfl (lv_at hl 3 rfl) ?_
  refine va_get (D := D) (ci := 12) (v := .ref g4) (C := RX12) (T := TX12) (N := 69) hx hb hts (fun _ h => List.mem_cons_of_mem _ (List.mem_append_right _ h)) hown hK hP 0 rfl rfl 4 (by decide) (hts (.fieldLink RX12 16 "TalePlayModel" "defaults" "[I") (by decide +kernel)) (fun _ h9 => h9) rfl dX12_digest_44 ?_
  refine lv_bipush (v := 6) hx hb dX12_digest_47 (by decide) ?_
  refine lv_iload_n hx hb dX12_digest_49 rfl (lv_at hl 2 rfl) ?_
  refine lv_imul hx hb dX12_digest_50 ?_
  refine tp_i (y := 6) (by decide) ?_
  refine lv_iload hx hb dX12_digest_51 (lv_at hl 0 rfl) ?_
  refine lv_iadd hx hb dX12_digest_53 ?_
  refine tp_i (y := 6) (by decide) ?_
  refine va_iald hx hb hK hP 2 1 rfl rfl (show vp_in 6 144 from by unfold vp_in; decide) dX12_digest_54 ?_
  refine tp_i (y := (-9)) (hfd _ (by decide)) ?_
  refine lv_i2l (v := (-9)) hx hb dX12_digest_55 (by decide) ?_
  refine lv_ladd hx hb dX12_digest_56 ?_
  refine tp_l (y := 441541690083206) (by decide) ?_
  refine lv_lstore_n (lv' := [(1, .long 441541690083206), (4, .int 0), (3, .int 1), (0, .ref m0)]) hx hb dX12_digest_57 rfl hl (by decide) rfl (fun ls hl => ?_)
  refine lv_iinc (v := 1) (lv' := [(4, .int 1), (1, .long 441541690083206), (3, .int 1), (0, .ref m0)]) hx hb dX12_digest_58 hl (k := 1) rfl (by decide) (by decide) rfl (fun ls hl => ?_)
  refine lv_goto (tgt := 31) hx hb dX12_digest_61 (by decide) ?_
  refine lv_iload hx hb dX12_digest_31 (lv_at hl 0 rfl) ?_
  refine lv_bipush (v := 6) hx hb dX12_digest_33 (by decide) ?_
  refine lv_icmp_ge (tgt := 64) hx hb dX12_digest_35 (by decide) (fun q9 => absurd q9 (by decide)) (fun _ => ?_)
  refine lv_ldc2 (v := 31) hx hb hown (hts (.constantLong RX12 455 (31)) (by decide +kernel)) dX12_digest_38 ?_
  refine lv_lload_n hx hb dX12_digest_41 rfl (lv_at hl 1 rfl) ?_
  refine lv_lmul hx hb dX12_digest_42 ?_
  refine tp_l (y := 13687792392579386) (by decide) ?_
  refine lv_aload_n hx hb dX12_digest_43 rfl (lv_at hl 3 rfl) ?_
  refine va_get (D := D) (ci := 12) (v := .ref g4) (C := RX12) (T := TX12) (N := 69) hx hb hts (fun _ h => List.mem_cons_of_mem _ (List.mem_append_right _ h)) hown hK hP 0 rfl rfl 4 (by decide) (hts (.fieldLink RX12 16 "TalePlayModel" "defaults" "[I") (by decide +kernel)) (fun _ h9 => h9) rfl dX12_digest_44 ?_
  refine lv_bipush (v := 6) hx hb dX12_digest_47 (by decide) ?_
  refine lv_iload_n hx hb dX12_digest_49 rfl (lv_at hl 2 rfl) ?_
  refine lv_imul hx hb dX12_digest_50 ?_
  refine tp_i (y := 6) (by decide) ?_
  refine lv_iload hx hb dX12_digest_51 (lv_at hl 0 rfl) ?_
  refine lv_iadd hx hb dX12_digest_53 ?_
  refine tp_i (y := 7) (by decide) ?_
  refine va_iald hx hb hK hP 2 1 rfl rfl (show vp_in 7 144 from by unfold vp_in; decide) dX12_digest_54 ?_
  refine tp_i (y := (-9)) (hfd _ (by decide)) ?_
  refine lv_i2l (v := (-9)) hx hb dX12_digest_55 (by decide) ?_
  refine lv_ladd hx hb dX12_digest_56 ?_
  refine tp_l (y := 13687792392579377) (by decide) ?_
  refine lv_lstore_n (lv' := [(1, .long 13687792392579377), (4, .int 1), (3, .int 1), (0, .ref m0)]) hx hb dX12_digest_57 rfl hl (by decide) rfl (fun ls hl => ?_)
  refine lv_iinc (v := 2) (lv' := [(4, .int 2), (1, .long 13687792392579377), (3, .int 1), (0, .ref m0)]) hx hb dX12_digest_58 hl (k := 1) rfl (by decide) (by decide) rfl (fun ls hl => ?_)
  refine lv_goto (tgt := 31) hx hb dX12_digest_61 (by decide) ?_
  refine lv_iload hx hb dX12_digest_31 (lv_at hl 0 rfl) ?_
  refine lv_bipush (v := 6) hx hb dX12_digest_33 (by decide) ?_
  refine lv_icmp_ge (tgt := 64) hx hb dX12_digest_35 (by decide) (fun q9 => absurd q9 (by decide)) (fun _ => ?_)
  refine lv_ldc2 (v := 31) hx hb hown (hts (.constantLong RX12 455 (31)) (by decide +kernel)) dX12_digest_38 ?_
  refine lv_lload_n hx hb dX12_digest_41 rfl (lv_at hl 1 rfl) ?_
  refine lv_lmul hx hb dX12_digest_42 ?_
  refine tp_l (y := 424321564169960687) (by decide) ?_
  refine lv_aload_n hx hb dX12_digest_43 rfl (lv_at hl 3 rfl) ?_
  refine va_get (D := D) (ci := 12) (v := .ref g4) (C := RX12) (T := TX12) (N := 69) hx hb hts (fun _ h => List.mem_cons_of_mem _ (List.mem_append_right _ h)) hown hK hP 0 rfl rfl 4 (by decide) (hts (.fieldLink RX12 16 "TalePlayModel" "defaults" "[I") (by decide +kernel)) (fun _ h9 => h9) rfl dX12_digest_44 ?_
  refine lv_bipush (v := 6) hx hb dX12_digest_47 (by decide) ?_
  refine lv_iload_n hx hb dX12_digest_49 rfl (lv_at hl 2 rfl) ?_
  refine lv_imul hx hb dX12_digest_50 ?_
  refine tp_i (y := 6) (by decide) ?_
  refine lv_iload hx hb dX12_digest_51 (lv_at hl 0 rfl) ?_
  refine lv_iadd hx hb dX12_digest_53 ?_
  refine tp_i (y := 8) (by decide) ?_
  refine va_iald hx hb hK hP 2 1 rfl rfl (show vp_in 8 144 from by unfold vp_in; decide) dX12_digest_54 ?_
  refine tp_i (y := (-9)) (hfd _ (by decide)) ?_
  refine lv_i2l (v := (-9)) hx hb dX12_digest_55 (by decide) ?_
  refine lv_ladd hx hb dX12_digest_56 ?_
  refine tp_l (y := 424321564169960678) (by decide) ?_
  refine lv_lstore_n (lv' := [(1, .long 424321564169960678), (4, .int 2), (3, .int 1), (0, .ref m0)]) hx hb dX12_digest_57 rfl hl (by decide) rfl (fun ls hl => ?_)
  refine lv_iinc (v := 3) (lv' := [(4, .int 3), (1, .long 424321564169960678), (3, .int 1), (0, .ref m0)]) hx hb dX12_digest_58 hl (k := 1) rfl (by decide) (by decide) rfl (fun ls hl => ?_)
  refine lv_goto (tgt := 31) hx hb dX12_digest_61 (by decide) ?_
  refine lv_iload hx hb dX12_digest_31 (lv_at hl 0 rfl) ?_
  refine lv_bipush (v := 6) hx hb dX12_digest_33 (by decide) ?_
  refine lv_icmp_ge (tgt := 64) hx hb dX12_digest_35 (by decide) (fun q9 => absurd q9 (by decide)) (fun _ => ?_)
  refine lv_ldc2 (v := 31) hx hb hown (hts (.constantLong RX12 455 (31)) (by decide +kernel)) dX12_digest_38 ?_
  refine lv_lload_n hx hb dX12_digest_41 rfl (lv_at hl 1 rfl) ?_
  refine lv_lmul hx hb dX12_digest_42 ?_
  refine tp_l (y := (-5292775584440770598)) (by decide) ?_
  refine lv_aload_n hx hb dX12_digest_43 rfl (lv_at hl 3 rfl) ?_
  refine va_get (D := D) (ci := 12) (v := .ref g4) (C := RX12) (T := TX12) (N := 69) hx hb hts (fun _ h => List.mem_cons_of_mem _ (List.mem_append_right _ h)) hown hK hP 0 rfl rfl 4 (by decide) (hts (.fieldLink RX12 16 "TalePlayModel" "defaults" "[I") (by decide +kernel)) (fun _ h9 => h9) rfl dX12_digest_44 ?_
  refine lv_bipush (v := 6) hx hb dX12_digest_47 (by decide) ?_
  refine lv_iload_n hx hb dX12_digest_49 rfl (lv_at hl 2 rfl) ?_
  refine lv_imul hx hb dX12_digest_50 ?_
  refine tp_i (y := 6) (by decide) ?_
  refine lv_iload hx hb dX12_digest_51 (lv_at hl 0 rfl) ?_
  refine lv_iadd hx hb dX12_digest_53 ?_
  refine tp_i (y := 9) (by decide) ?_
  refine va_iald hx hb hK hP 2 1 rfl rfl (show vp_in 9 144 from by unfold vp_in; decide) dX12_digest_54 ?_
  refine tp_i (y := (-9)) (hfd _ (by decide)) ?_
  refine lv_i2l (v := (-9)) hx hb dX12_digest_55 (by decide) ?_
  refine lv_ladd hx hb dX12_digest_56 ?_
  refine tp_l (y := (-5292775584440770607)) (by decide) ?_
  refine lv_lstore_n (lv' := [(1, .long (-5292775584440770607)), (4, .int 3), (3, .int 1), (0, .ref m0)]) hx hb dX12_digest_57 rfl hl (by decide) rfl (fun ls hl => ?_)
  refine lv_iinc (v := 4) (lv' := [(4, .int 4), (1, .long (-5292775584440770607)), (3, .int 1), (0, .ref m0)]) hx hb dX12_digest_58 hl (k := 1) rfl (by decide) (by decide) rfl (fun ls hl => ?_)
  refine lv_goto (tgt := 31) hx hb dX12_digest_61 (by decide) ?_
  refine lv_iload hx hb dX12_digest_31 (lv_at hl 0 rfl) ?_
  refine lv_bipush (v := 6) hx hb dX12_digest_33 (by decide) ?_
  refine lv_icmp_ge (tgt := 64) hx hb dX12_digest_35 (by decide) (fun q9 => absurd q9 (by decide)) (fun _ => ?_)
  refine lv_ldc2 (v := 31) hx hb hown (hts (.constantLong RX12 455 (31)) (by decide +kernel)) dX12_digest_38 ?_
  refine lv_lload_n hx hb dX12_digest_41 rfl (lv_at hl 1 rfl) ?_
  refine lv_lmul hx hb dX12_digest_42 ?_
  refine tp_l (y := 1944653545722075727) (by decide) ?_
  refine lv_aload_n hx hb dX12_digest_43 rfl (lv_at hl 3 rfl) ?_
  refine va_get (D := D) (ci := 12) (v := .ref g4) (C := RX12) (T := TX12) (N := 69) hx hb hts (fun _ h => List.mem_cons_of_mem _ (List.mem_append_right _ h)) hown hK hP 0 rfl rfl 4 (by decide) (hts (.fieldLink RX12 16 "TalePlayModel" "defaults" "[I") (by decide +kernel)) (fun _ h9 => h9) rfl dX12_digest_44 ?_
  refine lv_bipush (v := 6) hx hb dX12_digest_47 (by decide) ?_
  refine lv_iload_n hx hb dX12_digest_49 rfl (lv_at hl 2 rfl) ?_
  refine lv_imul hx hb dX12_digest_50 ?_
  refine tp_i (y := 6) (by decide) ?_
  refine lv_iload hx hb dX12_digest_51 (lv_at hl 0 rfl) ?_
  refine lv_iadd hx hb dX12_digest_53 ?_
  refine tp_i (y := 10) (by decide) ?_
  refine va_iald hx hb hK hP 2 1 rfl rfl (show vp_in 10 144 from by unfold vp_in; decide) dX12_digest_54 ?_
  refine tp_i (y := (-9)) (hfd _ (by decide)) ?_
  refine lv_i2l (v := (-9)) hx hb dX12_digest_55 (by decide) ?_
  refine lv_ladd hx hb dX12_digest_56 ?_
  refine tp_l (y := 1944653545722075718) (by decide) ?_
  refine lv_lstore_n (lv' := [(1, .long 1944653545722075718), (4, .int 4), (3, .int 1), (0, .ref m0)]) hx hb dX12_digest_57 rfl hl (by decide) rfl (fun ls hl => ?_)
  refine lv_iinc (v := 5) (lv' := [(4, .int 5), (1, .long 1944653545722075718), (3, .int 1), (0, .ref m0)]) hx hb dX12_digest_58 hl (k := 1) rfl (by decide) (by decide) rfl (fun ls hl => ?_)
  refine lv_goto (tgt := 31) hx hb dX12_digest_61 (by decide) ?_
  refine lv_iload hx hb dX12_digest_31 (lv_at hl 0 rfl) ?_
  refine lv_bipush (v := 6) hx hb dX12_digest_33 (by decide) ?_
  refine lv_icmp_ge (tgt := 64) hx hb dX12_digest_35 (by decide) (fun q9 => absurd q9 (by decide)) (fun _ => ?_)
  refine lv_ldc2 (v := 31) hx hb hown (hts (.constantLong RX12 455 (31)) (by decide +kernel)) dX12_digest_38 ?_
  refine lv_lload_n hx hb dX12_digest_41 rfl (lv_at hl 1 rfl) ?_
  refine lv_lmul hx hb dX12_digest_42 ?_
  refine tp_l (y := 4944027696255692410) (by decide) ?_
  refine lv_aload_n hx hb dX12_digest_43 rfl (lv_at hl 3 rfl) ?_
  refine va_get (D := D) (ci := 12) (v := .ref g4) (C := RX12) (T := TX12) (N := 69) hx hb hts (fun _ h => List.mem_cons_of_mem _ (List.mem_append_right _ h)) hown hK hP 0 rfl rfl 4 (by decide) (hts (.fieldLink RX12 16 "TalePlayModel" "defaults" "[I") (by decide +kernel)) (fun _ h9 => h9) rfl dX12_digest_44 ?_
  refine lv_bipush (v := 6) hx hb dX12_digest_47 (by decide) ?_
  refine lv_iload_n hx hb dX12_digest_49 rfl (lv_at hl 2 rfl) ?_
  refine lv_imul hx hb dX12_digest_50 ?_
  refine tp_i (y := 6) (by decide) ?_
  refine lv_iload hx hb dX12_digest_51 (lv_at hl 0 rfl) ?_
  refine lv_iadd hx hb dX12_digest_53 ?_
  refine tp_i (y := 11) (by decide) ?_
  refine va_iald hx hb hK hP 2 1 rfl rfl (show vp_in 11 144 from by unfold vp_in; decide) dX12_digest_54 ?_
  refine tp_i (y := (-9)) (hfd _ (by decide)) ?_
  refine lv_i2l (v := (-9)) hx hb dX12_digest_55 (by decide) ?_
  refine lv_ladd hx hb dX12_digest_56 ?_
  refine tp_l (y := 4944027696255692401) (by decide) ?_
  refine lv_lstore_n (lv' := [(1, .long 4944027696255692401), (4, .int 5), (3, .int 1), (0, .ref m0)]) hx hb dX12_digest_57 rfl hl (by decide) rfl (fun ls hl => ?_)
  refine lv_iinc (v := 6) (lv' := [(4, .int 6), (1, .long 4944027696255692401), (3, .int 1), (0, .ref m0)]) hx hb dX12_digest_58 hl (k := 1) rfl (by decide) (by decide) rfl (fun ls hl => ?_)
  refine lv_goto (tgt := 31) hx hb dX12_digest_61 (by decide) ?_
  refine lv_iload hx hb dX12_digest_31 (lv_at hl 0 rfl) ?_
  refine lv_bipush (v := 6) hx hb dX12_digest_33 (by decide) ?_
  refine lv_icmp_ge (tgt := 64) hx hb dX12_digest_35 (by decide) (fun _ => ?_) (fun q9 => absurd (by decide) q9)
  refine lv_iinc (v := 2) (lv' := [(3, .int 2), (4, .int 6), (1, .long 4944027696255692401), (0, .ref m0)]) hx hb dX12_digest_64 hl (k := 2) rfl (by decide) (by decide) rfl (fun ls hl => ?_)
  refine lv_goto (tgt := 6) hx hb dX12_digest_67 (by decide) ?_
  refine lv_iload_n hx hb dX12_digest_6 rfl (lv_at hl 0 rfl) ?_
  refine lv_aload_n hx hb dX12_digest_7 rfl (lv_at hl 3 rfl) ?_
  refine va_get (D := D) (ci := 12) (v := .int 6) (C := RX12) (T := TX12) (N := 69) hx hb hts (fun _ h => List.mem_cons_of_mem _ (List.mem_append_right _ h)) hown hK hP 0 rfl rfl 2 (by decide) (hts (.fieldLink RX12 151 "TalePlayModel" "kinds" "I") (by decide +kernel)) (fun _ h9 => h9) rfl dX12_digest_8 ?_
  refine lv_icmp_ge (tgt := 70) hx hb dX12_digest_11 (by decide) (fun q9 => absurd q9 (by decide)) (fun _ => ?_)
  refine lv_ldc2 (v := 31) hx hb hown (hts (.constantLong RX12 455 (31)) (by decide +kernel)) dX12_digest_14 ?_
  refine lv_lload_n hx hb dX12_digest_17 rfl (lv_at hl 2 rfl) ?_
  refine lv_lmul hx hb dX12_digest_18 ?_
  refine tp_l (y := 5690905994250051503) (by decide) ?_
  refine lv_aload_n hx hb dX12_digest_19 rfl (lv_at hl 3 rfl) ?_
  refine va_get (D := D) (ci := 12) (v := .ref g3) (C := RX12) (T := TX12) (N := 69) hx hb hts (fun _ h => List.mem_cons_of_mem _ (List.mem_append_right _ h)) hown hK hP 0 rfl rfl 3 (by decide) (hts (.fieldLink RX12 13 "TalePlayModel" "parentOf" "[I") (by decide +kernel)) (fun _ h9 => h9) rfl dX12_digest_20 ?_
  refine lv_iload_n hx hb dX12_digest_23 rfl (lv_at hl 0 rfl) ?_
  refine va_iald hx hb hK hP 1 0 rfl rfl (show vp_in 2 24 from by unfold vp_in; decide) dX12_digest_24 ?_
  refine tp_i (y := 1) hp2 ?_
  refine lv_i2l (v := 1) hx hb dX12_digest_25 (by decide) ?_
  refine lv_ladd hx hb dX12_digest_26 ?_
  refine tp_l (y := 5690905994250051504) (by decide) ?_
  refine lv_lstore_n (lv' := [(1, .long 5690905994250051504), (3, .int 2), (4, .int 6), (0, .ref m0)]) hx hb dX12_digest_27 rfl hl (by decide) rfl (fun ls hl => ?_)
  refine lv_iconst (v := 0) hx hb dX12_digest_28 (by decide) ?_
  refine lv_istore (lv' := [(4, .int 0), (1, .long 5690905994250051504), (3, .int 2), (0, .ref m0)]) hx hb dX12_digest_29 hl (by decide) rfl (fun ls hl => ?_)
  refine lv_iload hx hb dX12_digest_31 (lv_at hl 0 rfl) ?_
  refine lv_bipush (v := 6) hx hb dX12_digest_33 (by decide) ?_
  refine lv_icmp_ge (tgt := 64) hx hb dX12_digest_35 (by decide) (fun q9 => absurd q9 (by decide)) (fun _ => ?_)
  refine lv_ldc2 (v := 31) hx hb hown (hts (.constantLong RX12 455 (31)) (by decide +kernel)) dX12_digest_38 ?_
  refine lv_lload_n hx hb dX12_digest_41 rfl (lv_at hl 1 rfl) ?_
  refine lv_lmul hx hb dX12_digest_42 ?_
  refine tp_l (y := (-8049354915343919536)) (by decide) ?_
  refine lv_aload_n hx hb dX12_digest_43 rfl (lv_at hl 3 rfl) ?_
  refine va_get (D := D) (ci := 12) (v := .ref g4) (C := RX12) (T := TX12) (N := 69) hx hb hts (fun _ h => List.mem_cons_of_mem _ (List.mem_append_right _ h)) hown hK hP 0 rfl rfl 4 (by decide) (hts (.fieldLink RX12 16 "TalePlayModel" "defaults" "[I") (by decide +kernel)) (fun _ h9 => h9) rfl dX12_digest_44 ?_
  refine lv_bipush (v := 6) hx hb dX12_digest_47 (by decide) ?_
  refine lv_iload_n hx hb dX12_digest_49 rfl (lv_at hl 2 rfl) ?_
  refine lv_imul hx hb dX12_digest_50 ?_
  refine tp_i (y := 12) (by decide) ?_
  refine lv_iload hx hb dX12_digest_51 (lv_at hl 0 rfl) ?_
  refine lv_iadd hx hb dX12_digest_53 ?_
  refine tp_i (y := 12) (by decide) ?_
  refine va_iald hx hb hK hP 2 1 rfl rfl (show vp_in 12 144 from by unfold vp_in; decide) dX12_digest_54 ?_
  refine tp_i (y := (-9)) (hfd _ (by decide)) ?_
  refine lv_i2l (v := (-9)) hx hb dX12_digest_55 (by decide) ?_
  refine lv_ladd hx hb dX12_digest_56 ?_
  refine tp_l (y := (-8049354915343919545)) (by decide) ?_
  refine lv_lstore_n (lv' := [(1, .long (-8049354915343919545)), (4, .int 0), (3, .int 2), (0, .ref m0)]) hx hb dX12_digest_57 rfl hl (by decide) rfl (fun ls hl => ?_)
  refine lv_iinc (v := 1) (lv' := [(4, .int 1), (1, .long (-8049354915343919545)), (3, .int 2), (0, .ref m0)]) hx hb dX12_digest_58 hl (k := 1) rfl (by decide) (by decide) rfl (fun ls hl => ?_)
  refine lv_goto (tgt := 31) hx hb dX12_digest_61 (by decide) ?_
  refine lv_iload hx hb dX12_digest_31 (lv_at hl 0 rfl) ?_
  refine lv_bipush (v := 6) hx hb dX12_digest_33 (by decide) ?_
  refine lv_icmp_ge (tgt := 64) hx hb dX12_digest_35 (by decide) (fun q9 => absurd q9 (by decide)) (fun _ => ?_)
  refine lv_ldc2 (v := 31) hx hb hown (hts (.constantLong RX12 455 (31)) (by decide +kernel)) dX12_digest_38 ?_
  refine lv_lload_n hx hb dX12_digest_41 rfl (lv_at hl 1 rfl) ?_
  refine lv_lmul hx hb dX12_digest_42 ?_
  refine tp_l (y := 8724414656272216729) (by decide) ?_
  refine lv_aload_n hx hb dX12_digest_43 rfl (lv_at hl 3 rfl) ?_
  refine va_get (D := D) (ci := 12) (v := .ref g4) (C := RX12) (T := TX12) (N := 69) hx hb hts (fun _ h => List.mem_cons_of_mem _ (List.mem_append_right _ h)) hown hK hP 0 rfl rfl 4 (by decide) (hts (.fieldLink RX12 16 "TalePlayModel" "defaults" "[I") (by decide +kernel)) (fun _ h9 => h9) rfl dX12_digest_44 ?_
  refine lv_bipush (v := 6) hx hb dX12_digest_47 (by decide) ?_
  refine lv_iload_n hx hb dX12_digest_49 rfl (lv_at hl 2 rfl) ?_
  refine lv_imul hx hb dX12_digest_50 ?_
  refine tp_i (y := 12) (by decide) ?_
  refine lv_iload hx hb dX12_digest_51 (lv_at hl 0 rfl) ?_
  refine lv_iadd hx hb dX12_digest_53 ?_
  refine tp_i (y := 13) (by decide) ?_
  refine va_iald hx hb hK hP 2 1 rfl rfl (show vp_in 13 144 from by unfold vp_in; decide) dX12_digest_54 ?_
  refine tp_i (y := (-9)) (hfd _ (by decide)) ?_
  refine lv_i2l (v := (-9)) hx hb dX12_digest_55 (by decide) ?_
  refine lv_ladd hx hb dX12_digest_56 ?_
  refine tp_l (y := 8724414656272216720) (by decide) ?_
  refine lv_lstore_n (lv' := [(1, .long 8724414656272216720), (4, .int 1), (3, .int 2), (0, .ref m0)]) hx hb dX12_digest_57 rfl hl (by decide) rfl (fun ls hl => ?_)
  refine lv_iinc (v := 2) (lv' := [(4, .int 2), (1, .long 8724414656272216720), (3, .int 2), (0, .ref m0)]) hx hb dX12_digest_58 hl (k := 1) rfl (by decide) (by decide) rfl (fun ls hl => ?_)
  refine lv_goto (tgt := 31) hx hb dX12_digest_61 (by decide) ?_
  refine lv_iload hx hb dX12_digest_31 (lv_at hl 0 rfl) ?_
  refine lv_bipush (v := 6) hx hb dX12_digest_33 (by decide) ?_
  refine lv_icmp_ge (tgt := 64) hx hb dX12_digest_35 (by decide) (fun q9 => absurd q9 (by decide)) (fun _ => ?_)
  refine lv_ldc2 (v := 31) hx hb hown (hts (.constantLong RX12 455 (31)) (by decide +kernel)) dX12_digest_38 ?_
  refine lv_lload_n hx hb dX12_digest_41 rfl (lv_at hl 1 rfl) ?_
  refine lv_lmul hx hb dX12_digest_42 ?_
  refine tp_l (y := (-6244306761204555920)) (by decide) ?_
  refine lv_aload_n hx hb dX12_digest_43 rfl (lv_at hl 3 rfl) ?_
  refine va_get (D := D) (ci := 12) (v := .ref g4) (C := RX12) (T := TX12) (N := 69) hx hb hts (fun _ h => List.mem_cons_of_mem _ (List.mem_append_right _ h)) hown hK hP 0 rfl rfl 4 (by decide) (hts (.fieldLink RX12 16 "TalePlayModel" "defaults" "[I") (by decide +kernel)) (fun _ h9 => h9) rfl dX12_digest_44 ?_
  refine lv_bipush (v := 6) hx hb dX12_digest_47 (by decide) ?_
  refine lv_iload_n hx hb dX12_digest_49 rfl (lv_at hl 2 rfl) ?_
  refine lv_imul hx hb dX12_digest_50 ?_
  refine tp_i (y := 12) (by decide) ?_
  refine lv_iload hx hb dX12_digest_51 (lv_at hl 0 rfl) ?_
  refine lv_iadd hx hb dX12_digest_53 ?_
  refine tp_i (y := 14) (by decide) ?_
  refine va_iald hx hb hK hP 2 1 rfl rfl (show vp_in 14 144 from by unfold vp_in; decide) dX12_digest_54 ?_
  refine tp_i (y := (-9)) (hfd _ (by decide)) ?_
  refine lv_i2l (v := (-9)) hx hb dX12_digest_55 (by decide) ?_
  refine lv_ladd hx hb dX12_digest_56 ?_
  refine tp_l (y := (-6244306761204555929)) (by decide) ?_
  refine lv_lstore_n (lv' := [(1, .long (-6244306761204555929)), (4, .int 2), (3, .int 2), (0, .ref m0)]) hx hb dX12_digest_57 rfl hl (by decide) rfl (fun ls hl => ?_)
  refine lv_iinc (v := 3) (lv' := [(4, .int 3), (1, .long (-6244306761204555929)), (3, .int 2), (0, .ref m0)]) hx hb dX12_digest_58 hl (k := 1) rfl (by decide) (by decide) rfl (fun ls hl => ?_)
  refine lv_goto (tgt := 31) hx hb dX12_digest_61 (by decide) ?_
  refine lv_iload hx hb dX12_digest_31 (lv_at hl 0 rfl) ?_
  refine lv_bipush (v := 6) hx hb dX12_digest_33 (by decide) ?_
  refine lv_icmp_ge (tgt := 64) hx hb dX12_digest_35 (by decide) (fun q9 => absurd q9 (by decide)) (fun _ => ?_)
  refine lv_ldc2 (v := 31) hx hb hown (hts (.constantLong RX12 455 (31)) (by decide +kernel)) dX12_digest_38 ?_
  refine lv_lload_n hx hb dX12_digest_41 rfl (lv_at hl 1 rfl) ?_
  refine lv_lmul hx hb dX12_digest_42 ?_
  refine tp_l (y := (-9106068860245717639)) (by decide) ?_
  refine lv_aload_n hx hb dX12_digest_43 rfl (lv_at hl 3 rfl) ?_
  refine va_get (D := D) (ci := 12) (v := .ref g4) (C := RX12) (T := TX12) (N := 69) hx hb hts (fun _ h => List.mem_cons_of_mem _ (List.mem_append_right _ h)) hown hK hP 0 rfl rfl 4 (by decide) (hts (.fieldLink RX12 16 "TalePlayModel" "defaults" "[I") (by decide +kernel)) (fun _ h9 => h9) rfl dX12_digest_44 ?_
  refine lv_bipush (v := 6) hx hb dX12_digest_47 (by decide) ?_
  refine lv_iload_n hx hb dX12_digest_49 rfl (lv_at hl 2 rfl) ?_
  refine lv_imul hx hb dX12_digest_50 ?_
  refine tp_i (y := 12) (by decide) ?_
  refine lv_iload hx hb dX12_digest_51 (lv_at hl 0 rfl) ?_
  refine lv_iadd hx hb dX12_digest_53 ?_
  refine tp_i (y := 15) (by decide) ?_
  refine va_iald hx hb hK hP 2 1 rfl rfl (show vp_in 15 144 from by unfold vp_in; decide) dX12_digest_54 ?_
  refine tp_i (y := (-9)) (hfd _ (by decide)) ?_
  refine lv_i2l (v := (-9)) hx hb dX12_digest_55 (by decide) ?_
  refine lv_ladd hx hb dX12_digest_56 ?_
  refine tp_l (y := (-9106068860245717648)) (by decide) ?_
  refine lv_lstore_n (lv' := [(1, .long (-9106068860245717648)), (4, .int 3), (3, .int 2), (0, .ref m0)]) hx hb dX12_digest_57 rfl hl (by decide) rfl (fun ls hl => ?_)
  refine lv_iinc (v := 4) (lv' := [(4, .int 4), (1, .long (-9106068860245717648)), (3, .int 2), (0, .ref m0)]) hx hb dX12_digest_58 hl (k := 1) rfl (by decide) (by decide) rfl (fun ls hl => ?_)
  refine lv_goto (tgt := 31) hx hb dX12_digest_61 (by decide) ?_
  refine lv_iload hx hb dX12_digest_31 (lv_at hl 0 rfl) ?_
  refine lv_bipush (v := 6) hx hb dX12_digest_33 (by decide) ?_
  refine lv_icmp_ge (tgt := 64) hx hb dX12_digest_35 (by decide) (fun q9 => absurd q9 (by decide)) (fun _ => ?_)
  refine lv_ldc2 (v := 31) hx hb hown (hts (.constantLong RX12 455 (31)) (by decide +kernel)) dX12_digest_38 ?_
  refine lv_lload_n hx hb dX12_digest_41 rfl (lv_at hl 1 rfl) ?_
  refine lv_lmul hx hb dX12_digest_42 ?_
  refine tp_l (y := (-5586973561973972848)) (by decide) ?_
  refine lv_aload_n hx hb dX12_digest_43 rfl (lv_at hl 3 rfl) ?_
  refine va_get (D := D) (ci := 12) (v := .ref g4) (C := RX12) (T := TX12) (N := 69) hx hb hts (fun _ h => List.mem_cons_of_mem _ (List.mem_append_right _ h)) hown hK hP 0 rfl rfl 4 (by decide) (hts (.fieldLink RX12 16 "TalePlayModel" "defaults" "[I") (by decide +kernel)) (fun _ h9 => h9) rfl dX12_digest_44 ?_
  refine lv_bipush (v := 6) hx hb dX12_digest_47 (by decide) ?_
  refine lv_iload_n hx hb dX12_digest_49 rfl (lv_at hl 2 rfl) ?_
  refine lv_imul hx hb dX12_digest_50 ?_
  refine tp_i (y := 12) (by decide) ?_
  refine lv_iload hx hb dX12_digest_51 (lv_at hl 0 rfl) ?_
  refine lv_iadd hx hb dX12_digest_53 ?_
  refine tp_i (y := 16) (by decide) ?_
  refine va_iald hx hb hK hP 2 1 rfl rfl (show vp_in 16 144 from by unfold vp_in; decide) dX12_digest_54 ?_
  refine tp_i (y := (-9)) (hfd _ (by decide)) ?_
  refine lv_i2l (v := (-9)) hx hb dX12_digest_55 (by decide) ?_
  refine lv_ladd hx hb dX12_digest_56 ?_
  refine tp_l (y := (-5586973561973972857)) (by decide) ?_
  refine lv_lstore_n (lv' := [(1, .long (-5586973561973972857)), (4, .int 4), (3, .int 2), (0, .ref m0)]) hx hb dX12_digest_57 rfl hl (by decide) rfl (fun ls hl => ?_)
  refine lv_iinc (v := 5) (lv' := [(4, .int 5), (1, .long (-5586973561973972857)), (3, .int 2), (0, .ref m0)]) hx hb dX12_digest_58 hl (k := 1) rfl (by decide) (by decide) rfl (fun ls hl => ?_)
  refine lv_goto (tgt := 31) hx hb dX12_digest_61 (by decide) ?_
  refine lv_iload hx hb dX12_digest_31 (lv_at hl 0 rfl) ?_
  refine lv_bipush (v := 6) hx hb dX12_digest_33 (by decide) ?_
  refine lv_icmp_ge (tgt := 64) hx hb dX12_digest_35 (by decide) (fun q9 => absurd q9 (by decide)) (fun _ => ?_)
  refine lv_ldc2 (v := 31) hx hb hown (hts (.constantLong RX12 455 (31)) (by decide +kernel)) dX12_digest_38 ?_
  refine lv_lload_n hx hb dX12_digest_41 rfl (lv_at hl 1 rfl) ?_
  refine lv_lmul hx hb dX12_digest_42 ?_
  refine tp_l (y := (-7175483757807194023)) (by decide) ?_
  refine lv_aload_n hx hb dX12_digest_43 rfl (lv_at hl 3 rfl) ?_
  refine va_get (D := D) (ci := 12) (v := .ref g4) (C := RX12) (T := TX12) (N := 69) hx hb hts (fun _ h => List.mem_cons_of_mem _ (List.mem_append_right _ h)) hown hK hP 0 rfl rfl 4 (by decide) (hts (.fieldLink RX12 16 "TalePlayModel" "defaults" "[I") (by decide +kernel)) (fun _ h9 => h9) rfl dX12_digest_44 ?_
  refine lv_bipush (v := 6) hx hb dX12_digest_47 (by decide) ?_
  refine lv_iload_n hx hb dX12_digest_49 rfl (lv_at hl 2 rfl) ?_
  refine lv_imul hx hb dX12_digest_50 ?_
  refine tp_i (y := 12) (by decide) ?_
  refine lv_iload hx hb dX12_digest_51 (lv_at hl 0 rfl) ?_
  refine lv_iadd hx hb dX12_digest_53 ?_
  refine tp_i (y := 17) (by decide) ?_
  refine va_iald hx hb hK hP 2 1 rfl rfl (show vp_in 17 144 from by unfold vp_in; decide) dX12_digest_54 ?_
  refine tp_i (y := (-9)) (hfd _ (by decide)) ?_
  refine lv_i2l (v := (-9)) hx hb dX12_digest_55 (by decide) ?_
  refine lv_ladd hx hb dX12_digest_56 ?_
  refine tp_l (y := (-7175483757807194032)) (by decide) ?_
  refine lv_lstore_n (lv' := [(1, .long (-7175483757807194032)), (4, .int 5), (3, .int 2), (0, .ref m0)]) hx hb dX12_digest_57 rfl hl (by decide) rfl (fun ls hl => ?_)
  refine lv_iinc (v := 6) (lv' := [(4, .int 6), (1, .long (-7175483757807194032)), (3, .int 2), (0, .ref m0)]) hx hb dX12_digest_58 hl (k := 1) rfl (by decide) (by decide) rfl (fun ls hl => ?_)
  refine lv_goto (tgt := 31) hx hb dX12_digest_61 (by decide) ?_
  refine lv_iload hx hb dX12_digest_31 (lv_at hl 0 rfl) ?_
  refine lv_bipush (v := 6) hx hb dX12_digest_33 (by decide) ?_
  refine lv_icmp_ge (tgt := 64) hx hb dX12_digest_35 (by decide) (fun _ => ?_) (fun q9 => absurd (by decide) q9)
  refine lv_iinc (v := 3) (lv' := [(3, .int 3), (4, .int 6), (1, .long (-7175483757807194032)), (0, .ref m0)]) hx hb dX12_digest_64 hl (k := 2) rfl (by decide) (by decide) rfl (fun ls hl => ?_)
  refine lv_goto (tgt := 6) hx hb dX12_digest_67 (by decide) ?_
  refine lv_iload_n hx hb dX12_digest_6 rfl (lv_at hl 0 rfl) ?_
  refine lv_aload_n hx hb dX12_digest_7 rfl (lv_at hl 3 rfl) ?_
  refine va_get (D := D) (ci := 12) (v := .int 6) (C := RX12) (T := TX12) (N := 69) hx hb hts (fun _ h => List.mem_cons_of_mem _ (List.mem_append_right _ h)) hown hK hP 0 rfl rfl 2 (by decide) (hts (.fieldLink RX12 151 "TalePlayModel" "kinds" "I") (by decide +kernel)) (fun _ h9 => h9) rfl dX12_digest_8 ?_
  refine lv_icmp_ge (tgt := 70) hx hb dX12_digest_11 (by decide) (fun q9 => absurd q9 (by decide)) (fun _ => ?_)
  refine lv_ldc2 (v := 31) hx hb hown (hts (.constantLong RX12 455 (31)) (by decide +kernel)) dX12_digest_14 ?_
  refine lv_lload_n hx hb dX12_digest_17 rfl (lv_at hl 2 rfl) ?_
  refine lv_lmul hx hb dX12_digest_18 ?_
  refine tp_l (y := (-1079067607508395600)) (by decide) ?_
  refine lv_aload_n hx hb dX12_digest_19 rfl (lv_at hl 3 rfl) ?_
  refine va_get (D := D) (ci := 12) (v := .ref g3) (C := RX12) (T := TX12) (N := 69) hx hb hts (fun _ h => List.mem_cons_of_mem _ (List.mem_append_right _ h)) hown hK hP 0 rfl rfl 3 (by decide) (hts (.fieldLink RX12 13 "TalePlayModel" "parentOf" "[I") (by decide +kernel)) (fun _ h9 => h9) rfl dX12_digest_20 ?_
  refine lv_iload_n hx hb dX12_digest_23 rfl (lv_at hl 0 rfl) ?_
  refine va_iald hx hb hK hP 1 0 rfl rfl (show vp_in 3 24 from by unfold vp_in; decide) dX12_digest_24 ?_
  refine tp_i (y := 1) hp3 ?_
  refine lv_i2l (v := 1) hx hb dX12_digest_25 (by decide) ?_
  refine lv_ladd hx hb dX12_digest_26 ?_
  refine tp_l (y := (-1079067607508395599)) (by decide) ?_
  refine lv_lstore_n (lv' := [(1, .long (-1079067607508395599)), (3, .int 3), (4, .int 6), (0, .ref m0)]) hx hb dX12_digest_27 rfl hl (by decide) rfl (fun ls hl => ?_)
  refine lv_iconst (v := 0) hx hb dX12_digest_28 (by decide) ?_
  refine lv_istore (lv' := [(4, .int 0), (1, .long (-1079067607508395599)), (3, .int 3), (0, .ref m0)]) hx hb dX12_digest_29 hl (by decide) rfl (fun ls hl => ?_)
  refine lv_iload hx hb dX12_digest_31 (lv_at hl 0 rfl) ?_
  refine lv_bipush (v := 6) hx hb dX12_digest_33 (by decide) ?_
  refine lv_icmp_ge (tgt := 64) hx hb dX12_digest_35 (by decide) (fun q9 => absurd q9 (by decide)) (fun _ => ?_)
  refine lv_ldc2 (v := 31) hx hb hown (hts (.constantLong RX12 455 (31)) (by decide +kernel)) dX12_digest_38 ?_
  refine lv_lload_n hx hb dX12_digest_41 rfl (lv_at hl 1 rfl) ?_
  refine lv_lmul hx hb dX12_digest_42 ?_
  refine tp_l (y := 3442392314658839663) (by decide) ?_
  refine lv_aload_n hx hb dX12_digest_43 rfl (lv_at hl 3 rfl) ?_
  refine va_get (D := D) (ci := 12) (v := .ref g4) (C := RX12) (T := TX12) (N := 69) hx hb hts (fun _ h => List.mem_cons_of_mem _ (List.mem_append_right _ h)) hown hK hP 0 rfl rfl 4 (by decide) (hts (.fieldLink RX12 16 "TalePlayModel" "defaults" "[I") (by decide +kernel)) (fun _ h9 => h9) rfl dX12_digest_44 ?_
  refine lv_bipush (v := 6) hx hb dX12_digest_47 (by decide) ?_
  refine lv_iload_n hx hb dX12_digest_49 rfl (lv_at hl 2 rfl) ?_
  refine lv_imul hx hb dX12_digest_50 ?_
  refine tp_i (y := 18) (by decide) ?_
  refine lv_iload hx hb dX12_digest_51 (lv_at hl 0 rfl) ?_
  refine lv_iadd hx hb dX12_digest_53 ?_
  refine tp_i (y := 18) (by decide) ?_
  refine va_iald hx hb hK hP 2 1 rfl rfl (show vp_in 18 144 from by unfold vp_in; decide) dX12_digest_54 ?_
  refine tp_i (y := (-9)) (hfd _ (by decide)) ?_
  refine lv_i2l (v := (-9)) hx hb dX12_digest_55 (by decide) ?_
  refine lv_ladd hx hb dX12_digest_56 ?_
  refine tp_l (y := 3442392314658839654) (by decide) ?_
  refine lv_lstore_n (lv' := [(1, .long 3442392314658839654), (4, .int 0), (3, .int 3), (0, .ref m0)]) hx hb dX12_digest_57 rfl hl (by decide) rfl (fun ls hl => ?_)
  refine lv_iinc (v := 1) (lv' := [(4, .int 1), (1, .long 3442392314658839654), (3, .int 3), (0, .ref m0)]) hx hb dX12_digest_58 hl (k := 1) rfl (by decide) (by decide) rfl (fun ls hl => ?_)
  refine lv_goto (tgt := 31) hx hb dX12_digest_61 (by decide) ?_
  refine lv_iload hx hb dX12_digest_31 (lv_at hl 0 rfl) ?_
  refine lv_bipush (v := 6) hx hb dX12_digest_33 (by decide) ?_
  refine lv_icmp_ge (tgt := 64) hx hb dX12_digest_35 (by decide) (fun q9 => absurd q9 (by decide)) (fun _ => ?_)
  refine lv_ldc2 (v := 31) hx hb hown (hts (.constantLong RX12 455 (31)) (by decide +kernel)) dX12_digest_38 ?_
  refine lv_lload_n hx hb dX12_digest_41 rfl (lv_at hl 1 rfl) ?_
  refine lv_lmul hx hb dX12_digest_42 ?_
  refine tp_l (y := (-3966302687833280422)) (by decide) ?_
  refine lv_aload_n hx hb dX12_digest_43 rfl (lv_at hl 3 rfl) ?_
  refine va_get (D := D) (ci := 12) (v := .ref g4) (C := RX12) (T := TX12) (N := 69) hx hb hts (fun _ h => List.mem_cons_of_mem _ (List.mem_append_right _ h)) hown hK hP 0 rfl rfl 4 (by decide) (hts (.fieldLink RX12 16 "TalePlayModel" "defaults" "[I") (by decide +kernel)) (fun _ h9 => h9) rfl dX12_digest_44 ?_
  refine lv_bipush (v := 6) hx hb dX12_digest_47 (by decide) ?_
  refine lv_iload_n hx hb dX12_digest_49 rfl (lv_at hl 2 rfl) ?_
  refine lv_imul hx hb dX12_digest_50 ?_
  refine tp_i (y := 18) (by decide) ?_
  refine lv_iload hx hb dX12_digest_51 (lv_at hl 0 rfl) ?_
  refine lv_iadd hx hb dX12_digest_53 ?_
  refine tp_i (y := 19) (by decide) ?_
  refine va_iald hx hb hK hP 2 1 rfl rfl (show vp_in 19 144 from by unfold vp_in; decide) dX12_digest_54 ?_
  refine tp_i (y := (-9)) (hfd _ (by decide)) ?_
  refine lv_i2l (v := (-9)) hx hb dX12_digest_55 (by decide) ?_
  refine lv_ladd hx hb dX12_digest_56 ?_
  refine tp_l (y := (-3966302687833280431)) (by decide) ?_
  refine lv_lstore_n (lv' := [(1, .long (-3966302687833280431)), (4, .int 1), (3, .int 3), (0, .ref m0)]) hx hb dX12_digest_57 rfl hl (by decide) rfl (fun ls hl => ?_)
  refine lv_iinc (v := 2) (lv' := [(4, .int 2), (1, .long (-3966302687833280431)), (3, .int 3), (0, .ref m0)]) hx hb dX12_digest_58 hl (k := 1) rfl (by decide) (by decide) rfl (fun ls hl => ?_)
  refine lv_goto (tgt := 31) hx hb dX12_digest_61 (by decide) ?_
  refine lv_iload hx hb dX12_digest_31 (lv_at hl 0 rfl) ?_
  refine lv_bipush (v := 6) hx hb dX12_digest_33 (by decide) ?_
  refine lv_icmp_ge (tgt := 64) hx hb dX12_digest_35 (by decide) (fun q9 => absurd q9 (by decide)) (fun _ => ?_)
  refine lv_ldc2 (v := 31) hx hb hown (hts (.constantLong RX12 455 (31)) (by decide +kernel)) dX12_digest_38 ?_
  refine lv_lload_n hx hb dX12_digest_41 rfl (lv_at hl 1 rfl) ?_
  refine lv_lmul hx hb dX12_digest_42 ?_
  refine tp_l (y := 6171825193135167951) (by decide) ?_
  refine lv_aload_n hx hb dX12_digest_43 rfl (lv_at hl 3 rfl) ?_
  refine va_get (D := D) (ci := 12) (v := .ref g4) (C := RX12) (T := TX12) (N := 69) hx hb hts (fun _ h => List.mem_cons_of_mem _ (List.mem_append_right _ h)) hown hK hP 0 rfl rfl 4 (by decide) (hts (.fieldLink RX12 16 "TalePlayModel" "defaults" "[I") (by decide +kernel)) (fun _ h9 => h9) rfl dX12_digest_44 ?_
  refine lv_bipush (v := 6) hx hb dX12_digest_47 (by decide) ?_
  refine lv_iload_n hx hb dX12_digest_49 rfl (lv_at hl 2 rfl) ?_
  refine lv_imul hx hb dX12_digest_50 ?_
  refine tp_i (y := 18) (by decide) ?_
  refine lv_iload hx hb dX12_digest_51 (lv_at hl 0 rfl) ?_
  refine lv_iadd hx hb dX12_digest_53 ?_
  refine tp_i (y := 20) (by decide) ?_
  refine va_iald hx hb hK hP 2 1 rfl rfl (show vp_in 20 144 from by unfold vp_in; decide) dX12_digest_54 ?_
  refine tp_i (y := (-9)) (hfd _ (by decide)) ?_
  refine lv_i2l (v := (-9)) hx hb dX12_digest_55 (by decide) ?_
  refine lv_ladd hx hb dX12_digest_56 ?_
  refine tp_l (y := 6171825193135167942) (by decide) ?_
  refine lv_lstore_n (lv' := [(1, .long 6171825193135167942), (4, .int 2), (3, .int 3), (0, .ref m0)]) hx hb dX12_digest_57 rfl hl (by decide) rfl (fun ls hl => ?_)
  refine lv_iinc (v := 3) (lv' := [(4, .int 3), (1, .long 6171825193135167942), (3, .int 3), (0, .ref m0)]) hx hb dX12_digest_58 hl (k := 1) rfl (by decide) (by decide) rfl (fun ls hl => ?_)
  refine lv_goto (tgt := 31) hx hb dX12_digest_61 (by decide) ?_
  refine lv_iload hx hb dX12_digest_31 (lv_at hl 0 rfl) ?_
  refine lv_bipush (v := 6) hx hb dX12_digest_33 (by decide) ?_
  refine lv_icmp_ge (tgt := 64) hx hb dX12_digest_35 (by decide) (fun q9 => absurd q9 (by decide)) (fun _ => ?_)
  refine lv_ldc2 (v := 31) hx hb hown (hts (.constantLong RX12 455 (31)) (by decide +kernel)) dX12_digest_38 ?_
  refine lv_lload_n hx hb dX12_digest_41 rfl (lv_at hl 1 rfl) ?_
  refine lv_lmul hx hb dX12_digest_42 ?_
  refine tp_l (y := 6859140250094690042) (by decide) ?_
  refine lv_aload_n hx hb dX12_digest_43 rfl (lv_at hl 3 rfl) ?_
  refine va_get (D := D) (ci := 12) (v := .ref g4) (C := RX12) (T := TX12) (N := 69) hx hb hts (fun _ h => List.mem_cons_of_mem _ (List.mem_append_right _ h)) hown hK hP 0 rfl rfl 4 (by decide) (hts (.fieldLink RX12 16 "TalePlayModel" "defaults" "[I") (by decide +kernel)) (fun _ h9 => h9) rfl dX12_digest_44 ?_
  refine lv_bipush (v := 6) hx hb dX12_digest_47 (by decide) ?_
  refine lv_iload_n hx hb dX12_digest_49 rfl (lv_at hl 2 rfl) ?_
  refine lv_imul hx hb dX12_digest_50 ?_
  refine tp_i (y := 18) (by decide) ?_
  refine lv_iload hx hb dX12_digest_51 (lv_at hl 0 rfl) ?_
  refine lv_iadd hx hb dX12_digest_53 ?_
  refine tp_i (y := 21) (by decide) ?_
  refine va_iald hx hb hK hP 2 1 rfl rfl (show vp_in 21 144 from by unfold vp_in; decide) dX12_digest_54 ?_
  refine tp_i (y := (-9)) (hfd _ (by decide)) ?_
  refine lv_i2l (v := (-9)) hx hb dX12_digest_55 (by decide) ?_
  refine lv_ladd hx hb dX12_digest_56 ?_
  refine tp_l (y := 6859140250094690033) (by decide) ?_
  refine lv_lstore_n (lv' := [(1, .long 6859140250094690033), (4, .int 3), (3, .int 3), (0, .ref m0)]) hx hb dX12_digest_57 rfl hl (by decide) rfl (fun ls hl => ?_)
  refine lv_iinc (v := 4) (lv' := [(4, .int 4), (1, .long 6859140250094690033), (3, .int 3), (0, .ref m0)]) hx hb dX12_digest_58 hl (k := 1) rfl (by decide) (by decide) rfl (fun ls hl => ?_)
  refine lv_goto (tgt := 31) hx hb dX12_digest_61 (by decide) ?_
  refine lv_iload hx hb dX12_digest_31 (lv_at hl 0 rfl) ?_
  refine lv_bipush (v := 6) hx hb dX12_digest_33 (by decide) ?_
  refine lv_icmp_ge (tgt := 64) hx hb dX12_digest_35 (by decide) (fun q9 => absurd q9 (by decide)) (fun _ => ?_)
  refine lv_ldc2 (v := 31) hx hb hown (hts (.constantLong RX12 455 (31)) (by decide +kernel)) dX12_digest_38 ?_
  refine lv_lload_n hx hb dX12_digest_41 rfl (lv_at hl 1 rfl) ?_
  refine lv_lmul hx hb dX12_digest_42 ?_
  refine tp_l (y := (-8727581131579228369)) (by decide) ?_
  refine lv_aload_n hx hb dX12_digest_43 rfl (lv_at hl 3 rfl) ?_
  refine va_get (D := D) (ci := 12) (v := .ref g4) (C := RX12) (T := TX12) (N := 69) hx hb hts (fun _ h => List.mem_cons_of_mem _ (List.mem_append_right _ h)) hown hK hP 0 rfl rfl 4 (by decide) (hts (.fieldLink RX12 16 "TalePlayModel" "defaults" "[I") (by decide +kernel)) (fun _ h9 => h9) rfl dX12_digest_44 ?_
  refine lv_bipush (v := 6) hx hb dX12_digest_47 (by decide) ?_
  refine lv_iload_n hx hb dX12_digest_49 rfl (lv_at hl 2 rfl) ?_
  refine lv_imul hx hb dX12_digest_50 ?_
  refine tp_i (y := 18) (by decide) ?_
  refine lv_iload hx hb dX12_digest_51 (lv_at hl 0 rfl) ?_
  refine lv_iadd hx hb dX12_digest_53 ?_
  refine tp_i (y := 22) (by decide) ?_
  refine va_iald hx hb hK hP 2 1 rfl rfl (show vp_in 22 144 from by unfold vp_in; decide) dX12_digest_54 ?_
  refine tp_i (y := (-9)) (hfd _ (by decide)) ?_
  refine lv_i2l (v := (-9)) hx hb dX12_digest_55 (by decide) ?_
  refine lv_ladd hx hb dX12_digest_56 ?_
  refine tp_l (y := (-8727581131579228378)) (by decide) ?_
  refine lv_lstore_n (lv' := [(1, .long (-8727581131579228378)), (4, .int 4), (3, .int 3), (0, .ref m0)]) hx hb dX12_digest_57 rfl hl (by decide) rfl (fun ls hl => ?_)
  refine lv_iinc (v := 5) (lv' := [(4, .int 5), (1, .long (-8727581131579228378)), (3, .int 3), (0, .ref m0)]) hx hb dX12_digest_58 hl (k := 1) rfl (by decide) (by decide) rfl (fun ls hl => ?_)
  refine lv_goto (tgt := 31) hx hb dX12_digest_61 (by decide) ?_
  refine lv_iload hx hb dX12_digest_31 (lv_at hl 0 rfl) ?_
  refine lv_bipush (v := 6) hx hb dX12_digest_33 (by decide) ?_
  refine lv_icmp_ge (tgt := 64) hx hb dX12_digest_35 (by decide) (fun q9 => absurd q9 (by decide)) (fun _ => ?_)
  refine lv_ldc2 (v := 31) hx hb hown (hts (.constantLong RX12 455 (31)) (by decide +kernel)) dX12_digest_38 ?_
  refine lv_lload_n hx hb dX12_digest_41 rfl (lv_at hl 1 rfl) ?_
  refine lv_lmul hx hb dX12_digest_42 ?_
  refine tp_l (y := 6146146026687194522) (by decide) ?_
  refine lv_aload_n hx hb dX12_digest_43 rfl (lv_at hl 3 rfl) ?_
  refine va_get (D := D) (ci := 12) (v := .ref g4) (C := RX12) (T := TX12) (N := 69) hx hb hts (fun _ h => List.mem_cons_of_mem _ (List.mem_append_right _ h)) hown hK hP 0 rfl rfl 4 (by decide) (hts (.fieldLink RX12 16 "TalePlayModel" "defaults" "[I") (by decide +kernel)) (fun _ h9 => h9) rfl dX12_digest_44 ?_
  refine lv_bipush (v := 6) hx hb dX12_digest_47 (by decide) ?_
  refine lv_iload_n hx hb dX12_digest_49 rfl (lv_at hl 2 rfl) ?_
  refine lv_imul hx hb dX12_digest_50 ?_
  refine tp_i (y := 18) (by decide) ?_
  refine lv_iload hx hb dX12_digest_51 (lv_at hl 0 rfl) ?_
  refine lv_iadd hx hb dX12_digest_53 ?_
  refine tp_i (y := 23) (by decide) ?_
  refine va_iald hx hb hK hP 2 1 rfl rfl (show vp_in 23 144 from by unfold vp_in; decide) dX12_digest_54 ?_
  refine tp_i (y := (-9)) (hfd _ (by decide)) ?_
  refine lv_i2l (v := (-9)) hx hb dX12_digest_55 (by decide) ?_
  refine lv_ladd hx hb dX12_digest_56 ?_
  refine tp_l (y := 6146146026687194513) (by decide) ?_
  refine lv_lstore_n (lv' := [(1, .long 6146146026687194513), (4, .int 5), (3, .int 3), (0, .ref m0)]) hx hb dX12_digest_57 rfl hl (by decide) rfl (fun ls hl => ?_)
  refine lv_iinc (v := 6) (lv' := [(4, .int 6), (1, .long 6146146026687194513), (3, .int 3), (0, .ref m0)]) hx hb dX12_digest_58 hl (k := 1) rfl (by decide) (by decide) rfl (fun ls hl => ?_)
  refine lv_goto (tgt := 31) hx hb dX12_digest_61 (by decide) ?_
  refine lv_iload hx hb dX12_digest_31 (lv_at hl 0 rfl) ?_
  refine lv_bipush (v := 6) hx hb dX12_digest_33 (by decide) ?_
  refine lv_icmp_ge (tgt := 64) hx hb dX12_digest_35 (by decide) (fun _ => ?_) (fun q9 => absurd (by decide) q9)
  refine lv_iinc (v := 4) (lv' := [(3, .int 4), (4, .int 6), (1, .long 6146146026687194513), (0, .ref m0)]) hx hb dX12_digest_64 hl (k := 2) rfl (by decide) (by decide) rfl (fun ls hl => ?_)
  refine lv_goto (tgt := 6) hx hb dX12_digest_67 (by decide) ?_
  refine lv_iload_n hx hb dX12_digest_6 rfl (lv_at hl 0 rfl) ?_
  refine lv_aload_n hx hb dX12_digest_7 rfl (lv_at hl 3 rfl) ?_
  refine va_get (D := D) (ci := 12) (v := .int 6) (C := RX12) (T := TX12) (N := 69) hx hb hts (fun _ h => List.mem_cons_of_mem _ (List.mem_append_right _ h)) hown hK hP 0 rfl rfl 2 (by decide) (hts (.fieldLink RX12 151 "TalePlayModel" "kinds" "I") (by decide +kernel)) (fun _ h9 => h9) rfl dX12_digest_8 ?_
  refine lv_icmp_ge (tgt := 70) hx hb dX12_digest_11 (by decide) (fun q9 => absurd q9 (by decide)) (fun _ => ?_)
  refine lv_ldc2 (v := 31) hx hb hown (hts (.constantLong RX12 455 (31)) (by decide +kernel)) dX12_digest_14 ?_
  refine lv_lload_n hx hb dX12_digest_17 rfl (lv_at hl 2 rfl) ?_
  refine lv_lmul hx hb dX12_digest_18 ?_
  refine tp_l (y := 6063086090207513743) (by decide) ?_
  refine lv_aload_n hx hb dX12_digest_19 rfl (lv_at hl 3 rfl) ?_
  refine va_get (D := D) (ci := 12) (v := .ref g3) (C := RX12) (T := TX12) (N := 69) hx hb hts (fun _ h => List.mem_cons_of_mem _ (List.mem_append_right _ h)) hown hK hP 0 rfl rfl 3 (by decide) (hts (.fieldLink RX12 13 "TalePlayModel" "parentOf" "[I") (by decide +kernel)) (fun _ h9 => h9) rfl dX12_digest_20 ?_
  refine lv_iload_n hx hb dX12_digest_23 rfl (lv_at hl 0 rfl) ?_
  refine va_iald hx hb hK hP 1 0 rfl rfl (show vp_in 4 24 from by unfold vp_in; decide) dX12_digest_24 ?_
  refine tp_i (y := 1) hp4 ?_
  refine lv_i2l (v := 1) hx hb dX12_digest_25 (by decide) ?_
  refine lv_ladd hx hb dX12_digest_26 ?_
  refine tp_l (y := 6063086090207513744) (by decide) ?_
  refine lv_lstore_n (lv' := [(1, .long 6063086090207513744), (3, .int 4), (4, .int 6), (0, .ref m0)]) hx hb dX12_digest_27 rfl hl (by decide) rfl (fun ls hl => ?_)
  refine lv_iconst (v := 0) hx hb dX12_digest_28 (by decide) ?_
  refine lv_istore (lv' := [(4, .int 0), (1, .long 6063086090207513744), (3, .int 4), (0, .ref m0)]) hx hb dX12_digest_29 hl (by decide) rfl (fun ls hl => ?_)
  refine lv_iload hx hb dX12_digest_31 (lv_at hl 0 rfl) ?_
  refine lv_bipush (v := 6) hx hb dX12_digest_33 (by decide) ?_
  refine lv_icmp_ge (tgt := 64) hx hb dX12_digest_35 (by decide) (fun q9 => absurd q9 (by decide)) (fun _ => ?_)
  refine lv_ldc2 (v := 31) hx hb hown (hts (.constantLong RX12 455 (31)) (by decide +kernel)) dX12_digest_38 ?_
  refine lv_lload_n hx hb dX12_digest_41 rfl (lv_at hl 1 rfl) ?_
  refine lv_lmul hx hb dX12_digest_42 ?_
  refine tp_l (y := 3488228059337409904) (by decide) ?_
  refine lv_aload_n hx hb dX12_digest_43 rfl (lv_at hl 3 rfl) ?_
  refine va_get (D := D) (ci := 12) (v := .ref g4) (C := RX12) (T := TX12) (N := 69) hx hb hts (fun _ h => List.mem_cons_of_mem _ (List.mem_append_right _ h)) hown hK hP 0 rfl rfl 4 (by decide) (hts (.fieldLink RX12 16 "TalePlayModel" "defaults" "[I") (by decide +kernel)) (fun _ h9 => h9) rfl dX12_digest_44 ?_
  refine lv_bipush (v := 6) hx hb dX12_digest_47 (by decide) ?_
  refine lv_iload_n hx hb dX12_digest_49 rfl (lv_at hl 2 rfl) ?_
  refine lv_imul hx hb dX12_digest_50 ?_
  refine tp_i (y := 24) (by decide) ?_
  refine lv_iload hx hb dX12_digest_51 (lv_at hl 0 rfl) ?_
  refine lv_iadd hx hb dX12_digest_53 ?_
  refine tp_i (y := 24) (by decide) ?_
  refine va_iald hx hb hK hP 2 1 rfl rfl (show vp_in 24 144 from by unfold vp_in; decide) dX12_digest_54 ?_
  refine tp_i (y := (-9)) (hfd _ (by decide)) ?_
  refine lv_i2l (v := (-9)) hx hb dX12_digest_55 (by decide) ?_
  refine lv_ladd hx hb dX12_digest_56 ?_
  refine tp_l (y := 3488228059337409895) (by decide) ?_
  refine lv_lstore_n (lv' := [(1, .long 3488228059337409895), (4, .int 0), (3, .int 4), (0, .ref m0)]) hx hb dX12_digest_57 rfl hl (by decide) rfl (fun ls hl => ?_)
  refine lv_iinc (v := 1) (lv' := [(4, .int 1), (1, .long 3488228059337409895), (3, .int 4), (0, .ref m0)]) hx hb dX12_digest_58 hl (k := 1) rfl (by decide) (by decide) rfl (fun ls hl => ?_)
  refine lv_goto (tgt := 31) hx hb dX12_digest_61 (by decide) ?_
  refine lv_iload hx hb dX12_digest_31 (lv_at hl 0 rfl) ?_
  refine lv_bipush (v := 6) hx hb dX12_digest_33 (by decide) ?_
  refine lv_icmp_ge (tgt := 64) hx hb dX12_digest_35 (by decide) (fun q9 => absurd q9 (by decide)) (fun _ => ?_)
  refine lv_ldc2 (v := 31) hx hb hown (hts (.constantLong RX12 455 (31)) (by decide +kernel)) dX12_digest_38 ?_
  refine lv_lload_n hx hb dX12_digest_41 rfl (lv_at hl 1 rfl) ?_
  refine lv_lmul hx hb dX12_digest_42 ?_
  refine tp_l (y := (-2545394602797602951)) (by decide) ?_
  refine lv_aload_n hx hb dX12_digest_43 rfl (lv_at hl 3 rfl) ?_
  refine va_get (D := D) (ci := 12) (v := .ref g4) (C := RX12) (T := TX12) (N := 69) hx hb hts (fun _ h => List.mem_cons_of_mem _ (List.mem_append_right _ h)) hown hK hP 0 rfl rfl 4 (by decide) (hts (.fieldLink RX12 16 "TalePlayModel" "defaults" "[I") (by decide +kernel)) (fun _ h9 => h9) rfl dX12_digest_44 ?_
  refine lv_bipush (v := 6) hx hb dX12_digest_47 (by decide) ?_
  refine lv_iload_n hx hb dX12_digest_49 rfl (lv_at hl 2 rfl) ?_
  refine lv_imul hx hb dX12_digest_50 ?_
  refine tp_i (y := 24) (by decide) ?_
  refine lv_iload hx hb dX12_digest_51 (lv_at hl 0 rfl) ?_
  refine lv_iadd hx hb dX12_digest_53 ?_
  refine tp_i (y := 25) (by decide) ?_
  refine va_iald hx hb hK hP 2 1 rfl rfl (show vp_in 25 144 from by unfold vp_in; decide) dX12_digest_54 ?_
  refine tp_i (y := (-9)) (hfd _ (by decide)) ?_
  refine lv_i2l (v := (-9)) hx hb dX12_digest_55 (by decide) ?_
  refine lv_ladd hx hb dX12_digest_56 ?_
  refine tp_l (y := (-2545394602797602960)) (by decide) ?_
  refine lv_lstore_n (lv' := [(1, .long (-2545394602797602960)), (4, .int 1), (3, .int 4), (0, .ref m0)]) hx hb dX12_digest_57 rfl hl (by decide) rfl (fun ls hl => ?_)
  refine lv_iinc (v := 2) (lv' := [(4, .int 2), (1, .long (-2545394602797602960)), (3, .int 4), (0, .ref m0)]) hx hb dX12_digest_58 hl (k := 1) rfl (by decide) (by decide) rfl (fun ls hl => ?_)
  refine lv_goto (tgt := 31) hx hb dX12_digest_61 (by decide) ?_
  refine lv_iload hx hb dX12_digest_31 (lv_at hl 0 rfl) ?_
  refine lv_bipush (v := 6) hx hb dX12_digest_33 (by decide) ?_
  refine lv_icmp_ge (tgt := 64) hx hb dX12_digest_35 (by decide) (fun q9 => absurd q9 (by decide)) (fun _ => ?_)
  refine lv_ldc2 (v := 31) hx hb hown (hts (.constantLong RX12 455 (31)) (by decide +kernel)) dX12_digest_38 ?_
  refine lv_lload_n hx hb dX12_digest_41 rfl (lv_at hl 1 rfl) ?_
  refine lv_lmul hx hb dX12_digest_42 ?_
  refine tp_l (y := (-5120256391887485296)) (by decide) ?_
  refine lv_aload_n hx hb dX12_digest_43 rfl (lv_at hl 3 rfl) ?_
  refine va_get (D := D) (ci := 12) (v := .ref g4) (C := RX12) (T := TX12) (N := 69) hx hb hts (fun _ h => List.mem_cons_of_mem _ (List.mem_append_right _ h)) hown hK hP 0 rfl rfl 4 (by decide) (hts (.fieldLink RX12 16 "TalePlayModel" "defaults" "[I") (by decide +kernel)) (fun _ h9 => h9) rfl dX12_digest_44 ?_
  refine lv_bipush (v := 6) hx hb dX12_digest_47 (by decide) ?_
  refine lv_iload_n hx hb dX12_digest_49 rfl (lv_at hl 2 rfl) ?_
  refine lv_imul hx hb dX12_digest_50 ?_
  refine tp_i (y := 24) (by decide) ?_
  refine lv_iload hx hb dX12_digest_51 (lv_at hl 0 rfl) ?_
  refine lv_iadd hx hb dX12_digest_53 ?_
  refine tp_i (y := 26) (by decide) ?_
  refine va_iald hx hb hK hP 2 1 rfl rfl (show vp_in 26 144 from by unfold vp_in; decide) dX12_digest_54 ?_
  refine tp_i (y := (-9)) (hfd _ (by decide)) ?_
  refine lv_i2l (v := (-9)) hx hb dX12_digest_55 (by decide) ?_
  refine lv_ladd hx hb dX12_digest_56 ?_
  refine tp_l (y := (-5120256391887485305)) (by decide) ?_
  refine lv_lstore_n (lv' := [(1, .long (-5120256391887485305)), (4, .int 2), (3, .int 4), (0, .ref m0)]) hx hb dX12_digest_57 rfl hl (by decide) rfl (fun ls hl => ?_)
  refine lv_iinc (v := 3) (lv' := [(4, .int 3), (1, .long (-5120256391887485305)), (3, .int 4), (0, .ref m0)]) hx hb dX12_digest_58 hl (k := 1) rfl (by decide) (by decide) rfl (fun ls hl => ?_)
  refine lv_goto (tgt := 31) hx hb dX12_digest_61 (by decide) ?_
  refine lv_iload hx hb dX12_digest_31 (lv_at hl 0 rfl) ?_
  refine lv_bipush (v := 6) hx hb dX12_digest_33 (by decide) ?_
  refine lv_icmp_ge (tgt := 64) hx hb dX12_digest_35 (by decide) (fun q9 => absurd q9 (by decide)) (fun _ => ?_)
  refine lv_ldc2 (v := 31) hx hb hown (hts (.constantLong RX12 455 (31)) (by decide +kernel)) dX12_digest_38 ?_
  refine lv_lload_n hx hb dX12_digest_41 rfl (lv_at hl 1 rfl) ?_
  refine lv_lmul hx hb dX12_digest_42 ?_
  refine tp_l (y := 7292748514873920089) (by decide) ?_
  refine lv_aload_n hx hb dX12_digest_43 rfl (lv_at hl 3 rfl) ?_
  refine va_get (D := D) (ci := 12) (v := .ref g4) (C := RX12) (T := TX12) (N := 69) hx hb hts (fun _ h => List.mem_cons_of_mem _ (List.mem_append_right _ h)) hown hK hP 0 rfl rfl 4 (by decide) (hts (.fieldLink RX12 16 "TalePlayModel" "defaults" "[I") (by decide +kernel)) (fun _ h9 => h9) rfl dX12_digest_44 ?_
  refine lv_bipush (v := 6) hx hb dX12_digest_47 (by decide) ?_
  refine lv_iload_n hx hb dX12_digest_49 rfl (lv_at hl 2 rfl) ?_
  refine lv_imul hx hb dX12_digest_50 ?_
  refine tp_i (y := 24) (by decide) ?_
  refine lv_iload hx hb dX12_digest_51 (lv_at hl 0 rfl) ?_
  refine lv_iadd hx hb dX12_digest_53 ?_
  refine tp_i (y := 27) (by decide) ?_
  refine va_iald hx hb hK hP 2 1 rfl rfl (show vp_in 27 144 from by unfold vp_in; decide) dX12_digest_54 ?_
  refine tp_i (y := (-9)) (hfd _ (by decide)) ?_
  refine lv_i2l (v := (-9)) hx hb dX12_digest_55 (by decide) ?_
  refine lv_ladd hx hb dX12_digest_56 ?_
  refine tp_l (y := 7292748514873920080) (by decide) ?_
  refine lv_lstore_n (lv' := [(1, .long 7292748514873920080), (4, .int 3), (3, .int 4), (0, .ref m0)]) hx hb dX12_digest_57 rfl hl (by decide) rfl (fun ls hl => ?_)
  refine lv_iinc (v := 4) (lv' := [(4, .int 4), (1, .long 7292748514873920080), (3, .int 4), (0, .ref m0)]) hx hb dX12_digest_58 hl (k := 1) rfl (by decide) (by decide) rfl (fun ls hl => ?_)
  refine lv_goto (tgt := 31) hx hb dX12_digest_61 (by decide) ?_
  refine lv_iload hx hb dX12_digest_31 (lv_at hl 0 rfl) ?_
  refine lv_bipush (v := 6) hx hb dX12_digest_33 (by decide) ?_
  refine lv_icmp_ge (tgt := 64) hx hb dX12_digest_35 (by decide) (fun q9 => absurd q9 (by decide)) (fun _ => ?_)
  refine lv_ldc2 (v := 31) hx hb hown (hts (.constantLong RX12 455 (31)) (by decide +kernel)) dX12_digest_38 ?_
  refine lv_lload_n hx hb dX12_digest_41 rfl (lv_at hl 1 rfl) ?_
  refine lv_lmul hx hb dX12_digest_42 ?_
  refine tp_l (y := 4714275076576903088) (by decide) ?_
  refine lv_aload_n hx hb dX12_digest_43 rfl (lv_at hl 3 rfl) ?_
  refine va_get (D := D) (ci := 12) (v := .ref g4) (C := RX12) (T := TX12) (N := 69) hx hb hts (fun _ h => List.mem_cons_of_mem _ (List.mem_append_right _ h)) hown hK hP 0 rfl rfl 4 (by decide) (hts (.fieldLink RX12 16 "TalePlayModel" "defaults" "[I") (by decide +kernel)) (fun _ h9 => h9) rfl dX12_digest_44 ?_
  refine lv_bipush (v := 6) hx hb dX12_digest_47 (by decide) ?_
  refine lv_iload_n hx hb dX12_digest_49 rfl (lv_at hl 2 rfl) ?_
  refine lv_imul hx hb dX12_digest_50 ?_
  refine tp_i (y := 24) (by decide) ?_
  refine lv_iload hx hb dX12_digest_51 (lv_at hl 0 rfl) ?_
  refine lv_iadd hx hb dX12_digest_53 ?_
  refine tp_i (y := 28) (by decide) ?_
  refine va_iald hx hb hK hP 2 1 rfl rfl (show vp_in 28 144 from by unfold vp_in; decide) dX12_digest_54 ?_
  refine tp_i (y := (-9)) (hfd _ (by decide)) ?_
  refine lv_i2l (v := (-9)) hx hb dX12_digest_55 (by decide) ?_
  refine lv_ladd hx hb dX12_digest_56 ?_
  refine tp_l (y := 4714275076576903079) (by decide) ?_
  refine lv_lstore_n (lv' := [(1, .long 4714275076576903079), (4, .int 4), (3, .int 4), (0, .ref m0)]) hx hb dX12_digest_57 rfl hl (by decide) rfl (fun ls hl => ?_)
  refine lv_iinc (v := 5) (lv' := [(4, .int 5), (1, .long 4714275076576903079), (3, .int 4), (0, .ref m0)]) hx hb dX12_digest_58 hl (k := 1) rfl (by decide) (by decide) rfl (fun ls hl => ?_)
  refine lv_goto (tgt := 31) hx hb dX12_digest_61 (by decide) ?_
  refine lv_iload hx hb dX12_digest_31 (lv_at hl 0 rfl) ?_
  refine lv_bipush (v := 6) hx hb dX12_digest_33 (by decide) ?_
  refine lv_icmp_ge (tgt := 64) hx hb dX12_digest_35 (by decide) (fun q9 => absurd q9 (by decide)) (fun _ => ?_)
  refine lv_ldc2 (v := 31) hx hb hown (hts (.constantLong RX12 455 (31)) (by decide +kernel)) dX12_digest_38 ?_
  refine lv_lload_n hx hb dX12_digest_41 rfl (lv_at hl 1 rfl) ?_
  refine lv_lmul hx hb dX12_digest_42 ?_
  refine tp_l (y := (-1431425215792417479)) (by decide) ?_
  refine lv_aload_n hx hb dX12_digest_43 rfl (lv_at hl 3 rfl) ?_
  refine va_get (D := D) (ci := 12) (v := .ref g4) (C := RX12) (T := TX12) (N := 69) hx hb hts (fun _ h => List.mem_cons_of_mem _ (List.mem_append_right _ h)) hown hK hP 0 rfl rfl 4 (by decide) (hts (.fieldLink RX12 16 "TalePlayModel" "defaults" "[I") (by decide +kernel)) (fun _ h9 => h9) rfl dX12_digest_44 ?_
  refine lv_bipush (v := 6) hx hb dX12_digest_47 (by decide) ?_
  refine lv_iload_n hx hb dX12_digest_49 rfl (lv_at hl 2 rfl) ?_
  refine lv_imul hx hb dX12_digest_50 ?_
  refine tp_i (y := 24) (by decide) ?_
  refine lv_iload hx hb dX12_digest_51 (lv_at hl 0 rfl) ?_
  refine lv_iadd hx hb dX12_digest_53 ?_
  refine tp_i (y := 29) (by decide) ?_
  refine va_iald hx hb hK hP 2 1 rfl rfl (show vp_in 29 144 from by unfold vp_in; decide) dX12_digest_54 ?_
  refine tp_i (y := (-9)) (hfd _ (by decide)) ?_
  refine lv_i2l (v := (-9)) hx hb dX12_digest_55 (by decide) ?_
  refine lv_ladd hx hb dX12_digest_56 ?_
  refine tp_l (y := (-1431425215792417488)) (by decide) ?_
  refine lv_lstore_n (lv' := [(1, .long (-1431425215792417488)), (4, .int 5), (3, .int 4), (0, .ref m0)]) hx hb dX12_digest_57 rfl hl (by decide) rfl (fun ls hl => ?_)
  refine lv_iinc (v := 6) (lv' := [(4, .int 6), (1, .long (-1431425215792417488)), (3, .int 4), (0, .ref m0)]) hx hb dX12_digest_58 hl (k := 1) rfl (by decide) (by decide) rfl (fun ls hl => ?_)
  refine lv_goto (tgt := 31) hx hb dX12_digest_61 (by decide) ?_
  refine lv_iload hx hb dX12_digest_31 (lv_at hl 0 rfl) ?_
  refine lv_bipush (v := 6) hx hb dX12_digest_33 (by decide) ?_
  refine lv_icmp_ge (tgt := 64) hx hb dX12_digest_35 (by decide) (fun _ => ?_) (fun q9 => absurd (by decide) q9)
  refine lv_iinc (v := 5) (lv' := [(3, .int 5), (4, .int 6), (1, .long (-1431425215792417488)), (0, .ref m0)]) hx hb dX12_digest_64 hl (k := 2) rfl (by decide) (by decide) rfl (fun ls hl => ?_)
  refine lv_goto (tgt := 6) hx hb dX12_digest_67 (by decide) ?_
  refine lv_iload_n hx hb dX12_digest_6 rfl (lv_at hl 0 rfl) ?_
  refine lv_aload_n hx hb dX12_digest_7 rfl (lv_at hl 3 rfl) ?_
  refine va_get (D := D) (ci := 12) (v := .int 6) (C := RX12) (T := TX12) (N := 69) hx hb hts (fun _ h => List.mem_cons_of_mem _ (List.mem_append_right _ h)) hown hK hP 0 rfl rfl 2 (by decide) (hts (.fieldLink RX12 151 "TalePlayModel" "kinds" "I") (by decide +kernel)) (fun _ h9 => h9) rfl dX12_digest_8 ?_
  refine lv_icmp_ge (tgt := 70) hx hb dX12_digest_11 (by decide) (fun q9 => absurd q9 (by decide)) (fun _ => ?_)
  refine lv_ldc2 (v := 31) hx hb hown (hts (.constantLong RX12 455 (31)) (by decide +kernel)) dX12_digest_14 ?_
  refine lv_lload_n hx hb dX12_digest_17 rfl (lv_at hl 2 rfl) ?_
  refine lv_lmul hx hb dX12_digest_18 ?_
  refine tp_l (y := (-7480693542145838896)) (by decide) ?_
  refine lv_aload_n hx hb dX12_digest_19 rfl (lv_at hl 3 rfl) ?_
  refine va_get (D := D) (ci := 12) (v := .ref g3) (C := RX12) (T := TX12) (N := 69) hx hb hts (fun _ h => List.mem_cons_of_mem _ (List.mem_append_right _ h)) hown hK hP 0 rfl rfl 3 (by decide) (hts (.fieldLink RX12 13 "TalePlayModel" "parentOf" "[I") (by decide +kernel)) (fun _ h9 => h9) rfl dX12_digest_20 ?_
  refine lv_iload_n hx hb dX12_digest_23 rfl (lv_at hl 0 rfl) ?_
  refine va_iald hx hb hK hP 1 0 rfl rfl (show vp_in 5 24 from by unfold vp_in; decide) dX12_digest_24 ?_
  refine tp_i (y := 1) hp5 ?_
  refine lv_i2l (v := 1) hx hb dX12_digest_25 (by decide) ?_
  refine lv_ladd hx hb dX12_digest_26 ?_
  refine tp_l (y := (-7480693542145838895)) (by decide) ?_
  refine lv_lstore_n (lv' := [(1, .long (-7480693542145838895)), (3, .int 5), (4, .int 6), (0, .ref m0)]) hx hb dX12_digest_27 rfl hl (by decide) rfl (fun ls hl => ?_)
  refine lv_iconst (v := 0) hx hb dX12_digest_28 (by decide) ?_
  refine lv_istore (lv' := [(4, .int 0), (1, .long (-7480693542145838895)), (3, .int 5), (0, .ref m0)]) hx hb dX12_digest_29 hl (by decide) rfl (fun ls hl => ?_)
  refine lv_iload hx hb dX12_digest_31 (lv_at hl 0 rfl) ?_
  refine lv_bipush (v := 6) hx hb dX12_digest_33 (by decide) ?_
  refine lv_icmp_ge (tgt := 64) hx hb dX12_digest_35 (by decide) (fun q9 => absurd q9 (by decide)) (fun _ => ?_)
  refine lv_ldc2 (v := 31) hx hb hown (hts (.constantLong RX12 455 (31)) (by decide +kernel)) dX12_digest_38 ?_
  refine lv_lload_n hx hb dX12_digest_41 rfl (lv_at hl 1 rfl) ?_
  refine lv_lmul hx hb dX12_digest_42 ?_
  refine tp_l (y := 7906173151703165263) (by decide) ?_
  refine lv_aload_n hx hb dX12_digest_43 rfl (lv_at hl 3 rfl) ?_
  refine va_get (D := D) (ci := 12) (v := .ref g4) (C := RX12) (T := TX12) (N := 69) hx hb hts (fun _ h => List.mem_cons_of_mem _ (List.mem_append_right _ h)) hown hK hP 0 rfl rfl 4 (by decide) (hts (.fieldLink RX12 16 "TalePlayModel" "defaults" "[I") (by decide +kernel)) (fun _ h9 => h9) rfl dX12_digest_44 ?_
  refine lv_bipush (v := 6) hx hb dX12_digest_47 (by decide) ?_
  refine lv_iload_n hx hb dX12_digest_49 rfl (lv_at hl 2 rfl) ?_
  refine lv_imul hx hb dX12_digest_50 ?_
  refine tp_i (y := 30) (by decide) ?_
  refine lv_iload hx hb dX12_digest_51 (lv_at hl 0 rfl) ?_
  refine lv_iadd hx hb dX12_digest_53 ?_
  refine tp_i (y := 30) (by decide) ?_
  refine va_iald hx hb hK hP 2 1 rfl rfl (show vp_in 30 144 from by unfold vp_in; decide) dX12_digest_54 ?_
  refine tp_i (y := (-9)) (hfd _ (by decide)) ?_
  refine lv_i2l (v := (-9)) hx hb dX12_digest_55 (by decide) ?_
  refine lv_ladd hx hb dX12_digest_56 ?_
  refine tp_l (y := 7906173151703165254) (by decide) ?_
  refine lv_lstore_n (lv' := [(1, .long 7906173151703165254), (4, .int 0), (3, .int 5), (0, .ref m0)]) hx hb dX12_digest_57 rfl hl (by decide) rfl (fun ls hl => ?_)
  refine lv_iinc (v := 1) (lv' := [(4, .int 1), (1, .long 7906173151703165254), (3, .int 5), (0, .ref m0)]) hx hb dX12_digest_58 hl (k := 1) rfl (by decide) (by decide) rfl (fun ls hl => ?_)
  refine lv_goto (tgt := 31) hx hb dX12_digest_61 (by decide) ?_
  refine lv_iload hx hb dX12_digest_31 (lv_at hl 0 rfl) ?_
  refine lv_bipush (v := 6) hx hb dX12_digest_33 (by decide) ?_
  refine lv_icmp_ge (tgt := 64) hx hb dX12_digest_35 (by decide) (fun q9 => absurd q9 (by decide)) (fun _ => ?_)
  refine lv_ldc2 (v := 31) hx hb hown (hts (.constantLong RX12 455 (31)) (by decide +kernel)) dX12_digest_38 ?_
  refine lv_lload_n hx hb dX12_digest_41 rfl (lv_at hl 1 rfl) ?_
  refine lv_lmul hx hb dX12_digest_42 ?_
  refine tp_l (y := 5283694744573951866) (by decide) ?_
  refine lv_aload_n hx hb dX12_digest_43 rfl (lv_at hl 3 rfl) ?_
  refine va_get (D := D) (ci := 12) (v := .ref g4) (C := RX12) (T := TX12) (N := 69) hx hb hts (fun _ h => List.mem_cons_of_mem _ (List.mem_append_right _ h)) hown hK hP 0 rfl rfl 4 (by decide) (hts (.fieldLink RX12 16 "TalePlayModel" "defaults" "[I") (by decide +kernel)) (fun _ h9 => h9) rfl dX12_digest_44 ?_
  refine lv_bipush (v := 6) hx hb dX12_digest_47 (by decide) ?_
  refine lv_iload_n hx hb dX12_digest_49 rfl (lv_at hl 2 rfl) ?_
  refine lv_imul hx hb dX12_digest_50 ?_
  refine tp_i (y := 30) (by decide) ?_
  refine lv_iload hx hb dX12_digest_51 (lv_at hl 0 rfl) ?_
  refine lv_iadd hx hb dX12_digest_53 ?_
  refine tp_i (y := 31) (by decide) ?_
  refine va_iald hx hb hK hP 2 1 rfl rfl (show vp_in 31 144 from by unfold vp_in; decide) dX12_digest_54 ?_
  refine tp_i (y := (-9)) (hfd _ (by decide)) ?_
  refine lv_i2l (v := (-9)) hx hb dX12_digest_55 (by decide) ?_
  refine lv_ladd hx hb dX12_digest_56 ?_
  refine tp_l (y := 5283694744573951857) (by decide) ?_
  refine lv_lstore_n (lv' := [(1, .long 5283694744573951857), (4, .int 1), (3, .int 5), (0, .ref m0)]) hx hb dX12_digest_57 rfl hl (by decide) rfl (fun ls hl => ?_)
  refine lv_iinc (v := 2) (lv' := [(4, .int 2), (1, .long 5283694744573951857), (3, .int 5), (0, .ref m0)]) hx hb dX12_digest_58 hl (k := 1) rfl (by decide) (by decide) rfl (fun ls hl => ?_)
  refine lv_goto (tgt := 31) hx hb dX12_digest_61 (by decide) ?_
  refine lv_iload hx hb dX12_digest_31 (lv_at hl 0 rfl) ?_
  refine lv_bipush (v := 6) hx hb dX12_digest_33 (by decide) ?_
  refine lv_icmp_ge (tgt := 64) hx hb dX12_digest_35 (by decide) (fun q9 => absurd q9 (by decide)) (fun _ => ?_)
  refine lv_ldc2 (v := 31) hx hb hown (hts (.constantLong RX12 455 (31)) (by decide +kernel)) dX12_digest_38 ?_
  refine lv_lload_n hx hb dX12_digest_41 rfl (lv_at hl 1 rfl) ?_
  refine lv_lmul hx hb dX12_digest_42 ?_
  refine tp_l (y := (-2226159581593456977)) (by decide) ?_
  refine lv_aload_n hx hb dX12_digest_43 rfl (lv_at hl 3 rfl) ?_
  refine va_get (D := D) (ci := 12) (v := .ref g4) (C := RX12) (T := TX12) (N := 69) hx hb hts (fun _ h => List.mem_cons_of_mem _ (List.mem_append_right _ h)) hown hK hP 0 rfl rfl 4 (by decide) (hts (.fieldLink RX12 16 "TalePlayModel" "defaults" "[I") (by decide +kernel)) (fun _ h9 => h9) rfl dX12_digest_44 ?_
  refine lv_bipush (v := 6) hx hb dX12_digest_47 (by decide) ?_
  refine lv_iload_n hx hb dX12_digest_49 rfl (lv_at hl 2 rfl) ?_
  refine lv_imul hx hb dX12_digest_50 ?_
  refine tp_i (y := 30) (by decide) ?_
  refine lv_iload hx hb dX12_digest_51 (lv_at hl 0 rfl) ?_
  refine lv_iadd hx hb dX12_digest_53 ?_
  refine tp_i (y := 32) (by decide) ?_
  refine va_iald hx hb hK hP 2 1 rfl rfl (show vp_in 32 144 from by unfold vp_in; decide) dX12_digest_54 ?_
  refine tp_i (y := (-9)) (hfd _ (by decide)) ?_
  refine lv_i2l (v := (-9)) hx hb dX12_digest_55 (by decide) ?_
  refine lv_ladd hx hb dX12_digest_56 ?_
  refine tp_l (y := (-2226159581593456986)) (by decide) ?_
  refine lv_lstore_n (lv' := [(1, .long (-2226159581593456986)), (4, .int 2), (3, .int 5), (0, .ref m0)]) hx hb dX12_digest_57 rfl hl (by decide) rfl (fun ls hl => ?_)
  refine lv_iinc (v := 3) (lv' := [(4, .int 3), (1, .long (-2226159581593456986)), (3, .int 5), (0, .ref m0)]) hx hb dX12_digest_58 hl (k := 1) rfl (by decide) (by decide) rfl (fun ls hl => ?_)
  refine lv_goto (tgt := 31) hx hb dX12_digest_61 (by decide) ?_
  refine lv_iload hx hb dX12_digest_31 (lv_at hl 0 rfl) ?_
  refine lv_bipush (v := 6) hx hb dX12_digest_33 (by decide) ?_
  refine lv_icmp_ge (tgt := 64) hx hb dX12_digest_35 (by decide) (fun q9 => absurd q9 (by decide)) (fun _ => ?_)
  refine lv_ldc2 (v := 31) hx hb hown (hts (.constantLong RX12 455 (31)) (by decide +kernel)) dX12_digest_38 ?_
  refine lv_lload_n hx hb dX12_digest_41 rfl (lv_at hl 1 rfl) ?_
  refine lv_lmul hx hb dX12_digest_42 ?_
  refine tp_l (y := 4776029265441039898) (by decide) ?_
  refine lv_aload_n hx hb dX12_digest_43 rfl (lv_at hl 3 rfl) ?_
  refine va_get (D := D) (ci := 12) (v := .ref g4) (C := RX12) (T := TX12) (N := 69) hx hb hts (fun _ h => List.mem_cons_of_mem _ (List.mem_append_right _ h)) hown hK hP 0 rfl rfl 4 (by decide) (hts (.fieldLink RX12 16 "TalePlayModel" "defaults" "[I") (by decide +kernel)) (fun _ h9 => h9) rfl dX12_digest_44 ?_
  refine lv_bipush (v := 6) hx hb dX12_digest_47 (by decide) ?_
  refine lv_iload_n hx hb dX12_digest_49 rfl (lv_at hl 2 rfl) ?_
  refine lv_imul hx hb dX12_digest_50 ?_
  refine tp_i (y := 30) (by decide) ?_
  refine lv_iload hx hb dX12_digest_51 (lv_at hl 0 rfl) ?_
  refine lv_iadd hx hb dX12_digest_53 ?_
  refine tp_i (y := 33) (by decide) ?_
  refine va_iald hx hb hK hP 2 1 rfl rfl (show vp_in 33 144 from by unfold vp_in; decide) dX12_digest_54 ?_
  refine tp_i (y := (-9)) (hfd _ (by decide)) ?_
  refine lv_i2l (v := (-9)) hx hb dX12_digest_55 (by decide) ?_
  refine lv_ladd hx hb dX12_digest_56 ?_
  refine tp_l (y := 4776029265441039889) (by decide) ?_
  refine lv_lstore_n (lv' := [(1, .long 4776029265441039889), (4, .int 3), (3, .int 5), (0, .ref m0)]) hx hb dX12_digest_57 rfl hl (by decide) rfl (fun ls hl => ?_)
  refine lv_iinc (v := 4) (lv' := [(4, .int 4), (1, .long 4776029265441039889), (3, .int 5), (0, .ref m0)]) hx hb dX12_digest_58 hl (k := 1) rfl (by decide) (by decide) rfl (fun ls hl => ?_)
  refine lv_goto (tgt := 31) hx hb dX12_digest_61 (by decide) ?_
  refine lv_iload hx hb dX12_digest_31 (lv_at hl 0 rfl) ?_
  refine lv_bipush (v := 6) hx hb dX12_digest_33 (by decide) ?_
  refine lv_icmp_ge (tgt := 64) hx hb dX12_digest_35 (by decide) (fun q9 => absurd q9 (by decide)) (fun _ => ?_)
  refine lv_ldc2 (v := 31) hx hb hown (hts (.constantLong RX12 455 (31)) (by decide +kernel)) dX12_digest_38 ?_
  refine lv_lload_n hx hb dX12_digest_41 rfl (lv_at hl 1 rfl) ?_
  refine lv_lmul hx hb dX12_digest_42 ?_
  refine tp_l (y := 482954638995823631) (by decide) ?_
  refine lv_aload_n hx hb dX12_digest_43 rfl (lv_at hl 3 rfl) ?_
  refine va_get (D := D) (ci := 12) (v := .ref g4) (C := RX12) (T := TX12) (N := 69) hx hb hts (fun _ h => List.mem_cons_of_mem _ (List.mem_append_right _ h)) hown hK hP 0 rfl rfl 4 (by decide) (hts (.fieldLink RX12 16 "TalePlayModel" "defaults" "[I") (by decide +kernel)) (fun _ h9 => h9) rfl dX12_digest_44 ?_
  refine lv_bipush (v := 6) hx hb dX12_digest_47 (by decide) ?_
  refine lv_iload_n hx hb dX12_digest_49 rfl (lv_at hl 2 rfl) ?_
  refine lv_imul hx hb dX12_digest_50 ?_
  refine tp_i (y := 30) (by decide) ?_
  refine lv_iload hx hb dX12_digest_51 (lv_at hl 0 rfl) ?_
  refine lv_iadd hx hb dX12_digest_53 ?_
  refine tp_i (y := 34) (by decide) ?_
  refine va_iald hx hb hK hP 2 1 rfl rfl (show vp_in 34 144 from by unfold vp_in; decide) dX12_digest_54 ?_
  refine tp_i (y := (-9)) (hfd _ (by decide)) ?_
  refine lv_i2l (v := (-9)) hx hb dX12_digest_55 (by decide) ?_
  refine lv_ladd hx hb dX12_digest_56 ?_
  refine tp_l (y := 482954638995823622) (by decide) ?_
  refine lv_lstore_n (lv' := [(1, .long 482954638995823622), (4, .int 4), (3, .int 5), (0, .ref m0)]) hx hb dX12_digest_57 rfl hl (by decide) rfl (fun ls hl => ?_)
  refine lv_iinc (v := 5) (lv' := [(4, .int 5), (1, .long 482954638995823622), (3, .int 5), (0, .ref m0)]) hx hb dX12_digest_58 hl (k := 1) rfl (by decide) (by decide) rfl (fun ls hl => ?_)
  refine lv_goto (tgt := 31) hx hb dX12_digest_61 (by decide) ?_
  refine lv_iload hx hb dX12_digest_31 (lv_at hl 0 rfl) ?_
  refine lv_bipush (v := 6) hx hb dX12_digest_33 (by decide) ?_
  refine lv_icmp_ge (tgt := 64) hx hb dX12_digest_35 (by decide) (fun q9 => absurd q9 (by decide)) (fun _ => ?_)
  refine lv_ldc2 (v := 31) hx hb hown (hts (.constantLong RX12 455 (31)) (by decide +kernel)) dX12_digest_38 ?_
  refine lv_lload_n hx hb dX12_digest_41 rfl (lv_at hl 1 rfl) ?_
  refine lv_lmul hx hb dX12_digest_42 ?_
  refine tp_l (y := (-3475150264839019334)) (by decide) ?_
  refine lv_aload_n hx hb dX12_digest_43 rfl (lv_at hl 3 rfl) ?_
  refine va_get (D := D) (ci := 12) (v := .ref g4) (C := RX12) (T := TX12) (N := 69) hx hb hts (fun _ h => List.mem_cons_of_mem _ (List.mem_append_right _ h)) hown hK hP 0 rfl rfl 4 (by decide) (hts (.fieldLink RX12 16 "TalePlayModel" "defaults" "[I") (by decide +kernel)) (fun _ h9 => h9) rfl dX12_digest_44 ?_
  refine lv_bipush (v := 6) hx hb dX12_digest_47 (by decide) ?_
  refine lv_iload_n hx hb dX12_digest_49 rfl (lv_at hl 2 rfl) ?_
  refine lv_imul hx hb dX12_digest_50 ?_
  refine tp_i (y := 30) (by decide) ?_
  refine lv_iload hx hb dX12_digest_51 (lv_at hl 0 rfl) ?_
  refine lv_iadd hx hb dX12_digest_53 ?_
  refine tp_i (y := 35) (by decide) ?_
  refine va_iald hx hb hK hP 2 1 rfl rfl (show vp_in 35 144 from by unfold vp_in; decide) dX12_digest_54 ?_
  refine tp_i (y := (-9)) (hfd _ (by decide)) ?_
  refine lv_i2l (v := (-9)) hx hb dX12_digest_55 (by decide) ?_
  refine lv_ladd hx hb dX12_digest_56 ?_
  refine tp_l (y := (-3475150264839019343)) (by decide) ?_
  refine lv_lstore_n (lv' := [(1, .long (-3475150264839019343)), (4, .int 5), (3, .int 5), (0, .ref m0)]) hx hb dX12_digest_57 rfl hl (by decide) rfl (fun ls hl => ?_)
  refine lv_iinc (v := 6) (lv' := [(4, .int 6), (1, .long (-3475150264839019343)), (3, .int 5), (0, .ref m0)]) hx hb dX12_digest_58 hl (k := 1) rfl (by decide) (by decide) rfl (fun ls hl => ?_)
  refine lv_goto (tgt := 31) hx hb dX12_digest_61 (by decide) ?_
  refine lv_iload hx hb dX12_digest_31 (lv_at hl 0 rfl) ?_
  refine lv_bipush (v := 6) hx hb dX12_digest_33 (by decide) ?_
  refine lv_icmp_ge (tgt := 64) hx hb dX12_digest_35 (by decide) (fun _ => ?_) (fun q9 => absurd (by decide) q9)
  refine lv_iinc (v := 6) (lv' := [(3, .int 6), (4, .int 6), (1, .long (-3475150264839019343)), (0, .ref m0)]) hx hb dX12_digest_64 hl (k := 2) rfl (by decide) (by decide) rfl (fun ls hl => ?_)
  refine lv_goto (tgt := 6) hx hb dX12_digest_67 (by decide) ?_
  refine lv_iload_n hx hb dX12_digest_6 rfl (lv_at hl 0 rfl) ?_
  refine lv_aload_n hx hb dX12_digest_7 rfl (lv_at hl 3 rfl) ?_
  refine va_get (D := D) (ci := 12) (v := .int 6) (C := RX12) (T := TX12) (N := 69) hx hb hts (fun _ h => List.mem_cons_of_mem _ (List.mem_append_right _ h)) hown hK hP 0 rfl rfl 2 (by decide) (hts (.fieldLink RX12 151 "TalePlayModel" "kinds" "I") (by decide +kernel)) (fun _ h9 => h9) rfl dX12_digest_8 ?_
  refine lv_icmp_ge (tgt := 70) hx hb dX12_digest_11 (by decide) (fun _ => ?_) (fun q9 => absurd (by decide) q9)
  refine lv_aload_n hx hb dX12_digest_70 rfl (lv_at hl 3 rfl) ?_
  refine va_get (D := D) (ci := 12) (v := .int (-9)) (C := RX12) (T := TX12) (N := 69) hx hb hts (fun _ h => List.mem_cons_of_mem _ (List.mem_append_right _ h)) hown hK hP 0 rfl rfl 22 (by decide) (hts (.fieldLink RX12 155 "TalePlayModel" "player" "I") (by decide +kernel)) (fun _ h9 => h9) rfl dX12_digest_71 ?_
  refine lv_bipush (v := (-9)) hx hb dX12_digest_74 (by decide) ?_
  refine lv_icmp_eq (tgt := 87) hx hb dX12_digest_76 (by decide) (fun _ => ?_) (fun q9 => absurd (by decide) q9)
  refine lv_iconst (v := 0) hx hb dX12_digest_87 (by decide) ?_
  refine lv_istore_n (lv' := [(3, .int 0), (4, .int 6), (1, .long (-3475150264839019343)), (0, .ref m0)]) hx hb dX12_digest_88 rfl hl (by decide) rfl (fun ls hl => ?_)
  refine lv_iload_n hx hb dX12_digest_89 rfl (lv_at hl 0 rfl) ?_
  refine lv_aload_n hx hb dX12_digest_90 rfl (lv_at hl 3 rfl) ?_
  refine va_get (D := D) (ci := 12) (v := .int 0) (C := RX12) (T := TX12) (N := 69) hx hb hts (fun _ h => List.mem_cons_of_mem _ (List.mem_append_right _ h)) hown hK hP 0 rfl rfl 5 (by decide) (hts (.fieldLink RX12 177 "TalePlayModel" "objects" "I") (by decide +kernel)) (fun _ h9 => h9) rfl dX12_digest_91 ?_
  refine lv_icmp_ge (tgt := 228) hx hb dX12_digest_94 (by decide) (fun _ => ?_) (fun q9 => absurd (by decide) q9)
  refine lv_iconst (v := 0) hx hb dX12_digest_228 (by decide) ?_
  refine lv_istore_n (lv' := [(3, .int 0), (4, .int 6), (1, .long (-3475150264839019343)), (0, .ref m0)]) hx hb dX12_digest_229 rfl hl (by decide) rfl (fun ls hl => ?_)
  refine lv_iload_n hx hb dX12_digest_230 rfl (lv_at hl 0 rfl) ?_
  refine lv_aload_n hx hb dX12_digest_231 rfl (lv_at hl 3 rfl) ?_
  refine va_get (D := D) (ci := 12) (v := .int 0) (C := RX12) (T := TX12) (N := 69) hx hb hts (fun _ h => List.mem_cons_of_mem _ (List.mem_append_right _ h)) hown hK hP 0 rfl rfl 8 (by decide) (hts (.fieldLink RX12 202 "TalePlayModel" "sentences" "I") (by decide +kernel)) (fun _ h9 => h9) rfl dX12_digest_232 ?_
  refine lv_icmp_ge (tgt := 274) hx hb dX12_digest_235 (by decide) (fun _ => ?_) (fun q9 => absurd (by decide) q9)
  refine lv_lload_n hx hb dX12_digest_274 rfl (lv_at hl 2 rfl) ?_
  exact ro_lret hx hb hr hlocks hS dX12_digest_275 rfl

