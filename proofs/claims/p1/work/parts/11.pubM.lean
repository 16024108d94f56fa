def wm_X12_kind : List Cond := .code yX12_kind cX12_kind 2 (some .int) :: (([.fieldLink RX12 151 "TalePlayModel" "kinds" "I", .methodLink RX12 166 yX12_in, .static yX12_in, .initialized RX12, .code yX12_in cX12_in 6 (some .boolean), .fieldLink RX12 13 "TalePlayModel" "parentOf" "[I"] : List Cond) ++ wsX120)
set_option maxRecDepth 20000 in
theorem gm_X12_kind_X12_in : GoodIn wm_X12_kind (va_wsS RX12 166 yX12_in wm_X12_in) := goodIn_app (goodIn_of _ (by decide +kernel)) (goodIn_r _ [5] (by decide +kernel) (by decide +kernel))
set_option maxHeartbeats 4000000 in
set_option maxRecDepth 100000 in
/-- kind() of a fresh reference -/
theorem c_X12_kind (l : Launch) (D : va_G) (sz : Nat) (m0 : Nat) (g1 : Nat) (g3 : Nat) (g4 : Nat) (g6 : Nat) (g7 : Nat) (g9 : Nat) (g10 : Nat) (g11 : Nat) (g12 : Nat) (g13 : Nat) (g14 : Nat) (g20 : Nat) (g21 : Nat) (g23 : Nat) (g24 : Nat) (g25 : Nat) (g26 : Nat) (g28 : Nat) (g29 : Nat) (g30 : Nat) (g31 : Nat) (g32 : Nat) (g34 : Nat) (g38 : Nat) (g39 : Nat) (g43 : Nat) (g44 : Nat) (g45 : Nat) (g46 : Nat) (g47 : Nat) (g48 : Nat) (g49 : Nat) (g51 : Nat) (g52 : Nat) (g53 : Nat) (g54 : Nat) (g55 : Nat) (g56 : Nat) (g60 : Nat) (g61 : Nat) (g62 : Nat) (g63 : Nat) (g65 : Nat) (g66 : Nat) (g67 : Nat) (g68 : Nat) (cP : ClassId) (fp : Nat → Int32) (a1 : Int32) : Met l yX12_kind wm_X12_kind ({ frames := 1, cells := 0, slots := 0, locals := 25 }) (va_Pc [.ref m0, .int a1] (pB D sz [(m0, .inr (12, [.int 0, .ref g1, .int 6, .ref g3, .ref g4, .int 0, .ref g6, .ref g7, .int 0, .ref g9, .ref g10, .ref g11, .ref g12, .ref g13, .ref g14, .int 0, .int 0, .int 0, .int 0, .int 0, .ref g20, .ref g21, .int (-9), .ref g23, .ref g24, .ref g25, .ref g26, .int 0, .ref g28, .ref g29, .ref g30, .ref g31, .ref g32, .int 0, .ref g34, .int 0, .int 0, .long 0, .ref g38, .ref g39, .int 0, .int 0, .int 0, .ref g43, .ref g44, .ref g45, .ref g46, .ref g47, .ref g48, .ref g49, .int 0, .ref g51, .ref g52, .ref g53, .ref g54, .ref g55, .ref g56, .int (-9), .int 0, .int 0, .ref g60, .ref g61, .ref g62, .ref g63, .int 0, .ref g65, .ref g66, .ref g67, .ref g68])), (g3, .inl (cP, 24, .inl fp))] [(cP, .int)])) (va_Qi (fun (r : Int32) (_ : Unit) => r = if (0 ≤ a1.toInt ∧ a1.toInt < 6) then 6 else -1) (oC D (va_A [(m0, .inr (12, [.int 0, .ref g1, .int 6, .ref g3, .ref g4, .int 0, .ref g6, .ref g7, .int 0, .ref g9, .ref g10, .ref g11, .ref g12, .ref g13, .ref g14, .int 0, .int 0, .int 0, .int 0, .int 0, .ref g20, .ref g21, .int (-9), .ref g23, .ref g24, .ref g25, .ref g26, .int 0, .ref g28, .ref g29, .ref g30, .ref g31, .ref g32, .int 0, .ref g34, .int 0, .int 0, .long 0, .ref g38, .ref g39, .int 0, .int 0, .int 0, .ref g43, .ref g44, .ref g45, .ref g46, .ref g47, .ref g48, .ref g49, .int 0, .ref g51, .ref g52, .ref g53, .ref g54, .ref g55, .ref g56, .int (-9), .int 0, .int 0, .ref g60, .ref g61, .ref g62, .ref g63, .int 0, .ref g65, .ref g66, .ref g67, .ref g68])), (g3, .inl (cP, 24, .inl fp))] sz) (fun _ => []) (fun _ => [])) (va_A [(m0, .inr (12, [.int 0, .ref g1, .int 6, .ref g3, .ref g4, .int 0, .ref g6, .ref g7, .int 0, .ref g9, .ref g10, .ref g11, .ref g12, .ref g13, .ref g14, .int 0, .int 0, .int 0, .int 0, .int 0, .ref g20, .ref g21, .int (-9), .ref g23, .ref g24, .ref g25, .ref g26, .int 0, .ref g28, .ref g29, .ref g30, .ref g31, .ref g32, .int 0, .ref g34, .int 0, .int 0, .long 0, .ref g38, .ref g39, .int 0, .int 0, .int 0, .ref g43, .ref g44, .ref g45, .ref g46, .ref g47, .ref g48, .ref g49, .int 0, .ref g51, .ref g52, .ref g53, .ref g54, .ref g55, .ref g56, .int (-9), .int 0, .int 0, .ref g60, .ref g61, .ref g62, .ref g63, .int 0, .ref g65, .ref g66, .ref g67, .ref g68])), (g3, .inl (cP, 24, .inl fp))] sz)) 0 0 (va_A [(m0, .inr (12, [.int 0, .ref g1, .int 6, .ref g3, .ref g4, .int 0, .ref g6, .ref g7, .int 0, .ref g9, .ref g10, .ref g11, .ref g12, .ref g13, .ref g14, .int 0, .int 0, .int 0, .int 0, .int 0, .ref g20, .ref g21, .int (-9), .ref g23, .ref g24, .ref g25, .ref g26, .int 0, .ref g28, .ref g29, .ref g30, .ref g31, .ref g32, .int 0, .ref g34, .int 0, .int 0, .long 0, .ref g38, .ref g39, .int 0, .int 0, .int 0, .ref g43, .ref g44, .ref g45, .ref g46, .ref g47, .ref g48, .ref g49, .int 0, .ref g51, .ref g52, .ref g53, .ref g54, .ref g55, .ref g56, .int (-9), .int 0, .int 0, .ref g60, .ref g61, .ref g62, .ref g63, .int 0, .ref g65, .ref g66, .ref g67, .ref g68])), (g3, .inl (cP, 24, .inl fp))] sz) := by
  refine Met.ofW (cc := cX12_kind) (maxL := 2) (ret := (some .int)) (by decide) rfl ?_
  intro p e s m args below meth c s₁ B hml hv
  obtain ⟨rfl, hsz, hP, hK, hD0⟩ := hv
  have hx := B.exec
  have hb := B.bytes
  have hr := B.returns
  have hts := atoms_spec (ws := wm_X12_kind) B.pre
  have hown : s.vm.findClass RX12 = some m.cls := findClass_of_methodNamed B.named
  have hlocks := B.notSynchronized
  subst hsz
  have hD := hD0.self (sz := s.heap.size)
  generalize hAe : va_A [(m0, .inr (12, [.int 0, .ref g1, .int 6, .ref g3, .ref g4, .int 0, .ref g6, .ref g7, .int 0, .ref g9, .ref g10, .ref g11, .ref g12, .ref g13, .ref g14, .int 0, .int 0, .int 0, .int 0, .int 0, .ref g20, .ref g21, .int (-9), .ref g23, .ref g24, .ref g25, .ref g26, .int 0, .ref g28, .ref g29, .ref g30, .ref g31, .ref g32, .int 0, .ref g34, .int 0, .int 0, .long 0, .ref g38, .ref g39, .int 0, .int 0, .int 0, .ref g43, .ref g44, .ref g45, .ref g46, .ref g47, .ref g48, .ref g49, .int 0, .ref g51, .ref g52, .ref g53, .ref g54, .ref g55, .ref g56, .int (-9), .int 0, .int 0, .ref g60, .ref g61, .ref g62, .ref g63, .int 0, .ref g65, .ref g66, .ref g67, .ref g68])), (g3, .inl (cP, 24, .inl fp))] s.heap.size = A at hD ⊢
  have hA : ∀ q : Nat, s.heap.size ≤ q → A q := fun q h => by rw [← hAe]; exact Or.inr h
  have hS : va_S A s.heap s.heap [] := va_S.rf
  have hP : va_P D vwCl [(m0, .inr (12, [.int 0, .ref g1, .int 6, .ref g3, .ref g4, .int 0, .ref g6, .ref g7, .int 0, .ref g9, .ref g10, .ref g11, .ref g12, .ref g13, .ref g14, .int 0, .int 0, .int 0, .int 0, .int 0, .ref g20, .ref g21, .int (-9), .ref g23, .ref g24, .ref g25, .ref g26, .int 0, .ref g28, .ref g29, .ref g30, .ref g31, .ref g32, .int 0, .ref g34, .int 0, .int 0, .long 0, .ref g38, .ref g39, .int 0, .int 0, .int 0, .ref g43, .ref g44, .ref g45, .ref g46, .ref g47, .ref g48, .ref g49, .int 0, .ref g51, .ref g52, .ref g53, .ref g54, .ref g55, .ref g56, .int (-9), .int 0, .int 0, .ref g60, .ref g61, .ref g62, .ref g63, .int 0, .ref g65, .ref g66, .ref g67, .ref g68])), (g3, .inl (cP, 24, .inl fp))] s.heap := hP
  have hl := lv_entry ([.ref m0, .int a1]) (n := 2) (Nat.le_of_ble_eq_true rfl)
  rw [lg_entry_eq]
  generalize (lg_sl ([.ref m0, .int a1]) ++ List.replicate (2 - (lg_sl ([.ref m0, .int a1])).length) Slot.unset).toArray = ls at hl ⊢
  have hl : lv_has ls 2 [(0, .ref m0), (1, .int a1)] := hl
  refine lv_iload_n hx hb dX12_kind_0 rfl (lv_at hl 1 rfl) ?_
  refine lv_i2l (v := a1.toInt64) hx hb dX12_kind_1 rfl ?_
  refine lv_lconst (v := 0) hx hb dX12_kind_2 (by decide) ?_
  refine lv_aload_n hx hb dX12_kind_3 rfl (lv_at hl 0 rfl) ?_
  refine va_get (D := D) (ci := 12) (v := .int 6) (C := RX12) (T := TX12) (N := 69) hx hb hts (fun _ h => List.mem_cons_of_mem _ (List.mem_append_right _ h)) hown hK hP 0 rfl rfl 2 (by decide) (hts (.fieldLink RX12 151 "TalePlayModel" "kinds" "I") (by decide +kernel)) (fun _ h9 => h9) rfl dX12_kind_4 ?_
  refine lv_iconst (v := 1) hx hb dX12_kind_7 (by decide) ?_
  refine lv_isub hx hb dX12_kind_8 ?_
  refine tp_i (y := 5) (by decide) ?_
  refine lv_i2l (v := 5) hx hb dX12_kind_9 (by decide) ?_
  have hPc := hP.sub (ws' := []) [] rfl
  have hKc := hK.sub (tys' := []) [] rfl
  refine ro_calli (va_runS (As := [.long a1.toInt64, .long 0, .long 5]) (rest := []) ⟨hx, hb, hml, hown, hts⟩ (c_X12_in l D s.heap.size a1.toInt64 0 5 a1.toInt 0 5 ((Int32.toInt_toInt64 a1).trans rfl) (by decide) (by decide)) (va_cwS 3 hts gm_X12_kind_X12_in rfl rfl rfl (by decide +kernel) ⟨Nat.le_of_ble_eq_true rfl, Nat.le_of_ble_eq_true rfl⟩) (pA_S hKc hPc) rfl rfl hl.1 rfl (lv_room (Nat.le_of_ble_eq_true rfl)) dX12_kind_10 ⟨Nat.le_of_ble_eq_true rfl, Nat.le_of_ble_eq_true rfl⟩) hS hA hP (fun r1 u1 H locs hw1 hP hS => ?_)
  have hw1 : r1 = if (0 ≤ a1.toInt ∧ a1.toInt ≤ 5) then 1 else 0 := hw1
  refine lv_if_ne (tgt := 18) hx hb dX12_kind_13 (by decide) (fun c2 => ?_) (fun c2 => ?_)
  · have f2 := fl_t hw1 c2
    refine lv_aload_n hx hb dX12_kind_18 rfl (lv_at hl 0 rfl) ?_
    refine va_get (D := D) (ci := 12) (v := .int 6) (C := RX12) (T := TX12) (N := 69) hx hb hts (fun _ h => List.mem_cons_of_mem _ (List.mem_append_right _ h)) hown hK hP 0 rfl rfl 2 (by decide) (hts (.fieldLink RX12 151 "TalePlayModel" "kinds" "I") (by decide +kernel)) (fun _ h9 => h9) rfl dX12_kind_19 ?_
    refine lv_bipush (v := 24) hx hb dX12_kind_22 (by decide) ?_
    refine lv_icmp_ne (tgt := 30) hx hb dX12_kind_24 (by decide) (fun _ => ?_) (fun q9 => absurd q9 (by decide))
    refine lv_aload_n hx hb dX12_kind_30 rfl (lv_at hl 0 rfl) ?_
    refine va_get (D := D) (ci := 12) (v := .ref g3) (C := RX12) (T := TX12) (N := 69) hx hb hts (fun _ h => List.mem_cons_of_mem _ (List.mem_append_right _ h)) hown hK hP 0 rfl rfl 3 (by decide) (hts (.fieldLink RX12 13 "TalePlayModel" "parentOf" "[I") (by decide +kernel)) (fun _ h9 => h9) rfl dX12_kind_31 ?_
    refine lv_aload_n hx hb dX12_kind_34 rfl (lv_at hl 0 rfl) ?_
    refine va_get (D := D) (ci := 12) (v := .int 6) (C := RX12) (T := TX12) (N := 69) hx hb hts (fun _ h => List.mem_cons_of_mem _ (List.mem_append_right _ h)) hown hK hP 0 rfl rfl 2 (by decide) (hts (.fieldLink RX12 151 "TalePlayModel" "kinds" "I") (by decide +kernel)) (fun _ h9 => h9) rfl dX12_kind_35 ?_
    refine lv_iload_n hx hb dX12_kind_38 rfl (lv_at hl 1 rfl) ?_
    refine va_iast hx hb hK hP hD hS 1 0 rfl rfl (show vp_in 6 24 from by unfold vp_in; decide) dX12_kind_39 (fun H locs hP hD hS => ?_)
    have hP : va_P D vwCl [(m0, .inr (12, [.int 0, .ref g1, .int 6, .ref g3, .ref g4, .int 0, .ref g6, .ref g7, .int 0, .ref g9, .ref g10, .ref g11, .ref g12, .ref g13, .ref g14, .int 0, .int 0, .int 0, .int 0, .int 0, .ref g20, .ref g21, .int (-9), .ref g23, .ref g24, .ref g25, .ref g26, .int 0, .ref g28, .ref g29, .ref g30, .ref g31, .ref g32, .int 0, .ref g34, .int 0, .int 0, .long 0, .ref g38, .ref g39, .int 0, .int 0, .int 0, .ref g43, .ref g44, .ref g45, .ref g46, .ref g47, .ref g48, .ref g49, .int 0, .ref g51, .ref g52, .ref g53, .ref g54, .ref g55, .ref g56, .int (-9), .int 0, .int 0, .ref g60, .ref g61, .ref g62, .ref g63, .int 0, .ref g65, .ref g66, .ref g67, .ref g68])), (g3, .inl (cP, 24, .inl (upd fp (6 : Int32).toNatClampNeg a1)))] H := hP
    have hD : va_D A [(m0, .inr (12, [.int 0, .ref g1, .int 6, .ref g3, .ref g4, .int 0, .ref g6, .ref g7, .int 0, .ref g9, .ref g10, .ref g11, .ref g12, .ref g13, .ref g14, .int 0, .int 0, .int 0, .int 0, .int 0, .ref g20, .ref g21, .int (-9), .ref g23, .ref g24, .ref g25, .ref g26, .int 0, .ref g28, .ref g29, .ref g30, .ref g31, .ref g32, .int 0, .ref g34, .int 0, .int 0, .long 0, .ref g38, .ref g39, .int 0, .int 0, .int 0, .ref g43, .ref g44, .ref g45, .ref g46, .ref g47, .ref g48, .ref g49, .int 0, .ref g51, .ref g52, .ref g53, .ref g54, .ref g55, .ref g56, .int (-9), .int 0, .int 0, .ref g60, .ref g61, .ref g62, .ref g63, .int 0, .ref g65, .ref g66, .ref g67, .ref g68])), (g3, .inl (cP, 24, .inl (upd fp (6 : Int32).toNatClampNeg a1)))] := hD
    refine lv_aload_n hx hb dX12_kind_40 rfl (lv_at hl 0 rfl) ?_
    refine lv_dup hx hb dX12_kind_41 rfl ?_
    refine va_get (D := D) (ci := 12) (v := .int 6) (C := RX12) (T := TX12) (N := 69) hx hb hts (fun _ h => List.mem_cons_of_mem _ (List.mem_append_right _ h)) hown hK hP 0 rfl rfl 2 (by decide) (hts (.fieldLink RX12 151 "TalePlayModel" "kinds" "I") (by decide +kernel)) (fun _ h9 => h9) rfl dX12_kind_42 ?_
    refine lv_iconst (v := 1) hx hb dX12_kind_45 (by decide) ?_
    refine lv_iadd hx hb dX12_kind_46 ?_
    refine tp_i (y := 7) (by decide) ?_
    refine va_put (D := D) (ci := 12) (v := .int 7) (ty := .int) (C := RX12) (T := TX12) (N := 69) hx hb hts (fun _ h => List.mem_cons_of_mem _ (List.mem_append_right _ h)) tyX12 tyX12_ok nmX12 hown hK hP hD hS 0 rfl rfl 2 (by decide) (hts (.fieldLink RX12 151 "TalePlayModel" "kinds" "I") (by decide +kernel)) (fun _ h9 => h9) rfl (by decide +kernel) rfl rfl (Nat.le_of_ble_eq_true rfl) dX12_kind_47 (fun H locs hP hD hS => ?_)
    have hP : va_P D vwCl [(m0, .inr (12, [.int 0, .ref g1, .int 7, .ref g3, .ref g4, .int 0, .ref g6, .ref g7, .int 0, .ref g9, .ref g10, .ref g11, .ref g12, .ref g13, .ref g14, .int 0, .int 0, .int 0, .int 0, .int 0, .ref g20, .ref g21, .int (-9), .ref g23, .ref g24, .ref g25, .ref g26, .int 0, .ref g28, .ref g29, .ref g30, .ref g31, .ref g32, .int 0, .ref g34, .int 0, .int 0, .long 0, .ref g38, .ref g39, .int 0, .int 0, .int 0, .ref g43, .ref g44, .ref g45, .ref g46, .ref g47, .ref g48, .ref g49, .int 0, .ref g51, .ref g52, .ref g53, .ref g54, .ref g55, .ref g56, .int (-9), .int 0, .int 0, .ref g60, .ref g61, .ref g62, .ref g63, .int 0, .ref g65, .ref g66, .ref g67, .ref g68])), (g3, .inl (cP, 24, .inl (upd fp (6 : Int32).toNatClampNeg a1)))] H := hP
    have hD : va_D A [(m0, .inr (12, [.int 0, .ref g1, .int 7, .ref g3, .ref g4, .int 0, .ref g6, .ref g7, .int 0, .ref g9, .ref g10, .ref g11, .ref g12, .ref g13, .ref g14, .int 0, .int 0, .int 0, .int 0, .int 0, .ref g20, .ref g21, .int (-9), .ref g23, .ref g24, .ref g25, .ref g26, .int 0, .ref g28, .ref g29, .ref g30, .ref g31, .ref g32, .int 0, .ref g34, .int 0, .int 0, .long 0, .ref g38, .ref g39, .int 0, .int 0, .int 0, .ref g43, .ref g44, .ref g45, .ref g46, .ref g47, .ref g48, .ref g49, .int 0, .ref g51, .ref g52, .ref g53, .ref g54, .ref g55, .ref g56, .int (-9), .int 0, .int 0, .ref g60, .ref g61, .ref g62, .ref g63, .int 0, .ref g65, .ref g66, .ref g67, .ref g68])), (g3, .inl (cP, 24, .inl (upd fp (6 : Int32).toNatClampNeg a1)))] := hD
    refine lv_aload_n hx hb dX12_kind_50 rfl (lv_at hl 0 rfl) ?_
    refine va_get (D := D) (ci := 12) (v := .int 7) (C := RX12) (T := TX12) (N := 69) hx hb hts (fun _ h => List.mem_cons_of_mem _ (List.mem_append_right _ h)) hown hK hP 0 rfl rfl 2 (by decide) (hts (.fieldLink RX12 151 "TalePlayModel" "kinds" "I") (by decide +kernel)) (fun _ h9 => h9) rfl dX12_kind_51 ?_
    refine lv_iconst (v := 1) hx hb dX12_kind_54 (by decide) ?_
    refine lv_isub hx hb dX12_kind_55 ?_
    refine tp_i (y := 6) (by decide) ?_
    exact rw_iret () hx hb hr hlocks hS (hK.sub (tys' := []) [] rfl) (hP.sub (ws' := []) [] rfl) (hD.sub (ws' := []) [] (by decide) rfl) dX12_kind_56 (by show _ = _; (repeat' split) <;> first | rfl | (exfalso; omega))
  · have f2 := fl_f hw1 c2
    refine lv_iconst (v := (-1)) hx hb dX12_kind_16 (by decide) ?_
    exact rw_iret () hx hb hr hlocks hS (hK.sub (tys' := []) [] rfl) (hP.sub (ws' := []) [] rfl) (hD.sub (ws' := []) [] (by decide) rfl) dX12_kind_17 (by show _ = _; (repeat' split) <;> first | rfl | (exfalso; omega))

def wm_X12_standard : List Cond := .code yX12_standard cX12_standard 5 (some .int) :: (([.fieldLink RX12 151 "TalePlayModel" "kinds" "I", .methodLink RX12 166 yX12_in, .static yX12_in, .initialized RX12, .code yX12_in cX12_in 6 (some .boolean), .constantLong RX12 170 (5), .fieldLink RX12 16 "TalePlayModel" "defaults" "[I", .methodLink RX12 172 yX12_endTale, .instanceMethod yX12_endTale, .selects RX12 yX12_endTale yX12_endTale, .code yX12_endTale cX12_endTale 1 none, .fieldLink RX12 155 "TalePlayModel" "player" "I", .fieldLink RX12 291 "TalePlayModel" "turns" "I"] : List Cond) ++ wsX120)
set_option maxRecDepth 20000 in
theorem gm_X12_standard_X12_in : GoodIn wm_X12_standard (va_wsS RX12 166 yX12_in wm_X12_in) := goodIn_app (goodIn_of _ (by decide +kernel)) (goodIn_r _ [5] (by decide +kernel) (by decide +kernel))
set_option maxRecDepth 20000 in
theorem gm_X12_standard_X12_endTale : GoodIn wm_X12_standard (wsV RX12 172 RX12 yX12_endTale wm_X12_endTale) := goodIn_app (goodIn_of _ (by decide +kernel)) (goodIn_r _ [11, 12, 13, 14, 15, 16, 17, 18, 19, 20, 21, 22, 23, 24, 25, 26, 27, 28, 29, 30, 31, 32, 33, 34, 35, 36, 37, 38, 39, 40, 41, 42, 43, 44, 45, 46, 47, 48, 49, 50, 51, 52, 53, 54, 55, 56, 57, 58, 59, 60, 61, 62, 63, 64, 65, 66, 67, 68, 69, 70, 71, 72, 73, 74, 75, 76, 77, 78, 79, 80, 81, 82] (by decide +kernel) (by decide +kernel))
set_option maxHeartbeats 4000000 in
set_option maxRecDepth 100000 in
/-- standard() of a fresh reference -/
theorem c_X12_standard (l : Launch) (D : va_G) (sz : Nat) (m0 : Nat) (g1 : Nat) (g3 : Nat) (g4 : Nat) (g6 : Nat) (g7 : Nat) (g9 : Nat) (g10 : Nat) (g11 : Nat) (g12 : Nat) (g13 : Nat) (g14 : Nat) (g20 : Nat) (g21 : Nat) (g23 : Nat) (g24 : Nat) (g25 : Nat) (g26 : Nat) (g28 : Nat) (g29 : Nat) (g30 : Nat) (g31 : Nat) (g32 : Nat) (g34 : Nat) (g38 : Nat) (g39 : Nat) (g43 : Nat) (g44 : Nat) (g45 : Nat) (g46 : Nat) (g47 : Nat) (g48 : Nat) (g49 : Nat) (g51 : Nat) (g52 : Nat) (g53 : Nat) (g54 : Nat) (g55 : Nat) (g56 : Nat) (g60 : Nat) (g61 : Nat) (g62 : Nat) (g63 : Nat) (g65 : Nat) (g66 : Nat) (g67 : Nat) (g68 : Nat) (cD : ClassId) (fd : Nat → Int32) (a1 : Int32) (a2 : Int32) (a3 : Int32) (hfd : ∀ j, j < 144 → fd j = -9) : Met l yX12_standard wm_X12_standard ({ frames := 1, cells := 0, slots := 0, locals := 25 }) (va_Pc [.ref m0, .int a1, .int a2, .int a3] (pB D sz [(m0, .inr (12, [.int 0, .ref g1, .int 6, .ref g3, .ref g4, .int 0, .ref g6, .ref g7, .int 0, .ref g9, .ref g10, .ref g11, .ref g12, .ref g13, .ref g14, .int 0, .int 0, .int 0, .int 0, .int 0, .ref g20, .ref g21, .int (-9), .ref g23, .ref g24, .ref g25, .ref g26, .int 0, .ref g28, .ref g29, .ref g30, .ref g31, .ref g32, .int 0, .ref g34, .int 0, .int 0, .long 0, .ref g38, .ref g39, .int 0, .int 0, .int 0, .ref g43, .ref g44, .ref g45, .ref g46, .ref g47, .ref g48, .ref g49, .int 0, .ref g51, .ref g52, .ref g53, .ref g54, .ref g55, .ref g56, .int (-9), .int 0, .int 0, .ref g60, .ref g61, .ref g62, .ref g63, .int 0, .ref g65, .ref g66, .ref g67, .ref g68])), (g4, .inl (cD, 144, .inl fd))] [(cD, .int)])) (va_Qi (fun (r : Int32) (_ : Unit) => r = if ((0 ≤ a1.toInt ∧ a1.toInt < 6) ∧ (0 ≤ a2.toInt ∧ a2.toInt < 6) ∧ (a3.toInt = 0 ∨ a3.toInt = 1 ∨ a3.toInt = -9)) then -9 else -1) (oC D (va_A [(m0, .inr (12, [.int 0, .ref g1, .int 6, .ref g3, .ref g4, .int 0, .ref g6, .ref g7, .int 0, .ref g9, .ref g10, .ref g11, .ref g12, .ref g13, .ref g14, .int 0, .int 0, .int 0, .int 0, .int 0, .ref g20, .ref g21, .int (-9), .ref g23, .ref g24, .ref g25, .ref g26, .int 0, .ref g28, .ref g29, .ref g30, .ref g31, .ref g32, .int 0, .ref g34, .int 0, .int 0, .long 0, .ref g38, .ref g39, .int 0, .int 0, .int 0, .ref g43, .ref g44, .ref g45, .ref g46, .ref g47, .ref g48, .ref g49, .int 0, .ref g51, .ref g52, .ref g53, .ref g54, .ref g55, .ref g56, .int (-9), .int 0, .int 0, .ref g60, .ref g61, .ref g62, .ref g63, .int 0, .ref g65, .ref g66, .ref g67, .ref g68])), (g4, .inl (cD, 144, .inl fd))] sz) (fun _ => []) (fun _ => [])) (va_A [(m0, .inr (12, [.int 0, .ref g1, .int 6, .ref g3, .ref g4, .int 0, .ref g6, .ref g7, .int 0, .ref g9, .ref g10, .ref g11, .ref g12, .ref g13, .ref g14, .int 0, .int 0, .int 0, .int 0, .int 0, .ref g20, .ref g21, .int (-9), .ref g23, .ref g24, .ref g25, .ref g26, .int 0, .ref g28, .ref g29, .ref g30, .ref g31, .ref g32, .int 0, .ref g34, .int 0, .int 0, .long 0, .ref g38, .ref g39, .int 0, .int 0, .int 0, .ref g43, .ref g44, .ref g45, .ref g46, .ref g47, .ref g48, .ref g49, .int 0, .ref g51, .ref g52, .ref g53, .ref g54, .ref g55, .ref g56, .int (-9), .int 0, .int 0, .ref g60, .ref g61, .ref g62, .ref g63, .int 0, .ref g65, .ref g66, .ref g67, .ref g68])), (g4, .inl (cD, 144, .inl fd))] sz)) 0 0 (va_A [(m0, .inr (12, [.int 0, .ref g1, .int 6, .ref g3, .ref g4, .int 0, .ref g6, .ref g7, .int 0, .ref g9, .ref g10, .ref g11, .ref g12, .ref g13, .ref g14, .int 0, .int 0, .int 0, .int 0, .int 0, .ref g20, .ref g21, .int (-9), .ref g23, .ref g24, .ref g25, .ref g26, .int 0, .ref g28, .ref g29, .ref g30, .ref g31, .ref g32, .int 0, .ref g34, .int 0, .int 0, .long 0, .ref g38, .ref g39, .int 0, .int 0, .int 0, .ref g43, .ref g44, .ref g45, .ref g46, .ref g47, .ref g48, .ref g49, .int 0, .ref g51, .ref g52, .ref g53, .ref g54, .ref g55, .ref g56, .int (-9), .int 0, .int 0, .ref g60, .ref g61, .ref g62, .ref g63, .int 0, .ref g65, .ref g66, .ref g67, .ref g68])), (g4, .inl (cD, 144, .inl fd))] sz) := by
  refine Met.ofW (cc := cX12_standard) (maxL := 5) (ret := (some .int)) (by decide) rfl ?_
  intro p e s m args below meth c s₁ B hml hv
  obtain ⟨rfl, hsz, hP, hK, hD0⟩ := hv
  have hx := B.exec
  have hb := B.bytes
  have hr := B.returns
  have hts := atoms_spec (ws := wm_X12_standard) B.pre
  have hown : s.vm.findClass RX12 = some m.cls := findClass_of_methodNamed B.named
  have hlocks := B.notSynchronized
  subst hsz
  have hD := hD0.self (sz := s.heap.size)
  generalize hAe : va_A [(m0, .inr (12, [.int 0, .ref g1, .int 6, .ref g3, .ref g4, .int 0, .ref g6, .ref g7, .int 0, .ref g9, .ref g10, .ref g11, .ref g12, .ref g13, .ref g14, .int 0, .int 0, .int 0, .int 0, .int 0, .ref g20, .ref g21, .int (-9), .ref g23, .ref g24, .ref g25, .ref g26, .int 0, .ref g28, .ref g29, .ref g30, .ref g31, .ref g32, .int 0, .ref g34, .int 0, .int 0, .long 0, .ref g38, .ref g39, .int 0, .int 0, .int 0, .ref g43, .ref g44, .ref g45, .ref g46, .ref g47, .ref g48, .ref g49, .int 0, .ref g51, .ref g52, .ref g53, .ref g54, .ref g55, .ref g56, .int (-9), .int 0, .int 0, .ref g60, .ref g61, .ref g62, .ref g63, .int 0, .ref g65, .ref g66, .ref g67, .ref g68])), (g4, .inl (cD, 144, .inl fd))] s.heap.size = A at hD ⊢
  have hA : ∀ q : Nat, s.heap.size ≤ q → A q := fun q h => by rw [← hAe]; exact Or.inr h
  have hS : va_S A s.heap s.heap [] := va_S.rf
  have hP : va_P D vwCl [(m0, .inr (12, [.int 0, .ref g1, .int 6, .ref g3, .ref g4, .int 0, .ref g6, .ref g7, .int 0, .ref g9, .ref g10, .ref g11, .ref g12, .ref g13, .ref g14, .int 0, .int 0, .int 0, .int 0, .int 0, .ref g20, .ref g21, .int (-9), .ref g23, .ref g24, .ref g25, .ref g26, .int 0, .ref g28, .ref g29, .ref g30, .ref g31, .ref g32, .int 0, .ref g34, .int 0, .int 0, .long 0, .ref g38, .ref g39, .int 0, .int 0, .int 0, .ref g43, .ref g44, .ref g45, .ref g46, .ref g47, .ref g48, .ref g49, .int 0, .ref g51, .ref g52, .ref g53, .ref g54, .ref g55, .ref g56, .int (-9), .int 0, .int 0, .ref g60, .ref g61, .ref g62, .ref g63, .int 0, .ref g65, .ref g66, .ref g67, .ref g68])), (g4, .inl (cD, 144, .inl fd))] s.heap := hP
  have hl := lv_entry ([.ref m0, .int a1, .int a2, .int a3]) (n := 5) (Nat.le_of_ble_eq_true rfl)
  rw [lg_entry_eq]
  generalize (lg_sl ([.ref m0, .int a1, .int a2, .int a3]) ++ List.replicate (5 - (lg_sl ([.ref m0, .int a1, .int a2, .int a3])).length) Slot.unset).toArray = ls at hl ⊢
  have hl : lv_has ls 5 [(0, .ref m0), (1, .int a1), (2, .int a2), (3, .int a3)] := hl
  refine lv_iload_n hx hb dX12_standard_0 rfl (lv_at hl 1 rfl) ?_
  refine lv_i2l (v := a1.toInt64) hx hb dX12_standard_1 rfl ?_
  refine lv_lconst (v := 0) hx hb dX12_standard_2 (by decide) ?_
  refine lv_aload_n hx hb dX12_standard_3 rfl (lv_at hl 0 rfl) ?_
  refine va_get (D := D) (ci := 12) (v := .int 6) (C := RX12) (T := TX12) (N := 69) hx hb hts (fun _ h => List.mem_cons_of_mem _ (List.mem_append_right _ h)) hown hK hP 0 rfl rfl 2 (by decide) (hts (.fieldLink RX12 151 "TalePlayModel" "kinds" "I") (by decide +kernel)) (fun _ h9 => h9) rfl dX12_standard_4 ?_
  refine lv_iconst (v := 1) hx hb dX12_standard_7 (by decide) ?_
  refine lv_isub hx hb dX12_standard_8 ?_
  refine tp_i (y := 5) (by decide) ?_
  refine lv_i2l (v := 5) hx hb dX12_standard_9 (by decide) ?_
  have hPc := hP.sub (ws' := []) [] rfl
  have hKc := hK.sub (tys' := []) [] rfl
  refine ro_calli (va_runS (As := [.long a1.toInt64, .long 0, .long 5]) (rest := []) ⟨hx, hb, hml, hown, hts⟩ (c_X12_in l D s.heap.size a1.toInt64 0 5 a1.toInt 0 5 ((Int32.toInt_toInt64 a1).trans rfl) (by decide) (by decide)) (va_cwS 3 hts gm_X12_standard_X12_in rfl rfl rfl (by decide +kernel) ⟨Nat.le_of_ble_eq_true rfl, Nat.le_of_ble_eq_true rfl⟩) (pA_S hKc hPc) rfl rfl hl.1 rfl (lv_room (Nat.le_of_ble_eq_true rfl)) dX12_standard_10 ⟨Nat.le_of_ble_eq_true rfl, Nat.le_of_ble_eq_true rfl⟩) hS hA hP (fun r1 u1 H locs hw1 hP hS => ?_)
  have hw1 : r1 = if (0 ≤ a1.toInt ∧ a1.toInt ≤ 5) then 1 else 0 := hw1
  refine lv_if_eq (tgt := 44) hx hb dX12_standard_13 (by decide) (fun c2 => ?_) (fun c2 => ?_)
  · have f2 := fl_f hw1 c2
    refine lv_iconst (v := (-1)) hx hb dX12_standard_44 (by decide) ?_
    exact rw_iret () hx hb hr hlocks hS (hK.sub (tys' := []) [] rfl) (hP.sub (ws' := []) [] rfl) (hD.sub (ws' := []) [] (by decide) rfl) dX12_standard_45 (by show _ = _; (repeat' split) <;> first | rfl | (exfalso; omega))
  · have f2 := fl_t hw1 c2
    refine lv_iload_n hx hb dX12_standard_16 rfl (lv_at hl 2 rfl) ?_
    refine lv_i2l (v := a2.toInt64) hx hb dX12_standard_17 rfl ?_
    refine lv_lconst (v := 0) hx hb dX12_standard_18 (by decide) ?_
    refine lv_ldc2 (v := 5) hx hb hown (hts (.constantLong RX12 170 (5)) (by decide +kernel)) dX12_standard_19 ?_
    have hPc := hP.sub (ws' := []) [] rfl
    have hKc := hK.sub (tys' := []) [] rfl
    refine ro_calli (va_runS (As := [.long a2.toInt64, .long 0, .long 5]) (rest := []) ⟨hx, hb, hml, hown, hts⟩ (c_X12_in l D H.size a2.toInt64 0 5 a2.toInt 0 5 ((Int32.toInt_toInt64 a2).trans rfl) (by decide) (by decide)) (va_cwS 3 hts gm_X12_standard_X12_in rfl rfl rfl (by decide +kernel) ⟨Nat.le_of_ble_eq_true rfl, Nat.le_of_ble_eq_true rfl⟩) (pA_S hKc hPc) rfl rfl hl.1 rfl (lv_room (Nat.le_of_ble_eq_true rfl)) dX12_standard_22 ⟨Nat.le_of_ble_eq_true rfl, Nat.le_of_ble_eq_true rfl⟩) hS hA hP (fun r3 u3 H locs hw3 hP hS => ?_)
    have hw3 : r3 = if (0 ≤ a2.toInt ∧ a2.toInt ≤ 5) then 1 else 0 := hw3
    refine lv_if_eq (tgt := 44) hx hb dX12_standard_25 (by decide) (fun c4 => ?_) (fun c4 => ?_)
    · have f4 := fl_f hw3 c4
      refine lv_iconst (v := (-1)) hx hb dX12_standard_44 (by decide) ?_
      exact rw_iret () hx hb hr hlocks hS (hK.sub (tys' := []) [] rfl) (hP.sub (ws' := []) [] rfl) (hD.sub (ws' := []) [] (by decide) rfl) dX12_standard_45 (by show _ = _; (repeat' split) <;> first | rfl | (exfalso; omega))
    · have f4 := fl_t hw3 c4
      refine lv_iload_n hx hb dX12_standard_28 rfl (lv_at hl 3 rfl) ?_
      refine lv_i2l (v := a3.toInt64) hx hb dX12_standard_29 rfl ?_
      refine lv_lconst (v := 0) hx hb dX12_standard_30 (by decide) ?_
      refine lv_lconst (v := 1) hx hb dX12_standard_31 (by decide) ?_
      have hPc := hP.sub (ws' := []) [] rfl
      have hKc := hK.sub (tys' := []) [] rfl
      refine ro_calli (va_runS (As := [.long a3.toInt64, .long 0, .long 1]) (rest := []) ⟨hx, hb, hml, hown, hts⟩ (c_X12_in l D H.size a3.toInt64 0 1 a3.toInt 0 1 ((Int32.toInt_toInt64 a3).trans rfl) (by decide) (by decide)) (va_cwS 3 hts gm_X12_standard_X12_in rfl rfl rfl (by decide +kernel) ⟨Nat.le_of_ble_eq_true rfl, Nat.le_of_ble_eq_true rfl⟩) (pA_S hKc hPc) rfl rfl hl.1 rfl (lv_room (Nat.le_of_ble_eq_true rfl)) dX12_standard_32 ⟨Nat.le_of_ble_eq_true rfl, Nat.le_of_ble_eq_true rfl⟩) hS hA hP (fun r5 u5 H locs hw5 hP hS => ?_)
      have hw5 : r5 = if (0 ≤ a3.toInt ∧ a3.toInt ≤ 1) then 1 else 0 := hw5
      refine lv_if_ne (tgt := 46) hx hb dX12_standard_35 (by decide) (fun c6 => ?_) (fun c6 => ?_)
      · have f6 := fl_t hw5 c6
        refine lv_aload_n hx hb dX12_standard_46 rfl (lv_at hl 0 rfl) ?_
        refine va_get (D := D) (ci := 12) (v := .ref g4) (C := RX12) (T := TX12) (N := 69) hx hb hts (fun _ h => List.mem_cons_of_mem _ (List.mem_append_right _ h)) hown hK hP 0 rfl rfl 4 (by decide) (hts (.fieldLink RX12 16 "TalePlayModel" "defaults" "[I") (by decide +kernel)) (fun _ h9 => h9) rfl dX12_standard_47 ?_
        refine lv_bipush (v := 6) hx hb dX12_standard_50 (by decide) ?_
        refine lv_iload_n hx hb dX12_standard_52 rfl (lv_at hl 1 rfl) ?_
        refine lv_imul hx hb dX12_standard_53 ?_
        refine lv_topi (fun x7 ex7 => ?_)
        have tx7 := ti_mul (a := 6) (b := a1.toInt) ex7 (by decide) rfl (by omega) (by omega)
        refine lv_iload_n hx hb dX12_standard_54 rfl (lv_at hl 2 rfl) ?_
        refine lv_iadd hx hb dX12_standard_55 ?_
        refine lv_topi (fun x8 ex8 => ?_)
        have tx8 := ti_add (a := (6 * a1.toInt)) (b := a2.toInt) ex8 tx7 rfl (by omega) (by omega)
        refine va_iald hx hb hK hP 1 0 rfl rfl (vp_in_iff.mpr (by have h9 := tx8; omega)) dX12_standard_56 ?_
        refine tp_i (y := (-9)) (hfd _ (lt_cl (n := 144) tx8 (by omega) (by omega))) ?_
        refine lv_istore (lv' := [(4, .int (-9)), (0, .ref m0), (1, .int a1), (2, .int a2), (3, .int a3)]) hx hb dX12_standard_57 hl (by decide) rfl (fun ls hl => ?_)
        refine lv_aload_n hx hb dX12_standard_59 rfl (lv_at hl 1 rfl) ?_
        refine va_get (D := D) (ci := 12) (v := .ref g4) (C := RX12) (T := TX12) (N := 69) hx hb hts (fun _ h => List.mem_cons_of_mem _ (List.mem_append_right _ h)) hown hK hP 0 rfl rfl 4 (by decide) (hts (.fieldLink RX12 16 "TalePlayModel" "defaults" "[I") (by decide +kernel)) (fun _ h9 => h9) rfl dX12_standard_60 ?_
        refine lv_bipush (v := 6) hx hb dX12_standard_63 (by decide) ?_
        refine lv_iload_n hx hb dX12_standard_65 rfl (lv_at hl 2 rfl) ?_
        refine lv_imul hx hb dX12_standard_66 ?_
        refine lv_topi (fun x9 ex9 => ?_)
        have tx9 := ti_mul (a := 6) (b := a1.toInt) ex9 (by decide) rfl (by omega) (by omega)
        refine lv_iload_n hx hb dX12_standard_67 rfl (lv_at hl 3 rfl) ?_
        refine lv_iadd hx hb dX12_standard_68 ?_
        refine lv_topi (fun x10 ex10 => ?_)
        have tx10 := ti_add (a := (6 * a1.toInt)) (b := a2.toInt) ex10 tx9 rfl (by omega) (by omega)
        refine lv_iload_n hx hb dX12_standard_69 rfl (lv_at hl 4 rfl) ?_
        refine va_iast hx hb hK hP hD hS 1 0 rfl rfl (vp_in_iff.mpr (by have h9 := tx10; omega)) dX12_standard_70 (fun H locs hP hD hS => ?_)
        have hP : va_P D vwCl [(m0, .inr (12, [.int 0, .ref g1, .int 6, .ref g3, .ref g4, .int 0, .ref g6, .ref g7, .int 0, .ref g9, .ref g10, .ref g11, .ref g12, .ref g13, .ref g14, .int 0, .int 0, .int 0, .int 0, .int 0, .ref g20, .ref g21, .int (-9), .ref g23, .ref g24, .ref g25, .ref g26, .int 0, .ref g28, .ref g29, .ref g30, .ref g31, .ref g32, .int 0, .ref g34, .int 0, .int 0, .long 0, .ref g38, .ref g39, .int 0, .int 0, .int 0, .ref g43, .ref g44, .ref g45, .ref g46, .ref g47, .ref g48, .ref g49, .int 0, .ref g51, .ref g52, .ref g53, .ref g54, .ref g55, .ref g56, .int (-9), .int 0, .int 0, .ref g60, .ref g61, .ref g62, .ref g63, .int 0, .ref g65, .ref g66, .ref g67, .ref g68])), (g4, .inl (cD, 144, .inl (upd fd (x10 : Int32).toNatClampNeg a3)))] H := hP
        have hD : va_D A [(m0, .inr (12, [.int 0, .ref g1, .int 6, .ref g3, .ref g4, .int 0, .ref g6, .ref g7, .int 0, .ref g9, .ref g10, .ref g11, .ref g12, .ref g13, .ref g14, .int 0, .int 0, .int 0, .int 0, .int 0, .ref g20, .ref g21, .int (-9), .ref g23, .ref g24, .ref g25, .ref g26, .int 0, .ref g28, .ref g29, .ref g30, .ref g31, .ref g32, .int 0, .ref g34, .int 0, .int 0, .long 0, .ref g38, .ref g39, .int 0, .int 0, .int 0, .ref g43, .ref g44, .ref g45, .ref g46, .ref g47, .ref g48, .ref g49, .int 0, .ref g51, .ref g52, .ref g53, .ref g54, .ref g55, .ref g56, .int (-9), .int 0, .int 0, .ref g60, .ref g61, .ref g62, .ref g63, .int 0, .ref g65, .ref g66, .ref g67, .ref g68])), (g4, .inl (cD, 144, .inl (upd fd (x10 : Int32).toNatClampNeg a3)))] := hD
        refine lv_aload_n hx hb dX12_standard_71 rfl (lv_at hl 1 rfl) ?_
        have hPc := hP.sub (ws' := [(m0, .inr (12, [.int 0, .ref g1, .int 6, .ref g3, .ref g4, .int 0, .ref g6, .ref g7, .int 0, .ref g9, .ref g10, .ref g11, .ref g12, .ref g13, .ref g14, .int 0, .int 0, .int 0, .int 0, .int 0, .ref g20, .ref g21, .int (-9), .ref g23, .ref g24, .ref g25, .ref g26, .int 0, .ref g28, .ref g29, .ref g30, .ref g31, .ref g32, .int 0, .ref g34, .int 0, .int 0, .long 0, .ref g38, .ref g39, .int 0, .int 0, .int 0, .ref g43, .ref g44, .ref g45, .ref g46, .ref g47, .ref g48, .ref g49, .int 0, .ref g51, .ref g52, .ref g53, .ref g54, .ref g55, .ref g56, .int (-9), .int 0, .int 0, .ref g60, .ref g61, .ref g62, .ref g63, .int 0, .ref g65, .ref g66, .ref g67, .ref g68]))]) [0] rfl
        have hKc := hK.sub (tys' := []) [] rfl
        have hDc := hD.sub (ws' := [(m0, .inr (12, [.int 0, .ref g1, .int 6, .ref g3, .ref g4, .int 0, .ref g6, .ref g7, .int 0, .ref g9, .ref g10, .ref g11, .ref g12, .ref g13, .ref g14, .int 0, .int 0, .int 0, .int 0, .int 0, .ref g20, .ref g21, .int (-9), .ref g23, .ref g24, .ref g25, .ref g26, .int 0, .ref g28, .ref g29, .ref g30, .ref g31, .ref g32, .int 0, .ref g34, .int 0, .int 0, .long 0, .ref g38, .ref g39, .int 0, .int 0, .int 0, .ref g43, .ref g44, .ref g45, .ref g46, .ref g47, .ref g48, .ref g49, .int 0, .ref g51, .ref g52, .ref g53, .ref g54, .ref g55, .ref g56, .int (-9), .int 0, .int 0, .ref g60, .ref g61, .ref g62, .ref g63, .int 0, .ref g65, .ref g66, .ref g67, .ref g68]))]) [0] (by decide) rfl
        refine rw_callv (wr := [(g4, .inl (cD, 144, .inl (upd fd (x10 : Int32).toNatClampNeg a3)))]) (va_runV (As := []) (rest := []) ⟨hx, hb, hml, hown, hts⟩ (c_X12_endTale l D H.size m0 g1 g3 g4 g6 g7 g9 g10 g11 g12 g13 g14 g20 g21 g23 g24 g25 g26 g28 g29 g30 g31 g32 g34 g38 g39 g43 g44 g45 g46 g47 g48 g49 g51 g52 g53 g54 g55 g56 g60 g61 g62 g63 g65 g66 g67 g68 0) (cwV 0 hts gm_X12_standard_X12_endTale rfl rfl rfl (by decide +kernel) ⟨Nat.le_of_ble_eq_true rfl, Nat.le_of_ble_eq_true rfl⟩) (pB_V hKc hPc hDc (ci := 12) (q0 := 0) rfl rfl) rfl rfl hl.1 rfl (lv_room (Nat.le_of_ble_eq_true rfl)) dX12_standard_72 ⟨Nat.le_of_ble_eq_true rfl, Nat.le_of_ble_eq_true rfl⟩) hS hA hK hP hD [0] [1] rfl rfl (by decide) (by decide) (fun u11 H locs hw11 hK hP hD hS => ?_)
        have hP : va_P D vwCl [(g4, .inl (cD, 144, .inl (upd fd (x10 : Int32).toNatClampNeg a3))), (m0, .inr (12, [.int 0, .ref g1, .int 6, .ref g3, .ref g4, .int 0, .ref g6, .ref g7, .int 0, .ref g9, .ref g10, .ref g11, .ref g12, .ref g13, .ref g14, .int 0, .int 0, .int 0, .int 0, .int 0, .ref g20, .ref g21, .int (-9), .ref g23, .ref g24, .ref g25, .ref g26, .int 0, .ref g28, .ref g29, .ref g30, .ref g31, .ref g32, .int 0, .ref g34, .int 0, .int 0, .long 0, .ref g38, .ref g39, .int 0, .int 0, .int 0, .ref g43, .ref g44, .ref g45, .ref g46, .ref g47, .ref g48, .ref g49, .int 0, .ref g51, .ref g52, .ref g53, .ref g54, .ref g55, .ref g56, .int (-9), .int 0, .int 0, .ref g60, .ref g61, .ref g62, .ref g63, .int 0, .ref g65, .ref g66, .ref g67, .ref g68]))] H := hP
        have hD : va_D A [(g4, .inl (cD, 144, .inl (upd fd (x10 : Int32).toNatClampNeg a3))), (m0, .inr (12, [.int 0, .ref g1, .int 6, .ref g3, .ref g4, .int 0, .ref g6, .ref g7, .int 0, .ref g9, .ref g10, .ref g11, .ref g12, .ref g13, .ref g14, .int 0, .int 0, .int 0, .int 0, .int 0, .ref g20, .ref g21, .int (-9), .ref g23, .ref g24, .ref g25, .ref g26, .int 0, .ref g28, .ref g29, .ref g30, .ref g31, .ref g32, .int 0, .ref g34, .int 0, .int 0, .long 0, .ref g38, .ref g39, .int 0, .int 0, .int 0, .ref g43, .ref g44, .ref g45, .ref g46, .ref g47, .ref g48, .ref g49, .int 0, .ref g51, .ref g52, .ref g53, .ref g54, .ref g55, .ref g56, .int (-9), .int 0, .int 0, .ref g60, .ref g61, .ref g62, .ref g63, .int 0, .ref g65, .ref g66, .ref g67, .ref g68]))] := hD
        have hK : va_K D vwCl [(cD, .int)] s := hK
        refine lv_iload hx hb dX12_standard_75 (lv_at hl 0 rfl) ?_
        exact rw_iret () hx hb hr hlocks hS (hK.sub (tys' := []) [] rfl) (hP.sub (ws' := []) [] rfl) (hD.sub (ws' := []) [] (by decide) rfl) dX12_standard_77 (by show _ = _; (repeat' split) <;> first | rfl | (exfalso; omega))
      · have f6 := fl_f hw5 c6
        refine lv_iload_n hx hb dX12_standard_38 rfl (lv_at hl 3 rfl) ?_
        refine lv_bipush (v := (-9)) hx hb dX12_standard_39 (by decide) ?_
        refine lv_icmp_eq (tgt := 46) hx hb dX12_standard_41 (by decide) (fun c12 => ?_) (fun c12 => ?_)
        · have f12 := (ti_eq (a := a3.toInt) (b := (-9)) rfl (by decide)).mp c12
          refine lv_aload_n hx hb dX12_standard_46 rfl (lv_at hl 0 rfl) ?_
          refine va_get (D := D) (ci := 12) (v := .ref g4) (C := RX12) (T := TX12) (N := 69) hx hb hts (fun _ h => List.mem_cons_of_mem _ (List.mem_append_right _ h)) hown hK hP 0 rfl rfl 4 (by decide) (hts (.fieldLink RX12 16 "TalePlayModel" "defaults" "[I") (by decide +kernel)) (fun _ h9 => h9) rfl dX12_standard_47 ?_
          refine lv_bipush (v := 6) hx hb dX12_standard_50 (by decide) ?_
          refine lv_iload_n hx hb dX12_standard_52 rfl (lv_at hl 1 rfl) ?_
          refine lv_imul hx hb dX12_standard_53 ?_
          refine lv_topi (fun x13 ex13 => ?_)
          have tx13 := ti_mul (a := 6) (b := a1.toInt) ex13 (by decide) rfl (by omega) (by omega)
          refine lv_iload_n hx hb dX12_standard_54 rfl (lv_at hl 2 rfl) ?_
          refine lv_iadd hx hb dX12_standard_55 ?_
          refine lv_topi (fun x14 ex14 => ?_)
          have tx14 := ti_add (a := (6 * a1.toInt)) (b := a2.toInt) ex14 tx13 rfl (by omega) (by omega)
          refine va_iald hx hb hK hP 1 0 rfl rfl (vp_in_iff.mpr (by have h9 := tx14; omega)) dX12_standard_56 ?_
          refine tp_i (y := (-9)) (hfd _ (lt_cl (n := 144) tx14 (by omega) (by omega))) ?_
          refine lv_istore (lv' := [(4, .int (-9)), (0, .ref m0), (1, .int a1), (2, .int a2), (3, .int a3)]) hx hb dX12_standard_57 hl (by decide) rfl (fun ls hl => ?_)
          refine lv_aload_n hx hb dX12_standard_59 rfl (lv_at hl 1 rfl) ?_
          refine va_get (D := D) (ci := 12) (v := .ref g4) (C := RX12) (T := TX12) (N := 69) hx hb hts (fun _ h => List.mem_cons_of_mem _ (List.mem_append_right _ h)) hown hK hP 0 rfl rfl 4 (by decide) (hts (.fieldLink RX12 16 "TalePlayModel" "defaults" "[I") (by decide +kernel)) (fun _ h9 => h9) rfl dX12_standard_60 ?_
          refine lv_bipush (v := 6) hx hb dX12_standard_63 (by decide) ?_
          refine lv_iload_n hx hb dX12_standard_65 rfl (lv_at hl 2 rfl) ?_
          refine lv_imul hx hb dX12_standard_66 ?_
          refine lv_topi (fun x15 ex15 => ?_)
          have tx15 := ti_mul (a := 6) (b := a1.toInt) ex15 (by decide) rfl (by omega) (by omega)
          refine lv_iload_n hx hb dX12_standard_67 rfl (lv_at hl 3 rfl) ?_
          refine lv_iadd hx hb dX12_standard_68 ?_
          refine lv_topi (fun x16 ex16 => ?_)
          have tx16 := ti_add (a := (6 * a1.toInt)) (b := a2.toInt) ex16 tx15 rfl (by omega) (by omega)
          refine lv_iload_n hx hb dX12_standard_69 rfl (lv_at hl 4 rfl) ?_
          refine va_iast hx hb hK hP hD hS 1 0 rfl rfl (vp_in_iff.mpr (by have h9 := tx16; omega)) dX12_standard_70 (fun H locs hP hD hS => ?_)
          have hP : va_P D vwCl [(m0, .inr (12, [.int 0, .ref g1, .int 6, .ref g3, .ref g4, .int 0, .ref g6, .ref g7, .int 0, .ref g9, .ref g10, .ref g11, .ref g12, .ref g13, .ref g14, .int 0, .int 0, .int 0, .int 0, .int 0, .ref g20, .ref g21, .int (-9), .ref g23, .ref g24, .ref g25, .ref g26, .int 0, .ref g28, .ref g29, .ref g30, .ref g31, .ref g32, .int 0, .ref g34, .int 0, .int 0, .long 0, .ref g38, .ref g39, .int 0, .int 0, .int 0, .ref g43, .ref g44, .ref g45, .ref g46, .ref g47, .ref g48, .ref g49, .int 0, .ref g51, .ref g52, .ref g53, .ref g54, .ref g55, .ref g56, .int (-9), .int 0, .int 0, .ref g60, .ref g61, .ref g62, .ref g63, .int 0, .ref g65, .ref g66, .ref g67, .ref g68])), (g4, .inl (cD, 144, .inl (upd fd (x16 : Int32).toNatClampNeg a3)))] H := hP
          have hD : va_D A [(m0, .inr (12, [.int 0, .ref g1, .int 6, .ref g3, .ref g4, .int 0, .ref g6, .ref g7, .int 0, .ref g9, .ref g10, .ref g11, .ref g12, .ref g13, .ref g14, .int 0, .int 0, .int 0, .int 0, .int 0, .ref g20, .ref g21, .int (-9), .ref g23, .ref g24, .ref g25, .ref g26, .int 0, .ref g28, .ref g29, .ref g30, .ref g31, .ref g32, .int 0, .ref g34, .int 0, .int 0, .long 0, .ref g38, .ref g39, .int 0, .int 0, .int 0, .ref g43, .ref g44, .ref g45, .ref g46, .ref g47, .ref g48, .ref g49, .int 0, .ref g51, .ref g52, .ref g53, .ref g54, .ref g55, .ref g56, .int (-9), .int 0, .int 0, .ref g60, .ref g61, .ref g62, .ref g63, .int 0, .ref g65, .ref g66, .ref g67, .ref g68])), (g4, .inl (cD, 144, .inl (upd fd (x16 : Int32).toNatClampNeg a3)))] := hD
          refine lv_aload_n hx hb dX12_standard_71 rfl (lv_at hl 1 rfl) ?_
          have hPc := hP.sub (ws' := [(m0, .inr (12, [.int 0, .ref g1, .int 6, .ref g3, .ref g4, .int 0, .ref g6, .ref g7, .int 0, .ref g9, .ref g10, .ref g11, .ref g12, .ref g13, .ref g14, .int 0, .int 0, .int 0, .int 0, .int 0, .ref g20, .ref g21, .int (-9), .ref g23, .ref g24, .ref g25, .ref g26, .int 0, .ref g28, .ref g29, .ref g30, .ref g31, .ref g32, .int 0, .ref g34, .int 0, .int 0, .long 0, .ref g38, .ref g39, .int 0, .int 0, .int 0, .ref g43, .ref g44, .ref g45, .ref g46, .ref g47, .ref g48, .ref g49, .int 0, .ref g51, .ref g52, .ref g53, .ref g54, .ref g55, .ref g56, .int (-9), .int 0, .int 0, .ref g60, .ref g61, .ref g62, .ref g63, .int 0, .ref g65, .ref g66, .ref g67, .ref g68]))]) [0] rfl
          have hKc := hK.sub (tys' := []) [] rfl
          have hDc := hD.sub (ws' := [(m0, .inr (12, [.int 0, .ref g1, .int 6, .ref g3, .ref g4, .int 0, .ref g6, .ref g7, .int 0, .ref g9, .ref g10, .ref g11, .ref g12, .ref g13, .ref g14, .int 0, .int 0, .int 0, .int 0, .int 0, .ref g20, .ref g21, .int (-9), .ref g23, .ref g24, .ref g25, .ref g26, .int 0, .ref g28, .ref g29, .ref g30, .ref g31, .ref g32, .int 0, .ref g34, .int 0, .int 0, .long 0, .ref g38, .ref g39, .int 0, .int 0, .int 0, .ref g43, .ref g44, .ref g45, .ref g46, .ref g47, .ref g48, .ref g49, .int 0, .ref g51, .ref g52, .ref g53, .ref g54, .ref g55, .ref g56, .int (-9), .int 0, .int 0, .ref g60, .ref g61, .ref g62, .ref g63, .int 0, .ref g65, .ref g66, .ref g67, .ref g68]))]) [0] (by decide) rfl
          refine rw_callv (wr := [(g4, .inl (cD, 144, .inl (upd fd (x16 : Int32).toNatClampNeg a3)))]) (va_runV (As := []) (rest := []) ⟨hx, hb, hml, hown, hts⟩ (c_X12_endTale l D H.size m0 g1 g3 g4 g6 g7 g9 g10 g11 g12 g13 g14 g20 g21 g23 g24 g25 g26 g28 g29 g30 g31 g32 g34 g38 g39 g43 g44 g45 g46 g47 g48 g49 g51 g52 g53 g54 g55 g56 g60 g61 g62 g63 g65 g66 g67 g68 0) (cwV 0 hts gm_X12_standard_X12_endTale rfl rfl rfl (by decide +kernel) ⟨Nat.le_of_ble_eq_true rfl, Nat.le_of_ble_eq_true rfl⟩) (pB_V hKc hPc hDc (ci := 12) (q0 := 0) rfl rfl) rfl rfl hl.1 rfl (lv_room (Nat.le_of_ble_eq_true rfl)) dX12_standard_72 ⟨Nat.le_of_ble_eq_true rfl, Nat.le_of_ble_eq_true rfl⟩) hS hA hK hP hD [0] [1] rfl rfl (by decide) (by decide) (fun u17 H locs hw17 hK hP hD hS => ?_)
          have hP : va_P D vwCl [(g4, .inl (cD, 144, .inl (upd fd (x16 : Int32).toNatClampNeg a3))), (m0, .inr (12, [.int 0, .ref g1, .int 6, .ref g3, .ref g4, .int 0, .ref g6, .ref g7, .int 0, .ref g9, .ref g10, .ref g11, .ref g12, .ref g13, .ref g14, .int 0, .int 0, .int 0, .int 0, .int 0, .ref g20, .ref g21, .int (-9), .ref g23, .ref g24, .ref g25, .ref g26, .int 0, .ref g28, .ref g29, .ref g30, .ref g31, .ref g32, .int 0, .ref g34, .int 0, .int 0, .long 0, .ref g38, .ref g39, .int 0, .int 0, .int 0, .ref g43, .ref g44, .ref g45, .ref g46, .ref g47, .ref g48, .ref g49, .int 0, .ref g51, .ref g52, .ref g53, .ref g54, .ref g55, .ref g56, .int (-9), .int 0, .int 0, .ref g60, .ref g61, .ref g62, .ref g63, .int 0, .ref g65, .ref g66, .ref g67, .ref g68]))] H := hP
          have hD : va_D A [(g4, .inl (cD, 144, .inl (upd fd (x16 : Int32).toNatClampNeg a3))), (m0, .inr (12, [.int 0, .ref g1, .int 6, .ref g3, .ref g4, .int 0, .ref g6, .ref g7, .int 0, .ref g9, .ref g10, .ref g11, .ref g12, .ref g13, .ref g14, .int 0, .int 0, .int 0, .int 0, .int 0, .ref g20, .ref g21, .int (-9), .ref g23, .ref g24, .ref g25, .ref g26, .int 0, .ref g28, .ref g29, .ref g30, .ref g31, .ref g32, .int 0, .ref g34, .int 0, .int 0, .long 0, .ref g38, .ref g39, .int 0, .int 0, .int 0, .ref g43, .ref g44, .ref g45, .ref g46, .ref g47, .ref g48, .ref g49, .int 0, .ref g51, .ref g52, .ref g53, .ref g54, .ref g55, .ref g56, .int (-9), .int 0, .int 0, .ref g60, .ref g61, .ref g62, .ref g63, .int 0, .ref g65, .ref g66, .ref g67, .ref g68]))] := hD
          have hK : va_K D vwCl [(cD, .int)] s := hK
          refine lv_iload hx hb dX12_standard_75 (lv_at hl 0 rfl) ?_
          exact rw_iret () hx hb hr hlocks hS (hK.sub (tys' := []) [] rfl) (hP.sub (ws' := []) [] rfl) (hD.sub (ws' := []) [] (by decide) rfl) dX12_standard_77 (by show _ = _; (repeat' split) <;> first | rfl | (exfalso; omega))
        · have f12 := mt (ti_eq (a := a3.toInt) (b := (-9)) rfl (by decide)).mpr c12
          refine lv_iconst (v := (-1)) hx hb dX12_standard_44 (by decide) ?_
          exact rw_iret () hx hb hr hlocks hS (hK.sub (tys' := []) [] rfl) (hP.sub (ws' := []) [] rfl) (hD.sub (ws' := []) [] (by decide) rfl) dX12_standard_45 (by show _ = _; (repeat' split) <;> first | rfl | (exfalso; omega))

def wm_X12_make : List Cond := .code yX12_make cX12_make 3 (some .int) :: (([.fieldLink RX12 151 "TalePlayModel" "kinds" "I", .methodLink RX12 166 yX12_in, .static yX12_in, .initialized RX12, .code yX12_in cX12_in 6 (some .boolean), .constantLong RX12 175 (99), .fieldLink RX12 177 "TalePlayModel" "objects" "I", .fieldLink RX12 19 "TalePlayModel" "kindOf" "[I", .fieldLink RX12 22 "TalePlayModel" "sizeOf" "[I", .methodLink RX12 172 yX12_endTale, .instanceMethod yX12_endTale, .selects RX12 yX12_endTale yX12_endTale, .code yX12_endTale cX12_endTale 1 none, .fieldLink RX12 155 "TalePlayModel" "player" "I", .fieldLink RX12 291 "TalePlayModel" "turns" "I"] : List Cond) ++ wsX120)
set_option maxRecDepth 20000 in
theorem gm_X12_make_X12_in : GoodIn wm_X12_make (va_wsS RX12 166 yX12_in wm_X12_in) := goodIn_app (goodIn_of _ (by decide +kernel)) (goodIn_r _ [5] (by decide +kernel) (by decide +kernel))
set_option maxRecDepth 20000 in
theorem gm_X12_make_X12_endTale : GoodIn wm_X12_make (wsV RX12 172 RX12 yX12_endTale wm_X12_endTale) := goodIn_app (goodIn_of _ (by decide +kernel)) (goodIn_r _ [13, 14, 15, 16, 17, 18, 19, 20, 21, 22, 23, 24, 25, 26, 27, 28, 29, 30, 31, 32, 33, 34, 35, 36, 37, 38, 39, 40, 41, 42, 43, 44, 45, 46, 47, 48, 49, 50, 51, 52, 53, 54, 55, 56, 57, 58, 59, 60, 61, 62, 63, 64, 65, 66, 67, 68, 69, 70, 71, 72, 73, 74, 75, 76, 77, 78, 79, 80, 81, 82, 83, 84] (by decide +kernel) (by decide +kernel))
set_option maxHeartbeats 4000000 in
set_option maxRecDepth 100000 in
/-- make() of a fresh reference -/
theorem c_X12_make (l : Launch) (D : va_G) (sz : Nat) (m0 : Nat) (g1 : Nat) (g3 : Nat) (g4 : Nat) (g6 : Nat) (g7 : Nat) (g9 : Nat) (g10 : Nat) (g11 : Nat) (g12 : Nat) (g13 : Nat) (g14 : Nat) (g20 : Nat) (g21 : Nat) (g23 : Nat) (g24 : Nat) (g25 : Nat) (g26 : Nat) (g28 : Nat) (g29 : Nat) (g30 : Nat) (g31 : Nat) (g32 : Nat) (g34 : Nat) (g38 : Nat) (g39 : Nat) (g43 : Nat) (g44 : Nat) (g45 : Nat) (g46 : Nat) (g47 : Nat) (g48 : Nat) (g49 : Nat) (g51 : Nat) (g52 : Nat) (g53 : Nat) (g54 : Nat) (g55 : Nat) (g56 : Nat) (g60 : Nat) (g61 : Nat) (g62 : Nat) (g63 : Nat) (g65 : Nat) (g66 : Nat) (g67 : Nat) (g68 : Nat) (cK : ClassId) (fk : Nat → Int32) (cZ : ClassId) (fz : Nat → Int32) (a1 : Int32) (a2 : Int32) : Met l yX12_make wm_X12_make ({ frames := 1, cells := 0, slots := 0, locals := 25 }) (va_Pc [.ref m0, .int a1, .int a2] (pB D sz [(m0, .inr (12, [.int 0, .ref g1, .int 6, .ref g3, .ref g4, .int 0, .ref g6, .ref g7, .int 0, .ref g9, .ref g10, .ref g11, .ref g12, .ref g13, .ref g14, .int 0, .int 0, .int 0, .int 0, .int 0, .ref g20, .ref g21, .int (-9), .ref g23, .ref g24, .ref g25, .ref g26, .int 0, .ref g28, .ref g29, .ref g30, .ref g31, .ref g32, .int 0, .ref g34, .int 0, .int 0, .long 0, .ref g38, .ref g39, .int 0, .int 0, .int 0, .ref g43, .ref g44, .ref g45, .ref g46, .ref g47, .ref g48, .ref g49, .int 0, .ref g51, .ref g52, .ref g53, .ref g54, .ref g55, .ref g56, .int (-9), .int 0, .int 0, .ref g60, .ref g61, .ref g62, .ref g63, .int 0, .ref g65, .ref g66, .ref g67, .ref g68])), (g6, .inl (cK, 30, .inl fk)), (g7, .inl (cZ, 30, .inl fz))] [(cK, .int), (cZ, .int)])) (va_Qi (fun (r : Int32) (_ : Unit) => r = if ((0 ≤ a1.toInt ∧ a1.toInt < 6) ∧ (0 ≤ a2.toInt ∧ a2.toInt ≤ 99)) then 0 else -1) (oC D (va_A [(m0, .inr (12, [.int 0, .ref g1, .int 6, .ref g3, .ref g4, .int 0, .ref g6, .ref g7, .int 0, .ref g9, .ref g10, .ref g11, .ref g12, .ref g13, .ref g14, .int 0, .int 0, .int 0, .int 0, .int 0, .ref g20, .ref g21, .int (-9), .ref g23, .ref g24, .ref g25, .ref g26, .int 0, .ref g28, .ref g29, .ref g30, .ref g31, .ref g32, .int 0, .ref g34, .int 0, .int 0, .long 0, .ref g38, .ref g39, .int 0, .int 0, .int 0, .ref g43, .ref g44, .ref g45, .ref g46, .ref g47, .ref g48, .ref g49, .int 0, .ref g51, .ref g52, .ref g53, .ref g54, .ref g55, .ref g56, .int (-9), .int 0, .int 0, .ref g60, .ref g61, .ref g62, .ref g63, .int 0, .ref g65, .ref g66, .ref g67, .ref g68])), (g6, .inl (cK, 30, .inl fk)), (g7, .inl (cZ, 30, .inl fz))] sz) (fun _ => []) (fun _ => [])) (va_A [(m0, .inr (12, [.int 0, .ref g1, .int 6, .ref g3, .ref g4, .int 0, .ref g6, .ref g7, .int 0, .ref g9, .ref g10, .ref g11, .ref g12, .ref g13, .ref g14, .int 0, .int 0, .int 0, .int 0, .int 0, .ref g20, .ref g21, .int (-9), .ref g23, .ref g24, .ref g25, .ref g26, .int 0, .ref g28, .ref g29, .ref g30, .ref g31, .ref g32, .int 0, .ref g34, .int 0, .int 0, .long 0, .ref g38, .ref g39, .int 0, .int 0, .int 0, .ref g43, .ref g44, .ref g45, .ref g46, .ref g47, .ref g48, .ref g49, .int 0, .ref g51, .ref g52, .ref g53, .ref g54, .ref g55, .ref g56, .int (-9), .int 0, .int 0, .ref g60, .ref g61, .ref g62, .ref g63, .int 0, .ref g65, .ref g66, .ref g67, .ref g68])), (g6, .inl (cK, 30, .inl fk)), (g7, .inl (cZ, 30, .inl fz))] sz)) 0 0 (va_A [(m0, .inr (12, [.int 0, .ref g1, .int 6, .ref g3, .ref g4, .int 0, .ref g6, .ref g7, .int 0, .ref g9, .ref g10, .ref g11, .ref g12, .ref g13, .ref g14, .int 0, .int 0, .int 0, .int 0, .int 0, .ref g20, .ref g21, .int (-9), .ref g23, .ref g24, .ref g25, .ref g26, .int 0, .ref g28, .ref g29, .ref g30, .ref g31, .ref g32, .int 0, .ref g34, .int 0, .int 0, .long 0, .ref g38, .ref g39, .int 0, .int 0, .int 0, .ref g43, .ref g44, .ref g45, .ref g46, .ref g47, .ref g48, .ref g49, .int 0, .ref g51, .ref g52, .ref g53, .ref g54, .ref g55, .ref g56, .int (-9), .int 0, .int 0, .ref g60, .ref g61, .ref g62, .ref g63, .int 0, .ref g65, .ref g66, .ref g67, .ref g68])), (g6, .inl (cK, 30, .inl fk)), (g7, .inl (cZ, 30, .inl fz))] sz) := by
  refine Met.ofW (cc := cX12_make) (maxL := 3) (ret := (some .int)) (by decide) rfl ?_
  intro p e s m args below meth c s₁ B hml hv
  obtain ⟨rfl, hsz, hP, hK, hD0⟩ := hv
  have hx := B.exec
  have hb := B.bytes
  have hr := B.returns
  have hts := atoms_spec (ws := wm_X12_make) B.pre
  have hown : s.vm.findClass RX12 = some m.cls := findClass_of_methodNamed B.named
  have hlocks := B.notSynchronized
  subst hsz
  have hD := hD0.self (sz := s.heap.size)
  generalize hAe : va_A [(m0, .inr (12, [.int 0, .ref g1, .int 6, .ref g3, .ref g4, .int 0, .ref g6, .ref g7, .int 0, .ref g9, .ref g10, .ref g11, .ref g12, .ref g13, .ref g14, .int 0, .int 0, .int 0, .int 0, .int 0, .ref g20, .ref g21, .int (-9), .ref g23, .ref g24, .ref g25, .ref g26, .int 0, .ref g28, .ref g29, .ref g30, .ref g31, .ref g32, .int 0, .ref g34, .int 0, .int 0, .long 0, .ref g38, .ref g39, .int 0, .int 0, .int 0, .ref g43, .ref g44, .ref g45, .ref g46, .ref g47, .ref g48, .ref g49, .int 0, .ref g51, .ref g52, .ref g53, .ref g54, .ref g55, .ref g56, .int (-9), .int 0, .int 0, .ref g60, .ref g61, .ref g62, .ref g63, .int 0, .ref g65, .ref g66, .ref g67, .ref g68])), (g6, .inl (cK, 30, .inl fk)), (g7, .inl (cZ, 30, .inl fz))] s.heap.size = A at hD ⊢
  have hA : ∀ q : Nat, s.heap.size ≤ q → A q := fun q h => by rw [← hAe]; exact Or.inr h
  have hS : va_S A s.heap s.heap [] := va_S.rf
  have hP : va_P D vwCl [(m0, .inr (12, [.int 0, .ref g1, .int 6, .ref g3, .ref g4, .int 0, .ref g6, .ref g7, .int 0, .ref g9, .ref g10, .ref g11, .ref g12, .ref g13, .ref g14, .int 0, .int 0, .int 0, .int 0, .int 0, .ref g20, .ref g21, .int (-9), .ref g23, .ref g24, .ref g25, .ref g26, .int 0, .ref g28, .ref g29, .ref g30, .ref g31, .ref g32, .int 0, .ref g34, .int 0, .int 0, .long 0, .ref g38, .ref g39, .int 0, .int 0, .int 0, .ref g43, .ref g44, .ref g45, .ref g46, .ref g47, .ref g48, .ref g49, .int 0, .ref g51, .ref g52, .ref g53, .ref g54, .ref g55, .ref g56, .int (-9), .int 0, .int 0, .ref g60, .ref g61, .ref g62, .ref g63, .int 0, .ref g65, .ref g66, .ref g67, .ref g68])), (g6, .inl (cK, 30, .inl fk)), (g7, .inl (cZ, 30, .inl fz))] s.heap := hP
  have hl := lv_entry ([.ref m0, .int a1, .int a2]) (n := 3) (Nat.le_of_ble_eq_true rfl)
  rw [lg_entry_eq]
  generalize (lg_sl ([.ref m0, .int a1, .int a2]) ++ List.replicate (3 - (lg_sl ([.ref m0, .int a1, .int a2])).length) Slot.unset).toArray = ls at hl ⊢
  have hl : lv_has ls 3 [(0, .ref m0), (1, .int a1), (2, .int a2)] := hl
  refine lv_iload_n hx hb dX12_make_0 rfl (lv_at hl 1 rfl) ?_
  refine lv_i2l (v := a1.toInt64) hx hb dX12_make_1 rfl ?_
  refine lv_lconst (v := 0) hx hb dX12_make_2 (by decide) ?_
  refine lv_aload_n hx hb dX12_make_3 rfl (lv_at hl 0 rfl) ?_
  refine va_get (D := D) (ci := 12) (v := .int 6) (C := RX12) (T := TX12) (N := 69) hx hb hts (fun _ h => List.mem_cons_of_mem _ (List.mem_append_right _ h)) hown hK hP 0 rfl rfl 2 (by decide) (hts (.fieldLink RX12 151 "TalePlayModel" "kinds" "I") (by decide +kernel)) (fun _ h9 => h9) rfl dX12_make_4 ?_
  refine lv_iconst (v := 1) hx hb dX12_make_7 (by decide) ?_
  refine lv_isub hx hb dX12_make_8 ?_
  refine tp_i (y := 5) (by decide) ?_
  refine lv_i2l (v := 5) hx hb dX12_make_9 (by decide) ?_
  have hPc := hP.sub (ws' := []) [] rfl
  have hKc := hK.sub (tys' := []) [] rfl
  refine ro_calli (va_runS (As := [.long a1.toInt64, .long 0, .long 5]) (rest := []) ⟨hx, hb, hml, hown, hts⟩ (c_X12_in l D s.heap.size a1.toInt64 0 5 a1.toInt 0 5 ((Int32.toInt_toInt64 a1).trans rfl) (by decide) (by decide)) (va_cwS 3 hts gm_X12_make_X12_in rfl rfl rfl (by decide +kernel) ⟨Nat.le_of_ble_eq_true rfl, Nat.le_of_ble_eq_true rfl⟩) (pA_S hKc hPc) rfl rfl hl.1 rfl (lv_room (Nat.le_of_ble_eq_true rfl)) dX12_make_10 ⟨Nat.le_of_ble_eq_true rfl, Nat.le_of_ble_eq_true rfl⟩) hS hA hP (fun r1 u1 H locs hw1 hP hS => ?_)
  have hw1 : r1 = if (0 ≤ a1.toInt ∧ a1.toInt ≤ 5) then 1 else 0 := hw1
  refine lv_if_eq (tgt := 28) hx hb dX12_make_13 (by decide) (fun c2 => ?_) (fun c2 => ?_)
  · have f2 := fl_f hw1 c2
    refine lv_iconst (v := (-1)) hx hb dX12_make_28 (by decide) ?_
    exact rw_iret () hx hb hr hlocks hS (hK.sub (tys' := []) [] rfl) (hP.sub (ws' := []) [] rfl) (hD.sub (ws' := []) [] (by decide) rfl) dX12_make_29 (by show _ = _; (repeat' split) <;> first | rfl | (exfalso; omega))
  · have f2 := fl_t hw1 c2
    refine lv_iload_n hx hb dX12_make_16 rfl (lv_at hl 2 rfl) ?_
    refine lv_i2l (v := a2.toInt64) hx hb dX12_make_17 rfl ?_
    refine lv_lconst (v := 0) hx hb dX12_make_18 (by decide) ?_
    refine lv_ldc2 (v := 99) hx hb hown (hts (.constantLong RX12 175 (99)) (by decide +kernel)) dX12_make_19 ?_
    have hPc := hP.sub (ws' := []) [] rfl
    have hKc := hK.sub (tys' := []) [] rfl
    refine ro_calli (va_runS (As := [.long a2.toInt64, .long 0, .long 99]) (rest := []) ⟨hx, hb, hml, hown, hts⟩ (c_X12_in l D H.size a2.toInt64 0 99 a2.toInt 0 99 ((Int32.toInt_toInt64 a2).trans rfl) (by decide) (by decide)) (va_cwS 3 hts gm_X12_make_X12_in rfl rfl rfl (by decide +kernel) ⟨Nat.le_of_ble_eq_true rfl, Nat.le_of_ble_eq_true rfl⟩) (pA_S hKc hPc) rfl rfl hl.1 rfl (lv_room (Nat.le_of_ble_eq_true rfl)) dX12_make_22 ⟨Nat.le_of_ble_eq_true rfl, Nat.le_of_ble_eq_true rfl⟩) hS hA hP (fun r3 u3 H locs hw3 hP hS => ?_)
    have hw3 : r3 = if (0 ≤ a2.toInt ∧ a2.toInt ≤ 99) then 1 else 0 := hw3
    refine lv_if_ne (tgt := 30) hx hb dX12_make_25 (by decide) (fun c4 => ?_) (fun c4 => ?_)
    · have f4 := fl_t hw3 c4
      refine lv_aload_n hx hb dX12_make_30 rfl (lv_at hl 0 rfl) ?_
      refine va_get (D := D) (ci := 12) (v := .int 0) (C := RX12) (T := TX12) (N := 69) hx hb hts (fun _ h => List.mem_cons_of_mem _ (List.mem_append_right _ h)) hown hK hP 0 rfl rfl 5 (by decide) (hts (.fieldLink RX12 177 "TalePlayModel" "objects" "I") (by decide +kernel)) (fun _ h9 => h9) rfl dX12_make_31 ?_
      refine lv_bipush (v := 30) hx hb dX12_make_34 (by decide) ?_
      refine lv_icmp_ne (tgt := 42) hx hb dX12_make_36 (by decide) (fun _ => ?_) (fun q9 => absurd q9 (by decide))
      refine lv_aload_n hx hb dX12_make_42 rfl (lv_at hl 0 rfl) ?_
      refine va_get (D := D) (ci := 12) (v := .ref g6) (C := RX12) (T := TX12) (N := 69) hx hb hts (fun _ h => List.mem_cons_of_mem _ (List.mem_append_right _ h)) hown hK hP 0 rfl rfl 6 (by decide) (hts (.fieldLink RX12 19 "TalePlayModel" "kindOf" "[I") (by decide +kernel)) (fun _ h9 => h9) rfl dX12_make_43 ?_
      refine lv_aload_n hx hb dX12_make_46 rfl (lv_at hl 0 rfl) ?_
      refine va_get (D := D) (ci := 12) (v := .int 0) (C := RX12) (T := TX12) (N := 69) hx hb hts (fun _ h => List.mem_cons_of_mem _ (List.mem_append_right _ h)) hown hK hP 0 rfl rfl 5 (by decide) (hts (.fieldLink RX12 177 "TalePlayModel" "objects" "I") (by decide +kernel)) (fun _ h9 => h9) rfl dX12_make_47 ?_
      refine lv_iload_n hx hb dX12_make_50 rfl (lv_at hl 1 rfl) ?_
      refine va_iast hx hb hK hP hD hS 1 0 rfl rfl (show vp_in 0 30 from by unfold vp_in; decide) dX12_make_51 (fun H locs hP hD hS => ?_)
      have hP : va_P D vwCl [(m0, .inr (12, [.int 0, .ref g1, .int 6, .ref g3, .ref g4, .int 0, .ref g6, .ref g7, .int 0, .ref g9, .ref g10, .ref g11, .ref g12, .ref g13, .ref g14, .int 0, .int 0, .int 0, .int 0, .int 0, .ref g20, .ref g21, .int (-9), .ref g23, .ref g24, .ref g25, .ref g26, .int 0, .ref g28, .ref g29, .ref g30, .ref g31, .ref g32, .int 0, .ref g34, .int 0, .int 0, .long 0, .ref g38, .ref g39, .int 0, .int 0, .int 0, .ref g43, .ref g44, .ref g45, .ref g46, .ref g47, .ref g48, .ref g49, .int 0, .ref g51, .ref g52, .ref g53, .ref g54, .ref g55, .ref g56, .int (-9), .int 0, .int 0, .ref g60, .ref g61, .ref g62, .ref g63, .int 0, .ref g65, .ref g66, .ref g67, .ref g68])), (g6, .inl (cK, 30, .inl (upd fk (0 : Int32).toNatClampNeg a1))), (g7, .inl (cZ, 30, .inl fz))] H := hP
      have hD : va_D A [(m0, .inr (12, [.int 0, .ref g1, .int 6, .ref g3, .ref g4, .int 0, .ref g6, .ref g7, .int 0, .ref g9, .ref g10, .ref g11, .ref g12, .ref g13, .ref g14, .int 0, .int 0, .int 0, .int 0, .int 0, .ref g20, .ref g21, .int (-9), .ref g23, .ref g24, .ref g25, .ref g26, .int 0, .ref g28, .ref g29, .ref g30, .ref g31, .ref g32, .int 0, .ref g34, .int 0, .int 0, .long 0, .ref g38, .ref g39, .int 0, .int 0, .int 0, .ref g43, .ref g44, .ref g45, .ref g46, .ref g47, .ref g48, .ref g49, .int 0, .ref g51, .ref g52, .ref g53, .ref g54, .ref g55, .ref g56, .int (-9), .int 0, .int 0, .ref g60, .ref g61, .ref g62, .ref g63, .int 0, .ref g65, .ref g66, .ref g67, .ref g68])), (g6, .inl (cK, 30, .inl (upd fk (0 : Int32).toNatClampNeg a1))), (g7, .inl (cZ, 30, .inl fz))] := hD
      refine lv_aload_n hx hb dX12_make_52 rfl (lv_at hl 0 rfl) ?_
      refine va_get (D := D) (ci := 12) (v := .ref g7) (C := RX12) (T := TX12) (N := 69) hx hb hts (fun _ h => List.mem_cons_of_mem _ (List.mem_append_right _ h)) hown hK hP 0 rfl rfl 7 (by decide) (hts (.fieldLink RX12 22 "TalePlayModel" "sizeOf" "[I") (by decide +kernel)) (fun _ h9 => h9) rfl dX12_make_53 ?_
      refine lv_aload_n hx hb dX12_make_56 rfl (lv_at hl 0 rfl) ?_
      refine va_get (D := D) (ci := 12) (v := .int 0) (C := RX12) (T := TX12) (N := 69) hx hb hts (fun _ h => List.mem_cons_of_mem _ (List.mem_append_right _ h)) hown hK hP 0 rfl rfl 5 (by decide) (hts (.fieldLink RX12 177 "TalePlayModel" "objects" "I") (by decide +kernel)) (fun _ h9 => h9) rfl dX12_make_57 ?_
      refine lv_iload_n hx hb dX12_make_60 rfl (lv_at hl 2 rfl) ?_
      refine va_iast hx hb hK hP hD hS 2 1 rfl rfl (show vp_in 0 30 from by unfold vp_in; decide) dX12_make_61 (fun H locs hP hD hS => ?_)
      have hP : va_P D vwCl [(m0, .inr (12, [.int 0, .ref g1, .int 6, .ref g3, .ref g4, .int 0, .ref g6, .ref g7, .int 0, .ref g9, .ref g10, .ref g11, .ref g12, .ref g13, .ref g14, .int 0, .int 0, .int 0, .int 0, .int 0, .ref g20, .ref g21, .int (-9), .ref g23, .ref g24, .ref g25, .ref g26, .int 0, .ref g28, .ref g29, .ref g30, .ref g31, .ref g32, .int 0, .ref g34, .int 0, .int 0, .long 0, .ref g38, .ref g39, .int 0, .int 0, .int 0, .ref g43, .ref g44, .ref g45, .ref g46, .ref g47, .ref g48, .ref g49, .int 0, .ref g51, .ref g52, .ref g53, .ref g54, .ref g55, .ref g56, .int (-9), .int 0, .int 0, .ref g60, .ref g61, .ref g62, .ref g63, .int 0, .ref g65, .ref g66, .ref g67, .ref g68])), (g6, .inl (cK, 30, .inl (upd fk (0 : Int32).toNatClampNeg a1))), (g7, .inl (cZ, 30, .inl (upd fz (0 : Int32).toNatClampNeg a2)))] H := hP
      have hD : va_D A [(m0, .inr (12, [.int 0, .ref g1, .int 6, .ref g3, .ref g4, .int 0, .ref g6, .ref g7, .int 0, .ref g9, .ref g10, .ref g11, .ref g12, .ref g13, .ref g14, .int 0, .int 0, .int 0, .int 0, .int 0, .ref g20, .ref g21, .int (-9), .ref g23, .ref g24, .ref g25, .ref g26, .int 0, .ref g28, .ref g29, .ref g30, .ref g31, .ref g32, .int 0, .ref g34, .int 0, .int 0, .long 0, .ref g38, .ref g39, .int 0, .int 0, .int 0, .ref g43, .ref g44, .ref g45, .ref g46, .ref g47, .ref g48, .ref g49, .int 0, .ref g51, .ref g52, .ref g53, .ref g54, .ref g55, .ref g56, .int (-9), .int 0, .int 0, .ref g60, .ref g61, .ref g62, .ref g63, .int 0, .ref g65, .ref g66, .ref g67, .ref g68])), (g6, .inl (cK, 30, .inl (upd fk (0 : Int32).toNatClampNeg a1))), (g7, .inl (cZ, 30, .inl (upd fz (0 : Int32).toNatClampNeg a2)))] := hD
      refine lv_aload_n hx hb dX12_make_62 rfl (lv_at hl 0 rfl) ?_
      refine lv_dup hx hb dX12_make_63 rfl ?_
      refine va_get (D := D) (ci := 12) (v := .int 0) (C := RX12) (T := TX12) (N := 69) hx hb hts (fun _ h => List.mem_cons_of_mem _ (List.mem_append_right _ h)) hown hK hP 0 rfl rfl 5 (by decide) (hts (.fieldLink RX12 177 "TalePlayModel" "objects" "I") (by decide +kernel)) (fun _ h9 => h9) rfl dX12_make_64 ?_
      refine lv_iconst (v := 1) hx hb dX12_make_67 (by decide) ?_
      refine lv_iadd hx hb dX12_make_68 ?_
      refine tp_i (y := 1) (by decide) ?_
      refine va_put (D := D) (ci := 12) (v := .int 1) (ty := .int) (C := RX12) (T := TX12) (N := 69) hx hb hts (fun _ h => List.mem_cons_of_mem _ (List.mem_append_right _ h)) tyX12 tyX12_ok nmX12 hown hK hP hD hS 0 rfl rfl 5 (by decide) (hts (.fieldLink RX12 177 "TalePlayModel" "objects" "I") (by decide +kernel)) (fun _ h9 => h9) rfl (by decide +kernel) rfl rfl (Nat.le_of_ble_eq_true rfl) dX12_make_69 (fun H locs hP hD hS => ?_)
      have hP : va_P D vwCl [(m0, .inr (12, [.int 0, .ref g1, .int 6, .ref g3, .ref g4, .int 1, .ref g6, .ref g7, .int 0, .ref g9, .ref g10, .ref g11, .ref g12, .ref g13, .ref g14, .int 0, .int 0, .int 0, .int 0, .int 0, .ref g20, .ref g21, .int (-9), .ref g23, .ref g24, .ref g25, .ref g26, .int 0, .ref g28, .ref g29, .ref g30, .ref g31, .ref g32, .int 0, .ref g34, .int 0, .int 0, .long 0, .ref g38, .ref g39, .int 0, .int 0, .int 0, .ref g43, .ref g44, .ref g45, .ref g46, .ref g47, .ref g48, .ref g49, .int 0, .ref g51, .ref g52, .ref g53, .ref g54, .ref g55, .ref g56, .int (-9), .int 0, .int 0, .ref g60, .ref g61, .ref g62, .ref g63, .int 0, .ref g65, .ref g66, .ref g67, .ref g68])), (g6, .inl (cK, 30, .inl (upd fk (0 : Int32).toNatClampNeg a1))), (g7, .inl (cZ, 30, .inl (upd fz (0 : Int32).toNatClampNeg a2)))] H := hP
      have hD : va_D A [(m0, .inr (12, [.int 0, .ref g1, .int 6, .ref g3, .ref g4, .int 1, .ref g6, .ref g7, .int 0, .ref g9, .ref g10, .ref g11, .ref g12, .ref g13, .ref g14, .int 0, .int 0, .int 0, .int 0, .int 0, .ref g20, .ref g21, .int (-9), .ref g23, .ref g24, .ref g25, .ref g26, .int 0, .ref g28, .ref g29, .ref g30, .ref g31, .ref g32, .int 0, .ref g34, .int 0, .int 0, .long 0, .ref g38, .ref g39, .int 0, .int 0, .int 0, .ref g43, .ref g44, .ref g45, .ref g46, .ref g47, .ref g48, .ref g49, .int 0, .ref g51, .ref g52, .ref g53, .ref g54, .ref g55, .ref g56, .int (-9), .int 0, .int 0, .ref g60, .ref g61, .ref g62, .ref g63, .int 0, .ref g65, .ref g66, .ref g67, .ref g68])), (g6, .inl (cK, 30, .inl (upd fk (0 : Int32).toNatClampNeg a1))), (g7, .inl (cZ, 30, .inl (upd fz (0 : Int32).toNatClampNeg a2)))] := hD
      refine lv_aload_n hx hb dX12_make_72 rfl (lv_at hl 0 rfl) ?_
      have hPc := hP.sub (ws' := [(m0, .inr (12, [.int 0, .ref g1, .int 6, .ref g3, .ref g4, .int 1, .ref g6, .ref g7, .int 0, .ref g9, .ref g10, .ref g11, .ref g12, .ref g13, .ref g14, .int 0, .int 0, .int 0, .int 0, .int 0, .ref g20, .ref g21, .int (-9), .ref g23, .ref g24, .ref g25, .ref g26, .int 0, .ref g28, .ref g29, .ref g30, .ref g31, .ref g32, .int 0, .ref g34, .int 0, .int 0, .long 0, .ref g38, .ref g39, .int 0, .int 0, .int 0, .ref g43, .ref g44, .ref g45, .ref g46, .ref g47, .ref g48, .ref g49, .int 0, .ref g51, .ref g52, .ref g53, .ref g54, .ref g55, .ref g56, .int (-9), .int 0, .int 0, .ref g60, .ref g61, .ref g62, .ref g63, .int 0, .ref g65, .ref g66, .ref g67, .ref g68]))]) [0] rfl
      have hKc := hK.sub (tys' := []) [] rfl
      have hDc := hD.sub (ws' := [(m0, .inr (12, [.int 0, .ref g1, .int 6, .ref g3, .ref g4, .int 1, .ref g6, .ref g7, .int 0, .ref g9, .ref g10, .ref g11, .ref g12, .ref g13, .ref g14, .int 0, .int 0, .int 0, .int 0, .int 0, .ref g20, .ref g21, .int (-9), .ref g23, .ref g24, .ref g25, .ref g26, .int 0, .ref g28, .ref g29, .ref g30, .ref g31, .ref g32, .int 0, .ref g34, .int 0, .int 0, .long 0, .ref g38, .ref g39, .int 0, .int 0, .int 0, .ref g43, .ref g44, .ref g45, .ref g46, .ref g47, .ref g48, .ref g49, .int 0, .ref g51, .ref g52, .ref g53, .ref g54, .ref g55, .ref g56, .int (-9), .int 0, .int 0, .ref g60, .ref g61, .ref g62, .ref g63, .int 0, .ref g65, .ref g66, .ref g67, .ref g68]))]) [0] (by decide) rfl
      refine rw_callv (wr := [(g6, .inl (cK, 30, .inl (upd fk (0 : Int32).toNatClampNeg a1))), (g7, .inl (cZ, 30, .inl (upd fz (0 : Int32).toNatClampNeg a2)))]) (va_runV (As := []) (rest := []) ⟨hx, hb, hml, hown, hts⟩ (c_X12_endTale l D H.size m0 g1 g3 g4 g6 g7 g9 g10 g11 g12 g13 g14 g20 g21 g23 g24 g25 g26 g28 g29 g30 g31 g32 g34 g38 g39 g43 g44 g45 g46 g47 g48 g49 g51 g52 g53 g54 g55 g56 g60 g61 g62 g63 g65 g66 g67 g68 1) (cwV 0 hts gm_X12_make_X12_endTale rfl rfl rfl (by decide +kernel) ⟨Nat.le_of_ble_eq_true rfl, Nat.le_of_ble_eq_true rfl⟩) (pB_V hKc hPc hDc (ci := 12) (q0 := 0) rfl rfl) rfl rfl hl.1 rfl (lv_room (Nat.le_of_ble_eq_true rfl)) dX12_make_73 ⟨Nat.le_of_ble_eq_true rfl, Nat.le_of_ble_eq_true rfl⟩) hS hA hK hP hD [0] [1, 2] rfl rfl (by decide) (by decide) (fun u5 H locs hw5 hK hP hD hS => ?_)
      have hP : va_P D vwCl [(g6, .inl (cK, 30, .inl (upd fk (0 : Int32).toNatClampNeg a1))), (g7, .inl (cZ, 30, .inl (upd fz (0 : Int32).toNatClampNeg a2))), (m0, .inr (12, [.int 0, .ref g1, .int 6, .ref g3, .ref g4, .int 1, .ref g6, .ref g7, .int 0, .ref g9, .ref g10, .ref g11, .ref g12, .ref g13, .ref g14, .int 0, .int 0, .int 0, .int 0, .int 0, .ref g20, .ref g21, .int (-9), .ref g23, .ref g24, .ref g25, .ref g26, .int 0, .ref g28, .ref g29, .ref g30, .ref g31, .ref g32, .int 0, .ref g34, .int 0, .int 0, .long 0, .ref g38, .ref g39, .int 0, .int 0, .int 0, .ref g43, .ref g44, .ref g45, .ref g46, .ref g47, .ref g48, .ref g49, .int 0, .ref g51, .ref g52, .ref g53, .ref g54, .ref g55, .ref g56, .int (-9), .int 0, .int 0, .ref g60, .ref g61, .ref g62, .ref g63, .int 0, .ref g65, .ref g66, .ref g67, .ref g68]))] H := hP
      have hD : va_D A [(g6, .inl (cK, 30, .inl (upd fk (0 : Int32).toNatClampNeg a1))), (g7, .inl (cZ, 30, .inl (upd fz (0 : Int32).toNatClampNeg a2))), (m0, .inr (12, [.int 0, .ref g1, .int 6, .ref g3, .ref g4, .int 1, .ref g6, .ref g7, .int 0, .ref g9, .ref g10, .ref g11, .ref g12, .ref g13, .ref g14, .int 0, .int 0, .int 0, .int 0, .int 0, .ref g20, .ref g21, .int (-9), .ref g23, .ref g24, .ref g25, .ref g26, .int 0, .ref g28, .ref g29, .ref g30, .ref g31, .ref g32, .int 0, .ref g34, .int 0, .int 0, .long 0, .ref g38, .ref g39, .int 0, .int 0, .int 0, .ref g43, .ref g44, .ref g45, .ref g46, .ref g47, .ref g48, .ref g49, .int 0, .ref g51, .ref g52, .ref g53, .ref g54, .ref g55, .ref g56, .int (-9), .int 0, .int 0, .ref g60, .ref g61, .ref g62, .ref g63, .int 0, .ref g65, .ref g66, .ref g67, .ref g68]))] := hD
      have hK : va_K D vwCl [(cK, .int), (cZ, .int)] s := hK
      refine lv_aload_n hx hb dX12_make_76 rfl (lv_at hl 0 rfl) ?_
      refine va_get (D := D) (ci := 12) (v := .int 1) (C := RX12) (T := TX12) (N := 69) hx hb hts (fun _ h => List.mem_cons_of_mem _ (List.mem_append_right _ h)) hown hK hP 2 rfl rfl 5 (by decide) (hts (.fieldLink RX12 177 "TalePlayModel" "objects" "I") (by decide +kernel)) (fun _ h9 => h9) rfl dX12_make_77 ?_
      refine lv_iconst (v := 1) hx hb dX12_make_80 (by decide) ?_
      refine lv_isub hx hb dX12_make_81 ?_
      refine tp_i (y := 0) (by decide) ?_
      exact rw_iret () hx hb hr hlocks hS (hK.sub (tys' := []) [] rfl) (hP.sub (ws' := []) [] rfl) (hD.sub (ws' := []) [] (by decide) rfl) dX12_make_82 (by show _ = _; (repeat' split) <;> first | rfl | (exfalso; omega))
    · have f4 := fl_f hw3 c4
      refine lv_iconst (v := (-1)) hx hb dX12_make_28 (by decide) ?_
      exact rw_iret () hx hb hr hlocks hS (hK.sub (tys' := []) [] rfl) (hP.sub (ws' := []) [] rfl) (hD.sub (ws' := []) [] (by decide) rfl) dX12_make_29 (by show _ = _; (repeat' split) <;> first | rfl | (exfalso; omega))

def wm_X12_act : List Cond := .code yX12_act cX12_act 6 (some .int) :: (([.constantLong RX12 385 (12), .methodLink RX12 166 yX12_in, .static yX12_in, .initialized RX12, .code yX12_in cX12_in 6 (some .boolean), .constantLong RX12 387 (10), .methodLink RX12 389 yX12_hasSecond, .static yX12_hasSecond, .code yX12_hasSecond cX12_hasSecond 1 (some .boolean), .fieldLink RX12 155 "TalePlayModel" "player" "I", .methodLink RX12 180 yX12_isObject, .instanceMethod yX12_isObject, .selects RX12 yX12_isObject yX12_isObject, .code yX12_isObject cX12_isObject 2 (some .boolean), .fieldLink RX12 177 "TalePlayModel" "objects" "I", .constantLong RX12 197 (9)] : List Cond) ++ wsX120)
set_option maxRecDepth 20000 in
theorem gm_X12_act_X12_in : GoodIn wm_X12_act (va_wsS RX12 166 yX12_in wm_X12_in) := goodIn_app (goodIn_of _ (by decide +kernel)) (goodIn_r _ [5] (by decide +kernel) (by decide +kernel))
set_option maxRecDepth 20000 in
theorem gm_X12_act_X12_hasSecond : GoodIn wm_X12_act (va_wsS RX12 389 yX12_hasSecond wm_X12_hasSecond) := goodIn_app (goodIn_of _ (by decide +kernel)) (goodIn_r _ [9] (by decide +kernel) (by decide +kernel))
set_option maxRecDepth 20000 in
theorem gm_X12_act_X12_isObject : GoodIn wm_X12_act (wsV RX12 180 RX12 yX12_isObject wm_X12_isObject) := goodIn_app (goodIn_of _ (by decide +kernel)) (goodIn_r _ [14, 15, 2, 3, 4, 5, 17, 18, 19, 20, 21, 22, 23, 24, 25, 26, 27, 28, 29, 30, 31, 32, 33, 34, 35, 36, 37, 38, 39, 40, 41, 42, 43, 44, 45, 46, 47, 48, 49, 50, 51, 52, 53, 54, 55, 56, 57, 58, 59, 60, 61, 62, 63, 64, 65, 66, 67, 68, 69, 70, 71, 72, 73, 74, 75, 76, 77, 78, 79, 80, 81, 82, 83, 84, 85] (by decide +kernel) (by decide +kernel))
set_option maxHeartbeats 4000000 in
set_option maxRecDepth 100000 in
/-- act() of a fresh reference -/
theorem c_X12_act (l : Launch) (D : va_G) (sz : Nat) (m0 : Nat) (g1 : Nat) (g3 : Nat) (g4 : Nat) (g6 : Nat) (g7 : Nat) (g9 : Nat) (g10 : Nat) (g11 : Nat) (g12 : Nat) (g13 : Nat) (g14 : Nat) (g20 : Nat) (g21 : Nat) (g23 : Nat) (g24 : Nat) (g25 : Nat) (g26 : Nat) (g28 : Nat) (g29 : Nat) (g30 : Nat) (g31 : Nat) (g32 : Nat) (g34 : Nat) (g38 : Nat) (g39 : Nat) (g43 : Nat) (g44 : Nat) (g45 : Nat) (g46 : Nat) (g47 : Nat) (g48 : Nat) (g49 : Nat) (g51 : Nat) (g52 : Nat) (g53 : Nat) (g54 : Nat) (g55 : Nat) (g56 : Nat) (g60 : Nat) (g61 : Nat) (g62 : Nat) (g63 : Nat) (g65 : Nat) (g66 : Nat) (g67 : Nat) (g68 : Nat) (a1 : Int32) (a2 : Int32) (a3 : Int32) : Met l yX12_act wm_X12_act ({ frames := 2, cells := 0, slots := 0, locals := 46 }) (va_Pc [.ref m0, .int a1, .int a2, .int a3] (pA D sz [(m0, .inr (12, [.int 0, .ref g1, .int 6, .ref g3, .ref g4, .int 0, .ref g6, .ref g7, .int 0, .ref g9, .ref g10, .ref g11, .ref g12, .ref g13, .ref g14, .int 0, .int 0, .int 0, .int 0, .int 0, .ref g20, .ref g21, .int (-9), .ref g23, .ref g24, .ref g25, .ref g26, .int 0, .ref g28, .ref g29, .ref g30, .ref g31, .ref g32, .int 0, .ref g34, .int 0, .int 0, .long 0, .ref g38, .ref g39, .int 0, .int 0, .int 0, .ref g43, .ref g44, .ref g45, .ref g46, .ref g47, .ref g48, .ref g49, .int 0, .ref g51, .ref g52, .ref g53, .ref g54, .ref g55, .ref g56, .int (-9), .int 0, .int 0, .ref g60, .ref g61, .ref g62, .ref g63, .int 0, .ref g65, .ref g66, .ref g67, .ref g68]))] [])) (va_Qi (fun (r : Int32) (_ : Unit) => r = if ((a1.toInt = 0 ∧ 0 ≤ a2.toInt ∧ a2.toInt < 10) ∨ a1.toInt = 11 ∨ a1.toInt = 12) then -5 else -1) oA (ro sz)) 0 0 (ro sz) := by
  refine Met.ofW (cc := cX12_act) (maxL := 6) (ret := (some .int)) (by decide) rfl ?_
  intro p e s m args below meth c s₁ B hml hv
  obtain ⟨rfl, hsz, hP, hK⟩ := hv
  have hx := B.exec
  have hb := B.bytes
  have hr := B.returns
  have hts := atoms_spec (ws := wm_X12_act) B.pre
  have hown : s.vm.findClass RX12 = some m.cls := findClass_of_methodNamed B.named
  have hlocks := B.notSynchronized
  subst hsz
  have hA : ∀ q : Nat, s.heap.size ≤ q → ro s.heap.size q := fun _ h => h
  have hS : va_S (ro s.heap.size) s.heap s.heap [] := va_S.rf
  have hP : va_P D vwCl [(m0, .inr (12, [.int 0, .ref g1, .int 6, .ref g3, .ref g4, .int 0, .ref g6, .ref g7, .int 0, .ref g9, .ref g10, .ref g11, .ref g12, .ref g13, .ref g14, .int 0, .int 0, .int 0, .int 0, .int 0, .ref g20, .ref g21, .int (-9), .ref g23, .ref g24, .ref g25, .ref g26, .int 0, .ref g28, .ref g29, .ref g30, .ref g31, .ref g32, .int 0, .ref g34, .int 0, .int 0, .long 0, .ref g38, .ref g39, .int 0, .int 0, .int 0, .ref g43, .ref g44, .ref g45, .ref g46, .ref g47, .ref g48, .ref g49, .int 0, .ref g51, .ref g52, .ref g53, .ref g54, .ref g55, .ref g56, .int (-9), .int 0, .int 0, .ref g60, .ref g61, .ref g62, .ref g63, .int 0, .ref g65, .ref g66, .ref g67, .ref g68]))] s.heap := hP
  have hl := lv_entry ([.ref m0, .int a1, .int a2, .int a3]) (n := 6) (Nat.le_of_ble_eq_true rfl)
  rw [lg_entry_eq]
  generalize (lg_sl ([.ref m0, .int a1, .int a2, .int a3]) ++ List.replicate (6 - (lg_sl ([.ref m0, .int a1, .int a2, .int a3])).length) Slot.unset).toArray = ls at hl ⊢
  have hl : lv_has ls 6 [(0, .ref m0), (1, .int a1), (2, .int a2), (3, .int a3)] := hl
  refine lv_iload_n hx hb dX12_act_0 rfl (lv_at hl 1 rfl) ?_
  refine lv_i2l (v := a1.toInt64) hx hb dX12_act_1 rfl ?_
  refine lv_lconst (v := 0) hx hb dX12_act_2 (by decide) ?_
  refine lv_ldc2 (v := 12) hx hb hown (hts (.constantLong RX12 385 (12)) (by decide +kernel)) dX12_act_3 ?_
  have hPc := hP.sub (ws' := []) [] rfl
  have hKc := hK.sub (tys' := []) [] rfl
  refine ro_calli (va_runS (As := [.long a1.toInt64, .long 0, .long 12]) (rest := []) ⟨hx, hb, hml, hown, hts⟩ (c_X12_in l D s.heap.size a1.toInt64 0 12 a1.toInt 0 12 ((Int32.toInt_toInt64 a1).trans rfl) (by decide) (by decide)) (va_cwS 3 hts gm_X12_act_X12_in rfl rfl rfl (by decide +kernel) ⟨Nat.le_of_ble_eq_true rfl, Nat.le_of_ble_eq_true rfl⟩) (pA_S hKc hPc) rfl rfl hl.1 rfl (lv_room (Nat.le_of_ble_eq_true rfl)) dX12_act_6 ⟨Nat.le_of_ble_eq_true rfl, Nat.le_of_ble_eq_true rfl⟩) hS hA hP (fun r1 u1 H locs hw1 hP hS => ?_)
  have hw1 : r1 = if (0 ≤ a1.toInt ∧ a1.toInt ≤ 12) then 1 else 0 := hw1
  refine lv_if_eq (tgt := 63) hx hb dX12_act_9 (by decide) (fun c2 => ?_) (fun c2 => ?_)
  · have f2 := fl_f hw1 c2
    refine lv_iconst (v := (-1)) hx hb dX12_act_63 (by decide) ?_
    exact ro_iret hx hb hr hlocks hS dX12_act_64 (by show _ = _; (repeat' split) <;> first | rfl | (exfalso; omega))
  · have f2 := fl_t hw1 c2
    refine lv_iload_n hx hb dX12_act_12 rfl (lv_at hl 1 rfl) ?_
    refine lv_if_ne (tgt := 28) hx hb dX12_act_13 (by decide) (fun c3 => ?_) (fun c3 => ?_)
    · have f3 := mt (ti_eq (a := a1.toInt) (b := 0) rfl (by decide)).mpr c3
      refine lv_iload_n hx hb dX12_act_28 rfl (lv_at hl 1 rfl) ?_
      refine lv_i2l (v := a1.toInt64) hx hb dX12_act_29 rfl ?_
      refine lv_lconst (v := 1) hx hb dX12_act_30 (by decide) ?_
      refine lv_ldc2 (v := 10) hx hb hown (hts (.constantLong RX12 387 (10)) (by decide +kernel)) dX12_act_31 ?_
      have hPc := hP.sub (ws' := []) [] rfl
      have hKc := hK.sub (tys' := []) [] rfl
      refine ro_calli (va_runS (As := [.long a1.toInt64, .long 1, .long 10]) (rest := []) ⟨hx, hb, hml, hown, hts⟩ (c_X12_in l D H.size a1.toInt64 1 10 a1.toInt 1 10 ((Int32.toInt_toInt64 a1).trans rfl) (by decide) (by decide)) (va_cwS 3 hts gm_X12_act_X12_in rfl rfl rfl (by decide +kernel) ⟨Nat.le_of_ble_eq_true rfl, Nat.le_of_ble_eq_true rfl⟩) (pA_S hKc hPc) rfl rfl hl.1 rfl (lv_room (Nat.le_of_ble_eq_true rfl)) dX12_act_34 ⟨Nat.le_of_ble_eq_true rfl, Nat.le_of_ble_eq_true rfl⟩) hS hA hP (fun r4 u4 H locs hw4 hP hS => ?_)
      have hw4 : r4 = if (1 ≤ a1.toInt ∧ a1.toInt ≤ 10) then 1 else 0 := hw4
      refine lv_if_eq (tgt := 48) hx hb dX12_act_37 (by decide) (fun c5 => ?_) (fun c5 => ?_)
      · have f5 := fl_f hw4 c5
        refine lv_iload_n hx hb dX12_act_48 rfl (lv_at hl 1 rfl) ?_
        have hPc := hP.sub (ws' := []) [] rfl
        have hKc := hK.sub (tys' := []) [] rfl
        refine ro_calli (va_runS (As := [.int a1]) (rest := []) ⟨hx, hb, hml, hown, hts⟩ (c_X12_hasSecond l D H.size a1) (va_cwS 1 hts gm_X12_act_X12_hasSecond rfl rfl rfl (by decide +kernel) ⟨Nat.le_of_ble_eq_true rfl, Nat.le_of_ble_eq_true rfl⟩) (pA_S hKc hPc) rfl rfl hl.1 rfl (lv_room (Nat.le_of_ble_eq_true rfl)) dX12_act_49 ⟨Nat.le_of_ble_eq_true rfl, Nat.le_of_ble_eq_true rfl⟩) hS hA hP (fun r6 u6 H locs hw6 hP hS => ?_)
        have hw6 : r6 = if (a1.toInt = 3 ∨ a1.toInt = 4 ∨ a1.toInt = 7 ∨ a1.toInt = 8) then 1 else 0 := hw6
        refine lv_if_eq (tgt := 65) hx hb dX12_act_52 (by decide) (fun c7 => ?_) (fun c7 => ?_)
        · have f7 := fl_f hw6 c7
          refine lv_aload_n hx hb dX12_act_65 rfl (lv_at hl 0 rfl) ?_
          refine va_get (D := D) (ci := 12) (v := .int (-9)) (C := RX12) (T := TX12) (N := 69) hx hb hts (fun _ h => List.mem_cons_of_mem _ (List.mem_append_right _ h)) hown hK hP 0 rfl rfl 22 (by decide) (hts (.fieldLink RX12 155 "TalePlayModel" "player" "I") (by decide +kernel)) (fun _ h9 => h9) rfl dX12_act_66 ?_
          refine lv_bipush (v := (-9)) hx hb dX12_act_69 (by decide) ?_
          refine lv_icmp_eq (tgt := 86) hx hb dX12_act_71 (by decide) (fun _ => ?_) (fun q9 => absurd (by decide) q9)
          refine lv_aload_n hx hb dX12_act_86 rfl (lv_at hl 0 rfl) ?_
          refine va_get (D := D) (ci := 12) (v := .int (-9)) (C := RX12) (T := TX12) (N := 69) hx hb hts (fun _ h => List.mem_cons_of_mem _ (List.mem_append_right _ h)) hown hK hP 0 rfl rfl 22 (by decide) (hts (.fieldLink RX12 155 "TalePlayModel" "player" "I") (by decide +kernel)) (fun _ h9 => h9) rfl dX12_act_87 ?_
          refine lv_bipush (v := (-9)) hx hb dX12_act_90 (by decide) ?_
          refine lv_icmp_ne (tgt := 98) hx hb dX12_act_92 (by decide) (fun q9 => absurd q9 (by decide)) (fun _ => ?_)
          refine lv_bipush (v := (-5)) hx hb dX12_act_95 (by decide) ?_
          exact ro_iret hx hb hr hlocks hS dX12_act_97 (by show _ = _; (repeat' split) <;> first | rfl | (exfalso; omega))
        · have f7 := fl_t hw6 c7
          refine lv_aload_n hx hb dX12_act_55 rfl (lv_at hl 0 rfl) ?_
          refine lv_iload_n hx hb dX12_act_56 rfl (lv_at hl 3 rfl) ?_
          have hPc := hP.sub (ws' := [(m0, .inr (12, [.int 0, .ref g1, .int 6, .ref g3, .ref g4, .int 0, .ref g6, .ref g7, .int 0, .ref g9, .ref g10, .ref g11, .ref g12, .ref g13, .ref g14, .int 0, .int 0, .int 0, .int 0, .int 0, .ref g20, .ref g21, .int (-9), .ref g23, .ref g24, .ref g25, .ref g26, .int 0, .ref g28, .ref g29, .ref g30, .ref g31, .ref g32, .int 0, .ref g34, .int 0, .int 0, .long 0, .ref g38, .ref g39, .int 0, .int 0, .int 0, .ref g43, .ref g44, .ref g45, .ref g46, .ref g47, .ref g48, .ref g49, .int 0, .ref g51, .ref g52, .ref g53, .ref g54, .ref g55, .ref g56, .int (-9), .int 0, .int 0, .ref g60, .ref g61, .ref g62, .ref g63, .int 0, .ref g65, .ref g66, .ref g67, .ref g68]))]) [0] rfl
          have hKc := hK.sub (tys' := []) [] rfl
          refine ro_calli (va_runV (As := [.int a3]) (rest := []) ⟨hx, hb, hml, hown, hts⟩ (c_X12_isObject l D H.size m0 g1 g3 g4 g6 g7 g9 g10 g11 g12 g13 g14 g20 g21 g23 g24 g25 g26 g28 g29 g30 g31 g32 g34 g38 g39 g43 g44 g45 g46 g47 g48 g49 g51 g52 g53 g54 g55 g56 g60 g61 g62 g63 g65 g66 g67 g68 a3) (cwV 1 hts gm_X12_act_X12_isObject rfl rfl rfl (by decide +kernel) ⟨Nat.le_of_ble_eq_true rfl, Nat.le_of_ble_eq_true rfl⟩) (pA_V hKc hPc (ci := 12) (q0 := 0) rfl rfl) rfl rfl hl.1 rfl (lv_room (Nat.le_of_ble_eq_true rfl)) dX12_act_57 ⟨Nat.le_of_ble_eq_true rfl, Nat.le_of_ble_eq_true rfl⟩) hS hA hP (fun r8 u8 H locs hw8 hP hS => ?_)
          have hw8 : r8 = 0 := hw8
          subst hw8
          refine lv_if_ne (tgt := 65) hx hb dX12_act_60 (by decide) (fun q9 => absurd q9 (by decide)) (fun _ => ?_)
          refine lv_iconst (v := (-1)) hx hb dX12_act_63 (by decide) ?_
          exact ro_iret hx hb hr hlocks hS dX12_act_64 (by show _ = _; (repeat' split) <;> first | rfl | (exfalso; omega))
      · have f5 := fl_t hw4 c5
        refine lv_aload_n hx hb dX12_act_40 rfl (lv_at hl 0 rfl) ?_
        refine lv_iload_n hx hb dX12_act_41 rfl (lv_at hl 2 rfl) ?_
        have hPc := hP.sub (ws' := [(m0, .inr (12, [.int 0, .ref g1, .int 6, .ref g3, .ref g4, .int 0, .ref g6, .ref g7, .int 0, .ref g9, .ref g10, .ref g11, .ref g12, .ref g13, .ref g14, .int 0, .int 0, .int 0, .int 0, .int 0, .ref g20, .ref g21, .int (-9), .ref g23, .ref g24, .ref g25, .ref g26, .int 0, .ref g28, .ref g29, .ref g30, .ref g31, .ref g32, .int 0, .ref g34, .int 0, .int 0, .long 0, .ref g38, .ref g39, .int 0, .int 0, .int 0, .ref g43, .ref g44, .ref g45, .ref g46, .ref g47, .ref g48, .ref g49, .int 0, .ref g51, .ref g52, .ref g53, .ref g54, .ref g55, .ref g56, .int (-9), .int 0, .int 0, .ref g60, .ref g61, .ref g62, .ref g63, .int 0, .ref g65, .ref g66, .ref g67, .ref g68]))]) [0] rfl
        have hKc := hK.sub (tys' := []) [] rfl
        refine ro_calli (va_runV (As := [.int a2]) (rest := []) ⟨hx, hb, hml, hown, hts⟩ (c_X12_isObject l D H.size m0 g1 g3 g4 g6 g7 g9 g10 g11 g12 g13 g14 g20 g21 g23 g24 g25 g26 g28 g29 g30 g31 g32 g34 g38 g39 g43 g44 g45 g46 g47 g48 g49 g51 g52 g53 g54 g55 g56 g60 g61 g62 g63 g65 g66 g67 g68 a2) (cwV 1 hts gm_X12_act_X12_isObject rfl rfl rfl (by decide +kernel) ⟨Nat.le_of_ble_eq_true rfl, Nat.le_of_ble_eq_true rfl⟩) (pA_V hKc hPc (ci := 12) (q0 := 0) rfl rfl) rfl rfl hl.1 rfl (lv_room (Nat.le_of_ble_eq_true rfl)) dX12_act_42 ⟨Nat.le_of_ble_eq_true rfl, Nat.le_of_ble_eq_true rfl⟩) hS hA hP (fun r9 u9 H locs hw9 hP hS => ?_)
        have hw9 : r9 = 0 := hw9
        subst hw9
        refine lv_if_eq (tgt := 63) hx hb dX12_act_45 (by decide) (fun _ => ?_) (fun q9 => absurd (by decide) q9)
        refine lv_iconst (v := (-1)) hx hb dX12_act_63 (by decide) ?_
        exact ro_iret hx hb hr hlocks hS dX12_act_64 (by show _ = _; (repeat' split) <;> first | rfl | (exfalso; omega))
    · have f3 := (ti_eq (a := a1.toInt) (b := 0) rfl (by decide)).mp c3
      refine lv_iload_n hx hb dX12_act_16 rfl (lv_at hl 2 rfl) ?_
      refine lv_i2l (v := a2.toInt64) hx hb dX12_act_17 rfl ?_
      refine lv_lconst (v := 0) hx hb dX12_act_18 (by decide) ?_
      refine lv_ldc2 (v := 9) hx hb hown (hts (.constantLong RX12 197 (9)) (by decide +kernel)) dX12_act_19 ?_
      have hPc := hP.sub (ws' := []) [] rfl
      have hKc := hK.sub (tys' := []) [] rfl
      refine ro_calli (va_runS (As := [.long a2.toInt64, .long 0, .long 9]) (rest := []) ⟨hx, hb, hml, hown, hts⟩ (c_X12_in l D H.size a2.toInt64 0 9 a2.toInt 0 9 ((Int32.toInt_toInt64 a2).trans rfl) (by decide) (by decide)) (va_cwS 3 hts gm_X12_act_X12_in rfl rfl rfl (by decide +kernel) ⟨Nat.le_of_ble_eq_true rfl, Nat.le_of_ble_eq_true rfl⟩) (pA_S hKc hPc) rfl rfl hl.1 rfl (lv_room (Nat.le_of_ble_eq_true rfl)) dX12_act_22 ⟨Nat.le_of_ble_eq_true rfl, Nat.le_of_ble_eq_true rfl⟩) hS hA hP (fun r10 u10 H locs hw10 hP hS => ?_)
      have hw10 : r10 = if (0 ≤ a2.toInt ∧ a2.toInt ≤ 9) then 1 else 0 := hw10
      refine lv_if_eq (tgt := 63) hx hb dX12_act_25 (by decide) (fun c11 => ?_) (fun c11 => ?_)
      · have f11 := fl_f hw10 c11
        refine lv_iconst (v := (-1)) hx hb dX12_act_63 (by decide) ?_
        exact ro_iret hx hb hr hlocks hS dX12_act_64 (by show _ = _; (repeat' split) <;> first | rfl | (exfalso; omega))
      · have f11 := fl_t hw10 c11
        refine lv_iload_n hx hb dX12_act_28 rfl (lv_at hl 1 rfl) ?_
        refine lv_i2l (v := a1.toInt64) hx hb dX12_act_29 rfl ?_
        refine lv_lconst (v := 1) hx hb dX12_act_30 (by decide) ?_
        refine lv_ldc2 (v := 10) hx hb hown (hts (.constantLong RX12 387 (10)) (by decide +kernel)) dX12_act_31 ?_
        have hPc := hP.sub (ws' := []) [] rfl
        have hKc := hK.sub (tys' := []) [] rfl
        refine ro_calli (va_runS (As := [.long a1.toInt64, .long 1, .long 10]) (rest := []) ⟨hx, hb, hml, hown, hts⟩ (c_X12_in l D H.size a1.toInt64 1 10 a1.toInt 1 10 ((Int32.toInt_toInt64 a1).trans rfl) (by decide) (by decide)) (va_cwS 3 hts gm_X12_act_X12_in rfl rfl rfl (by decide +kernel) ⟨Nat.le_of_ble_eq_true rfl, Nat.le_of_ble_eq_true rfl⟩) (pA_S hKc hPc) rfl rfl hl.1 rfl (lv_room (Nat.le_of_ble_eq_true rfl)) dX12_act_34 ⟨Nat.le_of_ble_eq_true rfl, Nat.le_of_ble_eq_true rfl⟩) hS hA hP (fun r12 u12 H locs hw12 hP hS => ?_)
        have hw12 : r12 = if (1 ≤ a1.toInt ∧ a1.toInt ≤ 10) then 1 else 0 := hw12
        refine lv_if_eq (tgt := 48) hx hb dX12_act_37 (by decide) (fun c13 => ?_) (fun c13 => ?_)
        · have f13 := fl_f hw12 c13
          refine lv_iload_n hx hb dX12_act_48 rfl (lv_at hl 1 rfl) ?_
          have hPc := hP.sub (ws' := []) [] rfl
          have hKc := hK.sub (tys' := []) [] rfl
          refine ro_calli (va_runS (As := [.int a1]) (rest := []) ⟨hx, hb, hml, hown, hts⟩ (c_X12_hasSecond l D H.size a1) (va_cwS 1 hts gm_X12_act_X12_hasSecond rfl rfl rfl (by decide +kernel) ⟨Nat.le_of_ble_eq_true rfl, Nat.le_of_ble_eq_true rfl⟩) (pA_S hKc hPc) rfl rfl hl.1 rfl (lv_room (Nat.le_of_ble_eq_true rfl)) dX12_act_49 ⟨Nat.le_of_ble_eq_true rfl, Nat.le_of_ble_eq_true rfl⟩) hS hA hP (fun r14 u14 H locs hw14 hP hS => ?_)
          have hw14 : r14 = if (a1.toInt = 3 ∨ a1.toInt = 4 ∨ a1.toInt = 7 ∨ a1.toInt = 8) then 1 else 0 := hw14
          refine lv_if_eq (tgt := 65) hx hb dX12_act_52 (by decide) (fun c15 => ?_) (fun c15 => ?_)
          · have f15 := fl_f hw14 c15
            refine lv_aload_n hx hb dX12_act_65 rfl (lv_at hl 0 rfl) ?_
            refine va_get (D := D) (ci := 12) (v := .int (-9)) (C := RX12) (T := TX12) (N := 69) hx hb hts (fun _ h => List.mem_cons_of_mem _ (List.mem_append_right _ h)) hown hK hP 0 rfl rfl 22 (by decide) (hts (.fieldLink RX12 155 "TalePlayModel" "player" "I") (by decide +kernel)) (fun _ h9 => h9) rfl dX12_act_66 ?_
            refine lv_bipush (v := (-9)) hx hb dX12_act_69 (by decide) ?_
            refine lv_icmp_eq (tgt := 86) hx hb dX12_act_71 (by decide) (fun _ => ?_) (fun q9 => absurd (by decide) q9)
            refine lv_aload_n hx hb dX12_act_86 rfl (lv_at hl 0 rfl) ?_
            refine va_get (D := D) (ci := 12) (v := .int (-9)) (C := RX12) (T := TX12) (N := 69) hx hb hts (fun _ h => List.mem_cons_of_mem _ (List.mem_append_right _ h)) hown hK hP 0 rfl rfl 22 (by decide) (hts (.fieldLink RX12 155 "TalePlayModel" "player" "I") (by decide +kernel)) (fun _ h9 => h9) rfl dX12_act_87 ?_
            refine lv_bipush (v := (-9)) hx hb dX12_act_90 (by decide) ?_
            refine lv_icmp_ne (tgt := 98) hx hb dX12_act_92 (by decide) (fun q9 => absurd q9 (by decide)) (fun _ => ?_)
            refine lv_bipush (v := (-5)) hx hb dX12_act_95 (by decide) ?_
            exact ro_iret hx hb hr hlocks hS dX12_act_97 (by show _ = _; (repeat' split) <;> first | rfl | (exfalso; omega))
          · have f15 := fl_t hw14 c15
            refine lv_aload_n hx hb dX12_act_55 rfl (lv_at hl 0 rfl) ?_
            refine lv_iload_n hx hb dX12_act_56 rfl (lv_at hl 3 rfl) ?_
            have hPc := hP.sub (ws' := [(m0, .inr (12, [.int 0, .ref g1, .int 6, .ref g3, .ref g4, .int 0, .ref g6, .ref g7, .int 0, .ref g9, .ref g10, .ref g11, .ref g12, .ref g13, .ref g14, .int 0, .int 0, .int 0, .int 0, .int 0, .ref g20, .ref g21, .int (-9), .ref g23, .ref g24, .ref g25, .ref g26, .int 0, .ref g28, .ref g29, .ref g30, .ref g31, .ref g32, .int 0, .ref g34, .int 0, .int 0, .long 0, .ref g38, .ref g39, .int 0, .int 0, .int 0, .ref g43, .ref g44, .ref g45, .ref g46, .ref g47, .ref g48, .ref g49, .int 0, .ref g51, .ref g52, .ref g53, .ref g54, .ref g55, .ref g56, .int (-9), .int 0, .int 0, .ref g60, .ref g61, .ref g62, .ref g63, .int 0, .ref g65, .ref g66, .ref g67, .ref g68]))]) [0] rfl
            have hKc := hK.sub (tys' := []) [] rfl
            refine ro_calli (va_runV (As := [.int a3]) (rest := []) ⟨hx, hb, hml, hown, hts⟩ (c_X12_isObject l D H.size m0 g1 g3 g4 g6 g7 g9 g10 g11 g12 g13 g14 g20 g21 g23 g24 g25 g26 g28 g29 g30 g31 g32 g34 g38 g39 g43 g44 g45 g46 g47 g48 g49 g51 g52 g53 g54 g55 g56 g60 g61 g62 g63 g65 g66 g67 g68 a3) (cwV 1 hts gm_X12_act_X12_isObject rfl rfl rfl (by decide +kernel) ⟨Nat.le_of_ble_eq_true rfl, Nat.le_of_ble_eq_true rfl⟩) (pA_V hKc hPc (ci := 12) (q0 := 0) rfl rfl) rfl rfl hl.1 rfl (lv_room (Nat.le_of_ble_eq_true rfl)) dX12_act_57 ⟨Nat.le_of_ble_eq_true rfl, Nat.le_of_ble_eq_true rfl⟩) hS hA hP (fun r16 u16 H locs hw16 hP hS => ?_)
            have hw16 : r16 = 0 := hw16
            subst hw16
            refine lv_if_ne (tgt := 65) hx hb dX12_act_60 (by decide) (fun q9 => absurd q9 (by decide)) (fun _ => ?_)
            refine lv_iconst (v := (-1)) hx hb dX12_act_63 (by decide) ?_
            exact ro_iret hx hb hr hlocks hS dX12_act_64 (by show _ = _; (repeat' split) <;> first | rfl | (exfalso; omega))
        · have f13 := fl_t hw12 c13
          refine lv_aload_n hx hb dX12_act_40 rfl (lv_at hl 0 rfl) ?_
          refine lv_iload_n hx hb dX12_act_41 rfl (lv_at hl 2 rfl) ?_
          have hPc := hP.sub (ws' := [(m0, .inr (12, [.int 0, .ref g1, .int 6, .ref g3, .ref g4, .int 0, .ref g6, .ref g7, .int 0, .ref g9, .ref g10, .ref g11, .ref g12, .ref g13, .ref g14, .int 0, .int 0, .int 0, .int 0, .int 0, .ref g20, .ref g21, .int (-9), .ref g23, .ref g24, .ref g25, .ref g26, .int 0, .ref g28, .ref g29, .ref g30, .ref g31, .ref g32, .int 0, .ref g34, .int 0, .int 0, .long 0, .ref g38, .ref g39, .int 0, .int 0, .int 0, .ref g43, .ref g44, .ref g45, .ref g46, .ref g47, .ref g48, .ref g49, .int 0, .ref g51, .ref g52, .ref g53, .ref g54, .ref g55, .ref g56, .int (-9), .int 0, .int 0, .ref g60, .ref g61, .ref g62, .ref g63, .int 0, .ref g65, .ref g66, .ref g67, .ref g68]))]) [0] rfl
          have hKc := hK.sub (tys' := []) [] rfl
          refine ro_calli (va_runV (As := [.int a2]) (rest := []) ⟨hx, hb, hml, hown, hts⟩ (c_X12_isObject l D H.size m0 g1 g3 g4 g6 g7 g9 g10 g11 g12 g13 g14 g20 g21 g23 g24 g25 g26 g28 g29 g30 g31 g32 g34 g38 g39 g43 g44 g45 g46 g47 g48 g49 g51 g52 g53 g54 g55 g56 g60 g61 g62 g63 g65 g66 g67 g68 a2) (cwV 1 hts gm_X12_act_X12_isObject rfl rfl rfl (by decide +kernel) ⟨Nat.le_of_ble_eq_true rfl, Nat.le_of_ble_eq_true rfl⟩) (pA_V hKc hPc (ci := 12) (q0 := 0) rfl rfl) rfl rfl hl.1 rfl (lv_room (Nat.le_of_ble_eq_true rfl)) dX12_act_42 ⟨Nat.le_of_ble_eq_true rfl, Nat.le_of_ble_eq_true rfl⟩) hS hA hP (fun r17 u17 H locs hw17 hP hS => ?_)
          have hw17 : r17 = 0 := hw17
          subst hw17
          refine lv_if_eq (tgt := 63) hx hb dX12_act_45 (by decide) (fun _ => ?_) (fun q9 => absurd (by decide) q9)
          refine lv_iconst (v := (-1)) hx hb dX12_act_63 (by decide) ?_
          exact ro_iret hx hb hr hlocks hS dX12_act_64 (by show _ = _; (repeat' split) <;> first | rfl | (exfalso; omega))

def wm_X12_turn : List Cond := .code yX12_turn cX12_turn 3 (some .int) :: (([.constantLong RX12 254 (2), .methodLink RX12 166 yX12_in, .static yX12_in, .initialized RX12, .code yX12_in cX12_in 6 (some .boolean), .fieldLink RX12 155 "TalePlayModel" "player" "I"] : List Cond) ++ wsX120)
set_option maxRecDepth 20000 in
theorem gm_X12_turn_X12_in : GoodIn wm_X12_turn (va_wsS RX12 166 yX12_in wm_X12_in) := goodIn_app (goodIn_of _ (by decide +kernel)) (goodIn_r _ [5] (by decide +kernel) (by decide +kernel))
set_option maxHeartbeats 4000000 in
set_option maxRecDepth 100000 in
/-- turn() of a fresh reference -/
theorem c_X12_turn (l : Launch) (D : va_G) (sz : Nat) (m0 : Nat) (g1 : Nat) (g3 : Nat) (g4 : Nat) (g6 : Nat) (g7 : Nat) (g9 : Nat) (g10 : Nat) (g11 : Nat) (g12 : Nat) (g13 : Nat) (g14 : Nat) (g20 : Nat) (g21 : Nat) (g23 : Nat) (g24 : Nat) (g25 : Nat) (g26 : Nat) (g28 : Nat) (g29 : Nat) (g30 : Nat) (g31 : Nat) (g32 : Nat) (g34 : Nat) (g38 : Nat) (g39 : Nat) (g43 : Nat) (g44 : Nat) (g45 : Nat) (g46 : Nat) (g47 : Nat) (g48 : Nat) (g49 : Nat) (g51 : Nat) (g52 : Nat) (g53 : Nat) (g54 : Nat) (g55 : Nat) (g56 : Nat) (g60 : Nat) (g61 : Nat) (g62 : Nat) (g63 : Nat) (g65 : Nat) (g66 : Nat) (g67 : Nat) (g68 : Nat) (a1 : Int32) (a2 : Int32) : Met l yX12_turn wm_X12_turn ({ frames := 1, cells := 0, slots := 0, locals := 25 }) (va_Pc [.ref m0, .int a1, .int a2] (pA D sz [(m0, .inr (12, [.int 0, .ref g1, .int 6, .ref g3, .ref g4, .int 0, .ref g6, .ref g7, .int 0, .ref g9, .ref g10, .ref g11, .ref g12, .ref g13, .ref g14, .int 0, .int 0, .int 0, .int 0, .int 0, .ref g20, .ref g21, .int (-9), .ref g23, .ref g24, .ref g25, .ref g26, .int 0, .ref g28, .ref g29, .ref g30, .ref g31, .ref g32, .int 0, .ref g34, .int 0, .int 0, .long 0, .ref g38, .ref g39, .int 0, .int 0, .int 0, .ref g43, .ref g44, .ref g45, .ref g46, .ref g47, .ref g48, .ref g49, .int 0, .ref g51, .ref g52, .ref g53, .ref g54, .ref g55, .ref g56, .int (-9), .int 0, .int 0, .ref g60, .ref g61, .ref g62, .ref g63, .int 0, .ref g65, .ref g66, .ref g67, .ref g68]))] [])) (va_Qi (fun (r : Int32) (_ : Unit) => r = if (0 ≤ a1.toInt ∧ 0 ≤ a2.toInt ∧ a2.toInt < 3) then -5 else -1) oA (ro sz)) 0 0 (ro sz) := by
  refine Met.ofW (cc := cX12_turn) (maxL := 3) (ret := (some .int)) (by decide) rfl ?_
  intro p e s m args below meth c s₁ B hml hv
  obtain ⟨rfl, hsz, hP, hK⟩ := hv
  have hx := B.exec
  have hb := B.bytes
  have hr := B.returns
  have hts := atoms_spec (ws := wm_X12_turn) B.pre
  have hown : s.vm.findClass RX12 = some m.cls := findClass_of_methodNamed B.named
  have hlocks := B.notSynchronized
  subst hsz
  have hA : ∀ q : Nat, s.heap.size ≤ q → ro s.heap.size q := fun _ h => h
  have hS : va_S (ro s.heap.size) s.heap s.heap [] := va_S.rf
  have hP : va_P D vwCl [(m0, .inr (12, [.int 0, .ref g1, .int 6, .ref g3, .ref g4, .int 0, .ref g6, .ref g7, .int 0, .ref g9, .ref g10, .ref g11, .ref g12, .ref g13, .ref g14, .int 0, .int 0, .int 0, .int 0, .int 0, .ref g20, .ref g21, .int (-9), .ref g23, .ref g24, .ref g25, .ref g26, .int 0, .ref g28, .ref g29, .ref g30, .ref g31, .ref g32, .int 0, .ref g34, .int 0, .int 0, .long 0, .ref g38, .ref g39, .int 0, .int 0, .int 0, .ref g43, .ref g44, .ref g45, .ref g46, .ref g47, .ref g48, .ref g49, .int 0, .ref g51, .ref g52, .ref g53, .ref g54, .ref g55, .ref g56, .int (-9), .int 0, .int 0, .ref g60, .ref g61, .ref g62, .ref g63, .int 0, .ref g65, .ref g66, .ref g67, .ref g68]))] s.heap := hP
  have hl := lv_entry ([.ref m0, .int a1, .int a2]) (n := 3) (Nat.le_of_ble_eq_true rfl)
  rw [lg_entry_eq]
  generalize (lg_sl ([.ref m0, .int a1, .int a2]) ++ List.replicate (3 - (lg_sl ([.ref m0, .int a1, .int a2])).length) Slot.unset).toArray = ls at hl ⊢
  have hl : lv_has ls 3 [(0, .ref m0), (1, .int a1), (2, .int a2)] := hl
  refine lv_iload_n hx hb dX12_turn_0 rfl (lv_at hl 1 rfl) ?_
  refine lv_if_lt (tgt := 16) hx hb dX12_turn_1 (by decide) (fun c1 => ?_) (fun c1 => ?_)
  · have f1 := (ti_lt (a := a1.toInt) (b := 0) rfl (by decide)).mp c1
    refine lv_iconst (v := (-1)) hx hb dX12_turn_16 (by decide) ?_
    exact ro_iret hx hb hr hlocks hS dX12_turn_17 (by show _ = _; (repeat' split) <;> first | rfl | (exfalso; omega))
  · have f1 := mt (ti_lt (a := a1.toInt) (b := 0) rfl (by decide)).mpr c1
    refine lv_iload_n hx hb dX12_turn_4 rfl (lv_at hl 2 rfl) ?_
    refine lv_i2l (v := a2.toInt64) hx hb dX12_turn_5 rfl ?_
    refine lv_lconst (v := 0) hx hb dX12_turn_6 (by decide) ?_
    refine lv_ldc2 (v := 2) hx hb hown (hts (.constantLong RX12 254 (2)) (by decide +kernel)) dX12_turn_7 ?_
    have hPc := hP.sub (ws' := []) [] rfl
    have hKc := hK.sub (tys' := []) [] rfl
    refine ro_calli (va_runS (As := [.long a2.toInt64, .long 0, .long 2]) (rest := []) ⟨hx, hb, hml, hown, hts⟩ (c_X12_in l D s.heap.size a2.toInt64 0 2 a2.toInt 0 2 ((Int32.toInt_toInt64 a2).trans rfl) (by decide) (by decide)) (va_cwS 3 hts gm_X12_turn_X12_in rfl rfl rfl (by decide +kernel) ⟨Nat.le_of_ble_eq_true rfl, Nat.le_of_ble_eq_true rfl⟩) (pA_S hKc hPc) rfl rfl hl.1 rfl (lv_room (Nat.le_of_ble_eq_true rfl)) dX12_turn_10 ⟨Nat.le_of_ble_eq_true rfl, Nat.le_of_ble_eq_true rfl⟩) hS hA hP (fun r2 u2 H locs hw2 hP hS => ?_)
    have hw2 : r2 = if (0 ≤ a2.toInt ∧ a2.toInt ≤ 2) then 1 else 0 := hw2
    refine lv_if_ne (tgt := 18) hx hb dX12_turn_13 (by decide) (fun c3 => ?_) (fun c3 => ?_)
    · have f3 := fl_t hw2 c3
      refine lv_aload_n hx hb dX12_turn_18 rfl (lv_at hl 0 rfl) ?_
      refine va_get (D := D) (ci := 12) (v := .int (-9)) (C := RX12) (T := TX12) (N := 69) hx hb hts (fun _ h => List.mem_cons_of_mem _ (List.mem_append_right _ h)) hown hK hP 0 rfl rfl 22 (by decide) (hts (.fieldLink RX12 155 "TalePlayModel" "player" "I") (by decide +kernel)) (fun _ h9 => h9) rfl dX12_turn_19 ?_
      refine lv_bipush (v := (-9)) hx hb dX12_turn_22 (by decide) ?_
      refine lv_icmp_ne (tgt := 30) hx hb dX12_turn_24 (by decide) (fun q9 => absurd q9 (by decide)) (fun _ => ?_)
      refine lv_bipush (v := (-5)) hx hb dX12_turn_27 (by decide) ?_
      exact ro_iret hx hb hr hlocks hS dX12_turn_29 (by show _ = _; (repeat' split) <;> first | rfl | (exfalso; omega))
    · have f3 := fl_f hw2 c3
      refine lv_iconst (v := (-1)) hx hb dX12_turn_16 (by decide) ?_
      exact ro_iret hx hb hr hlocks hS dX12_turn_17 (by show _ = _; (repeat' split) <;> first | rfl | (exfalso; omega))

def wm_X12_sought : List Cond := .code yX12_sought cX12_sought 3 (some .int) :: (([.constantLong RX12 254 (2), .methodLink RX12 166 yX12_in, .static yX12_in, .initialized RX12, .code yX12_in cX12_in 6 (some .boolean), .fieldLink RX12 158 "TalePlayModel" "soughtMany" "I"] : List Cond) ++ wsX120)
set_option maxRecDepth 20000 in
theorem gm_X12_sought_X12_in : GoodIn wm_X12_sought (va_wsS RX12 166 yX12_in wm_X12_in) := goodIn_app (goodIn_of _ (by decide +kernel)) (goodIn_r _ [5] (by decide +kernel) (by decide +kernel))
set_option maxHeartbeats 4000000 in
set_option maxRecDepth 100000 in
/-- sought() of a fresh reference -/
theorem c_X12_sought (l : Launch) (D : va_G) (sz : Nat) (m0 : Nat) (g1 : Nat) (g3 : Nat) (g4 : Nat) (g6 : Nat) (g7 : Nat) (g9 : Nat) (g10 : Nat) (g11 : Nat) (g12 : Nat) (g13 : Nat) (g14 : Nat) (g20 : Nat) (g21 : Nat) (g23 : Nat) (g24 : Nat) (g25 : Nat) (g26 : Nat) (g28 : Nat) (g29 : Nat) (g30 : Nat) (g31 : Nat) (g32 : Nat) (g34 : Nat) (g38 : Nat) (g39 : Nat) (g43 : Nat) (g44 : Nat) (g45 : Nat) (g46 : Nat) (g47 : Nat) (g48 : Nat) (g49 : Nat) (g51 : Nat) (g52 : Nat) (g53 : Nat) (g54 : Nat) (g55 : Nat) (g56 : Nat) (g60 : Nat) (g61 : Nat) (g62 : Nat) (g63 : Nat) (g65 : Nat) (g66 : Nat) (g67 : Nat) (g68 : Nat) (a1 : Int32) (a2 : Int32) : Met l yX12_sought wm_X12_sought ({ frames := 1, cells := 0, slots := 0, locals := 25 }) (va_Pc [.ref m0, .int a1, .int a2] (pA D sz [(m0, .inr (12, [.int 0, .ref g1, .int 6, .ref g3, .ref g4, .int 0, .ref g6, .ref g7, .int 0, .ref g9, .ref g10, .ref g11, .ref g12, .ref g13, .ref g14, .int 0, .int 0, .int 0, .int 0, .int 0, .ref g20, .ref g21, .int (-9), .ref g23, .ref g24, .ref g25, .ref g26, .int 0, .ref g28, .ref g29, .ref g30, .ref g31, .ref g32, .int 0, .ref g34, .int 0, .int 0, .long 0, .ref g38, .ref g39, .int 0, .int 0, .int 0, .ref g43, .ref g44, .ref g45, .ref g46, .ref g47, .ref g48, .ref g49, .int 0, .ref g51, .ref g52, .ref g53, .ref g54, .ref g55, .ref g56, .int (-9), .int 0, .int 0, .ref g60, .ref g61, .ref g62, .ref g63, .int 0, .ref g65, .ref g66, .ref g67, .ref g68]))] [])) (va_Qi (fun (r : Int32) (_ : Unit) => r = if (0 ≤ a2.toInt ∧ a2.toInt < 3) then -9 else -1) oA (ro sz)) 0 0 (ro sz) := by
  refine Met.ofW (cc := cX12_sought) (maxL := 3) (ret := (some .int)) (by decide) rfl ?_
  intro p e s m args below meth c s₁ B hml hv
  obtain ⟨rfl, hsz, hP, hK⟩ := hv
  have hx := B.exec
  have hb := B.bytes
  have hr := B.returns
  have hts := atoms_spec (ws := wm_X12_sought) B.pre
  have hown : s.vm.findClass RX12 = some m.cls := findClass_of_methodNamed B.named
  have hlocks := B.notSynchronized
  subst hsz
  have hA : ∀ q : Nat, s.heap.size ≤ q → ro s.heap.size q := fun _ h => h
  have hS : va_S (ro s.heap.size) s.heap s.heap [] := va_S.rf
  have hP : va_P D vwCl [(m0, .inr (12, [.int 0, .ref g1, .int 6, .ref g3, .ref g4, .int 0, .ref g6, .ref g7, .int 0, .ref g9, .ref g10, .ref g11, .ref g12, .ref g13, .ref g14, .int 0, .int 0, .int 0, .int 0, .int 0, .ref g20, .ref g21, .int (-9), .ref g23, .ref g24, .ref g25, .ref g26, .int 0, .ref g28, .ref g29, .ref g30, .ref g31, .ref g32, .int 0, .ref g34, .int 0, .int 0, .long 0, .ref g38, .ref g39, .int 0, .int 0, .int 0, .ref g43, .ref g44, .ref g45, .ref g46, .ref g47, .ref g48, .ref g49, .int 0, .ref g51, .ref g52, .ref g53, .ref g54, .ref g55, .ref g56, .int (-9), .int 0, .int 0, .ref g60, .ref g61, .ref g62, .ref g63, .int 0, .ref g65, .ref g66, .ref g67, .ref g68]))] s.heap := hP
  have hl := lv_entry ([.ref m0, .int a1, .int a2]) (n := 3) (Nat.le_of_ble_eq_true rfl)
  rw [lg_entry_eq]
  generalize (lg_sl ([.ref m0, .int a1, .int a2]) ++ List.replicate (3 - (lg_sl ([.ref m0, .int a1, .int a2])).length) Slot.unset).toArray = ls at hl ⊢
  have hl : lv_has ls 3 [(0, .ref m0), (1, .int a1), (2, .int a2)] := hl
  refine lv_iload_n hx hb dX12_sought_0 rfl (lv_at hl 2 rfl) ?_
  refine lv_i2l (v := a2.toInt64) hx hb dX12_sought_1 rfl ?_
  refine lv_lconst (v := 0) hx hb dX12_sought_2 (by decide) ?_
  refine lv_ldc2 (v := 2) hx hb hown (hts (.constantLong RX12 254 (2)) (by decide +kernel)) dX12_sought_3 ?_
  have hPc := hP.sub (ws' := []) [] rfl
  have hKc := hK.sub (tys' := []) [] rfl
  refine ro_calli (va_runS (As := [.long a2.toInt64, .long 0, .long 2]) (rest := []) ⟨hx, hb, hml, hown, hts⟩ (c_X12_in l D s.heap.size a2.toInt64 0 2 a2.toInt 0 2 ((Int32.toInt_toInt64 a2).trans rfl) (by decide) (by decide)) (va_cwS 3 hts gm_X12_sought_X12_in rfl rfl rfl (by decide +kernel) ⟨Nat.le_of_ble_eq_true rfl, Nat.le_of_ble_eq_true rfl⟩) (pA_S hKc hPc) rfl rfl hl.1 rfl (lv_room (Nat.le_of_ble_eq_true rfl)) dX12_sought_6 ⟨Nat.le_of_ble_eq_true rfl, Nat.le_of_ble_eq_true rfl⟩) hS hA hP (fun r1 u1 H locs hw1 hP hS => ?_)
  have hw1 : r1 = if (0 ≤ a2.toInt ∧ a2.toInt ≤ 2) then 1 else 0 := hw1
  refine lv_if_ne (tgt := 14) hx hb dX12_sought_9 (by decide) (fun c2 => ?_) (fun c2 => ?_)
  · have f2 := fl_t hw1 c2
    refine lv_iload_n hx hb dX12_sought_14 rfl (lv_at hl 1 rfl) ?_
    refine lv_i2l (v := a1.toInt64) hx hb dX12_sought_15 rfl ?_
    refine lv_lconst (v := 0) hx hb dX12_sought_16 (by decide) ?_
    refine lv_aload_n hx hb dX12_sought_17 rfl (lv_at hl 0 rfl) ?_
    refine va_get (D := D) (ci := 12) (v := .int (-9)) (C := RX12) (T := TX12) (N := 69) hx hb hts (fun _ h => List.mem_cons_of_mem _ (List.mem_append_right _ h)) hown hK hP 0 rfl rfl 57 (by decide) (hts (.fieldLink RX12 158 "TalePlayModel" "soughtMany" "I") (by decide +kernel)) (fun _ h9 => h9) rfl dX12_sought_18 ?_
    refine lv_iconst (v := 1) hx hb dX12_sought_21 (by decide) ?_
    refine lv_isub hx hb dX12_sought_22 ?_
    refine tp_i (y := (-10)) (by decide) ?_
    refine lv_i2l (v := (-10)) hx hb dX12_sought_23 (by decide) ?_
    have hPc := hP.sub (ws' := []) [] rfl
    have hKc := hK.sub (tys' := []) [] rfl
    refine ro_calli (va_runS (As := [.long a1.toInt64, .long 0, .long (-10)]) (rest := []) ⟨hx, hb, hml, hown, hts⟩ (c_X12_in0 l D H.size a1.toInt64 0 (-10) a1.toInt 0 (-10) ((Int32.toInt_toInt64 a1).trans rfl) (by decide) (by decide) (by omega)) (va_cwS 3 hts gm_X12_sought_X12_in rfl rfl rfl (by decide +kernel) ⟨Nat.le_of_ble_eq_true rfl, Nat.le_of_ble_eq_true rfl⟩) (pA_S hKc hPc) rfl rfl hl.1 rfl (lv_room (Nat.le_of_ble_eq_true rfl)) dX12_sought_24 ⟨Nat.le_of_ble_eq_true rfl, Nat.le_of_ble_eq_true rfl⟩) hS hA hP (fun r3 u3 H locs hw3 hP hS => ?_)
    have hw3 : r3 = 0 := hw3
    subst hw3
    refine lv_if_eq (tgt := 43) hx hb dX12_sought_27 (by decide) (fun _ => ?_) (fun q9 => absurd (by decide) q9)
    refine lv_bipush (v := (-9)) hx hb dX12_sought_43 (by decide) ?_
    exact ro_iret hx hb hr hlocks hS dX12_sought_45 (by show _ = _; (repeat' split) <;> first | rfl | (exfalso; omega))
  · have f2 := fl_f hw1 c2
    refine lv_iconst (v := (-1)) hx hb dX12_sought_12 (by decide) ?_
    exact ro_iret hx hb hr hlocks hS dX12_sought_13 (by show _ = _; (repeat' split) <;> first | rfl | (exfalso; omega))

def wm_X12_cast : List Cond := .code yX12_cast cX12_cast 4 (some .int) :: (([.constantLong RX12 170 (5), .methodLink RX12 166 yX12_in, .static yX12_in, .initialized RX12, .code yX12_in cX12_in 6 (some .boolean), .fieldLink RX12 450 "TalePlayModel" "casts" "I", .fieldLink RX12 139 "TalePlayModel" "castSort" "[I", .fieldLink RX12 142 "TalePlayModel" "castMany" "[I", .fieldLink RX12 145 "TalePlayModel" "roles" "[I", .methodLink RX12 233 yX12_meets, .instanceMethod yX12_meets, .selects RX12 yX12_meets yX12_meets, .code yX12_meets cX12_meets 2 (some .int), .fieldLink RX12 161 "TalePlayModel" "latest" "I", .fieldLink RX12 7 "TalePlayModel" "came" "[I"] : List Cond) ++ wsX120)
set_option maxRecDepth 20000 in
theorem gm_X12_cast_X12_in : GoodIn wm_X12_cast (va_wsS RX12 166 yX12_in wm_X12_in) := goodIn_app (goodIn_of _ (by decide +kernel)) (goodIn_r _ [5] (by decide +kernel) (by decide +kernel))
set_option maxRecDepth 20000 in
theorem gm_X12_cast_X12_meets : GoodIn wm_X12_cast (wsV RX12 233 RX12 yX12_meets wm_X12_meets) := goodIn_app (goodIn_of _ (by decide +kernel)) (goodIn_r _ [13, 14, 15, 16, 17, 18, 19, 20, 21, 22, 23, 24, 25, 26, 27, 28, 29, 30, 31, 32, 33, 34, 35, 36, 37, 38, 39, 40, 41, 42, 43, 44, 45, 46, 47, 48, 49, 50, 51, 52, 53, 54, 55, 56, 57, 58, 59, 60, 61, 62, 63, 64, 65, 66, 67, 68, 69, 70, 71, 72, 73, 74, 75, 76, 77, 78, 79, 80, 81, 82, 83, 84] (by decide +kernel) (by decide +kernel))
set_option maxHeartbeats 4000000 in
set_option maxRecDepth 100000 in
/-- cast() of a fresh reference -/
theorem c_X12_cast (l : Launch) (D : va_G) (sz : Nat) (m0 : Nat) (g1 : Nat) (g3 : Nat) (g4 : Nat) (g6 : Nat) (g7 : Nat) (g9 : Nat) (g10 : Nat) (g11 : Nat) (g12 : Nat) (g13 : Nat) (g14 : Nat) (g20 : Nat) (g21 : Nat) (g23 : Nat) (g24 : Nat) (g25 : Nat) (g26 : Nat) (g28 : Nat) (g29 : Nat) (g30 : Nat) (g31 : Nat) (g32 : Nat) (g34 : Nat) (g38 : Nat) (g39 : Nat) (g43 : Nat) (g44 : Nat) (g45 : Nat) (g46 : Nat) (g47 : Nat) (g48 : Nat) (g49 : Nat) (g51 : Nat) (g52 : Nat) (g53 : Nat) (g54 : Nat) (g55 : Nat) (g56 : Nat) (g60 : Nat) (g61 : Nat) (g62 : Nat) (g63 : Nat) (g65 : Nat) (g66 : Nat) (g67 : Nat) (g68 : Nat) (cC0 : ClassId) (fc0 : Nat → Int32) (cC1 : ClassId) (fc1 : Nat → Int32) (cC2 : ClassId) (fc2 : Nat → Int32) (cF : ClassId) (a1 : Int32) (a2 : Int32) : Met l yX12_cast wm_X12_cast ({ frames := 1, cells := 0, slots := 0, locals := 25 }) (va_Pc [.ref m0, .int a1, .int a2] (pB D sz [(m0, .inr (12, [.int 0, .ref g1, .int 6, .ref g3, .ref g4, .int 0, .ref g6, .ref g7, .int 0, .ref g9, .ref g10, .ref g11, .ref g12, .ref g13, .ref g14, .int 0, .int 0, .int 0, .int 0, .int 0, .ref g20, .ref g21, .int (-9), .ref g23, .ref g24, .ref g25, .ref g26, .int 0, .ref g28, .ref g29, .ref g30, .ref g31, .ref g32, .int 0, .ref g34, .int 0, .int 0, .long 0, .ref g38, .ref g39, .int 0, .int 0, .int 0, .ref g43, .ref g44, .ref g45, .ref g46, .ref g47, .ref g48, .ref g49, .int 0, .ref g51, .ref g52, .ref g53, .ref g54, .ref g55, .ref g56, .int (-9), .int 0, .int 0, .ref g60, .ref g61, .ref g62, .ref g63, .int 0, .ref g65, .ref g66, .ref g67, .ref g68])), (g65, .inl (cC0, 10, .inl fc0)), (g66, .inl (cC1, 10, .inl fc1)), (g67, .inl (cC2, 120, .inl fc2)), (g1, .inl (cF, 7, .inl (fun _ => 0)))] [(cC0, .int), (cC1, .int), (cC2, .int), (cF, .int)])) (va_Qi (fun (r : Int32) (_ : Unit) => r = if (1 ≤ a1.toInt ∧ a1.toInt ≤ 5 ∧ a2.toInt ≤ 12) then (if a2.toInt < 0 then -3 else 0) else -1) (oC D (va_A [(m0, .inr (12, [.int 0, .ref g1, .int 6, .ref g3, .ref g4, .int 0, .ref g6, .ref g7, .int 0, .ref g9, .ref g10, .ref g11, .ref g12, .ref g13, .ref g14, .int 0, .int 0, .int 0, .int 0, .int 0, .ref g20, .ref g21, .int (-9), .ref g23, .ref g24, .ref g25, .ref g26, .int 0, .ref g28, .ref g29, .ref g30, .ref g31, .ref g32, .int 0, .ref g34, .int 0, .int 0, .long 0, .ref g38, .ref g39, .int 0, .int 0, .int 0, .ref g43, .ref g44, .ref g45, .ref g46, .ref g47, .ref g48, .ref g49, .int 0, .ref g51, .ref g52, .ref g53, .ref g54, .ref g55, .ref g56, .int (-9), .int 0, .int 0, .ref g60, .ref g61, .ref g62, .ref g63, .int 0, .ref g65, .ref g66, .ref g67, .ref g68])), (g65, .inl (cC0, 10, .inl fc0)), (g66, .inl (cC1, 10, .inl fc1)), (g67, .inl (cC2, 120, .inl fc2)), (g1, .inl (cF, 7, .inl (fun _ => 0)))] sz) (fun _ => []) (fun _ => [])) (va_A [(m0, .inr (12, [.int 0, .ref g1, .int 6, .ref g3, .ref g4, .int 0, .ref g6, .ref g7, .int 0, .ref g9, .ref g10, .ref g11, .ref g12, .ref g13, .ref g14, .int 0, .int 0, .int 0, .int 0, .int 0, .ref g20, .ref g21, .int (-9), .ref g23, .ref g24, .ref g25, .ref g26, .int 0, .ref g28, .ref g29, .ref g30, .ref g31, .ref g32, .int 0, .ref g34, .int 0, .int 0, .long 0, .ref g38, .ref g39, .int 0, .int 0, .int 0, .ref g43, .ref g44, .ref g45, .ref g46, .ref g47, .ref g48, .ref g49, .int 0, .ref g51, .ref g52, .ref g53, .ref g54, .ref g55, .ref g56, .int (-9), .int 0, .int 0, .ref g60, .ref g61, .ref g62, .ref g63, .int 0, .ref g65, .ref g66, .ref g67, .ref g68])), (g65, .inl (cC0, 10, .inl fc0)), (g66, .inl (cC1, 10, .inl fc1)), (g67, .inl (cC2, 120, .inl fc2)), (g1, .inl (cF, 7, .inl (fun _ => 0)))] sz)) 0 0 (va_A [(m0, .inr (12, [.int 0, .ref g1, .int 6, .ref g3, .ref g4, .int 0, .ref g6, .ref g7, .int 0, .ref g9, .ref g10, .ref g11, .ref g12, .ref g13, .ref g14, .int 0, .int 0, .int 0, .int 0, .int 0, .ref g20, .ref g21, .int (-9), .ref g23, .ref g24, .ref g25, .ref g26, .int 0, .ref g28, .ref g29, .ref g30, .ref g31, .ref g32, .int 0, .ref g34, .int 0, .int 0, .long 0, .ref g38, .ref g39, .int 0, .int 0, .int 0, .ref g43, .ref g44, .ref g45, .ref g46, .ref g47, .ref g48, .ref g49, .int 0, .ref g51, .ref g52, .ref g53, .ref g54, .ref g55, .ref g56, .int (-9), .int 0, .int 0, .ref g60, .ref g61, .ref g62, .ref g63, .int 0, .ref g65, .ref g66, .ref g67, .ref g68])), (g65, .inl (cC0, 10, .inl fc0)), (g66, .inl (cC1, 10, .inl fc1)), (g67, .inl (cC2, 120, .inl fc2)), (g1, .inl (cF, 7, .inl (fun _ => 0)))] sz) := by
  refine Met.ofW (cc := cX12_cast) (maxL := 4) (ret := (some .int)) (by decide) rfl ?_
  intro p e s m args below meth c s₁ B hml hv
  obtain ⟨rfl, hsz, hP, hK, hD0⟩ := hv
  have hx := B.exec
  have hb := B.bytes
  have hr := B.returns
  have hts := atoms_spec (ws := wm_X12_cast) B.pre
  have hown : s.vm.findClass RX12 = some m.cls := findClass_of_methodNamed B.named
  have hlocks := B.notSynchronized
  subst hsz
  have hD := hD0.self (sz := s.heap.size)
  generalize hAe : va_A [(m0, .inr (12, [.int 0, .ref g1, .int 6, .ref g3, .ref g4, .int 0, .ref g6, .ref g7, .int 0, .ref g9, .ref g10, .ref g11, .ref g12, .ref g13, .ref g14, .int 0, .int 0, .int 0, .int 0, .int 0, .ref g20, .ref g21, .int (-9), .ref g23, .ref g24, .ref g25, .ref g26, .int 0, .ref g28, .ref g29, .ref g30, .ref g31, .ref g32, .int 0, .ref g34, .int 0, .int 0, .long 0, .ref g38, .ref g39, .int 0, .int 0, .int 0, .ref g43, .ref g44, .ref g45, .ref g46, .ref g47, .ref g48, .ref g49, .int 0, .ref g51, .ref g52, .ref g53, .ref g54, .ref g55, .ref g56, .int (-9), .int 0, .int 0, .ref g60, .ref g61, .ref g62, .ref g63, .int 0, .ref g65, .ref g66, .ref g67, .ref g68])), (g65, .inl (cC0, 10, .inl fc0)), (g66, .inl (cC1, 10, .inl fc1)), (g67, .inl (cC2, 120, .inl fc2)), (g1, .inl (cF, 7, .inl (fun _ => 0)))] s.heap.size = A at hD ⊢
  have hA : ∀ q : Nat, s.heap.size ≤ q → A q := fun q h => by rw [← hAe]; exact Or.inr h
  have hS : va_S A s.heap s.heap [] := va_S.rf
  have hP : va_P D vwCl [(m0, .inr (12, [.int 0, .ref g1, .int 6, .ref g3, .ref g4, .int 0, .ref g6, .ref g7, .int 0, .ref g9, .ref g10, .ref g11, .ref g12, .ref g13, .ref g14, .int 0, .int 0, .int 0, .int 0, .int 0, .ref g20, .ref g21, .int (-9), .ref g23, .ref g24, .ref g25, .ref g26, .int 0, .ref g28, .ref g29, .ref g30, .ref g31, .ref g32, .int 0, .ref g34, .int 0, .int 0, .long 0, .ref g38, .ref g39, .int 0, .int 0, .int 0, .ref g43, .ref g44, .ref g45, .ref g46, .ref g47, .ref g48, .ref g49, .int 0, .ref g51, .ref g52, .ref g53, .ref g54, .ref g55, .ref g56, .int (-9), .int 0, .int 0, .ref g60, .ref g61, .ref g62, .ref g63, .int 0, .ref g65, .ref g66, .ref g67, .ref g68])), (g65, .inl (cC0, 10, .inl fc0)), (g66, .inl (cC1, 10, .inl fc1)), (g67, .inl (cC2, 120, .inl fc2)), (g1, .inl (cF, 7, .inl (fun _ => 0)))] s.heap := hP
  have hl := lv_entry ([.ref m0, .int a1, .int a2]) (n := 4) (Nat.le_of_ble_eq_true rfl)
  rw [lg_entry_eq]
  generalize (lg_sl ([.ref m0, .int a1, .int a2]) ++ List.replicate (4 - (lg_sl ([.ref m0, .int a1, .int a2])).length) Slot.unset).toArray = ls at hl ⊢
  have hl : lv_has ls 4 [(0, .ref m0), (1, .int a1), (2, .int a2)] := hl
  refine lv_iload_n hx hb dX12_cast_0 rfl (lv_at hl 1 rfl) ?_
  refine lv_i2l (v := a1.toInt64) hx hb dX12_cast_1 rfl ?_
  refine lv_lconst (v := 1) hx hb dX12_cast_2 (by decide) ?_
  refine lv_ldc2 (v := 5) hx hb hown (hts (.constantLong RX12 170 (5)) (by decide +kernel)) dX12_cast_3 ?_
  have hPc := hP.sub (ws' := []) [] rfl
  have hKc := hK.sub (tys' := []) [] rfl
  refine ro_calli (va_runS (As := [.long a1.toInt64, .long 1, .long 5]) (rest := []) ⟨hx, hb, hml, hown, hts⟩ (c_X12_in l D s.heap.size a1.toInt64 1 5 a1.toInt 1 5 ((Int32.toInt_toInt64 a1).trans rfl) (by decide) (by decide)) (va_cwS 3 hts gm_X12_cast_X12_in rfl rfl rfl (by decide +kernel) ⟨Nat.le_of_ble_eq_true rfl, Nat.le_of_ble_eq_true rfl⟩) (pA_S hKc hPc) rfl rfl hl.1 rfl (lv_room (Nat.le_of_ble_eq_true rfl)) dX12_cast_6 ⟨Nat.le_of_ble_eq_true rfl, Nat.le_of_ble_eq_true rfl⟩) hS hA hP (fun r1 u1 H locs hw1 hP hS => ?_)
  have hw1 : r1 = if (1 ≤ a1.toInt ∧ a1.toInt ≤ 5) then 1 else 0 := hw1
  refine lv_if_eq (tgt := 18) hx hb dX12_cast_9 (by decide) (fun c2 => ?_) (fun c2 => ?_)
  · have f2 := fl_f hw1 c2
    refine lv_iconst (v := (-1)) hx hb dX12_cast_18 (by decide) ?_
    exact rw_iret () hx hb hr hlocks hS (hK.sub (tys' := []) [] rfl) (hP.sub (ws' := []) [] rfl) (hD.sub (ws' := []) [] (by decide) rfl) dX12_cast_19 (by show _ = _; (repeat' split) <;> first | rfl | (exfalso; omega))
  · have f2 := fl_t hw1 c2
    refine lv_iload_n hx hb dX12_cast_12 rfl (lv_at hl 2 rfl) ?_
    refine lv_bipush (v := 12) hx hb dX12_cast_13 (by decide) ?_
    refine lv_icmp_le (tgt := 20) hx hb dX12_cast_15 (by decide) (fun c3 => ?_) (fun c3 => ?_)
    · have f3 := (ti_le (a := a2.toInt) (b := 12) rfl (by decide)).mp c3
      refine lv_aload_n hx hb dX12_cast_20 rfl (lv_at hl 0 rfl) ?_
      refine va_get (D := D) (ci := 12) (v := .int 0) (C := RX12) (T := TX12) (N := 69) hx hb hts (fun _ h => List.mem_cons_of_mem _ (List.mem_append_right _ h)) hown hK hP 0 rfl rfl 64 (by decide) (hts (.fieldLink RX12 450 "TalePlayModel" "casts" "I") (by decide +kernel)) (fun _ h9 => h9) rfl dX12_cast_21 ?_
      refine lv_bipush (v := 10) hx hb dX12_cast_24 (by decide) ?_
      refine lv_icmp_ne (tgt := 32) hx hb dX12_cast_26 (by decide) (fun _ => ?_) (fun q9 => absurd q9 (by decide))
      refine lv_iload_n hx hb dX12_cast_32 rfl (lv_at hl 2 rfl) ?_
      refine lv_if_ge (tgt := 42) hx hb dX12_cast_33 (by decide) (fun c4 => ?_) (fun c4 => ?_)
      · have f4 := (ti_le (a := 0) (b := a2.toInt) (by decide) rfl).mp c4
        refine lv_aload_n hx hb dX12_cast_42 rfl (lv_at hl 0 rfl) ?_
        refine va_get (D := D) (ci := 12) (v := .ref g65) (C := RX12) (T := TX12) (N := 69) hx hb hts (fun _ h => List.mem_cons_of_mem _ (List.mem_append_right _ h)) hown hK hP 0 rfl rfl 65 (by decide) (hts (.fieldLink RX12 139 "TalePlayModel" "castSort" "[I") (by decide +kernel)) (fun _ h9 => h9) rfl dX12_cast_43 ?_
        refine lv_aload_n hx hb dX12_cast_46 rfl (lv_at hl 0 rfl) ?_
        refine va_get (D := D) (ci := 12) (v := .int 0) (C := RX12) (T := TX12) (N := 69) hx hb hts (fun _ h => List.mem_cons_of_mem _ (List.mem_append_right _ h)) hown hK hP 0 rfl rfl 64 (by decide) (hts (.fieldLink RX12 450 "TalePlayModel" "casts" "I") (by decide +kernel)) (fun _ h9 => h9) rfl dX12_cast_47 ?_
        refine lv_iload_n hx hb dX12_cast_50 rfl (lv_at hl 1 rfl) ?_
        refine va_iast hx hb hK hP hD hS 1 0 rfl rfl (show vp_in 0 10 from by unfold vp_in; decide) dX12_cast_51 (fun H locs hP hD hS => ?_)
        have hP : va_P D vwCl [(m0, .inr (12, [.int 0, .ref g1, .int 6, .ref g3, .ref g4, .int 0, .ref g6, .ref g7, .int 0, .ref g9, .ref g10, .ref g11, .ref g12, .ref g13, .ref g14, .int 0, .int 0, .int 0, .int 0, .int 0, .ref g20, .ref g21, .int (-9), .ref g23, .ref g24, .ref g25, .ref g26, .int 0, .ref g28, .ref g29, .ref g30, .ref g31, .ref g32, .int 0, .ref g34, .int 0, .int 0, .long 0, .ref g38, .ref g39, .int 0, .int 0, .int 0, .ref g43, .ref g44, .ref g45, .ref g46, .ref g47, .ref g48, .ref g49, .int 0, .ref g51, .ref g52, .ref g53, .ref g54, .ref g55, .ref g56, .int (-9), .int 0, .int 0, .ref g60, .ref g61, .ref g62, .ref g63, .int 0, .ref g65, .ref g66, .ref g67, .ref g68])), (g65, .inl (cC0, 10, .inl (upd fc0 (0 : Int32).toNatClampNeg a1))), (g66, .inl (cC1, 10, .inl fc1)), (g67, .inl (cC2, 120, .inl fc2)), (g1, .inl (cF, 7, .inl (fun _ => 0)))] H := hP
        have hD : va_D A [(m0, .inr (12, [.int 0, .ref g1, .int 6, .ref g3, .ref g4, .int 0, .ref g6, .ref g7, .int 0, .ref g9, .ref g10, .ref g11, .ref g12, .ref g13, .ref g14, .int 0, .int 0, .int 0, .int 0, .int 0, .ref g20, .ref g21, .int (-9), .ref g23, .ref g24, .ref g25, .ref g26, .int 0, .ref g28, .ref g29, .ref g30, .ref g31, .ref g32, .int 0, .ref g34, .int 0, .int 0, .long 0, .ref g38, .ref g39, .int 0, .int 0, .int 0, .ref g43, .ref g44, .ref g45, .ref g46, .ref g47, .ref g48, .ref g49, .int 0, .ref g51, .ref g52, .ref g53, .ref g54, .ref g55, .ref g56, .int (-9), .int 0, .int 0, .ref g60, .ref g61, .ref g62, .ref g63, .int 0, .ref g65, .ref g66, .ref g67, .ref g68])), (g65, .inl (cC0, 10, .inl (upd fc0 (0 : Int32).toNatClampNeg a1))), (g66, .inl (cC1, 10, .inl fc1)), (g67, .inl (cC2, 120, .inl fc2)), (g1, .inl (cF, 7, .inl (fun _ => 0)))] := hD
        refine lv_aload_n hx hb dX12_cast_52 rfl (lv_at hl 0 rfl) ?_
        refine va_get (D := D) (ci := 12) (v := .ref g66) (C := RX12) (T := TX12) (N := 69) hx hb hts (fun _ h => List.mem_cons_of_mem _ (List.mem_append_right _ h)) hown hK hP 0 rfl rfl 66 (by decide) (hts (.fieldLink RX12 142 "TalePlayModel" "castMany" "[I") (by decide +kernel)) (fun _ h9 => h9) rfl dX12_cast_53 ?_
        refine lv_aload_n hx hb dX12_cast_56 rfl (lv_at hl 0 rfl) ?_
        refine va_get (D := D) (ci := 12) (v := .int 0) (C := RX12) (T := TX12) (N := 69) hx hb hts (fun _ h => List.mem_cons_of_mem _ (List.mem_append_right _ h)) hown hK hP 0 rfl rfl 64 (by decide) (hts (.fieldLink RX12 450 "TalePlayModel" "casts" "I") (by decide +kernel)) (fun _ h9 => h9) rfl dX12_cast_57 ?_
        refine lv_iload_n hx hb dX12_cast_60 rfl (lv_at hl 2 rfl) ?_
        refine va_iast hx hb hK hP hD hS 2 1 rfl rfl (show vp_in 0 10 from by unfold vp_in; decide) dX12_cast_61 (fun H locs hP hD hS => ?_)
        have hP : va_P D vwCl [(m0, .inr (12, [.int 0, .ref g1, .int 6, .ref g3, .ref g4, .int 0, .ref g6, .ref g7, .int 0, .ref g9, .ref g10, .ref g11, .ref g12, .ref g13, .ref g14, .int 0, .int 0, .int 0, .int 0, .int 0, .ref g20, .ref g21, .int (-9), .ref g23, .ref g24, .ref g25, .ref g26, .int 0, .ref g28, .ref g29, .ref g30, .ref g31, .ref g32, .int 0, .ref g34, .int 0, .int 0, .long 0, .ref g38, .ref g39, .int 0, .int 0, .int 0, .ref g43, .ref g44, .ref g45, .ref g46, .ref g47, .ref g48, .ref g49, .int 0, .ref g51, .ref g52, .ref g53, .ref g54, .ref g55, .ref g56, .int (-9), .int 0, .int 0, .ref g60, .ref g61, .ref g62, .ref g63, .int 0, .ref g65, .ref g66, .ref g67, .ref g68])), (g65, .inl (cC0, 10, .inl (upd fc0 (0 : Int32).toNatClampNeg a1))), (g66, .inl (cC1, 10, .inl (upd fc1 (0 : Int32).toNatClampNeg a2))), (g67, .inl (cC2, 120, .inl fc2)), (g1, .inl (cF, 7, .inl (fun _ => 0)))] H := hP
        have hD : va_D A [(m0, .inr (12, [.int 0, .ref g1, .int 6, .ref g3, .ref g4, .int 0, .ref g6, .ref g7, .int 0, .ref g9, .ref g10, .ref g11, .ref g12, .ref g13, .ref g14, .int 0, .int 0, .int 0, .int 0, .int 0, .ref g20, .ref g21, .int (-9), .ref g23, .ref g24, .ref g25, .ref g26, .int 0, .ref g28, .ref g29, .ref g30, .ref g31, .ref g32, .int 0, .ref g34, .int 0, .int 0, .long 0, .ref g38, .ref g39, .int 0, .int 0, .int 0, .ref g43, .ref g44, .ref g45, .ref g46, .ref g47, .ref g48, .ref g49, .int 0, .ref g51, .ref g52, .ref g53, .ref g54, .ref g55, .ref g56, .int (-9), .int 0, .int 0, .ref g60, .ref g61, .ref g62, .ref g63, .int 0, .ref g65, .ref g66, .ref g67, .ref g68])), (g65, .inl (cC0, 10, .inl (upd fc0 (0 : Int32).toNatClampNeg a1))), (g66, .inl (cC1, 10, .inl (upd fc1 (0 : Int32).toNatClampNeg a2))), (g67, .inl (cC2, 120, .inl fc2)), (g1, .inl (cF, 7, .inl (fun _ => 0)))] := hD
        refine lv_iconst (v := 0) hx hb dX12_cast_62 (by decide) ?_
        refine lv_istore_n (lv' := [(3, .int 0), (0, .ref m0), (1, .int a1), (2, .int a2)]) hx hb dX12_cast_63 rfl hl (by decide) rfl (fun ls hl => ?_)
        refine lv_iload_n hx hb dX12_cast_64 rfl (lv_at hl 0 rfl) ?_
        refine lv_bipush (v := 12) hx hb dX12_cast_65 (by decide) ?_
        refine lv_icmp_ge (tgt := 92) hx hb dX12_cast_67 (by decide) (fun q9 => absurd q9 (by decide)) (fun _ => ?_)
        refine lv_aload_n hx hb dX12_cast_70 rfl (lv_at hl 1 rfl) ?_
        refine va_get (D := D) (ci := 12) (v := .ref g67) (C := RX12) (T := TX12) (N := 69) hx hb hts (fun _ h => List.mem_cons_of_mem _ (List.mem_append_right _ h)) hown hK hP 0 rfl rfl 67 (by decide) (hts (.fieldLink RX12 145 "TalePlayModel" "roles" "[I") (by decide +kernel)) (fun _ h9 => h9) rfl dX12_cast_71 ?_
        refine lv_bipush (v := 12) hx hb dX12_cast_74 (by decide) ?_
        refine lv_aload_n hx hb dX12_cast_76 rfl (lv_at hl 1 rfl) ?_
        refine va_get (D := D) (ci := 12) (v := .int 0) (C := RX12) (T := TX12) (N := 69) hx hb hts (fun _ h => List.mem_cons_of_mem _ (List.mem_append_right _ h)) hown hK hP 0 rfl rfl 64 (by decide) (hts (.fieldLink RX12 450 "TalePlayModel" "casts" "I") (by decide +kernel)) (fun _ h9 => h9) rfl dX12_cast_77 ?_
        refine lv_imul hx hb dX12_cast_80 ?_
        refine tp_i (y := 0) (by decide) ?_
        refine lv_iload_n hx hb dX12_cast_81 rfl (lv_at hl 0 rfl) ?_
        refine lv_iadd hx hb dX12_cast_82 ?_
        refine tp_i (y := 0) (by decide) ?_
        refine lv_bipush (v := (-9)) hx hb dX12_cast_83 (by decide) ?_
        refine va_iast hx hb hK hP hD hS 3 2 rfl rfl (show vp_in 0 120 from by unfold vp_in; decide) dX12_cast_85 (fun H locs hP hD hS => ?_)
        have hP : va_P D vwCl [(m0, .inr (12, [.int 0, .ref g1, .int 6, .ref g3, .ref g4, .int 0, .ref g6, .ref g7, .int 0, .ref g9, .ref g10, .ref g11, .ref g12, .ref g13, .ref g14, .int 0, .int 0, .int 0, .int 0, .int 0, .ref g20, .ref g21, .int (-9), .ref g23, .ref g24, .ref g25, .ref g26, .int 0, .ref g28, .ref g29, .ref g30, .ref g31, .ref g32, .int 0, .ref g34, .int 0, .int 0, .long 0, .ref g38, .ref g39, .int 0, .int 0, .int 0, .ref g43, .ref g44, .ref g45, .ref g46, .ref g47, .ref g48, .ref g49, .int 0, .ref g51, .ref g52, .ref g53, .ref g54, .ref g55, .ref g56, .int (-9), .int 0, .int 0, .ref g60, .ref g61, .ref g62, .ref g63, .int 0, .ref g65, .ref g66, .ref g67, .ref g68])), (g65, .inl (cC0, 10, .inl (upd fc0 (0 : Int32).toNatClampNeg a1))), (g66, .inl (cC1, 10, .inl (upd fc1 (0 : Int32).toNatClampNeg a2))), (g67, .inl (cC2, 120, .inl (upd fc2 (0 : Int32).toNatClampNeg (-9)))), (g1, .inl (cF, 7, .inl (fun _ => 0)))] H := hP
        have hD : va_D A [(m0, .inr (12, [.int 0, .ref g1, .int 6, .ref g3, .ref g4, .int 0, .ref g6, .ref g7, .int 0, .ref g9, .ref g10, .ref g11, .ref g12, .ref g13, .ref g14, .int 0, .int 0, .int 0, .int 0, .int 0, .ref g20, .ref g21, .int (-9), .ref g23, .ref g24, .ref g25, .ref g26, .int 0, .ref g28, .ref g29, .ref g30, .ref g31, .ref g32, .int 0, .ref g34, .int 0, .int 0, .long 0, .ref g38, .ref g39, .int 0, .int 0, .int 0, .ref g43, .ref g44, .ref g45, .ref g46, .ref g47, .ref g48, .ref g49, .int 0, .ref g51, .ref g52, .ref g53, .ref g54, .ref g55, .ref g56, .int (-9), .int 0, .int 0, .ref g60, .ref g61, .ref g62, .ref g63, .int 0, .ref g65, .ref g66, .ref g67, .ref g68])), (g65, .inl (cC0, 10, .inl (upd fc0 (0 : Int32).toNatClampNeg a1))), (g66, .inl (cC1, 10, .inl (upd fc1 (0 : Int32).toNatClampNeg a2))), (g67, .inl (cC2, 120, .inl (upd fc2 (0 : Int32).toNatClampNeg (-9)))), (g1, .inl (cF, 7, .inl (fun _ => 0)))] := hD
        refine lv_iinc (v := 1) (lv' := [(3, .int 1), (0, .ref m0), (1, .int a1), (2, .int a2)]) hx hb dX12_cast_86 hl (k := 0) rfl (by decide) (by decide) rfl (fun ls hl => ?_)
        refine lv_goto (tgt := 64) hx hb dX12_cast_89 (by decide) ?_
        refine lv_iload_n hx hb dX12_cast_64 rfl (lv_at hl 0 rfl) ?_
        refine lv_bipush (v := 12) hx hb dX12_cast_65 (by decide) ?_
        refine lv_icmp_ge (tgt := 92) hx hb dX12_cast_67 (by decide) (fun q9 => absurd q9 (by decide)) (fun _ => ?_)
        refine lv_aload_n hx hb dX12_cast_70 rfl (lv_at hl 1 rfl) ?_
        refine va_get (D := D) (ci := 12) (v := .ref g67) (C := RX12) (T := TX12) (N := 69) hx hb hts (fun _ h => List.mem_cons_of_mem _ (List.mem_append_right _ h)) hown hK hP 0 rfl rfl 67 (by decide) (hts (.fieldLink RX12 145 "TalePlayModel" "roles" "[I") (by decide +kernel)) (fun _ h9 => h9) rfl dX12_cast_71 ?_
        refine lv_bipush (v := 12) hx hb dX12_cast_74 (by decide) ?_
        refine lv_aload_n hx hb dX12_cast_76 rfl (lv_at hl 1 rfl) ?_
        refine va_get (D := D) (ci := 12) (v := .int 0) (C := RX12) (T := TX12) (N := 69) hx hb hts (fun _ h => List.mem_cons_of_mem _ (List.mem_append_right _ h)) hown hK hP 0 rfl rfl 64 (by decide) (hts (.fieldLink RX12 450 "TalePlayModel" "casts" "I") (by decide +kernel)) (fun _ h9 => h9) rfl dX12_cast_77 ?_
        refine lv_imul hx hb dX12_cast_80 ?_
        refine tp_i (y := 0) (by decide) ?_
        refine lv_iload_n hx hb dX12_cast_81 rfl (lv_at hl 0 rfl) ?_
        refine lv_iadd hx hb dX12_cast_82 ?_
        refine tp_i (y := 1) (by decide) ?_
        refine lv_bipush (v := (-9)) hx hb dX12_cast_83 (by decide) ?_
        refine va_iast hx hb hK hP hD hS 3 2 rfl rfl (show vp_in 1 120 from by unfold vp_in; decide) dX12_cast_85 (fun H locs hP hD hS => ?_)
        have hP : va_P D vwCl [(m0, .inr (12, [.int 0, .ref g1, .int 6, .ref g3, .ref g4, .int 0, .ref g6, .ref g7, .int 0, .ref g9, .ref g10, .ref g11, .ref g12, .ref g13, .ref g14, .int 0, .int 0, .int 0, .int 0, .int 0, .ref g20, .ref g21, .int (-9), .ref g23, .ref g24, .ref g25, .ref g26, .int 0, .ref g28, .ref g29, .ref g30, .ref g31, .ref g32, .int 0, .ref g34, .int 0, .int 0, .long 0, .ref g38, .ref g39, .int 0, .int 0, .int 0, .ref g43, .ref g44, .ref g45, .ref g46, .ref g47, .ref g48, .ref g49, .int 0, .ref g51, .ref g52, .ref g53, .ref g54, .ref g55, .ref g56, .int (-9), .int 0, .int 0, .ref g60, .ref g61, .ref g62, .ref g63, .int 0, .ref g65, .ref g66, .ref g67, .ref g68])), (g65, .inl (cC0, 10, .inl (upd fc0 (0 : Int32).toNatClampNeg a1))), (g66, .inl (cC1, 10, .inl (upd fc1 (0 : Int32).toNatClampNeg a2))), (g67, .inl (cC2, 120, .inl (upd (upd fc2 (0 : Int32).toNatClampNeg (-9)) (1 : Int32).toNatClampNeg (-9)))), (g1, .inl (cF, 7, .inl (fun _ => 0)))] H := hP
        have hD : va_D A [(m0, .inr (12, [.int 0, .ref g1, .int 6, .ref g3, .ref g4, .int 0, .ref g6, .ref g7, .int 0, .ref g9, .ref g10, .ref g11, .ref g12, .ref g13, .ref g14, .int 0, .int 0, .int 0, .int 0, .int 0, .ref g20, .ref g21, .int (-9), .ref g23, .ref g24, .ref g25, .ref g26, .int 0, .ref g28, .ref g29, .ref g30, .ref g31, .ref g32, .int 0, .ref g34, .int 0, .int 0, .long 0, .ref g38, .ref g39, .int 0, .int 0, .int 0, .ref g43, .ref g44, .ref g45, .ref g46, .ref g47, .ref g48, .ref g49, .int 0, .ref g51, .ref g52, .ref g53, .ref g54, .ref g55, .ref g56, .int (-9), .int 0, .int 0, .ref g60, .ref g61, .ref g62, .ref g63, .int 0, .ref g65, .ref g66, .ref g67, .ref g68])), (g65, .inl (cC0, 10, .inl (upd fc0 (0 : Int32).toNatClampNeg a1))), (g66, .inl (cC1, 10, .inl (upd fc1 (0 : Int32).toNatClampNeg a2))), (g67, .inl (cC2, 120, .inl (upd (upd fc2 (0 : Int32).toNatClampNeg (-9)) (1 : Int32).toNatClampNeg (-9)))), (g1, .inl (cF, 7, .inl (fun _ => 0)))] := hD
        refine lv_iinc (v := 2) (lv' := [(3, .int 2), (0, .ref m0), (1, .int a1), (2, .int a2)]) hx hb dX12_cast_86 hl (k := 0) rfl (by decide) (by decide) rfl (fun ls hl => ?_)
        refine lv_goto (tgt := 64) hx hb dX12_cast_89 (by decide) ?_
        refine lv_iload_n hx hb dX12_cast_64 rfl (lv_at hl 0 rfl) ?_
        refine lv_bipush (v := 12) hx hb dX12_cast_65 (by decide) ?_
        refine lv_icmp_ge (tgt := 92) hx hb dX12_cast_67 (by decide) (fun q9 => absurd q9 (by decide)) (fun _ => ?_)
        refine lv_aload_n hx hb dX12_cast_70 rfl (lv_at hl 1 rfl) ?_
        refine va_get (D := D) (ci := 12) (v := .ref g67) (C := RX12) (T := TX12) (N := 69) hx hb hts (fun _ h => List.mem_cons_of_mem _ (List.mem_append_right _ h)) hown hK hP 0 rfl rfl 67 (by decide) (hts (.fieldLink RX12 145 "TalePlayModel" "roles" "[I") (by decide +kernel)) (fun _ h9 => h9) rfl dX12_cast_71 ?_
        refine lv_bipush (v := 12) hx hb dX12_cast_74 (by decide) ?_
        refine lv_aload_n hx hb dX12_cast_76 rfl (lv_at hl 1 rfl) ?_
        refine va_get (D := D) (ci := 12) (v := .int 0) (C := RX12) (T := TX12) (N := 69) hx hb hts (fun _ h => List.mem_cons_of_mem _ (List.mem_append_right _ h)) hown hK hP 0 rfl rfl 64 (by decide) (hts (.fieldLink RX12 450 "TalePlayModel" "casts" "I") (by decide +kernel)) (fun _ h9 => h9) rfl dX12_cast_77 ?_
        refine lv_imul hx hb dX12_cast_80 ?_
        refine tp_i (y := 0) (by decide) ?_
        refine lv_iload_n hx hb dX12_cast_81 rfl (lv_at hl 0 rfl) ?_
        refine lv_iadd hx hb dX12_cast_82 ?_
        refine tp_i (y := 2) (by decide) ?_
        refine lv_bipush (v := (-9)) hx hb dX12_cast_83 (by decide) ?_
        refine va_iast hx hb hK hP hD hS 3 2 rfl rfl (show vp_in 2 120 from by unfold vp_in; decide) dX12_cast_85 (fun H locs hP hD hS => ?_)
        have hP : va_P D vwCl [(m0, .inr (12, [.int 0, .ref g1, .int 6, .ref g3, .ref g4, .int 0, .ref g6, .ref g7, .int 0, .ref g9, .ref g10, .ref g11, .ref g12, .ref g13, .ref g14, .int 0, .int 0, .int 0, .int 0, .int 0, .ref g20, .ref g21, .int (-9), .ref g23, .ref g24, .ref g25, .ref g26, .int 0, .ref g28, .ref g29, .ref g30, .ref g31, .ref g32, .int 0, .ref g34, .int 0, .int 0, .long 0, .ref g38, .ref g39, .int 0, .int 0, .int 0, .ref g43, .ref g44, .ref g45, .ref g46, .ref g47, .ref g48, .ref g49, .int 0, .ref g51, .ref g52, .ref g53, .ref g54, .ref g55, .ref g56, .int (-9), .int 0, .int 0, .ref g60, .ref g61, .ref g62, .ref g63, .int 0, .ref g65, .ref g66, .ref g67, .ref g68])), (g65, .inl (cC0, 10, .inl (upd fc0 (0 : Int32).toNatClampNeg a1))), (g66, .inl (cC1, 10, .inl (upd fc1 (0 : Int32).toNatClampNeg a2))), (g67, .inl (cC2, 120, .inl (upd (upd (upd fc2 (0 : Int32).toNatClampNeg (-9)) (1 : Int32).toNatClampNeg (-9)) (2 : Int32).toNatClampNeg (-9)))), (g1, .inl (cF, 7, .inl (fun _ => 0)))] H := hP
        have hD : va_D A [(m0, .inr (12, [.int 0, .ref g1, .int 6, .ref g3, .ref g4, .int 0, .ref g6, .ref g7, .int 0, .ref g9, .ref g10, .ref g11, .ref g12, .ref g13, .ref g14, .int 0, .int 0, .int 0, .int 0, .int 0, .ref g20, .ref g21, .int (-9), .ref g23, .ref g24, .ref g25, .ref g26, .int 0, .ref g28, .ref g29, .ref g30, .ref g31, .ref g32, .int 0, .ref g34, .int 0, .int 0, .long 0, .ref g38, .ref g39, .int 0, .int 0, .int 0, .ref g43, .ref g44, .ref g45, .ref g46, .ref g47, .ref g48, .ref g49, .int 0, .ref g51, .ref g52, .ref g53, .ref g54, .ref g55, .ref g56, .int (-9), .int 0, .int 0, .ref g60, .ref g61, .ref g62, .ref g63, .int 0, .ref g65, .ref g66, .ref g67, .ref g68])), (g65, .inl (cC0, 10, .inl (upd fc0 (0 : Int32).toNatClampNeg a1))), (g66, .inl (cC1, 10, .inl (upd fc1 (0 : Int32).toNatClampNeg a2))), (g67, .inl (cC2, 120, .inl (upd (upd (upd fc2 (0 : Int32).toNatClampNeg (-9)) (1 : Int32).toNatClampNeg (-9)) (2 : Int32).toNatClampNeg (-9)))), (g1, .inl (cF, 7, .inl (fun _ => 0)))] := hD
        refine lv_iinc (v := 3) (lv' := [(3, .int 3), (0, .ref m0), (1, .int a1), (2, .int a2)]) hx hb dX12_cast_86 hl (k := 0) rfl (by decide) (by decide) rfl (fun ls hl => ?_)
        refine lv_goto (tgt := 64) hx hb dX12_cast_89 (by decide) ?_
        refine lv_iload_n hx hb dX12_cast_64 rfl (lv_at hl 0 rfl) ?_
        refine lv_bipush (v := 12) hx hb dX12_cast_65 (by decide) ?_
        refine lv_icmp_ge (tgt := 92) hx hb dX12_cast_67 (by decide) (fun q9 => absurd q9 (by decide)) (fun _ => ?_)
        refine lv_aload_n hx hb dX12_cast_70 rfl (lv_at hl 1 rfl) ?_
        refine va_get (D := D) (ci := 12) (v := .ref g67) (C := RX12) (T := TX12) (N := 69) hx hb hts (fun _ h => List.mem_cons_of_mem _ (List.mem_append_right _ h)) hown hK hP 0 rfl rfl 67 (by decide) (hts (.fieldLink RX12 145 "TalePlayModel" "roles" "[I") (by decide +kernel)) (fun _ h9 => h9) rfl dX12_cast_71 ?_
        refine lv_bipush (v := 12) hx hb dX12_cast_74 (by decide) ?_
        refine lv_aload_n hx hb dX12_cast_76 rfl (lv_at hl 1 rfl) ?_
        refine va_get (D := D) (ci := 12) (v := .int 0) (C := RX12) (T := TX12) (N := 69) hx hb hts (fun _ h => List.mem_cons_of_mem _ (List.mem_append_right _ h)) hown hK hP 0 rfl rfl 64 (by decide) (hts (.fieldLink RX12 450 "TalePlayModel" "casts" "I") (by decide +kernel)) (fun _ h9 => h9) rfl dX12_cast_77 ?_
        refine lv_imul hx hb dX12_cast_80 ?_
        refine tp_i (y := 0) (by decide) ?_
        refine lv_iload_n hx hb dX12_cast_81 rfl (lv_at hl 0 rfl) ?_
        refine lv_iadd hx hb dX12_cast_82 ?_
        refine tp_i (y := 3) (by decide) ?_
        refine lv_bipush (v := (-9)) hx hb dX12_cast_83 (by decide) ?_
        refine va_iast hx hb hK hP hD hS 3 2 rfl rfl (show vp_in 3 120 from by unfold vp_in; decide) dX12_cast_85 (fun H locs hP hD hS => ?_)
        have hP : va_P D vwCl [(m0, .inr (12, [.int 0, .ref g1, .int 6, .ref g3, .ref g4, .int 0, .ref g6, .ref g7, .int 0, .ref g9, .ref g10, .ref g11, .ref g12, .ref g13, .ref g14, .int 0, .int 0, .int 0, .int 0, .int 0, .ref g20, .ref g21, .int (-9), .ref g23, .ref g24, .ref g25, .ref g26, .int 0, .ref g28, .ref g29, .ref g30, .ref g31, .ref g32, .int 0, .ref g34, .int 0, .int 0, .long 0, .ref g38, .ref g39, .int 0, .int 0, .int 0, .ref g43, .ref g44, .ref g45, .ref g46, .ref g47, .ref g48, .ref g49, .int 0, .ref g51, .ref g52, .ref g53, .ref g54, .ref g55, .ref g56, .int (-9), .int 0, .int 0, .ref g60, .ref g61, .ref g62, .ref g63, .int 0, .ref g65, .ref g66, .ref g67, .ref g68])), (g65, .inl (cC0, 10, .inl (upd fc0 (0 : Int32).toNatClampNeg a1))), (g66, .inl (cC1, 10, .inl (upd fc1 (0 : Int32).toNatClampNeg a2))), (g67, .inl (cC2, 120, .inl (upd (upd (upd (upd fc2 (0 : Int32).toNatClampNeg (-9)) (1 : Int32).toNatClampNeg (-9)) (2 : Int32).toNatClampNeg (-9)) (3 : Int32).toNatClampNeg (-9)))), (g1, .inl (cF, 7, .inl (fun _ => 0)))] H := hP
        have hD : va_D A [(m0, .inr (12, [.int 0, .ref g1, .int 6, .ref g3, .ref g4, .int 0, .ref g6, .ref g7, .int 0, .ref g9, .ref g10, .ref g11, .ref g12, .ref g13, .ref g14, .int 0, .int 0, .int 0, .int 0, .int 0, .ref g20, .ref g21, .int (-9), .ref g23, .ref g24, .ref g25, .ref g26, .int 0, .ref g28, .ref g29, .ref g30, .ref g31, .ref g32, .int 0, .ref g34, .int 0, .int 0, .long 0, .ref g38, .ref g39, .int 0, .int 0, .int 0, .ref g43, .ref g44, .ref g45, .ref g46, .ref g47, .ref g48, .ref g49, .int 0, .ref g51, .ref g52, .ref g53, .ref g54, .ref g55, .ref g56, .int (-9), .int 0, .int 0, .ref g60, .ref g61, .ref g62, .ref g63, .int 0, .ref g65, .ref g66, .ref g67, .ref g68])), (g65, .inl (cC0, 10, .inl (upd fc0 (0 : Int32).toNatClampNeg a1))), (g66, .inl (cC1, 10, .inl (upd fc1 (0 : Int32).toNatClampNeg a2))), (g67, .inl (cC2, 120, .inl (upd (upd (upd (upd fc2 (0 : Int32).toNatClampNeg (-9)) (1 : Int32).toNatClampNeg (-9)) (2 : Int32).toNatClampNeg (-9)) (3 : Int32).toNatClampNeg (-9)))), (g1, .inl (cF, 7, .inl (fun _ => 0)))] := hD
        refine lv_iinc (v := 4) (lv' := [(3, .int 4), (0, .ref m0), (1, .int a1), (2, .int a2)]) hx hb dX12_cast_86 hl (k := 0) rfl (by decide) (by decide) rfl (fun ls hl => ?_)
        refine lv_goto (tgt := 64) hx hb dX12_cast_89 (by decide) ?_
        refine lv_iload_n hx hb dX12_cast_64 rfl (lv_at hl 0 rfl) ?_
        refine lv_bipush (v := 12) hx hb dX12_cast_65 (by decide) ?_
        refine lv_icmp_ge (tgt := 92) hx hb dX12_cast_67 (by decide) (fun q9 => absurd q9 (by decide)) (fun _ => ?_)
        refine lv_aload_n hx hb dX12_cast_70 rfl (lv_at hl 1 rfl) ?_
        refine va_get (D := D) (ci := 12) (v := .ref g67) (C := RX12) (T := TX12) (N := 69) hx hb hts (fun _ h => List.mem_cons_of_mem _ (List.mem_append_right _ h)) hown hK hP 0 rfl rfl 67 (by decide) (hts (.fieldLink RX12 145 "TalePlayModel" "roles" "[I") (by decide +kernel)) (fun _ h9 => h9) rfl dX12_cast_71 ?_
        refine lv_bipush (v := 12) hx hb dX12_cast_74 (by decide) ?_
        refine lv_aload_n hx hb dX12_cast_76 rfl (lv_at hl 1 rfl) ?_
        refine va_get (D := D) (ci := 12) (v := .int 0) (C := RX12) (T := TX12) (N := 69) hx hb hts (fun _ h => List.mem_cons_of_mem _ (List.mem_append_right _ h)) hown hK hP 0 rfl rfl 64 (by decide) (hts (.fieldLink RX12 450 "TalePlayModel" "casts" "I") (by decide +kernel)) (fun _ h9 => h9) rfl dX12_cast_77 ?_
        refine lv_imul hx hb dX12_cast_80 ?_
        refine tp_i (y := 0) (by decide) ?_
        refine lv_iload_n hx hb dX12_cast_81 rfl (lv_at hl 0 rfl) ?_
        refine lv_iadd hx hb dX12_cast_82 ?_
        refine tp_i (y := 4) (by decide) ?_
        refine lv_bipush (v := (-9)) hx hb dX12_cast_83 (by decide) ?_
        refine va_iast hx hb hK hP hD hS 3 2 rfl rfl (show vp_in 4 120 from by unfold vp_in; decide) dX12_cast_85 (fun H locs hP hD hS => ?_)
        have hP : va_P D vwCl [(m0, .inr (12, [.int 0, .ref g1, .int 6, .ref g3, .ref g4, .int 0, .ref g6, .ref g7, .int 0, .ref g9, .ref g10, .ref g11, .ref g12, .ref g13, .ref g14, .int 0, .int 0, .int 0, .int 0, .int 0, .ref g20, .ref g21, .int (-9), .ref g23, .ref g24, .ref g25, .ref g26, .int 0, .ref g28, .ref g29, .ref g30, .ref g31, .ref g32, .int 0, .ref g34, .int 0, .int 0, .long 0, .ref g38, .ref g39, .int 0, .int 0, .int 0, .ref g43, .ref g44, .ref g45, .ref g46, .ref g47, .ref g48, .ref g49, .int 0, .ref g51, .ref g52, .ref g53, .ref g54, .ref g55, .ref g56, .int (-9), .int 0, .int 0, .ref g60, .ref g61, .ref g62, .ref g63, .int 0, .ref g65, .ref g66, .ref g67, .ref g68])), (g65, .inl (cC0, 10, .inl (upd fc0 (0 : Int32).toNatClampNeg a1))), (g66, .inl (cC1, 10, .inl (upd fc1 (0 : Int32).toNatClampNeg a2))), (g67, .inl (cC2, 120, .inl (upd (upd (upd (upd (upd fc2 (0 : Int32).toNatClampNeg (-9)) (1 : Int32).toNatClampNeg (-9)) (2 : Int32).toNatClampNeg (-9)) (3 : Int32).toNatClampNeg (-9)) (4 : Int32).toNatClampNeg (-9)))), (g1, .inl (cF, 7, .inl (fun _ => 0)))] H := hP
        have hD : va_D A [(m0, .inr (12, [.int 0, .ref g1, .int 6, .ref g3, .ref g4, .int 0, .ref g6, .ref g7, .int 0, .ref g9, .ref g10, .ref g11, .ref g12, .ref g13, .ref g14, .int 0, .int 0, .int 0, .int 0, .int 0, .ref g20, .ref g21, .int (-9), .ref g23, .ref g24, .ref g25, .ref g26, .int 0, .ref g28, .ref g29, .ref g30, .ref g31, .ref g32, .int 0, .ref g34, .int 0, .int 0, .long 0, .ref g38, .ref g39, .int 0, .int 0, .int 0, .ref g43, .ref g44, .ref g45, .ref g46, .ref g47, .ref g48, .ref g49, .int 0, .ref g51, .ref g52, .ref g53, .ref g54, .ref g55, .ref g56, .int (-9), .int 0, .int 0, .ref g60, .ref g61, .ref g62, .ref g63, .int 0, .ref g65, .ref g66, .ref g67, .ref g68])), (g65, .inl (cC0, 10, .inl (upd fc0 (0 : Int32).toNatClampNeg a1))), (g66, .inl (cC1, 10, .inl (upd fc1 (0 : Int32).toNatClampNeg a2))), (g67, .inl (cC2, 120, .inl (upd (upd (upd (upd (upd fc2 (0 : Int32).toNatClampNeg (-9)) (1 : Int32).toNatClampNeg (-9)) (2 : Int32).toNatClampNeg (-9)) (3 : Int32).toNatClampNeg (-9)) (4 : Int32).toNatClampNeg (-9)))), (g1, .inl (cF, 7, .inl (fun _ => 0)))] := hD
        refine lv_iinc (v := 5) (lv' := [(3, .int 5), (0, .ref m0), (1, .int a1), (2, .int a2)]) hx hb dX12_cast_86 hl (k := 0) rfl (by decide) (by decide) rfl (fun ls hl => ?_)
        refine lv_goto (tgt := 64) hx hb dX12_cast_89 (by decide) ?_
        refine lv_iload_n hx hb dX12_cast_64 rfl (lv_at hl 0 rfl) ?_
        refine lv_bipush (v := 12) hx hb dX12_cast_65 (by decide) ?_
        refine lv_icmp_ge (tgt := 92) hx hb dX12_cast_67 (by decide) (fun q9 => absurd q9 (by decide)) (fun _ => ?_)
        refine lv_aload_n hx hb dX12_cast_70 rfl (lv_at hl 1 rfl) ?_
        refine va_get (D := D) (ci := 12) (v := .ref g67) (C := RX12) (T := TX12) (N := 69) hx hb hts (fun _ h => List.mem_cons_of_mem _ (List.mem_append_right _ h)) hown hK hP 0 rfl rfl 67 (by decide) (hts (.fieldLink RX12 145 "TalePlayModel" "roles" "[I") (by decide +kernel)) (fun _ h9 => h9) rfl dX12_cast_71 ?_
        refine lv_bipush (v := 12) hx hb dX12_cast_74 (by decide) ?_
        refine lv_aload_n hx hb dX12_cast_76 rfl (lv_at hl 1 rfl) ?_
        refine va_get (D := D) (ci := 12) (v := .int 0) (C := RX12) (T := TX12) (N := 69) hx hb hts (fun _ h => List.mem_cons_of_mem _ (List.mem_append_right _ h)) hown hK hP 0 rfl rfl 64 (by decide) (hts (.fieldLink RX12 450 "TalePlayModel" "casts" "I") (by decide +kernel)) (fun _ h9 => h9) rfl dX12_cast_77 ?_
        refine lv_imul hx hb dX12_cast_80 ?_
        refine tp_i (y := 0) (by decide) ?_
        refine lv_iload_n hx hb dX12_cast_81 rfl (lv_at hl 0 rfl) ?_
        refine lv_iadd hx hb dX12_cast_82 ?_
        refine tp_i (y := 5) (by decide) ?_
        refine lv_bipush (v := (-9)) hx hb dX12_cast_83 (by decide) ?_
        refine va_iast hx hb hK hP hD hS 3 2 rfl rfl (show vp_in 5 120 from by unfold vp_in; decide) dX12_cast_85 (fun H locs hP hD hS => ?_)
        have hP : va_P D vwCl [(m0, .inr (12, [.int 0, .ref g1, .int 6, .ref g3, .ref g4, .int 0, .ref g6, .ref g7, .int 0, .ref g9, .ref g10, .ref g11, .ref g12, .ref g13, .ref g14, .int 0, .int 0, .int 0, .int 0, .int 0, .ref g20, .ref g21, .int (-9), .ref g23, .ref g24, .ref g25, .ref g26, .int 0, .ref g28, .ref g29, .ref g30, .ref g31, .ref g32, .int 0, .ref g34, .int 0, .int 0, .long 0, .ref g38, .ref g39, .int 0, .int 0, .int 0, .ref g43, .ref g44, .ref g45, .ref g46, .ref g47, .ref g48, .ref g49, .int 0, .ref g51, .ref g52, .ref g53, .ref g54, .ref g55, .ref g56, .int (-9), .int 0, .int 0, .ref g60, .ref g61, .ref g62, .ref g63, .int 0, .ref g65, .ref g66, .ref g67, .ref g68])), (g65, .inl (cC0, 10, .inl (upd fc0 (0 : Int32).toNatClampNeg a1))), (g66, .inl (cC1, 10, .inl (upd fc1 (0 : Int32).toNatClampNeg a2))), (g67, .inl (cC2, 120, .inl (upd (upd (upd (upd (upd (upd fc2 (0 : Int32).toNatClampNeg (-9)) (1 : Int32).toNatClampNeg (-9)) (2 : Int32).toNatClampNeg (-9)) (3 : Int32).toNatClampNeg (-9)) (4 : Int32).toNatClampNeg (-9)) (5 : Int32).toNatClampNeg (-9)))), (g1, .inl (cF, 7, .inl (fun _ => 0)))] H := hP
        have hD : va_D A [(m0, .inr (12, [.int 0, .ref g1, .int 6, .ref g3, .ref g4, .int 0, .ref g6, .ref g7, .int 0, .ref g9, .ref g10, .ref g11, .ref g12, .ref g13, .ref g14, .int 0, .int 0, .int 0, .int 0, .int 0, .ref g20, .ref g21, .int (-9), .ref g23, .ref g24, .ref g25, .ref g26, .int 0, .ref g28, .ref g29, .ref g30, .ref g31, .ref g32, .int 0, .ref g34, .int 0, .int 0, .long 0, .ref g38, .ref g39, .int 0, .int 0, .int 0, .ref g43, .ref g44, .ref g45, .ref g46, .ref g47, .ref g48, .ref g49, .int 0, .ref g51, .ref g52, .ref g53, .ref g54, .ref g55, .ref g56, .int (-9), .int 0, .int 0, .ref g60, .ref g61, .ref g62, .ref g63, .int 0, .ref g65, .ref g66, .ref g67, .ref g68])), (g65, .inl (cC0, 10, .inl (upd fc0 (0 : Int32).toNatClampNeg a1))), (g66, .inl (cC1, 10, .inl (upd fc1 (0 : Int32).toNatClampNeg a2))), (g67, .inl (cC2, 120, .inl (upd (upd (upd (upd (upd (upd fc2 (0 : Int32).toNatClampNeg (-9)) (1 : Int32).toNatClampNeg (-9)) (2 : Int32).toNatClampNeg (-9)) (3 : Int32).toNatClampNeg (-9)) (4 : Int32).toNatClampNeg (-9)) (5 : Int32).toNatClampNeg (-9)))), (g1, .inl (cF, 7, .inl (fun _ => 0)))] := hD
        refine lv_iinc (v := 6) (lv' := [(3, .int 6), (0, .ref m0), (1, .int a1), (2, .int a2)]) hx hb dX12_cast_86 hl (k := 0) rfl (by decide) (by decide) rfl (fun ls hl => ?_)
        refine lv_goto (tgt := 64) hx hb dX12_cast_89 (by decide) ?_
        refine lv_iload_n hx hb dX12_cast_64 rfl (lv_at hl 0 rfl) ?_
        refine lv_bipush (v := 12) hx hb dX12_cast_65 (by decide) ?_
        refine lv_icmp_ge (tgt := 92) hx hb dX12_cast_67 (by decide) (fun q9 => absurd q9 (by decide)) (fun _ => ?_)
        refine lv_aload_n hx hb dX12_cast_70 rfl (lv_at hl 1 rfl) ?_
        refine va_get (D := D) (ci := 12) (v := .ref g67) (C := RX12) (T := TX12) (N := 69) hx hb hts (fun _ h => List.mem_cons_of_mem _ (List.mem_append_right _ h)) hown hK hP 0 rfl rfl 67 (by decide) (hts (.fieldLink RX12 145 "TalePlayModel" "roles" "[I") (by decide +kernel)) (fun _ h9 => h9) rfl dX12_cast_71 ?_
        refine lv_bipush (v := 12) hx hb dX12_cast_74 (by decide) ?_
        refine lv_aload_n hx hb dX12_cast_76 rfl (lv_at hl 1 rfl) ?_
        refine va_get (D := D) (ci := 12) (v := .int 0) (C := RX12) (T := TX12) (N := 69) hx hb hts (fun _ h => List.mem_cons_of_mem _ (List.mem_append_right _ h)) hown hK hP 0 rfl rfl 64 (by decide) (hts (.fieldLink RX12 450 "TalePlayModel" "casts" "I") (by decide +kernel)) (fun _ h9 => h9) rfl dX12_cast_77 ?_
        refine lv_imul hx hb dX12_cast_80 ?_
        refine tp_i (y := 0) (by decide) ?_
        refine lv_iload_n hx hb dX12_cast_81 rfl (lv_at hl 0 rfl) ?_
        refine lv_iadd hx hb dX12_cast_82 ?_
        refine tp_i (y := 6) (by decide) ?_
        refine lv_bipush (v := (-9)) hx hb dX12_cast_83 (by decide) ?_
        refine va_iast hx hb hK hP hD hS 3 2 rfl rfl (show vp_in 6 120 from by unfold vp_in; decide) dX12_cast_85 (fun H locs hP hD hS => ?_)
        have hP : va_P D vwCl [(m0, .inr (12, [.int 0, .ref g1, .int 6, .ref g3, .ref g4, .int 0, .ref g6, .ref g7, .int 0, .ref g9, .ref g10, .ref g11, .ref g12, .ref g13, .ref g14, .int 0, .int 0, .int 0, .int 0, .int 0, .ref g20, .ref g21, .int (-9), .ref g23, .ref g24, .ref g25, .ref g26, .int 0, .ref g28, .ref g29, .ref g30, .ref g31, .ref g32, .int 0, .ref g34, .int 0, .int 0, .long 0, .ref g38, .ref g39, .int 0, .int 0, .int 0, .ref g43, .ref g44, .ref g45, .ref g46, .ref g47, .ref g48, .ref g49, .int 0, .ref g51, .ref g52, .ref g53, .ref g54, .ref g55, .ref g56, .int (-9), .int 0, .int 0, .ref g60, .ref g61, .ref g62, .ref g63, .int 0, .ref g65, .ref g66, .ref g67, .ref g68])), (g65, .inl (cC0, 10, .inl (upd fc0 (0 : Int32).toNatClampNeg a1))), (g66, .inl (cC1, 10, .inl (upd fc1 (0 : Int32).toNatClampNeg a2))), (g67, .inl (cC2, 120, .inl (upd (upd (upd (upd (upd (upd (upd fc2 (0 : Int32).toNatClampNeg (-9)) (1 : Int32).toNatClampNeg (-9)) (2 : Int32).toNatClampNeg (-9)) (3 : Int32).toNatClampNeg (-9)) (4 : Int32).toNatClampNeg (-9)) (5 : Int32).toNatClampNeg (-9)) (6 : Int32).toNatClampNeg (-9)))), (g1, .inl (cF, 7, .inl (fun _ => 0)))] H := hP
        have hD : va_D A [(m0, .inr (12, [.int 0, .ref g1, .int 6, .ref g3, .ref g4, .int 0, .ref g6, .ref g7, .int 0, .ref g9, .ref g10, .ref g11, .ref g12, .ref g13, .ref g14, .int 0, .int 0, .int 0, .int 0, .int 0, .ref g20, .ref g21, .int (-9), .ref g23, .ref g24, .ref g25, .ref g26, .int 0, .ref g28, .ref g29, .ref g30, .ref g31, .ref g32, .int 0, .ref g34, .int 0, .int 0, .long 0, .ref g38, .ref g39, .int 0, .int 0, .int 0, .ref g43, .ref g44, .ref g45, .ref g46, .ref g47, .ref g48, .ref g49, .int 0, .ref g51, .ref g52, .ref g53, .ref g54, .ref g55, .ref g56, .int (-9), .int 0, .int 0, .ref g60, .ref g61, .ref g62, .ref g63, .int 0, .ref g65, .ref g66, .ref g67, .ref g68])), (g65, .inl (cC0, 10, .inl (upd fc0 (0 : Int32).toNatClampNeg a1))), (g66, .inl (cC1, 10, .inl (upd fc1 (0 : Int32).toNatClampNeg a2))), (g67, .inl (cC2, 120, .inl (upd (upd (upd (upd (upd (upd (upd fc2 (0 : Int32).toNatClampNeg (-9)) (1 : Int32).toNatClampNeg (-9)) (2 : Int32).toNatClampNeg (-9)) (3 : Int32).toNatClampNeg (-9)) (4 : Int32).toNatClampNeg (-9)) (5 : Int32).toNatClampNeg (-9)) (6 : Int32).toNatClampNeg (-9)))), (g1, .inl (cF, 7, .inl (fun _ => 0)))] := hD
        refine lv_iinc (v := 7) (lv' := [(3, .int 7), (0, .ref m0), (1, .int a1), (2, .int a2)]) hx hb dX12_cast_86 hl (k := 0) rfl (by decide) (by decide) rfl (fun ls hl => ?_)
        refine lv_goto (tgt := 64) hx hb dX12_cast_89 (by decide) ?_
        refine lv_iload_n hx hb dX12_cast_64 rfl (lv_at hl 0 rfl) ?_
        refine lv_bipush (v := 12) hx hb dX12_cast_65 (by decide) ?_
        refine lv_icmp_ge (tgt := 92) hx hb dX12_cast_67 (by decide) (fun q9 => absurd q9 (by decide)) (fun _ => ?_)
        refine lv_aload_n hx hb dX12_cast_70 rfl (lv_at hl 1 rfl) ?_
        refine va_get (D := D) (ci := 12) (v := .ref g67) (C := RX12) (T := TX12) (N := 69) hx hb hts (fun _ h => List.mem_cons_of_mem _ (List.mem_append_right _ h)) hown hK hP 0 rfl rfl 67 (by decide) (hts (.fieldLink RX12 145 "TalePlayModel" "roles" "[I") (by decide +kernel)) (fun _ h9 => h9) rfl dX12_cast_71 ?_
        refine lv_bipush (v := 12) hx hb dX12_cast_74 (by decide) ?_
        refine lv_aload_n hx hb dX12_cast_76 rfl (lv_at hl 1 rfl) ?_
        refine va_get (D := D) (ci := 12) (v := .int 0) (C := RX12) (T := TX12) (N := 69) hx hb hts (fun _ h => List.mem_cons_of_mem _ (List.mem_append_right _ h)) hown hK hP 0 rfl rfl 64 (by decide) (hts (.fieldLink RX12 450 "TalePlayModel" "casts" "I") (by decide +kernel)) (fun _ h9 => h9) rfl dX12_cast_77 ?_
        refine lv_imul hx hb dX12_cast_80 ?_
        refine tp_i (y := 0) (by decide) ?_
        refine lv_iload_n hx hb dX12_cast_81 rfl (lv_at hl 0 rfl) ?_
        refine lv_iadd hx hb dX12_cast_82 ?_
        refine tp_i (y := 7) (by decide) ?_
        refine lv_bipush (v := (-9)) hx hb dX12_cast_83 (by decide) ?_
        refine va_iast hx hb hK hP hD hS 3 2 rfl rfl (show vp_in 7 120 from by unfold vp_in; decide) dX12_cast_85 (fun H locs hP hD hS => ?_)
        have hP : va_P D vwCl [(m0, .inr (12, [.int 0, .ref g1, .int 6, .ref g3, .ref g4, .int 0, .ref g6, .ref g7, .int 0, .ref g9, .ref g10, .ref g11, .ref g12, .ref g13, .ref g14, .int 0, .int 0, .int 0, .int 0, .int 0, .ref g20, .ref g21, .int (-9), .ref g23, .ref g24, .ref g25, .ref g26, .int 0, .ref g28, .ref g29, .ref g30, .ref g31, .ref g32, .int 0, .ref g34, .int 0, .int 0, .long 0, .ref g38, .ref g39, .int 0, .int 0, .int 0, .ref g43, .ref g44, .ref g45, .ref g46, .ref g47, .ref g48, .ref g49, .int 0, .ref g51, .ref g52, .ref g53, .ref g54, .ref g55, .ref g56, .int (-9), .int 0, .int 0, .ref g60, .ref g61, .ref g62, .ref g63, .int 0, .ref g65, .ref g66, .ref g67, .ref g68])), (g65, .inl (cC0, 10, .inl (upd fc0 (0 : Int32).toNatClampNeg a1))), (g66, .inl (cC1, 10, .inl (upd fc1 (0 : Int32).toNatClampNeg a2))), (g67, .inl (cC2, 120, .inl (upd (upd (upd (upd (upd (upd (upd (upd fc2 (0 : Int32).toNatClampNeg (-9)) (1 : Int32).toNatClampNeg (-9)) (2 : Int32).toNatClampNeg (-9)) (3 : Int32).toNatClampNeg (-9)) (4 : Int32).toNatClampNeg (-9)) (5 : Int32).toNatClampNeg (-9)) (6 : Int32).toNatClampNeg (-9)) (7 : Int32).toNatClampNeg (-9)))), (g1, .inl (cF, 7, .inl (fun _ => 0)))] H := hP
        have hD : va_D A [(m0, .inr (12, [.int 0, .ref g1, .int 6, .ref g3, .ref g4, .int 0, .ref g6, .ref g7, .int 0, .ref g9, .ref g10, .ref g11, .ref g12, .ref g13, .ref g14, .int 0, .int 0, .int 0, .int 0, .int 0, .ref g20, .ref g21, .int (-9), .ref g23, .ref g24, .ref g25, .ref g26, .int 0, .ref g28, .ref g29, .ref g30, .ref g31, .ref g32, .int 0, .ref g34, .int 0, .int 0, .long 0, .ref g38, .ref g39, .int 0, .int 0, .int 0, .ref g43, .ref g44, .ref g45, .ref g46, .ref g47, .ref g48, .ref g49, .int 0, .ref g51, .ref g52, .ref g53, .ref g54, .ref g55, .ref g56, .int (-9), .int 0, .int 0, .ref g60, .ref g61, .ref g62, .ref g63, .int 0, .ref g65, .ref g66, .ref g67, .ref g68])), (g65, .inl (cC0, 10, .inl (upd fc0 (0 : Int32).toNatClampNeg a1))), (g66, .inl (cC1, 10, .inl (upd fc1 (0 : Int32).toNatClampNeg a2))), (g67, .inl (cC2, 120, .inl (upd (upd (upd (upd (upd (upd (upd (upd fc2 (0 : Int32).toNatClampNeg (-9)) (1 : Int32).toNatClampNeg (-9)) (2 : Int32).toNatClampNeg (-9)) (3 : Int32).toNatClampNeg (-9)) (4 : Int32).toNatClampNeg (-9)) (5 : Int32).toNatClampNeg (-9)) (6 : Int32).toNatClampNeg (-9)) (7 : Int32).toNatClampNeg (-9)))), (g1, .inl (cF, 7, .inl (fun _ => 0)))] := hD
        refine lv_iinc (v := 8) (lv' := [(3, .int 8), (0, .ref m0), (1, .int a1), (2, .int a2)]) hx hb dX12_cast_86 hl (k := 0) rfl (by decide) (by decide) rfl (fun ls hl => ?_)
        refine lv_goto (tgt := 64) hx hb dX12_cast_89 (by decide) ?_
        refine lv_iload_n hx hb dX12_cast_64 rfl (lv_at hl 0 rfl) ?_
        refine lv_bipush (v := 12) hx hb dX12_cast_65 (by decide) ?_
        refine lv_icmp_ge (tgt := 92) hx hb dX12_cast_67 (by decide) (fun q9 => absurd q9 (by decide)) (fun _ => ?_)
        refine lv_aload_n hx hb dX12_cast_70 rfl (lv_at hl 1 rfl) ?_
        refine va_get (D := D) (ci := 12) (v := .ref g67) (C := RX12) (T := TX12) (N := 69) hx hb hts (fun _ h => List.mem_cons_of_mem _ (List.mem_append_right _ h)) hown hK hP 0 rfl rfl 67 (by decide) (hts (.fieldLink RX12 145 "TalePlayModel" "roles" "[I") (by decide +kernel)) (fun _ h9 => h9) rfl dX12_cast_71 ?_
        refine lv_bipush (v := 12) hx hb dX12_cast_74 (by decide) ?_
        refine lv_aload_n hx hb dX12_cast_76 rfl (lv_at hl 1 rfl) ?_
        refine va_get (D := D) (ci := 12) (v := .int 0) (C := RX12) (T := TX12) (N := 69) hx hb hts (fun _ h => List.mem_cons_of_mem _ (List.mem_append_right _ h)) hown hK hP 0 rfl rfl 64 (by decide) (hts (.fieldLink RX12 450 "TalePlayModel" "casts" "I") (by decide +kernel)) (fun _ h9 => h9) rfl dX12_cast_77 ?_
        refine lv_imul hx hb dX12_cast_80 ?_
        refine tp_i (y := 0) (by decide) ?_
        refine lv_iload_n hx hb dX12_cast_81 rfl (lv_at hl 0 rfl) ?_
        refine lv_iadd hx hb dX12_cast_82 ?_
        refine tp_i (y := 8) (by decide) ?_
        refine lv_bipush (v := (-9)) hx hb dX12_cast_83 (by decide) ?_
        refine va_iast hx hb hK hP hD hS 3 2 rfl rfl (show vp_in 8 120 from by unfold vp_in; decide) dX12_cast_85 (fun H locs hP hD hS => ?_)
        have hP : va_P D vwCl [(m0, .inr (12, [.int 0, .ref g1, .int 6, .ref g3, .ref g4, .int 0, .ref g6, .ref g7, .int 0, .ref g9, .ref g10, .ref g11, .ref g12, .ref g13, .ref g14, .int 0, .int 0, .int 0, .int 0, .int 0, .ref g20, .ref g21, .int (-9), .ref g23, .ref g24, .ref g25, .ref g26, .int 0, .ref g28, .ref g29, .ref g30, .ref g31, .ref g32, .int 0, .ref g34, .int 0, .int 0, .long 0, .ref g38, .ref g39, .int 0, .int 0, .int 0, .ref g43, .ref g44, .ref g45, .ref g46, .ref g47, .ref g48, .ref g49, .int 0, .ref g51, .ref g52, .ref g53, .ref g54, .ref g55, .ref g56, .int (-9), .int 0, .int 0, .ref g60, .ref g61, .ref g62, .ref g63, .int 0, .ref g65, .ref g66, .ref g67, .ref g68])), (g65, .inl (cC0, 10, .inl (upd fc0 (0 : Int32).toNatClampNeg a1))), (g66, .inl (cC1, 10, .inl (upd fc1 (0 : Int32).toNatClampNeg a2))), (g67, .inl (cC2, 120, .inl (upd (upd (upd (upd (upd (upd (upd (upd (upd fc2 (0 : Int32).toNatClampNeg (-9)) (1 : Int32).toNatClampNeg (-9)) (2 : Int32).toNatClampNeg (-9)) (3 : Int32).toNatClampNeg (-9)) (4 : Int32).toNatClampNeg (-9)) (5 : Int32).toNatClampNeg (-9)) (6 : Int32).toNatClampNeg (-9)) (7 : Int32).toNatClampNeg (-9)) (8 : Int32).toNatClampNeg (-9)))), (g1, .inl (cF, 7, .inl (fun _ => 0)))] H := hP
        have hD : va_D A [(m0, .inr (12, [.int 0, .ref g1, .int 6, .ref g3, .ref g4, .int 0, .ref g6, .ref g7, .int 0, .ref g9, .ref g10, .ref g11, .ref g12, .ref g13, .ref g14, .int 0, .int 0, .int 0, .int 0, .int 0, .ref g20, .ref g21, .int (-9), .ref g23, .ref g24, .ref g25, .ref g26, .int 0, .ref g28, .ref g29, .ref g30, .ref g31, .ref g32, .int 0, .ref g34, .int 0, .int 0, .long 0, .ref g38, .ref g39, .int 0, .int 0, .int 0, .ref g43, .ref g44, .ref g45, .ref g46, .ref g47, .ref g48, .ref g49, .int 0, .ref g51, .ref g52, .ref g53, .ref g54, .ref g55, .ref g56, .int (-9), .int 0, .int 0, .ref g60, .ref g61, .ref g62, .ref g63, .int 0, .ref g65, .ref g66, .ref g67, .ref g68])), (g65, .inl (cC0, 10, .inl (upd fc0 (0 : Int32).toNatClampNeg a1))), (g66, .inl (cC1, 10, .inl (upd fc1 (0 : Int32).toNatClampNeg a2))), (g67, .inl (cC2, 120, .inl (upd (upd (upd (upd (upd (upd (upd (upd (upd fc2 (0 : Int32).toNatClampNeg (-9)) (1 : Int32).toNatClampNeg (-9)) (2 : Int32).toNatClampNeg (-9)) (3 : Int32).toNatClampNeg (-9)) (4 : Int32).toNatClampNeg (-9)) (5 : Int32).toNatClampNeg (-9)) (6 : Int32).toNatClampNeg (-9)) (7 : Int32).toNatClampNeg (-9)) (8 : Int32).toNatClampNeg (-9)))), (g1, .inl (cF, 7, .inl (fun _ => 0)))] := hD
        refine lv_iinc (v := 9) (lv' := [(3, .int 9), (0, .ref m0), (1, .int a1), (2, .int a2)]) hx hb dX12_cast_86 hl (k := 0) rfl (by decide) (by decide) rfl (fun ls hl => ?_)
        refine lv_goto (tgt := 64) hx hb dX12_cast_89 (by decide) ?_
        refine lv_iload_n hx hb dX12_cast_64 rfl (lv_at hl 0 rfl) ?_
        refine lv_bipush (v := 12) hx hb dX12_cast_65 (by decide) ?_
        refine lv_icmp_ge (tgt := 92) hx hb dX12_cast_67 (by decide) (fun q9 => absurd q9 (by decide)) (fun _ => ?_)
        refine lv_aload_n hx hb dX12_cast_70 rfl (lv_at hl 1 rfl) ?_
        refine va_get (D := D) (ci := 12) (v := .ref g67) (C := RX12) (T := TX12) (N := 69) hx hb hts (fun _ h => List.mem_cons_of_mem _ (List.mem_append_right _ h)) hown hK hP 0 rfl rfl 67 (by decide) (hts (.fieldLink RX12 145 "TalePlayModel" "roles" "[I") (by decide +kernel)) (fun _ h9 => h9) rfl dX12_cast_71 ?_
        refine lv_bipush (v := 12) hx hb dX12_cast_74 (by decide) ?_
        refine lv_aload_n hx hb dX12_cast_76 rfl (lv_at hl 1 rfl) ?_
        refine va_get (D := D) (ci := 12) (v := .int 0) (C := RX12) (T := TX12) (N := 69) hx hb hts (fun _ h => List.mem_cons_of_mem _ (List.mem_append_right _ h)) hown hK hP 0 rfl rfl 64 (by decide) (hts (.fieldLink RX12 450 "TalePlayModel" "casts" "I") (by decide +kernel)) (fun _ h9 => h9) rfl dX12_cast_77 ?_
        refine lv_imul hx hb dX12_cast_80 ?_
        refine tp_i (y := 0) (by decide) ?_
        refine lv_iload_n hx hb dX12_cast_81 rfl (lv_at hl 0 rfl) ?_
        refine lv_iadd hx hb dX12_cast_82 ?_
        refine tp_i (y := 9) (by decide) ?_
        refine lv_bipush (v := (-9)) hx hb dX12_cast_83 (by decide) ?_
        refine va_iast hx hb hK hP hD hS 3 2 rfl rfl (show vp_in 9 120 from by unfold vp_in; decide) dX12_cast_85 (fun H locs hP hD hS => ?_)
        have hP : va_P D vwCl [(m0, .inr (12, [.int 0, .ref g1, .int 6, .ref g3, .ref g4, .int 0, .ref g6, .ref g7, .int 0, .ref g9, .ref g10, .ref g11, .ref g12, .ref g13, .ref g14, .int 0, .int 0, .int 0, .int 0, .int 0, .ref g20, .ref g21, .int (-9), .ref g23, .ref g24, .ref g25, .ref g26, .int 0, .ref g28, .ref g29, .ref g30, .ref g31, .ref g32, .int 0, .ref g34, .int 0, .int 0, .long 0, .ref g38, .ref g39, .int 0, .int 0, .int 0, .ref g43, .ref g44, .ref g45, .ref g46, .ref g47, .ref g48, .ref g49, .int 0, .ref g51, .ref g52, .ref g53, .ref g54, .ref g55, .ref g56, .int (-9), .int 0, .int 0, .ref g60, .ref g61, .ref g62, .ref g63, .int 0, .ref g65, .ref g66, .ref g67, .ref g68])), (g65, .inl (cC0, 10, .inl (upd fc0 (0 : Int32).toNatClampNeg a1))), (g66, .inl (cC1, 10, .inl (upd fc1 (0 : Int32).toNatClampNeg a2))), (g67, .inl (cC2, 120, .inl (upd (upd (upd (upd (upd (upd (upd (upd (upd (upd fc2 (0 : Int32).toNatClampNeg (-9)) (1 : Int32).toNatClampNeg (-9)) (2 : Int32).toNatClampNeg (-9)) (3 : Int32).toNatClampNeg (-9)) (4 : Int32).toNatClampNeg (-9)) (5 : Int32).toNatClampNeg (-9)) (6 : Int32).toNatClampNeg (-9)) (7 : Int32).toNatClampNeg (-9)) (8 : Int32).toNatClampNeg (-9)) (9 : Int32).toNatClampNeg (-9)))), (g1, .inl (cF, 7, .inl (fun _ => 0)))] H := hP
        have hD : va_D A [(m0, .inr (12, [.int 0, .ref g1, .int 6, .ref g3, .ref g4, .int 0, .ref g6, .ref g7, .int 0, .ref g9, .ref g10, .ref g11, .ref g12, .ref g13, .ref g14, .int 0, .int 0, .int 0, .int 0, .int 0, .ref g20, .ref g21, .int (-9), .ref g23, .ref g24, .ref g25, .ref g26, .int 0, .ref g28, .ref g29, .ref g30, .ref g31, .ref g32, .int 0, .ref g34, .int 0, .int 0, .long 0, .ref g38, .ref g39, .int 0, .int 0, .int 0, .ref g43, .ref g44, .ref g45, .ref g46, .ref g47, .ref g48, .ref g49, .int 0, .ref g51, .ref g52, .ref g53, .ref g54, .ref g55, .ref g56, .int (-9), .int 0, .int 0, .ref g60, .ref g61, .ref g62, .ref g63, .int 0, .ref g65, .ref g66, .ref g67, .ref g68])), (g65, .inl (cC0, 10, .inl (upd fc0 (0 : Int32).toNatClampNeg a1))), (g66, .inl (cC1, 10, .inl (upd fc1 (0 : Int32).toNatClampNeg a2))), (g67, .inl (cC2, 120, .inl (upd (upd (upd (upd (upd (upd (upd (upd (upd (upd fc2 (0 : Int32).toNatClampNeg (-9)) (1 : Int32).toNatClampNeg (-9)) (2 : Int32).toNatClampNeg (-9)) (3 : Int32).toNatClampNeg (-9)) (4 : Int32).toNatClampNeg (-9)) (5 : Int32).toNatClampNeg (-9)) (6 : Int32).toNatClampNeg (-9)) (7 : Int32).toNatClampNeg (-9)) (8 : Int32).toNatClampNeg (-9)) (9 : Int32).toNatClampNeg (-9)))), (g1, .inl (cF, 7, .inl (fun _ => 0)))] := hD
        refine lv_iinc (v := 10) (lv' := [(3, .int 10), (0, .ref m0), (1, .int a1), (2, .int a2)]) hx hb dX12_cast_86 hl (k := 0) rfl (by decide) (by decide) rfl (fun ls hl => ?_)
        refine lv_goto (tgt := 64) hx hb dX12_cast_89 (by decide) ?_
        refine lv_iload_n hx hb dX12_cast_64 rfl (lv_at hl 0 rfl) ?_
        refine lv_bipush (v := 12) hx hb dX12_cast_65 (by decide) ?_
        refine lv_icmp_ge (tgt := 92) hx hb dX12_cast_67 (by decide) (fun q9 => absurd q9 (by decide)) (fun _ => ?_)
        refine lv_aload_n hx hb dX12_cast_70 rfl (lv_at hl 1 rfl) ?_
        refine va_get (D := D) (ci := 12) (v := .ref g67) (C := RX12) (T := TX12) (N := 69) hx hb hts (fun _ h => List.mem_cons_of_mem _ (List.mem_append_right _ h)) hown hK hP 0 rfl rfl 67 (by decide) (hts (.fieldLink RX12 145 "TalePlayModel" "roles" "[I") (by decide +kernel)) (fun _ h9 => h9) rfl dX12_cast_71 ?_
        refine lv_bipush (v := 12) hx hb dX12_cast_74 (by decide) ?_
        refine lv_aload_n hx hb dX12_cast_76 rfl (lv_at hl 1 rfl) ?_
        refine va_get (D := D) (ci := 12) (v := .int 0) (C := RX12) (T := TX12) (N := 69) hx hb hts (fun _ h => List.mem_cons_of_mem _ (List.mem_append_right _ h)) hown hK hP 0 rfl rfl 64 (by decide) (hts (.fieldLink RX12 450 "TalePlayModel" "casts" "I") (by decide +kernel)) (fun _ h9 => h9) rfl dX12_cast_77 ?_
        refine lv_imul hx hb dX12_cast_80 ?_
        refine tp_i (y := 0) (by decide) ?_
        refine lv_iload_n hx hb dX12_cast_81 rfl (lv_at hl 0 rfl) ?_
        refine lv_iadd hx hb dX12_cast_82 ?_
        refine tp_i (y := 10) (by decide) ?_
        refine lv_bipush (v := (-9)) hx hb dX12_cast_83 (by decide) ?_
        refine va_iast hx hb hK hP hD hS 3 2 rfl rfl (show vp_in 10 120 from by unfold vp_in; decide) dX12_cast_85 (fun H locs hP hD hS => ?_)
        have hP : va_P D vwCl [(m0, .inr (12, [.int 0, .ref g1, .int 6, .ref g3, .ref g4, .int 0, .ref g6, .ref g7, .int 0, .ref g9, .ref g10, .ref g11, .ref g12, .ref g13, .ref g14, .int 0, .int 0, .int 0, .int 0, .int 0, .ref g20, .ref g21, .int (-9), .ref g23, .ref g24, .ref g25, .ref g26, .int 0, .ref g28, .ref g29, .ref g30, .ref g31, .ref g32, .int 0, .ref g34, .int 0, .int 0, .long 0, .ref g38, .ref g39, .int 0, .int 0, .int 0, .ref g43, .ref g44, .ref g45, .ref g46, .ref g47, .ref g48, .ref g49, .int 0, .ref g51, .ref g52, .ref g53, .ref g54, .ref g55, .ref g56, .int (-9), .int 0, .int 0, .ref g60, .ref g61, .ref g62, .ref g63, .int 0, .ref g65, .ref g66, .ref g67, .ref g68])), (g65, .inl (cC0, 10, .inl (upd fc0 (0 : Int32).toNatClampNeg a1))), (g66, .inl (cC1, 10, .inl (upd fc1 (0 : Int32).toNatClampNeg a2))), (g67, .inl (cC2, 120, .inl (upd (upd (upd (upd (upd (upd (upd (upd (upd (upd (upd fc2 (0 : Int32).toNatClampNeg (-9)) (1 : Int32).toNatClampNeg (-9)) (2 : Int32).toNatClampNeg (-9)) (3 : Int32).toNatClampNeg (-9)) (4 : Int32).toNatClampNeg (-9)) (5 : Int32).toNatClampNeg (-9)) (6 : Int32).toNatClampNeg (-9)) (7 : Int32).toNatClampNeg (-9)) (8 : Int32).toNatClampNeg (-9)) (9 : Int32).toNatClampNeg (-9)) (10 : Int32).toNatClampNeg (-9)))), (g1, .inl (cF, 7, .inl (fun _ => 0)))] H := hP
        have hD : va_D A [(m0, .inr (12, [.int 0, .ref g1, .int 6, .ref g3, .ref g4, .int 0, .ref g6, .ref g7, .int 0, .ref g9, .ref g10, .ref g11, .ref g12, .ref g13, .ref g14, .int 0, .int 0, .int 0, .int 0, .int 0, .ref g20, .ref g21, .int (-9), .ref g23, .ref g24, .ref g25, .ref g26, .int 0, .ref g28, .ref g29, .ref g30, .ref g31, .ref g32, .int 0, .ref g34, .int 0, .int 0, .long 0, .ref g38, .ref g39, .int 0, .int 0, .int 0, .ref g43, .ref g44, .ref g45, .ref g46, .ref g47, .ref g48, .ref g49, .int 0, .ref g51, .ref g52, .ref g53, .ref g54, .ref g55, .ref g56, .int (-9), .int 0, .int 0, .ref g60, .ref g61, .ref g62, .ref g63, .int 0, .ref g65, .ref g66, .ref g67, .ref g68])), (g65, .inl (cC0, 10, .inl (upd fc0 (0 : Int32).toNatClampNeg a1))), (g66, .inl (cC1, 10, .inl (upd fc1 (0 : Int32).toNatClampNeg a2))), (g67, .inl (cC2, 120, .inl (upd (upd (upd (upd (upd (upd (upd (upd (upd (upd (upd fc2 (0 : Int32).toNatClampNeg (-9)) (1 : Int32).toNatClampNeg (-9)) (2 : Int32).toNatClampNeg (-9)) (3 : Int32).toNatClampNeg (-9)) (4 : Int32).toNatClampNeg (-9)) (5 : Int32).toNatClampNeg (-9)) (6 : Int32).toNatClampNeg (-9)) (7 : Int32).toNatClampNeg (-9)) (8 : Int32).toNatClampNeg (-9)) (9 : Int32).toNatClampNeg (-9)) (10 : Int32).toNatClampNeg (-9)))), (g1, .inl (cF, 7, .inl (fun _ => 0)))] := hD
        refine lv_iinc (v := 11) (lv' := [(3, .int 11), (0, .ref m0), (1, .int a1), (2, .int a2)]) hx hb dX12_cast_86 hl (k := 0) rfl (by decide) (by decide) rfl (fun ls hl => ?_)
        refine lv_goto (tgt := 64) hx hb dX12_cast_89 (by decide) ?_
        refine lv_iload_n hx hb dX12_cast_64 rfl (lv_at hl 0 rfl) ?_
        refine lv_bipush (v := 12) hx hb dX12_cast_65 (by decide) ?_
        refine lv_icmp_ge (tgt := 92) hx hb dX12_cast_67 (by decide) (fun q9 => absurd q9 (by decide)) (fun _ => ?_)
        refine lv_aload_n hx hb dX12_cast_70 rfl (lv_at hl 1 rfl) ?_
        refine va_get (D := D) (ci := 12) (v := .ref g67) (C := RX12) (T := TX12) (N := 69) hx hb hts (fun _ h => List.mem_cons_of_mem _ (List.mem_append_right _ h)) hown hK hP 0 rfl rfl 67 (by decide) (hts (.fieldLink RX12 145 "TalePlayModel" "roles" "[I") (by decide +kernel)) (fun _ h9 => h9) rfl dX12_cast_71 ?_
        refine lv_bipush (v := 12) hx hb dX12_cast_74 (by decide) ?_
        refine lv_aload_n hx hb dX12_cast_76 rfl (lv_at hl 1 rfl) ?_
        refine va_get (D := D) (ci := 12) (v := .int 0) (C := RX12) (T := TX12) (N := 69) hx hb hts (fun _ h => List.mem_cons_of_mem _ (List.mem_append_right _ h)) hown hK hP 0 rfl rfl 64 (by decide) (hts (.fieldLink RX12 450 "TalePlayModel" "casts" "I") (by decide +kernel)) (fun _ h9 => h9) rfl dX12_cast_77 ?_
        refine lv_imul hx hb dX12_cast_80 ?_
        refine tp_i (y := 0) (by decide) ?_
        refine lv_iload_n hx hb dX12_cast_81 rfl (lv_at hl 0 rfl) ?_
        refine lv_iadd hx hb dX12_cast_82 ?_
        refine tp_i (y := 11) (by decide) ?_
        refine lv_bipush (v := (-9)) hx hb dX12_cast_83 (by decide) ?_
        refine va_iast hx hb hK hP hD hS 3 2 rfl rfl (show vp_in 11 120 from by unfold vp_in; decide) dX12_cast_85 (fun H locs hP hD hS => ?_)
        have hP : va_P D vwCl [(m0, .inr (12, [.int 0, .ref g1, .int 6, .ref g3, .ref g4, .int 0, .ref g6, .ref g7, .int 0, .ref g9, .ref g10, .ref g11, .ref g12, .ref g13, .ref g14, .int 0, .int 0, .int 0, .int 0, .int 0, .ref g20, .ref g21, .int (-9), .ref g23, .ref g24, .ref g25, .ref g26, .int 0, .ref g28, .ref g29, .ref g30, .ref g31, .ref g32, .int 0, .ref g34, .int 0, .int 0, .long 0, .ref g38, .ref g39, .int 0, .int 0, .int 0, .ref g43, .ref g44, .ref g45, .ref g46, .ref g47, .ref g48, .ref g49, .int 0, .ref g51, .ref g52, .ref g53, .ref g54, .ref g55, .ref g56, .int (-9), .int 0, .int 0, .ref g60, .ref g61, .ref g62, .ref g63, .int 0, .ref g65, .ref g66, .ref g67, .ref g68])), (g65, .inl (cC0, 10, .inl (upd fc0 (0 : Int32).toNatClampNeg a1))), (g66, .inl (cC1, 10, .inl (upd fc1 (0 : Int32).toNatClampNeg a2))), (g67, .inl (cC2, 120, .inl (upd (upd (upd (upd (upd (upd (upd (upd (upd (upd (upd (upd fc2 (0 : Int32).toNatClampNeg (-9)) (1 : Int32).toNatClampNeg (-9)) (2 : Int32).toNatClampNeg (-9)) (3 : Int32).toNatClampNeg (-9)) (4 : Int32).toNatClampNeg (-9)) (5 : Int32).toNatClampNeg (-9)) (6 : Int32).toNatClampNeg (-9)) (7 : Int32).toNatClampNeg (-9)) (8 : Int32).toNatClampNeg (-9)) (9 : Int32).toNatClampNeg (-9)) (10 : Int32).toNatClampNeg (-9)) (11 : Int32).toNatClampNeg (-9)))), (g1, .inl (cF, 7, .inl (fun _ => 0)))] H := hP
        have hD : va_D A [(m0, .inr (12, [.int 0, .ref g1, .int 6, .ref g3, .ref g4, .int 0, .ref g6, .ref g7, .int 0, .ref g9, .ref g10, .ref g11, .ref g12, .ref g13, .ref g14, .int 0, .int 0, .int 0, .int 0, .int 0, .ref g20, .ref g21, .int (-9), .ref g23, .ref g24, .ref g25, .ref g26, .int 0, .ref g28, .ref g29, .ref g30, .ref g31, .ref g32, .int 0, .ref g34, .int 0, .int 0, .long 0, .ref g38, .ref g39, .int 0, .int 0, .int 0, .ref g43, .ref g44, .ref g45, .ref g46, .ref g47, .ref g48, .ref g49, .int 0, .ref g51, .ref g52, .ref g53, .ref g54, .ref g55, .ref g56, .int (-9), .int 0, .int 0, .ref g60, .ref g61, .ref g62, .ref g63, .int 0, .ref g65, .ref g66, .ref g67, .ref g68])), (g65, .inl (cC0, 10, .inl (upd fc0 (0 : Int32).toNatClampNeg a1))), (g66, .inl (cC1, 10, .inl (upd fc1 (0 : Int32).toNatClampNeg a2))), (g67, .inl (cC2, 120, .inl (upd (upd (upd (upd (upd (upd (upd (upd (upd (upd (upd (upd fc2 (0 : Int32).toNatClampNeg (-9)) (1 : Int32).toNatClampNeg (-9)) (2 : Int32).toNatClampNeg (-9)) (3 : Int32).toNatClampNeg (-9)) (4 : Int32).toNatClampNeg (-9)) (5 : Int32).toNatClampNeg (-9)) (6 : Int32).toNatClampNeg (-9)) (7 : Int32).toNatClampNeg (-9)) (8 : Int32).toNatClampNeg (-9)) (9 : Int32).toNatClampNeg (-9)) (10 : Int32).toNatClampNeg (-9)) (11 : Int32).toNatClampNeg (-9)))), (g1, .inl (cF, 7, .inl (fun _ => 0)))] := hD
        refine lv_iinc (v := 12) (lv' := [(3, .int 12), (0, .ref m0), (1, .int a1), (2, .int a2)]) hx hb dX12_cast_86 hl (k := 0) rfl (by decide) (by decide) rfl (fun ls hl => ?_)
        refine lv_goto (tgt := 64) hx hb dX12_cast_89 (by decide) ?_
        refine lv_iload_n hx hb dX12_cast_64 rfl (lv_at hl 0 rfl) ?_
        refine lv_bipush (v := 12) hx hb dX12_cast_65 (by decide) ?_
        refine lv_icmp_ge (tgt := 92) hx hb dX12_cast_67 (by decide) (fun _ => ?_) (fun q9 => absurd (by decide) q9)
        refine lv_aload_n hx hb dX12_cast_92 rfl (lv_at hl 1 rfl) ?_
        refine lv_dup hx hb dX12_cast_93 rfl ?_
        refine va_get (D := D) (ci := 12) (v := .int 0) (C := RX12) (T := TX12) (N := 69) hx hb hts (fun _ h => List.mem_cons_of_mem _ (List.mem_append_right _ h)) hown hK hP 0 rfl rfl 64 (by decide) (hts (.fieldLink RX12 450 "TalePlayModel" "casts" "I") (by decide +kernel)) (fun _ h9 => h9) rfl dX12_cast_94 ?_
        refine lv_iconst (v := 1) hx hb dX12_cast_97 (by decide) ?_
        refine lv_iadd hx hb dX12_cast_98 ?_
        refine tp_i (y := 1) (by decide) ?_
        refine va_put (D := D) (ci := 12) (v := .int 1) (ty := .int) (C := RX12) (T := TX12) (N := 69) hx hb hts (fun _ h => List.mem_cons_of_mem _ (List.mem_append_right _ h)) tyX12 tyX12_ok nmX12 hown hK hP hD hS 0 rfl rfl 64 (by decide) (hts (.fieldLink RX12 450 "TalePlayModel" "casts" "I") (by decide +kernel)) (fun _ h9 => h9) rfl (by decide +kernel) rfl rfl (Nat.le_of_ble_eq_true rfl) dX12_cast_99 (fun H locs hP hD hS => ?_)
        have hP : va_P D vwCl [(m0, .inr (12, [.int 0, .ref g1, .int 6, .ref g3, .ref g4, .int 0, .ref g6, .ref g7, .int 0, .ref g9, .ref g10, .ref g11, .ref g12, .ref g13, .ref g14, .int 0, .int 0, .int 0, .int 0, .int 0, .ref g20, .ref g21, .int (-9), .ref g23, .ref g24, .ref g25, .ref g26, .int 0, .ref g28, .ref g29, .ref g30, .ref g31, .ref g32, .int 0, .ref g34, .int 0, .int 0, .long 0, .ref g38, .ref g39, .int 0, .int 0, .int 0, .ref g43, .ref g44, .ref g45, .ref g46, .ref g47, .ref g48, .ref g49, .int 0, .ref g51, .ref g52, .ref g53, .ref g54, .ref g55, .ref g56, .int (-9), .int 0, .int 0, .ref g60, .ref g61, .ref g62, .ref g63, .int 1, .ref g65, .ref g66, .ref g67, .ref g68])), (g65, .inl (cC0, 10, .inl (upd fc0 (0 : Int32).toNatClampNeg a1))), (g66, .inl (cC1, 10, .inl (upd fc1 (0 : Int32).toNatClampNeg a2))), (g67, .inl (cC2, 120, .inl (upd (upd (upd (upd (upd (upd (upd (upd (upd (upd (upd (upd fc2 (0 : Int32).toNatClampNeg (-9)) (1 : Int32).toNatClampNeg (-9)) (2 : Int32).toNatClampNeg (-9)) (3 : Int32).toNatClampNeg (-9)) (4 : Int32).toNatClampNeg (-9)) (5 : Int32).toNatClampNeg (-9)) (6 : Int32).toNatClampNeg (-9)) (7 : Int32).toNatClampNeg (-9)) (8 : Int32).toNatClampNeg (-9)) (9 : Int32).toNatClampNeg (-9)) (10 : Int32).toNatClampNeg (-9)) (11 : Int32).toNatClampNeg (-9)))), (g1, .inl (cF, 7, .inl (fun _ => 0)))] H := hP
        have hD : va_D A [(m0, .inr (12, [.int 0, .ref g1, .int 6, .ref g3, .ref g4, .int 0, .ref g6, .ref g7, .int 0, .ref g9, .ref g10, .ref g11, .ref g12, .ref g13, .ref g14, .int 0, .int 0, .int 0, .int 0, .int 0, .ref g20, .ref g21, .int (-9), .ref g23, .ref g24, .ref g25, .ref g26, .int 0, .ref g28, .ref g29, .ref g30, .ref g31, .ref g32, .int 0, .ref g34, .int 0, .int 0, .long 0, .ref g38, .ref g39, .int 0, .int 0, .int 0, .ref g43, .ref g44, .ref g45, .ref g46, .ref g47, .ref g48, .ref g49, .int 0, .ref g51, .ref g52, .ref g53, .ref g54, .ref g55, .ref g56, .int (-9), .int 0, .int 0, .ref g60, .ref g61, .ref g62, .ref g63, .int 1, .ref g65, .ref g66, .ref g67, .ref g68])), (g65, .inl (cC0, 10, .inl (upd fc0 (0 : Int32).toNatClampNeg a1))), (g66, .inl (cC1, 10, .inl (upd fc1 (0 : Int32).toNatClampNeg a2))), (g67, .inl (cC2, 120, .inl (upd (upd (upd (upd (upd (upd (upd (upd (upd (upd (upd (upd fc2 (0 : Int32).toNatClampNeg (-9)) (1 : Int32).toNatClampNeg (-9)) (2 : Int32).toNatClampNeg (-9)) (3 : Int32).toNatClampNeg (-9)) (4 : Int32).toNatClampNeg (-9)) (5 : Int32).toNatClampNeg (-9)) (6 : Int32).toNatClampNeg (-9)) (7 : Int32).toNatClampNeg (-9)) (8 : Int32).toNatClampNeg (-9)) (9 : Int32).toNatClampNeg (-9)) (10 : Int32).toNatClampNeg (-9)) (11 : Int32).toNatClampNeg (-9)))), (g1, .inl (cF, 7, .inl (fun _ => 0)))] := hD
        refine lv_aload_n hx hb dX12_cast_102 rfl (lv_at hl 1 rfl) ?_
        refine va_get (D := D) (ci := 12) (v := .int 1) (C := RX12) (T := TX12) (N := 69) hx hb hts (fun _ h => List.mem_cons_of_mem _ (List.mem_append_right _ h)) hown hK hP 0 rfl rfl 64 (by decide) (hts (.fieldLink RX12 450 "TalePlayModel" "casts" "I") (by decide +kernel)) (fun _ h9 => h9) rfl dX12_cast_103 ?_
        refine lv_iconst (v := 1) hx hb dX12_cast_106 (by decide) ?_
        refine lv_isub hx hb dX12_cast_107 ?_
        refine tp_i (y := 0) (by decide) ?_
        exact rw_iret () hx hb hr hlocks hS (hK.sub (tys' := []) [] rfl) (hP.sub (ws' := []) [] rfl) (hD.sub (ws' := []) [] (by decide) rfl) dX12_cast_108 (by show _ = _; (repeat' split) <;> first | rfl | (exfalso; omega))
      · have f4 := mt (ti_le (a := 0) (b := a2.toInt) (by decide) rfl).mpr c4
        refine lv_aload_n hx hb dX12_cast_36 rfl (lv_at hl 0 rfl) ?_
        refine lv_iconst (v := 5) hx hb dX12_cast_37 (by decide) ?_
        have hPc := hP.sub (ws' := [(m0, .inr (12, [.int 0, .ref g1, .int 6, .ref g3, .ref g4, .int 0, .ref g6, .ref g7, .int 0, .ref g9, .ref g10, .ref g11, .ref g12, .ref g13, .ref g14, .int 0, .int 0, .int 0, .int 0, .int 0, .ref g20, .ref g21, .int (-9), .ref g23, .ref g24, .ref g25, .ref g26, .int 0, .ref g28, .ref g29, .ref g30, .ref g31, .ref g32, .int 0, .ref g34, .int 0, .int 0, .long 0, .ref g38, .ref g39, .int 0, .int 0, .int 0, .ref g43, .ref g44, .ref g45, .ref g46, .ref g47, .ref g48, .ref g49, .int 0, .ref g51, .ref g52, .ref g53, .ref g54, .ref g55, .ref g56, .int (-9), .int 0, .int 0, .ref g60, .ref g61, .ref g62, .ref g63, .int 0, .ref g65, .ref g66, .ref g67, .ref g68])), (g1, .inl (cF, 7, .inl (fun _ => 0)))]) [0, 4] rfl
        have hKc := hK.sub (tys' := [(cF, .int)]) [3] rfl
        have hDc := hD.sub (ws' := [(m0, .inr (12, [.int 0, .ref g1, .int 6, .ref g3, .ref g4, .int 0, .ref g6, .ref g7, .int 0, .ref g9, .ref g10, .ref g11, .ref g12, .ref g13, .ref g14, .int 0, .int 0, .int 0, .int 0, .int 0, .ref g20, .ref g21, .int (-9), .ref g23, .ref g24, .ref g25, .ref g26, .int 0, .ref g28, .ref g29, .ref g30, .ref g31, .ref g32, .int 0, .ref g34, .int 0, .int 0, .long 0, .ref g38, .ref g39, .int 0, .int 0, .int 0, .ref g43, .ref g44, .ref g45, .ref g46, .ref g47, .ref g48, .ref g49, .int 0, .ref g51, .ref g52, .ref g53, .ref g54, .ref g55, .ref g56, .int (-9), .int 0, .int 0, .ref g60, .ref g61, .ref g62, .ref g63, .int 0, .ref g65, .ref g66, .ref g67, .ref g68])), (g1, .inl (cF, 7, .inl (fun _ => 0)))]) [0, 4] (by decide) rfl
        refine rw_calli (wr := [(g65, .inl (cC0, 10, .inl fc0)), (g66, .inl (cC1, 10, .inl fc1)), (g67, .inl (cC2, 120, .inl fc2))]) (va_runV (As := [.int 5]) (rest := []) ⟨hx, hb, hml, hown, hts⟩ (c_X12_meets l D H.size m0 g1 g3 g4 g6 g7 g9 g10 g11 g12 g13 g14 g20 g21 g23 g24 g25 g26 g28 g29 g30 g31 g32 g34 g38 g39 g43 g44 g45 g46 g47 g48 g49 g51 g52 g53 g54 g55 g56 g60 g61 g62 g63 g65 g66 g67 g68 cF) (cwV 1 hts gm_X12_cast_X12_meets rfl rfl rfl (by decide +kernel) ⟨Nat.le_of_ble_eq_true rfl, Nat.le_of_ble_eq_true rfl⟩) (pB_V hKc hPc hDc (ci := 12) (q0 := 0) rfl rfl) rfl rfl hl.1 rfl (lv_room (Nat.le_of_ble_eq_true rfl)) dX12_cast_38 ⟨Nat.le_of_ble_eq_true rfl, Nat.le_of_ble_eq_true rfl⟩) hS hA hK hP hD [0, 4] [1, 2, 3] rfl rfl (by decide) (by decide) (fun r5 u5 H locs hw5 hK hP hD hS => ?_)
        have hP : va_P D vwCl [(g65, .inl (cC0, 10, .inl fc0)), (g66, .inl (cC1, 10, .inl fc1)), (g67, .inl (cC2, 120, .inl fc2))] H := hP
        have hD : va_D A [(g65, .inl (cC0, 10, .inl fc0)), (g66, .inl (cC1, 10, .inl fc1)), (g67, .inl (cC2, 120, .inl fc2))] := hD
        have hK : va_K D vwCl [(cC0, .int), (cC1, .int), (cC2, .int), (cF, .int)] s := hK
        have hw5 : r5 = (-3) := hw5
        subst hw5
        exact rw_iret () hx hb hr hlocks hS (hK.sub (tys' := []) [] rfl) (hP.sub (ws' := []) [] rfl) (hD.sub (ws' := []) [] (by decide) rfl) dX12_cast_41 (by show _ = _; (repeat' split) <;> first | rfl | (exfalso; omega))
    · have f3 := mt (ti_le (a := a2.toInt) (b := 12) rfl (by decide)).mpr c3
      refine lv_iconst (v := (-1)) hx hb dX12_cast_18 (by decide) ?_
      exact rw_iret () hx hb hr hlocks hS (hK.sub (tys' := []) [] rfl) (hP.sub (ws' := []) [] rfl) (hD.sub (ws' := []) [] (by decide) rfl) dX12_cast_19 (by show _ = _; (repeat' split) <;> first | rfl | (exfalso; omega))

def wm_X12_count : List Cond := .code yX12_count cX12_count 2 (some .int) :: (([.fieldLink RX12 151 "TalePlayModel" "kinds" "I", .fieldLink RX12 177 "TalePlayModel" "objects" "I", .methodLink RX12 248 yX12_saidMany, .instanceMethod yX12_saidMany, .selects RX12 yX12_saidMany yX12_saidMany, .initialized RX12, .code yX12_saidMany cX12_saidMany 3 (some .int), .fieldLink RX12 202 "TalePlayModel" "sentences" "I", .fieldLink RX12 450 "TalePlayModel" "casts" "I", .fieldLink RX12 291 "TalePlayModel" "turns" "I", .fieldLink RX12 155 "TalePlayModel" "player" "I", .fieldLink RX12 158 "TalePlayModel" "soughtMany" "I"] : List Cond) ++ wsX120)
set_option maxRecDepth 20000 in
theorem gm_X12_count_X12_saidMany : GoodIn wm_X12_count (wsV RX12 248 RX12 yX12_saidMany wm_X12_saidMany) := goodIn_app (goodIn_of _ (by decide +kernel)) (goodIn_r _ [7, 8, 13, 14, 15, 16, 17, 18, 19, 20, 21, 22, 23, 24, 25, 26, 27, 28, 29, 30, 31, 32, 33, 34, 35, 36, 37, 38, 39, 40, 41, 42, 43, 44, 45, 46, 47, 48, 49, 50, 51, 52, 53, 54, 55, 56, 57, 58, 59, 60, 61, 62, 63, 64, 65, 66, 67, 68, 69, 70, 71, 72, 73, 74, 75, 76, 77, 78, 79, 80, 81] (by decide +kernel) (by decide +kernel))
set_option maxHeartbeats 4000000 in
set_option maxRecDepth 100000 in
/-- count() of a fresh reference -/
theorem c_X12_count (l : Launch) (D : va_G) (sz : Nat) (m0 : Nat) (g1 : Nat) (g3 : Nat) (g4 : Nat) (g6 : Nat) (g7 : Nat) (g9 : Nat) (g10 : Nat) (g11 : Nat) (g12 : Nat) (g13 : Nat) (g14 : Nat) (g20 : Nat) (g21 : Nat) (g23 : Nat) (g24 : Nat) (g25 : Nat) (g26 : Nat) (g28 : Nat) (g29 : Nat) (g30 : Nat) (g31 : Nat) (g32 : Nat) (g34 : Nat) (g38 : Nat) (g39 : Nat) (g43 : Nat) (g44 : Nat) (g45 : Nat) (g46 : Nat) (g47 : Nat) (g48 : Nat) (g49 : Nat) (g51 : Nat) (g52 : Nat) (g53 : Nat) (g54 : Nat) (g55 : Nat) (g56 : Nat) (g60 : Nat) (g61 : Nat) (g62 : Nat) (g63 : Nat) (g65 : Nat) (g66 : Nat) (g67 : Nat) (g68 : Nat) (a1 : Int32) : Met l yX12_count wm_X12_count ({ frames := 1, cells := 0, slots := 0, locals := 22 }) (va_Pc [.ref m0, .int a1] (pA D sz [(m0, .inr (12, [.int 0, .ref g1, .int 6, .ref g3, .ref g4, .int 0, .ref g6, .ref g7, .int 0, .ref g9, .ref g10, .ref g11, .ref g12, .ref g13, .ref g14, .int 0, .int 0, .int 0, .int 0, .int 0, .ref g20, .ref g21, .int (-9), .ref g23, .ref g24, .ref g25, .ref g26, .int 0, .ref g28, .ref g29, .ref g30, .ref g31, .ref g32, .int 0, .ref g34, .int 0, .int 0, .long 0, .ref g38, .ref g39, .int 0, .int 0, .int 0, .ref g43, .ref g44, .ref g45, .ref g46, .ref g47, .ref g48, .ref g49, .int 0, .ref g51, .ref g52, .ref g53, .ref g54, .ref g55, .ref g56, .int (-9), .int 0, .int 0, .ref g60, .ref g61, .ref g62, .ref g63, .int 0, .ref g65, .ref g66, .ref g67, .ref g68]))] [])) (va_Qi (fun (r : Int32) (_ : Unit) => r = if a1.toInt = 0 then 6 else if (1 ≤ a1.toInt ∧ a1.toInt ≤ 5) then 0 else if (a1.toInt = 6 ∨ a1.toInt = 7) then -9 else -1) oA (ro sz)) 0 0 (ro sz) := by
  refine Met.ofW (cc := cX12_count) (maxL := 2) (ret := (some .int)) (by decide) rfl ?_
  intro p e s m args below meth c s₁ B hml hv
  obtain ⟨rfl, hsz, hP, hK⟩ := hv
  have hx := B.exec
  have hb := B.bytes
  have hr := B.returns
  have hts := atoms_spec (ws := wm_X12_count) B.pre
  have hown : s.vm.findClass RX12 = some m.cls := findClass_of_methodNamed B.named
  have hlocks := B.notSynchronized
  subst hsz
  have hA : ∀ q : Nat, s.heap.size ≤ q → ro s.heap.size q := fun _ h => h
  have hS : va_S (ro s.heap.size) s.heap s.heap [] := va_S.rf
  have hP : va_P D vwCl [(m0, .inr (12, [.int 0, .ref g1, .int 6, .ref g3, .ref g4, .int 0, .ref g6, .ref g7, .int 0, .ref g9, .ref g10, .ref g11, .ref g12, .ref g13, .ref g14, .int 0, .int 0, .int 0, .int 0, .int 0, .ref g20, .ref g21, .int (-9), .ref g23, .ref g24, .ref g25, .ref g26, .int 0, .ref g28, .ref g29, .ref g30, .ref g31, .ref g32, .int 0, .ref g34, .int 0, .int 0, .long 0, .ref g38, .ref g39, .int 0, .int 0, .int 0, .ref g43, .ref g44, .ref g45, .ref g46, .ref g47, .ref g48, .ref g49, .int 0, .ref g51, .ref g52, .ref g53, .ref g54, .ref g55, .ref g56, .int (-9), .int 0, .int 0, .ref g60, .ref g61, .ref g62, .ref g63, .int 0, .ref g65, .ref g66, .ref g67, .ref g68]))] s.heap := hP
  have hl := lv_entry ([.ref m0, .int a1]) (n := 2) (Nat.le_of_ble_eq_true rfl)
  rw [lg_entry_eq]
  generalize (lg_sl ([.ref m0, .int a1]) ++ List.replicate (2 - (lg_sl ([.ref m0, .int a1])).length) Slot.unset).toArray = ls at hl ⊢
  have hl : lv_has ls 2 [(0, .ref m0), (1, .int a1)] := hl
  refine lv_iload_n hx hb dX12_count_0 rfl (lv_at hl 1 rfl) ?_
  rcases (show (a1.toInt < 0 ∨ 7 < a1.toInt) ∨ a1.toInt = 0 ∨ a1.toInt = 1 ∨ a1.toInt = 2 ∨ a1.toInt = 3 ∨ a1.toInt = 4 ∨ a1.toInt = 5 ∨ a1.toInt = 6 ∨ a1.toInt = 7 by omega) with f1 | f1 | f1 | f1 | f1 | f1 | f1 | f1 | f1
  · refine lv_tableOut (tgt := 88) hx hb dX12_count_1 f1 (by decide) ?_
    refine lv_iconst (v := (-1)) hx hb dX12_count_88 (by decide) ?_
    exact ro_iret hx hb hr hlocks hS dX12_count_89 (by show _ = _; (repeat' split) <;> first | rfl | (exfalso; omega))
  · refine lv_tableIn (off := 47) (tgt := 48) hx hb dX12_count_1 (by omega) (by omega) (by rw [f1]; rfl) (by decide) ?_
    refine lv_aload_n hx hb dX12_count_48 rfl (lv_at hl 0 rfl) ?_
    refine va_get (D := D) (ci := 12) (v := .int 6) (C := RX12) (T := TX12) (N := 69) hx hb hts (fun _ h => List.mem_cons_of_mem _ (List.mem_append_right _ h)) hown hK hP 0 rfl rfl 2 (by decide) (hts (.fieldLink RX12 151 "TalePlayModel" "kinds" "I") (by decide +kernel)) (fun _ h9 => h9) rfl dX12_count_49 ?_
    exact ro_iret hx hb hr hlocks hS dX12_count_52 (by show _ = _; (repeat' split) <;> first | rfl | (exfalso; omega))
  · refine lv_tableIn (off := 52) (tgt := 53) hx hb dX12_count_1 (by omega) (by omega) (by rw [f1]; rfl) (by decide) ?_
    refine lv_aload_n hx hb dX12_count_53 rfl (lv_at hl 0 rfl) ?_
    refine va_get (D := D) (ci := 12) (v := .int 0) (C := RX12) (T := TX12) (N := 69) hx hb hts (fun _ h => List.mem_cons_of_mem _ (List.mem_append_right _ h)) hown hK hP 0 rfl rfl 5 (by decide) (hts (.fieldLink RX12 177 "TalePlayModel" "objects" "I") (by decide +kernel)) (fun _ h9 => h9) rfl dX12_count_54 ?_
    exact ro_iret hx hb hr hlocks hS dX12_count_57 (by show _ = _; (repeat' split) <;> first | rfl | (exfalso; omega))
  · refine lv_tableIn (off := 57) (tgt := 58) hx hb dX12_count_1 (by omega) (by omega) (by rw [f1]; rfl) (by decide) ?_
    refine lv_aload_n hx hb dX12_count_58 rfl (lv_at hl 0 rfl) ?_
    have hPc := hP.sub (ws' := [(m0, .inr (12, [.int 0, .ref g1, .int 6, .ref g3, .ref g4, .int 0, .ref g6, .ref g7, .int 0, .ref g9, .ref g10, .ref g11, .ref g12, .ref g13, .ref g14, .int 0, .int 0, .int 0, .int 0, .int 0, .ref g20, .ref g21, .int (-9), .ref g23, .ref g24, .ref g25, .ref g26, .int 0, .ref g28, .ref g29, .ref g30, .ref g31, .ref g32, .int 0, .ref g34, .int 0, .int 0, .long 0, .ref g38, .ref g39, .int 0, .int 0, .int 0, .ref g43, .ref g44, .ref g45, .ref g46, .ref g47, .ref g48, .ref g49, .int 0, .ref g51, .ref g52, .ref g53, .ref g54, .ref g55, .ref g56, .int (-9), .int 0, .int 0, .ref g60, .ref g61, .ref g62, .ref g63, .int 0, .ref g65, .ref g66, .ref g67, .ref g68]))]) [0] rfl
    have hKc := hK.sub (tys' := []) [] rfl
    refine ro_calli (va_runV (As := []) (rest := []) ⟨hx, hb, hml, hown, hts⟩ (c_X12_saidMany l D s.heap.size m0 g1 g3 g4 g6 g7 g9 g10 g11 g12 g13 g14 g20 g21 g23 g24 g25 g26 g28 g29 g30 g31 g32 g34 g38 g39 g43 g44 g45 g46 g47 g48 g49 g51 g52 g53 g54 g55 g56 g60 g61 g62 g63 g65 g66 g67 g68) (cwV 0 hts gm_X12_count_X12_saidMany rfl rfl rfl (by decide +kernel) ⟨Nat.le_of_ble_eq_true rfl, Nat.le_of_ble_eq_true rfl⟩) (pA_V hKc hPc (ci := 12) (q0 := 0) rfl rfl) rfl rfl hl.1 rfl (lv_room (Nat.le_of_ble_eq_true rfl)) dX12_count_59 ⟨Nat.le_of_ble_eq_true rfl, Nat.le_of_ble_eq_true rfl⟩) hS hA hP (fun r2 u2 H locs hw2 hP hS => ?_)
    have hw2 : r2 = 0 := hw2
    subst hw2
    exact ro_iret hx hb hr hlocks hS dX12_count_62 (by show _ = _; (repeat' split) <;> first | rfl | (exfalso; omega))
  · refine lv_tableIn (off := 62) (tgt := 63) hx hb dX12_count_1 (by omega) (by omega) (by rw [f1]; rfl) (by decide) ?_
    refine lv_aload_n hx hb dX12_count_63 rfl (lv_at hl 0 rfl) ?_
    refine va_get (D := D) (ci := 12) (v := .int 0) (C := RX12) (T := TX12) (N := 69) hx hb hts (fun _ h => List.mem_cons_of_mem _ (List.mem_append_right _ h)) hown hK hP 0 rfl rfl 8 (by decide) (hts (.fieldLink RX12 202 "TalePlayModel" "sentences" "I") (by decide +kernel)) (fun _ h9 => h9) rfl dX12_count_64 ?_
    exact ro_iret hx hb hr hlocks hS dX12_count_67 (by show _ = _; (repeat' split) <;> first | rfl | (exfalso; omega))
  · refine lv_tableIn (off := 67) (tgt := 68) hx hb dX12_count_1 (by omega) (by omega) (by rw [f1]; rfl) (by decide) ?_
    refine lv_aload_n hx hb dX12_count_68 rfl (lv_at hl 0 rfl) ?_
    refine va_get (D := D) (ci := 12) (v := .int 0) (C := RX12) (T := TX12) (N := 69) hx hb hts (fun _ h => List.mem_cons_of_mem _ (List.mem_append_right _ h)) hown hK hP 0 rfl rfl 64 (by decide) (hts (.fieldLink RX12 450 "TalePlayModel" "casts" "I") (by decide +kernel)) (fun _ h9 => h9) rfl dX12_count_69 ?_
    exact ro_iret hx hb hr hlocks hS dX12_count_72 (by show _ = _; (repeat' split) <;> first | rfl | (exfalso; omega))
  · refine lv_tableIn (off := 72) (tgt := 73) hx hb dX12_count_1 (by omega) (by omega) (by rw [f1]; rfl) (by decide) ?_
    refine lv_aload_n hx hb dX12_count_73 rfl (lv_at hl 0 rfl) ?_
    refine va_get (D := D) (ci := 12) (v := .int 0) (C := RX12) (T := TX12) (N := 69) hx hb hts (fun _ h => List.mem_cons_of_mem _ (List.mem_append_right _ h)) hown hK hP 0 rfl rfl 27 (by decide) (hts (.fieldLink RX12 291 "TalePlayModel" "turns" "I") (by decide +kernel)) (fun _ h9 => h9) rfl dX12_count_74 ?_
    exact ro_iret hx hb hr hlocks hS dX12_count_77 (by show _ = _; (repeat' split) <;> first | rfl | (exfalso; omega))
  · refine lv_tableIn (off := 77) (tgt := 78) hx hb dX12_count_1 (by omega) (by omega) (by rw [f1]; rfl) (by decide) ?_
    refine lv_aload_n hx hb dX12_count_78 rfl (lv_at hl 0 rfl) ?_
    refine va_get (D := D) (ci := 12) (v := .int (-9)) (C := RX12) (T := TX12) (N := 69) hx hb hts (fun _ h => List.mem_cons_of_mem _ (List.mem_append_right _ h)) hown hK hP 0 rfl rfl 22 (by decide) (hts (.fieldLink RX12 155 "TalePlayModel" "player" "I") (by decide +kernel)) (fun _ h9 => h9) rfl dX12_count_79 ?_
    exact ro_iret hx hb hr hlocks hS dX12_count_82 (by show _ = _; (repeat' split) <;> first | rfl | (exfalso; omega))
  · refine lv_tableIn (off := 82) (tgt := 83) hx hb dX12_count_1 (by omega) (by omega) (by rw [f1]; rfl) (by decide) ?_
    refine lv_aload_n hx hb dX12_count_83 rfl (lv_at hl 0 rfl) ?_
    refine va_get (D := D) (ci := 12) (v := .int (-9)) (C := RX12) (T := TX12) (N := 69) hx hb hts (fun _ h => List.mem_cons_of_mem _ (List.mem_append_right _ h)) hown hK hP 0 rfl rfl 57 (by decide) (hts (.fieldLink RX12 158 "TalePlayModel" "soughtMany" "I") (by decide +kernel)) (fun _ h9 => h9) rfl dX12_count_84 ?_
    exact ro_iret hx hb hr hlocks hS dX12_count_87 (by show _ = _; (repeat' split) <;> first | rfl | (exfalso; omega))

def wm_X12_findings : List Cond := .code yX12_findings cX12_findings 2 (some .int) :: (([.constantLong RX12 164 (6), .methodLink RX12 166 yX12_in, .static yX12_in, .initialized RX12, .code yX12_in cX12_in 6 (some .boolean), .fieldLink RX12 7 "TalePlayModel" "came" "[I"] : List Cond) ++ wsX120)
set_option maxRecDepth 20000 in
theorem gm_X12_findings_X12_in : GoodIn wm_X12_findings (va_wsS RX12 166 yX12_in wm_X12_in) := goodIn_app (goodIn_of _ (by decide +kernel)) (goodIn_r _ [5] (by decide +kernel) (by decide +kernel))
set_option maxHeartbeats 4000000 in
set_option maxRecDepth 100000 in
/-- findings() of a fresh reference -/
theorem c_X12_findings (l : Launch) (D : va_G) (sz : Nat) (m0 : Nat) (g1 : Nat) (g3 : Nat) (g4 : Nat) (g6 : Nat) (g7 : Nat) (g9 : Nat) (g10 : Nat) (g11 : Nat) (g12 : Nat) (g13 : Nat) (g14 : Nat) (g20 : Nat) (g21 : Nat) (g23 : Nat) (g24 : Nat) (g25 : Nat) (g26 : Nat) (g28 : Nat) (g29 : Nat) (g30 : Nat) (g31 : Nat) (g32 : Nat) (g34 : Nat) (g38 : Nat) (g39 : Nat) (g43 : Nat) (g44 : Nat) (g45 : Nat) (g46 : Nat) (g47 : Nat) (g48 : Nat) (g49 : Nat) (g51 : Nat) (g52 : Nat) (g53 : Nat) (g54 : Nat) (g55 : Nat) (g56 : Nat) (g60 : Nat) (g61 : Nat) (g62 : Nat) (g63 : Nat) (g65 : Nat) (g66 : Nat) (g67 : Nat) (g68 : Nat) (cF : ClassId) (a1 : Int32) : Met l yX12_findings wm_X12_findings ({ frames := 1, cells := 0, slots := 0, locals := 25 }) (va_Pc [.ref m0, .int a1] (pA D sz [(m0, .inr (12, [.int 0, .ref g1, .int 6, .ref g3, .ref g4, .int 0, .ref g6, .ref g7, .int 0, .ref g9, .ref g10, .ref g11, .ref g12, .ref g13, .ref g14, .int 0, .int 0, .int 0, .int 0, .int 0, .ref g20, .ref g21, .int (-9), .ref g23, .ref g24, .ref g25, .ref g26, .int 0, .ref g28, .ref g29, .ref g30, .ref g31, .ref g32, .int 0, .ref g34, .int 0, .int 0, .long 0, .ref g38, .ref g39, .int 0, .int 0, .int 0, .ref g43, .ref g44, .ref g45, .ref g46, .ref g47, .ref g48, .ref g49, .int 0, .ref g51, .ref g52, .ref g53, .ref g54, .ref g55, .ref g56, .int (-9), .int 0, .int 0, .ref g60, .ref g61, .ref g62, .ref g63, .int 0, .ref g65, .ref g66, .ref g67, .ref g68])), (g1, .inl (cF, 7, .inl (fun _ => 0)))] [(cF, .int)])) (va_Qi (fun (r : Int32) (_ : Unit) => r = if (1 ≤ a1.toInt ∧ a1.toInt ≤ 6) then 0 else -1) oA (ro sz)) 0 0 (ro sz) := by
  refine Met.ofW (cc := cX12_findings) (maxL := 2) (ret := (some .int)) (by decide) rfl ?_
  intro p e s m args below meth c s₁ B hml hv
  obtain ⟨rfl, hsz, hP, hK⟩ := hv
  have hx := B.exec
  have hb := B.bytes
  have hr := B.returns
  have hts := atoms_spec (ws := wm_X12_findings) B.pre
  have hown : s.vm.findClass RX12 = some m.cls := findClass_of_methodNamed B.named
  have hlocks := B.notSynchronized
  subst hsz
  have hA : ∀ q : Nat, s.heap.size ≤ q → ro s.heap.size q := fun _ h => h
  have hS : va_S (ro s.heap.size) s.heap s.heap [] := va_S.rf
  have hP : va_P D vwCl [(m0, .inr (12, [.int 0, .ref g1, .int 6, .ref g3, .ref g4, .int 0, .ref g6, .ref g7, .int 0, .ref g9, .ref g10, .ref g11, .ref g12, .ref g13, .ref g14, .int 0, .int 0, .int 0, .int 0, .int 0, .ref g20, .ref g21, .int (-9), .ref g23, .ref g24, .ref g25, .ref g26, .int 0, .ref g28, .ref g29, .ref g30, .ref g31, .ref g32, .int 0, .ref g34, .int 0, .int 0, .long 0, .ref g38, .ref g39, .int 0, .int 0, .int 0, .ref g43, .ref g44, .ref g45, .ref g46, .ref g47, .ref g48, .ref g49, .int 0, .ref g51, .ref g52, .ref g53, .ref g54, .ref g55, .ref g56, .int (-9), .int 0, .int 0, .ref g60, .ref g61, .ref g62, .ref g63, .int 0, .ref g65, .ref g66, .ref g67, .ref g68])), (g1, .inl (cF, 7, .inl (fun _ => 0)))] s.heap := hP
  have hl := lv_entry ([.ref m0, .int a1]) (n := 2) (Nat.le_of_ble_eq_true rfl)
  rw [lg_entry_eq]
  generalize (lg_sl ([.ref m0, .int a1]) ++ List.replicate (2 - (lg_sl ([.ref m0, .int a1])).length) Slot.unset).toArray = ls at hl ⊢
  have hl : lv_has ls 2 [(0, .ref m0), (1, .int a1)] := hl
  refine lv_iload_n hx hb dX12_findings_0 rfl (lv_at hl 1 rfl) ?_
  refine lv_i2l (v := a1.toInt64) hx hb dX12_findings_1 rfl ?_
  refine lv_lconst (v := 1) hx hb dX12_findings_2 (by decide) ?_
  refine lv_ldc2 (v := 6) hx hb hown (hts (.constantLong RX12 164 (6)) (by decide +kernel)) dX12_findings_3 ?_
  have hPc := hP.sub (ws' := []) [] rfl
  have hKc := hK.sub (tys' := []) [] rfl
  refine ro_calli (va_runS (As := [.long a1.toInt64, .long 1, .long 6]) (rest := []) ⟨hx, hb, hml, hown, hts⟩ (c_X12_in l D s.heap.size a1.toInt64 1 6 a1.toInt 1 6 ((Int32.toInt_toInt64 a1).trans rfl) (by decide) (by decide)) (va_cwS 3 hts gm_X12_findings_X12_in rfl rfl rfl (by decide +kernel) ⟨Nat.le_of_ble_eq_true rfl, Nat.le_of_ble_eq_true rfl⟩) (pA_S hKc hPc) rfl rfl hl.1 rfl (lv_room (Nat.le_of_ble_eq_true rfl)) dX12_findings_6 ⟨Nat.le_of_ble_eq_true rfl, Nat.le_of_ble_eq_true rfl⟩) hS hA hP (fun r1 u1 H locs hw1 hP hS => ?_)
  have hw1 : r1 = if (1 ≤ a1.toInt ∧ a1.toInt ≤ 6) then 1 else 0 := hw1
  refine lv_if_eq (tgt := 21) hx hb dX12_findings_9 (by decide) (fun c2 => ?_) (fun c2 => ?_)
  · have f2 := fl_f hw1 c2
    refine lv_iconst (v := (-1)) hx hb dX12_findings_21 (by decide) ?_
    exact ro_iret hx hb hr hlocks hS dX12_findings_22 (by show _ = _; (repeat' split) <;> first | rfl | (exfalso; omega))
  · have f2 := fl_t hw1 c2
    refine lv_aload_n hx hb dX12_findings_12 rfl (lv_at hl 0 rfl) ?_
    refine va_get (D := D) (ci := 12) (v := .ref g1) (C := RX12) (T := TX12) (N := 69) hx hb hts (fun _ h => List.mem_cons_of_mem _ (List.mem_append_right _ h)) hown hK hP 0 rfl rfl 1 (by decide) (hts (.fieldLink RX12 7 "TalePlayModel" "came" "[I") (by decide +kernel)) (fun _ h9 => h9) rfl dX12_findings_13 ?_
    refine lv_iload_n hx hb dX12_findings_16 rfl (lv_at hl 1 rfl) ?_
    refine va_iald hx hb hK hP 1 0 rfl rfl (vp_in_iff.mpr (by have h9 := (rfl : a1.toInt = _); omega)) dX12_findings_17 ?_
    refine tp_i (y := 0) rfl ?_
    refine lv_goto (tgt := 22) hx hb dX12_findings_18 (by decide) ?_
    exact ro_iret hx hb hr hlocks hS dX12_findings_22 (by show _ = _; (repeat' split) <;> first | rfl | (exfalso; omega))

def wm_X12_finding : List Cond := .code yX12_finding cX12_finding 1 (some .int) :: (([.fieldLink RX12 161 "TalePlayModel" "latest" "I"] : List Cond) ++ wsX120)
set_option maxHeartbeats 4000000 in
set_option maxRecDepth 100000 in
/-- finding() of a fresh reference -/
theorem c_X12_finding (l : Launch) (D : va_G) (sz : Nat) (m0 : Nat) (g1 : Nat) (g3 : Nat) (g4 : Nat) (g6 : Nat) (g7 : Nat) (g9 : Nat) (g10 : Nat) (g11 : Nat) (g12 : Nat) (g13 : Nat) (g14 : Nat) (g20 : Nat) (g21 : Nat) (g23 : Nat) (g24 : Nat) (g25 : Nat) (g26 : Nat) (g28 : Nat) (g29 : Nat) (g30 : Nat) (g31 : Nat) (g32 : Nat) (g34 : Nat) (g38 : Nat) (g39 : Nat) (g43 : Nat) (g44 : Nat) (g45 : Nat) (g46 : Nat) (g47 : Nat) (g48 : Nat) (g49 : Nat) (g51 : Nat) (g52 : Nat) (g53 : Nat) (g54 : Nat) (g55 : Nat) (g56 : Nat) (g60 : Nat) (g61 : Nat) (g62 : Nat) (g63 : Nat) (g65 : Nat) (g66 : Nat) (g67 : Nat) (g68 : Nat) : Met l yX12_finding wm_X12_finding ({ frames := 0, cells := 0, slots := 0, locals := 0 }) (va_Pc [.ref m0] (pA D sz [(m0, .inr (12, [.int 0, .ref g1, .int 6, .ref g3, .ref g4, .int 0, .ref g6, .ref g7, .int 0, .ref g9, .ref g10, .ref g11, .ref g12, .ref g13, .ref g14, .int 0, .int 0, .int 0, .int 0, .int 0, .ref g20, .ref g21, .int (-9), .ref g23, .ref g24, .ref g25, .ref g26, .int 0, .ref g28, .ref g29, .ref g30, .ref g31, .ref g32, .int 0, .ref g34, .int 0, .int 0, .long 0, .ref g38, .ref g39, .int 0, .int 0, .int 0, .ref g43, .ref g44, .ref g45, .ref g46, .ref g47, .ref g48, .ref g49, .int 0, .ref g51, .ref g52, .ref g53, .ref g54, .ref g55, .ref g56, .int (-9), .int 0, .int 0, .ref g60, .ref g61, .ref g62, .ref g63, .int 0, .ref g65, .ref g66, .ref g67, .ref g68]))] [])) (va_Qi (fun (r : Int32) (_ : Unit) => r = 0) oA (ro sz)) 0 0 (ro sz) := by
  refine Met.ofW (cc := cX12_finding) (maxL := 1) (ret := (some .int)) (by decide) rfl ?_
  intro p e s m args below meth c s₁ B hml hv
  obtain ⟨rfl, hsz, hP, hK⟩ := hv
  have hx := B.exec
  have hb := B.bytes
  have hr := B.returns
  have hts := atoms_spec (ws := wm_X12_finding) B.pre
  have hown : s.vm.findClass RX12 = some m.cls := findClass_of_methodNamed B.named
  have hlocks := B.notSynchronized
  subst hsz
  have hA : ∀ q : Nat, s.heap.size ≤ q → ro s.heap.size q := fun _ h => h
  have hS : va_S (ro s.heap.size) s.heap s.heap [] := va_S.rf
  have hP : va_P D vwCl [(m0, .inr (12, [.int 0, .ref g1, .int 6, .ref g3, .ref g4, .int 0, .ref g6, .ref g7, .int 0, .ref g9, .ref g10, .ref g11, .ref g12, .ref g13, .ref g14, .int 0, .int 0, .int 0, .int 0, .int 0, .ref g20, .ref g21, .int (-9), .ref g23, .ref g24, .ref g25, .ref g26, .int 0, .ref g28, .ref g29, .ref g30, .ref g31, .ref g32, .int 0, .ref g34, .int 0, .int 0, .long 0, .ref g38, .ref g39, .int 0, .int 0, .int 0, .ref g43, .ref g44, .ref g45, .ref g46, .ref g47, .ref g48, .ref g49, .int 0, .ref g51, .ref g52, .ref g53, .ref g54, .ref g55, .ref g56, .int (-9), .int 0, .int 0, .ref g60, .ref g61, .ref g62, .ref g63, .int 0, .ref g65, .ref g66, .ref g67, .ref g68]))] s.heap := hP
  have hl := lv_entry ([.ref m0]) (n := 1) (Nat.le_of_ble_eq_true rfl)
  rw [lg_entry_eq]
  generalize (lg_sl ([.ref m0]) ++ List.replicate (1 - (lg_sl ([.ref m0])).length) Slot.unset).toArray = ls at hl ⊢
  have hl : lv_has ls 1 [(0, .ref m0)] := hl
  refine lv_aload_n hx hb dX12_finding_0 rfl (lv_at hl 0 rfl) ?_
  refine va_get (D := D) (ci := 12) (v := .int 0) (C := RX12) (T := TX12) (N := 69) hx hb hts (fun _ h => List.mem_cons_of_mem _ (List.mem_append_right _ h)) hown hK hP 0 rfl rfl 0 (by decide) (hts (.fieldLink RX12 161 "TalePlayModel" "latest" "I") (by decide +kernel)) (fun _ h9 => h9) rfl dX12_finding_1 ?_
  exact ro_iret hx hb hr hlocks hS dX12_finding_4 rfl

def wm_X12_asked : List Cond := .code yX12_asked cX12_asked 1 (some .long) :: (([.fieldLink RX12 318 "TalePlayModel" "asked" "J"] : List Cond) ++ wsX120)
set_option maxHeartbeats 4000000 in
set_option maxRecDepth 100000 in
/-- asked() of a fresh reference -/
theorem c_X12_asked (l : Launch) (D : va_G) (sz : Nat) (m0 : Nat) (g1 : Nat) (g3 : Nat) (g4 : Nat) (g6 : Nat) (g7 : Nat) (g9 : Nat) (g10 : Nat) (g11 : Nat) (g12 : Nat) (g13 : Nat) (g14 : Nat) (g20 : Nat) (g21 : Nat) (g23 : Nat) (g24 : Nat) (g25 : Nat) (g26 : Nat) (g28 : Nat) (g29 : Nat) (g30 : Nat) (g31 : Nat) (g32 : Nat) (g34 : Nat) (g38 : Nat) (g39 : Nat) (g43 : Nat) (g44 : Nat) (g45 : Nat) (g46 : Nat) (g47 : Nat) (g48 : Nat) (g49 : Nat) (g51 : Nat) (g52 : Nat) (g53 : Nat) (g54 : Nat) (g55 : Nat) (g56 : Nat) (g60 : Nat) (g61 : Nat) (g62 : Nat) (g63 : Nat) (g65 : Nat) (g66 : Nat) (g67 : Nat) (g68 : Nat) : Met l yX12_asked wm_X12_asked ({ frames := 0, cells := 0, slots := 0, locals := 0 }) (va_Pc [.ref m0] (pA D sz [(m0, .inr (12, [.int 0, .ref g1, .int 6, .ref g3, .ref g4, .int 0, .ref g6, .ref g7, .int 0, .ref g9, .ref g10, .ref g11, .ref g12, .ref g13, .ref g14, .int 0, .int 0, .int 0, .int 0, .int 0, .ref g20, .ref g21, .int (-9), .ref g23, .ref g24, .ref g25, .ref g26, .int 0, .ref g28, .ref g29, .ref g30, .ref g31, .ref g32, .int 0, .ref g34, .int 0, .int 0, .long 0, .ref g38, .ref g39, .int 0, .int 0, .int 0, .ref g43, .ref g44, .ref g45, .ref g46, .ref g47, .ref g48, .ref g49, .int 0, .ref g51, .ref g52, .ref g53, .ref g54, .ref g55, .ref g56, .int (-9), .int 0, .int 0, .ref g60, .ref g61, .ref g62, .ref g63, .int 0, .ref g65, .ref g66, .ref g67, .ref g68]))] [])) (va_Ql (fun (r : Int64) (_ : Unit) => r = 0) oA (ro sz)) 0 0 (ro sz) := by
  refine Met.ofW (cc := cX12_asked) (maxL := 1) (ret := (some .long)) (by decide) rfl ?_
  intro p e s m args below meth c s₁ B hml hv
  obtain ⟨rfl, hsz, hP, hK⟩ := hv
  have hx := B.exec
  have hb := B.bytes
  have hr := B.returns
  have hts := atoms_spec (ws := wm_X12_asked) B.pre
  have hown : s.vm.findClass RX12 = some m.cls := findClass_of_methodNamed B.named
  have hlocks := B.notSynchronized
  subst hsz
  have hA : ∀ q : Nat, s.heap.size ≤ q → ro s.heap.size q := fun _ h => h
  have hS : va_S (ro s.heap.size) s.heap s.heap [] := va_S.rf
  have hP : va_P D vwCl [(m0, .inr (12, [.int 0, .ref g1, .int 6, .ref g3, .ref g4, .int 0, .ref g6, .ref g7, .int 0, .ref g9, .ref g10, .ref g11, .ref g12, .ref g13, .ref g14, .int 0, .int 0, .int 0, .int 0, .int 0, .ref g20, .ref g21, .int (-9), .ref g23, .ref g24, .ref g25, .ref g26, .int 0, .ref g28, .ref g29, .ref g30, .ref g31, .ref g32, .int 0, .ref g34, .int 0, .int 0, .long 0, .ref g38, .ref g39, .int 0, .int 0, .int 0, .ref g43, .ref g44, .ref g45, .ref g46, .ref g47, .ref g48, .ref g49, .int 0, .ref g51, .ref g52, .ref g53, .ref g54, .ref g55, .ref g56, .int (-9), .int 0, .int 0, .ref g60, .ref g61, .ref g62, .ref g63, .int 0, .ref g65, .ref g66, .ref g67, .ref g68]))] s.heap := hP
  have hl := lv_entry ([.ref m0]) (n := 1) (Nat.le_of_ble_eq_true rfl)
  rw [lg_entry_eq]
  generalize (lg_sl ([.ref m0]) ++ List.replicate (1 - (lg_sl ([.ref m0])).length) Slot.unset).toArray = ls at hl ⊢
  have hl : lv_has ls 1 [(0, .ref m0)] := hl
  refine lv_aload_n hx hb dX12_asked_0 rfl (lv_at hl 0 rfl) ?_
  refine va_get (D := D) (ci := 12) (v := .long 0) (C := RX12) (T := TX12) (N := 69) hx hb hts (fun _ h => List.mem_cons_of_mem _ (List.mem_append_right _ h)) hown hK hP 0 rfl rfl 37 (by decide) (hts (.fieldLink RX12 318 "TalePlayModel" "asked" "J") (by decide +kernel)) (fun _ h9 => h9) rfl dX12_asked_1 ?_
  exact ro_lret hx hb hr hlocks hS dX12_asked_4 rfl

def wm_X12_trace : List Cond := .code yX12_trace cX12_trace 2 (some .int) :: (([.fieldLink RX12 297 "TalePlayModel" "traced" "I", .methodLink RX12 166 yX12_in, .static yX12_in, .initialized RX12, .code yX12_in cX12_in 6 (some .boolean)] : List Cond) ++ wsX120)
set_option maxRecDepth 20000 in
theorem gm_X12_trace_X12_in : GoodIn wm_X12_trace (va_wsS RX12 166 yX12_in wm_X12_in) := goodIn_app (goodIn_of _ (by decide +kernel)) (goodIn_r _ [5] (by decide +kernel) (by decide +kernel))
set_option maxHeartbeats 4000000 in
set_option maxRecDepth 100000 in
/-- trace() of a fresh reference -/
theorem c_X12_trace (l : Launch) (D : va_G) (sz : Nat) (m0 : Nat) (g1 : Nat) (g3 : Nat) (g4 : Nat) (g6 : Nat) (g7 : Nat) (g9 : Nat) (g10 : Nat) (g11 : Nat) (g12 : Nat) (g13 : Nat) (g14 : Nat) (g20 : Nat) (g21 : Nat) (g23 : Nat) (g24 : Nat) (g25 : Nat) (g26 : Nat) (g28 : Nat) (g29 : Nat) (g30 : Nat) (g31 : Nat) (g32 : Nat) (g34 : Nat) (g38 : Nat) (g39 : Nat) (g43 : Nat) (g44 : Nat) (g45 : Nat) (g46 : Nat) (g47 : Nat) (g48 : Nat) (g49 : Nat) (g51 : Nat) (g52 : Nat) (g53 : Nat) (g54 : Nat) (g55 : Nat) (g56 : Nat) (g60 : Nat) (g61 : Nat) (g62 : Nat) (g63 : Nat) (g65 : Nat) (g66 : Nat) (g67 : Nat) (g68 : Nat) (a1 : Int32) : Met l yX12_trace wm_X12_trace ({ frames := 1, cells := 0, slots := 0, locals := 25 }) (va_Pc [.ref m0, .int a1] (pA D sz [(m0, .inr (12, [.int 0, .ref g1, .int 6, .ref g3, .ref g4, .int 0, .ref g6, .ref g7, .int 0, .ref g9, .ref g10, .ref g11, .ref g12, .ref g13, .ref g14, .int 0, .int 0, .int 0, .int 0, .int 0, .ref g20, .ref g21, .int (-9), .ref g23, .ref g24, .ref g25, .ref g26, .int 0, .ref g28, .ref g29, .ref g30, .ref g31, .ref g32, .int 0, .ref g34, .int 0, .int 0, .long 0, .ref g38, .ref g39, .int 0, .int 0, .int 0, .ref g43, .ref g44, .ref g45, .ref g46, .ref g47, .ref g48, .ref g49, .int 0, .ref g51, .ref g52, .ref g53, .ref g54, .ref g55, .ref g56, .int (-9), .int 0, .int 0, .ref g60, .ref g61, .ref g62, .ref g63, .int 0, .ref g65, .ref g66, .ref g67, .ref g68]))] [])) (va_Qi (fun (r : Int32) (_ : Unit) => r = (-9)) oA (ro sz)) 0 0 (ro sz) := by
  refine Met.ofW (cc := cX12_trace) (maxL := 2) (ret := (some .int)) (by decide) rfl ?_
  intro p e s m args below meth c s₁ B hml hv
  obtain ⟨rfl, hsz, hP, hK⟩ := hv
  have hx := B.exec
  have hb := B.bytes
  have hr := B.returns
  have hts := atoms_spec (ws := wm_X12_trace) B.pre
  have hown : s.vm.findClass RX12 = some m.cls := findClass_of_methodNamed B.named
  have hlocks := B.notSynchronized
  subst hsz
  have hA : ∀ q : Nat, s.heap.size ≤ q → ro s.heap.size q := fun _ h => h
  have hS : va_S (ro s.heap.size) s.heap s.heap [] := va_S.rf
  have hP : va_P D vwCl [(m0, .inr (12, [.int 0, .ref g1, .int 6, .ref g3, .ref g4, .int 0, .ref g6, .ref g7, .int 0, .ref g9, .ref g10, .ref g11, .ref g12, .ref g13, .ref g14, .int 0, .int 0, .int 0, .int 0, .int 0, .ref g20, .ref g21, .int (-9), .ref g23, .ref g24, .ref g25, .ref g26, .int 0, .ref g28, .ref g29, .ref g30, .ref g31, .ref g32, .int 0, .ref g34, .int 0, .int 0, .long 0, .ref g38, .ref g39, .int 0, .int 0, .int 0, .ref g43, .ref g44, .ref g45, .ref g46, .ref g47, .ref g48, .ref g49, .int 0, .ref g51, .ref g52, .ref g53, .ref g54, .ref g55, .ref g56, .int (-9), .int 0, .int 0, .ref g60, .ref g61, .ref g62, .ref g63, .int 0, .ref g65, .ref g66, .ref g67, .ref g68]))] s.heap := hP
  have hl := lv_entry ([.ref m0, .int a1]) (n := 2) (Nat.le_of_ble_eq_true rfl)
  rw [lg_entry_eq]
  generalize (lg_sl ([.ref m0, .int a1]) ++ List.replicate (2 - (lg_sl ([.ref m0, .int a1])).length) Slot.unset).toArray = ls at hl ⊢
  have hl : lv_has ls 2 [(0, .ref m0), (1, .int a1)] := hl
  refine lv_iload_n hx hb dX12_trace_0 rfl (lv_at hl 1 rfl) ?_
  refine lv_i2l (v := a1.toInt64) hx hb dX12_trace_1 rfl ?_
  refine lv_lconst (v := 0) hx hb dX12_trace_2 (by decide) ?_
  refine lv_aload_n hx hb dX12_trace_3 rfl (lv_at hl 0 rfl) ?_
  refine va_get (D := D) (ci := 12) (v := .int 0) (C := RX12) (T := TX12) (N := 69) hx hb hts (fun _ h => List.mem_cons_of_mem _ (List.mem_append_right _ h)) hown hK hP 0 rfl rfl 35 (by decide) (hts (.fieldLink RX12 297 "TalePlayModel" "traced" "I") (by decide +kernel)) (fun _ h9 => h9) rfl dX12_trace_4 ?_
  refine lv_iconst (v := 1) hx hb dX12_trace_7 (by decide) ?_
  refine lv_isub hx hb dX12_trace_8 ?_
  refine tp_i (y := (-1)) (by decide) ?_
  refine lv_i2l (v := (-1)) hx hb dX12_trace_9 (by decide) ?_
  have hPc := hP.sub (ws' := []) [] rfl
  have hKc := hK.sub (tys' := []) [] rfl
  refine ro_calli (va_runS (As := [.long a1.toInt64, .long 0, .long (-1)]) (rest := []) ⟨hx, hb, hml, hown, hts⟩ (c_X12_in0 l D s.heap.size a1.toInt64 0 (-1) a1.toInt 0 (-1) ((Int32.toInt_toInt64 a1).trans rfl) (by decide) (by decide) (by omega)) (va_cwS 3 hts gm_X12_trace_X12_in rfl rfl rfl (by decide +kernel) ⟨Nat.le_of_ble_eq_true rfl, Nat.le_of_ble_eq_true rfl⟩) (pA_S hKc hPc) rfl rfl hl.1 rfl (lv_room (Nat.le_of_ble_eq_true rfl)) dX12_trace_10 ⟨Nat.le_of_ble_eq_true rfl, Nat.le_of_ble_eq_true rfl⟩) hS hA hP (fun r1 u1 H locs hw1 hP hS => ?_)
  have hw1 : r1 = 0 := hw1
  subst hw1
  refine lv_if_eq (tgt := 25) hx hb dX12_trace_13 (by decide) (fun _ => ?_) (fun q9 => absurd (by decide) q9)
  refine lv_bipush (v := (-9)) hx hb dX12_trace_25 (by decide) ?_
  exact ro_iret hx hb hr hlocks hS dX12_trace_27 rfl

def wm_X12_clash : List Cond := .code yX12_clash cX12_clash 2 (some .int) :: (([.fieldLink RX12 205 "TalePlayModel" "rowMany" "I", .methodLink RX12 166 yX12_in, .static yX12_in, .initialized RX12, .code yX12_in cX12_in 6 (some .boolean)] : List Cond) ++ wsX120)
set_option maxRecDepth 20000 in
theorem gm_X12_clash_X12_in : GoodIn wm_X12_clash (va_wsS RX12 166 yX12_in wm_X12_in) := goodIn_app (goodIn_of _ (by decide +kernel)) (goodIn_r _ [5] (by decide +kernel) (by decide +kernel))
set_option maxHeartbeats 4000000 in
set_option maxRecDepth 100000 in
/-- clash() of a fresh reference -/
theorem c_X12_clash (l : Launch) (D : va_G) (sz : Nat) (m0 : Nat) (g1 : Nat) (g3 : Nat) (g4 : Nat) (g6 : Nat) (g7 : Nat) (g9 : Nat) (g10 : Nat) (g11 : Nat) (g12 : Nat) (g13 : Nat) (g14 : Nat) (g20 : Nat) (g21 : Nat) (g23 : Nat) (g24 : Nat) (g25 : Nat) (g26 : Nat) (g28 : Nat) (g29 : Nat) (g30 : Nat) (g31 : Nat) (g32 : Nat) (g34 : Nat) (g38 : Nat) (g39 : Nat) (g43 : Nat) (g44 : Nat) (g45 : Nat) (g46 : Nat) (g47 : Nat) (g48 : Nat) (g49 : Nat) (g51 : Nat) (g52 : Nat) (g53 : Nat) (g54 : Nat) (g55 : Nat) (g56 : Nat) (g60 : Nat) (g61 : Nat) (g62 : Nat) (g63 : Nat) (g65 : Nat) (g66 : Nat) (g67 : Nat) (g68 : Nat) (a1 : Int32) : Met l yX12_clash wm_X12_clash ({ frames := 1, cells := 0, slots := 0, locals := 25 }) (va_Pc [.ref m0, .int a1] (pA D sz [(m0, .inr (12, [.int 0, .ref g1, .int 6, .ref g3, .ref g4, .int 0, .ref g6, .ref g7, .int 0, .ref g9, .ref g10, .ref g11, .ref g12, .ref g13, .ref g14, .int 0, .int 0, .int 0, .int 0, .int 0, .ref g20, .ref g21, .int (-9), .ref g23, .ref g24, .ref g25, .ref g26, .int 0, .ref g28, .ref g29, .ref g30, .ref g31, .ref g32, .int 0, .ref g34, .int 0, .int 0, .long 0, .ref g38, .ref g39, .int 0, .int 0, .int 0, .ref g43, .ref g44, .ref g45, .ref g46, .ref g47, .ref g48, .ref g49, .int 0, .ref g51, .ref g52, .ref g53, .ref g54, .ref g55, .ref g56, .int (-9), .int 0, .int 0, .ref g60, .ref g61, .ref g62, .ref g63, .int 0, .ref g65, .ref g66, .ref g67, .ref g68]))] [])) (va_Qi (fun (r : Int32) (_ : Unit) => r = (-9)) oA (ro sz)) 0 0 (ro sz) := by
  refine Met.ofW (cc := cX12_clash) (maxL := 2) (ret := (some .int)) (by decide) rfl ?_
  intro p e s m args below meth c s₁ B hml hv
  obtain ⟨rfl, hsz, hP, hK⟩ := hv
  have hx := B.exec
  have hb := B.bytes
  have hr := B.returns
  have hts := atoms_spec (ws := wm_X12_clash) B.pre
  have hown : s.vm.findClass RX12 = some m.cls := findClass_of_methodNamed B.named
  have hlocks := B.notSynchronized
  subst hsz
  have hA : ∀ q : Nat, s.heap.size ≤ q → ro s.heap.size q := fun _ h => h
  have hS : va_S (ro s.heap.size) s.heap s.heap [] := va_S.rf
  have hP : va_P D vwCl [(m0, .inr (12, [.int 0, .ref g1, .int 6, .ref g3, .ref g4, .int 0, .ref g6, .ref g7, .int 0, .ref g9, .ref g10, .ref g11, .ref g12, .ref g13, .ref g14, .int 0, .int 0, .int 0, .int 0, .int 0, .ref g20, .ref g21, .int (-9), .ref g23, .ref g24, .ref g25, .ref g26, .int 0, .ref g28, .ref g29, .ref g30, .ref g31, .ref g32, .int 0, .ref g34, .int 0, .int 0, .long 0, .ref g38, .ref g39, .int 0, .int 0, .int 0, .ref g43, .ref g44, .ref g45, .ref g46, .ref g47, .ref g48, .ref g49, .int 0, .ref g51, .ref g52, .ref g53, .ref g54, .ref g55, .ref g56, .int (-9), .int 0, .int 0, .ref g60, .ref g61, .ref g62, .ref g63, .int 0, .ref g65, .ref g66, .ref g67, .ref g68]))] s.heap := hP
  have hl := lv_entry ([.ref m0, .int a1]) (n := 2) (Nat.le_of_ble_eq_true rfl)
  rw [lg_entry_eq]
  generalize (lg_sl ([.ref m0, .int a1]) ++ List.replicate (2 - (lg_sl ([.ref m0, .int a1])).length) Slot.unset).toArray = ls at hl ⊢
  have hl : lv_has ls 2 [(0, .ref m0), (1, .int a1)] := hl
  refine lv_iload_n hx hb dX12_clash_0 rfl (lv_at hl 1 rfl) ?_
  refine lv_i2l (v := a1.toInt64) hx hb dX12_clash_1 rfl ?_
  refine lv_lconst (v := 0) hx hb dX12_clash_2 (by decide) ?_
  refine lv_aload_n hx hb dX12_clash_3 rfl (lv_at hl 0 rfl) ?_
  refine va_get (D := D) (ci := 12) (v := .int 0) (C := RX12) (T := TX12) (N := 69) hx hb hts (fun _ h => List.mem_cons_of_mem _ (List.mem_append_right _ h)) hown hK hP 0 rfl rfl 15 (by decide) (hts (.fieldLink RX12 205 "TalePlayModel" "rowMany" "I") (by decide +kernel)) (fun _ h9 => h9) rfl dX12_clash_4 ?_
  refine lv_iconst (v := 1) hx hb dX12_clash_7 (by decide) ?_
  refine lv_isub hx hb dX12_clash_8 ?_
  refine tp_i (y := (-1)) (by decide) ?_
  refine lv_i2l (v := (-1)) hx hb dX12_clash_9 (by decide) ?_
  have hPc := hP.sub (ws' := []) [] rfl
  have hKc := hK.sub (tys' := []) [] rfl
  refine ro_calli (va_runS (As := [.long a1.toInt64, .long 0, .long (-1)]) (rest := []) ⟨hx, hb, hml, hown, hts⟩ (c_X12_in0 l D s.heap.size a1.toInt64 0 (-1) a1.toInt 0 (-1) ((Int32.toInt_toInt64 a1).trans rfl) (by decide) (by decide) (by omega)) (va_cwS 3 hts gm_X12_clash_X12_in rfl rfl rfl (by decide +kernel) ⟨Nat.le_of_ble_eq_true rfl, Nat.le_of_ble_eq_true rfl⟩) (pA_S hKc hPc) rfl rfl hl.1 rfl (lv_room (Nat.le_of_ble_eq_true rfl)) dX12_clash_10 ⟨Nat.le_of_ble_eq_true rfl, Nat.le_of_ble_eq_true rfl⟩) hS hA hP (fun r1 u1 H locs hw1 hP hS => ?_)
  have hw1 : r1 = 0 := hw1
  subst hw1
  refine lv_if_eq (tgt := 25) hx hb dX12_clash_13 (by decide) (fun _ => ?_) (fun q9 => absurd (by decide) q9)
  refine lv_bipush (v := (-9)) hx hb dX12_clash_25 (by decide) ?_
  exact ro_iret hx hb hr hlocks hS dX12_clash_27 rfl

def wm_X12_back : List Cond := .code yX12_back cX12_back 2 (some .int) :: (([.fieldLink RX12 155 "TalePlayModel" "player" "I"] : List Cond) ++ wsX120)
set_option maxHeartbeats 4000000 in
set_option maxRecDepth 100000 in
/-- back() of a fresh reference -/
theorem c_X12_back (l : Launch) (D : va_G) (sz : Nat) (m0 : Nat) (g1 : Nat) (g3 : Nat) (g4 : Nat) (g6 : Nat) (g7 : Nat) (g9 : Nat) (g10 : Nat) (g11 : Nat) (g12 : Nat) (g13 : Nat) (g14 : Nat) (g20 : Nat) (g21 : Nat) (g23 : Nat) (g24 : Nat) (g25 : Nat) (g26 : Nat) (g28 : Nat) (g29 : Nat) (g30 : Nat) (g31 : Nat) (g32 : Nat) (g34 : Nat) (g38 : Nat) (g39 : Nat) (g43 : Nat) (g44 : Nat) (g45 : Nat) (g46 : Nat) (g47 : Nat) (g48 : Nat) (g49 : Nat) (g51 : Nat) (g52 : Nat) (g53 : Nat) (g54 : Nat) (g55 : Nat) (g56 : Nat) (g60 : Nat) (g61 : Nat) (g62 : Nat) (g63 : Nat) (g65 : Nat) (g66 : Nat) (g67 : Nat) (g68 : Nat) : Met l yX12_back wm_X12_back ({ frames := 0, cells := 0, slots := 0, locals := 0 }) (va_Pc [.ref m0] (pA D sz [(m0, .inr (12, [.int 0, .ref g1, .int 6, .ref g3, .ref g4, .int 0, .ref g6, .ref g7, .int 0, .ref g9, .ref g10, .ref g11, .ref g12, .ref g13, .ref g14, .int 0, .int 0, .int 0, .int 0, .int 0, .ref g20, .ref g21, .int (-9), .ref g23, .ref g24, .ref g25, .ref g26, .int 0, .ref g28, .ref g29, .ref g30, .ref g31, .ref g32, .int 0, .ref g34, .int 0, .int 0, .long 0, .ref g38, .ref g39, .int 0, .int 0, .int 0, .ref g43, .ref g44, .ref g45, .ref g46, .ref g47, .ref g48, .ref g49, .int 0, .ref g51, .ref g52, .ref g53, .ref g54, .ref g55, .ref g56, .int (-9), .int 0, .int 0, .ref g60, .ref g61, .ref g62, .ref g63, .int 0, .ref g65, .ref g66, .ref g67, .ref g68]))] [])) (va_Qi (fun (r : Int32) (_ : Unit) => r = (-5)) oA (ro sz)) 0 0 (ro sz) := by
  refine Met.ofW (cc := cX12_back) (maxL := 2) (ret := (some .int)) (by decide) rfl ?_
  intro p e s m args below meth c s₁ B hml hv
  obtain ⟨rfl, hsz, hP, hK⟩ := hv
  have hx := B.exec
  have hb := B.bytes
  have hr := B.returns
  have hts := atoms_spec (ws := wm_X12_back) B.pre
  have hown : s.vm.findClass RX12 = some m.cls := findClass_of_methodNamed B.named
  have hlocks := B.notSynchronized
  subst hsz
  have hA : ∀ q : Nat, s.heap.size ≤ q → ro s.heap.size q := fun _ h => h
  have hS : va_S (ro s.heap.size) s.heap s.heap [] := va_S.rf
  have hP : va_P D vwCl [(m0, .inr (12, [.int 0, .ref g1, .int 6, .ref g3, .ref g4, .int 0, .ref g6, .ref g7, .int 0, .ref g9, .ref g10, .ref g11, .ref g12, .ref g13, .ref g14, .int 0, .int 0, .int 0, .int 0, .int 0, .ref g20, .ref g21, .int (-9), .ref g23, .ref g24, .ref g25, .ref g26, .int 0, .ref g28, .ref g29, .ref g30, .ref g31, .ref g32, .int 0, .ref g34, .int 0, .int 0, .long 0, .ref g38, .ref g39, .int 0, .int 0, .int 0, .ref g43, .ref g44, .ref g45, .ref g46, .ref g47, .ref g48, .ref g49, .int 0, .ref g51, .ref g52, .ref g53, .ref g54, .ref g55, .ref g56, .int (-9), .int 0, .int 0, .ref g60, .ref g61, .ref g62, .ref g63, .int 0, .ref g65, .ref g66, .ref g67, .ref g68]))] s.heap := hP
  have hl := lv_entry ([.ref m0]) (n := 2) (Nat.le_of_ble_eq_true rfl)
  rw [lg_entry_eq]
  generalize (lg_sl ([.ref m0]) ++ List.replicate (2 - (lg_sl ([.ref m0])).length) Slot.unset).toArray = ls at hl ⊢
  have hl : lv_has ls 2 [(0, .ref m0)] := hl
  refine lv_aload_n hx hb dX12_back_0 rfl (lv_at hl 0 rfl) ?_
  refine va_get (D := D) (ci := 12) (v := .int (-9)) (C := RX12) (T := TX12) (N := 69) hx hb hts (fun _ h => List.mem_cons_of_mem _ (List.mem_append_right _ h)) hown hK hP 0 rfl rfl 22 (by decide) (hts (.fieldLink RX12 155 "TalePlayModel" "player" "I") (by decide +kernel)) (fun _ h9 => h9) rfl dX12_back_1 ?_
  refine lv_bipush (v := (-9)) hx hb dX12_back_4 (by decide) ?_
  refine lv_icmp_eq (tgt := 16) hx hb dX12_back_6 (by decide) (fun _ => ?_) (fun q9 => absurd (by decide) q9)
  refine lv_bipush (v := (-5)) hx hb dX12_back_16 (by decide) ?_
  exact ro_iret hx hb hr hlocks hS dX12_back_18 rfl

def wm_X12_light : List Cond := .code yX12_light cX12_light 1 (some .int) :: (([.fieldLink RX12 155 "TalePlayModel" "player" "I"] : List Cond) ++ wsX120)
set_option maxHeartbeats 4000000 in
set_option maxRecDepth 100000 in
/-- light() of a fresh reference -/
theorem c_X12_light (l : Launch) (D : va_G) (sz : Nat) (m0 : Nat) (g1 : Nat) (g3 : Nat) (g4 : Nat) (g6 : Nat) (g7 : Nat) (g9 : Nat) (g10 : Nat) (g11 : Nat) (g12 : Nat) (g13 : Nat) (g14 : Nat) (g20 : Nat) (g21 : Nat) (g23 : Nat) (g24 : Nat) (g25 : Nat) (g26 : Nat) (g28 : Nat) (g29 : Nat) (g30 : Nat) (g31 : Nat) (g32 : Nat) (g34 : Nat) (g38 : Nat) (g39 : Nat) (g43 : Nat) (g44 : Nat) (g45 : Nat) (g46 : Nat) (g47 : Nat) (g48 : Nat) (g49 : Nat) (g51 : Nat) (g52 : Nat) (g53 : Nat) (g54 : Nat) (g55 : Nat) (g56 : Nat) (g60 : Nat) (g61 : Nat) (g62 : Nat) (g63 : Nat) (g65 : Nat) (g66 : Nat) (g67 : Nat) (g68 : Nat) : Met l yX12_light wm_X12_light ({ frames := 0, cells := 0, slots := 0, locals := 0 }) (va_Pc [.ref m0] (pA D sz [(m0, .inr (12, [.int 0, .ref g1, .int 6, .ref g3, .ref g4, .int 0, .ref g6, .ref g7, .int 0, .ref g9, .ref g10, .ref g11, .ref g12, .ref g13, .ref g14, .int 0, .int 0, .int 0, .int 0, .int 0, .ref g20, .ref g21, .int (-9), .ref g23, .ref g24, .ref g25, .ref g26, .int 0, .ref g28, .ref g29, .ref g30, .ref g31, .ref g32, .int 0, .ref g34, .int 0, .int 0, .long 0, .ref g38, .ref g39, .int 0, .int 0, .int 0, .ref g43, .ref g44, .ref g45, .ref g46, .ref g47, .ref g48, .ref g49, .int 0, .ref g51, .ref g52, .ref g53, .ref g54, .ref g55, .ref g56, .int (-9), .int 0, .int 0, .ref g60, .ref g61, .ref g62, .ref g63, .int 0, .ref g65, .ref g66, .ref g67, .ref g68]))] [])) (va_Qi (fun (r : Int32) (_ : Unit) => r = (-5)) oA (ro sz)) 0 0 (ro sz) := by
  refine Met.ofW (cc := cX12_light) (maxL := 1) (ret := (some .int)) (by decide) rfl ?_
  intro p e s m args below meth c s₁ B hml hv
  obtain ⟨rfl, hsz, hP, hK⟩ := hv
  have hx := B.exec
  have hb := B.bytes
  have hr := B.returns
  have hts := atoms_spec (ws := wm_X12_light) B.pre
  have hown : s.vm.findClass RX12 = some m.cls := findClass_of_methodNamed B.named
  have hlocks := B.notSynchronized
  subst hsz
  have hA : ∀ q : Nat, s.heap.size ≤ q → ro s.heap.size q := fun _ h => h
  have hS : va_S (ro s.heap.size) s.heap s.heap [] := va_S.rf
  have hP : va_P D vwCl [(m0, .inr (12, [.int 0, .ref g1, .int 6, .ref g3, .ref g4, .int 0, .ref g6, .ref g7, .int 0, .ref g9, .ref g10, .ref g11, .ref g12, .ref g13, .ref g14, .int 0, .int 0, .int 0, .int 0, .int 0, .ref g20, .ref g21, .int (-9), .ref g23, .ref g24, .ref g25, .ref g26, .int 0, .ref g28, .ref g29, .ref g30, .ref g31, .ref g32, .int 0, .ref g34, .int 0, .int 0, .long 0, .ref g38, .ref g39, .int 0, .int 0, .int 0, .ref g43, .ref g44, .ref g45, .ref g46, .ref g47, .ref g48, .ref g49, .int 0, .ref g51, .ref g52, .ref g53, .ref g54, .ref g55, .ref g56, .int (-9), .int 0, .int 0, .ref g60, .ref g61, .ref g62, .ref g63, .int 0, .ref g65, .ref g66, .ref g67, .ref g68]))] s.heap := hP
  have hl := lv_entry ([.ref m0]) (n := 1) (Nat.le_of_ble_eq_true rfl)
  rw [lg_entry_eq]
  generalize (lg_sl ([.ref m0]) ++ List.replicate (1 - (lg_sl ([.ref m0])).length) Slot.unset).toArray = ls at hl ⊢
  have hl : lv_has ls 1 [(0, .ref m0)] := hl
  refine lv_aload_n hx hb dX12_light_0 rfl (lv_at hl 0 rfl) ?_
  refine va_get (D := D) (ci := 12) (v := .int (-9)) (C := RX12) (T := TX12) (N := 69) hx hb hts (fun _ h => List.mem_cons_of_mem _ (List.mem_append_right _ h)) hown hK hP 0 rfl rfl 22 (by decide) (hts (.fieldLink RX12 155 "TalePlayModel" "player" "I") (by decide +kernel)) (fun _ h9 => h9) rfl dX12_light_1 ?_
  refine lv_bipush (v := (-9)) hx hb dX12_light_4 (by decide) ?_
  refine lv_icmp_ne (tgt := 12) hx hb dX12_light_6 (by decide) (fun q9 => absurd q9 (by decide)) (fun _ => ?_)
  refine lv_bipush (v := (-5)) hx hb dX12_light_9 (by decide) ?_
  exact ro_iret hx hb hr hlocks hS dX12_light_11 rfl

def wm_X12_is : List Cond := .code yX12_is cX12_is 3 (some .int) :: (([.methodLink RX12 180 yX12_isObject, .instanceMethod yX12_isObject, .selects RX12 yX12_isObject yX12_isObject, .initialized RX12, .code yX12_isObject cX12_isObject 2 (some .boolean), .fieldLink RX12 177 "TalePlayModel" "objects" "I", .methodLink RX12 166 yX12_in, .static yX12_in, .code yX12_in cX12_in 6 (some .boolean)] : List Cond) ++ wsX120)
set_option maxRecDepth 20000 in
theorem gm_X12_is_X12_isObject : GoodIn wm_X12_is (wsV RX12 180 RX12 yX12_isObject wm_X12_isObject) := goodIn_app (goodIn_of _ (by decide +kernel)) (goodIn_r _ [5, 6, 7, 8, 4, 9, 10, 11, 12, 13, 14, 15, 16, 17, 18, 19, 20, 21, 22, 23, 24, 25, 26, 27, 28, 29, 30, 31, 32, 33, 34, 35, 36, 37, 38, 39, 40, 41, 42, 43, 44, 45, 46, 47, 48, 49, 50, 51, 52, 53, 54, 55, 56, 57, 58, 59, 60, 61, 62, 63, 64, 65, 66, 67, 68, 69, 70, 71, 72, 73, 74, 75, 76, 77, 78] (by decide +kernel) (by decide +kernel))
set_option maxHeartbeats 4000000 in
set_option maxRecDepth 100000 in
/-- is() of a fresh reference -/
theorem c_X12_is (l : Launch) (D : va_G) (sz : Nat) (m0 : Nat) (g1 : Nat) (g3 : Nat) (g4 : Nat) (g6 : Nat) (g7 : Nat) (g9 : Nat) (g10 : Nat) (g11 : Nat) (g12 : Nat) (g13 : Nat) (g14 : Nat) (g20 : Nat) (g21 : Nat) (g23 : Nat) (g24 : Nat) (g25 : Nat) (g26 : Nat) (g28 : Nat) (g29 : Nat) (g30 : Nat) (g31 : Nat) (g32 : Nat) (g34 : Nat) (g38 : Nat) (g39 : Nat) (g43 : Nat) (g44 : Nat) (g45 : Nat) (g46 : Nat) (g47 : Nat) (g48 : Nat) (g49 : Nat) (g51 : Nat) (g52 : Nat) (g53 : Nat) (g54 : Nat) (g55 : Nat) (g56 : Nat) (g60 : Nat) (g61 : Nat) (g62 : Nat) (g63 : Nat) (g65 : Nat) (g66 : Nat) (g67 : Nat) (g68 : Nat) (a1 : Int32) (a2 : Int32) : Met l yX12_is wm_X12_is ({ frames := 2, cells := 0, slots := 0, locals := 46 }) (va_Pc [.ref m0, .int a1, .int a2] (pA D sz [(m0, .inr (12, [.int 0, .ref g1, .int 6, .ref g3, .ref g4, .int 0, .ref g6, .ref g7, .int 0, .ref g9, .ref g10, .ref g11, .ref g12, .ref g13, .ref g14, .int 0, .int 0, .int 0, .int 0, .int 0, .ref g20, .ref g21, .int (-9), .ref g23, .ref g24, .ref g25, .ref g26, .int 0, .ref g28, .ref g29, .ref g30, .ref g31, .ref g32, .int 0, .ref g34, .int 0, .int 0, .long 0, .ref g38, .ref g39, .int 0, .int 0, .int 0, .ref g43, .ref g44, .ref g45, .ref g46, .ref g47, .ref g48, .ref g49, .int 0, .ref g51, .ref g52, .ref g53, .ref g54, .ref g55, .ref g56, .int (-9), .int 0, .int 0, .ref g60, .ref g61, .ref g62, .ref g63, .int 0, .ref g65, .ref g66, .ref g67, .ref g68]))] [])) (va_Qi (fun (r : Int32) (_ : Unit) => r = (-1)) oA (ro sz)) 0 0 (ro sz) := by
  refine Met.ofW (cc := cX12_is) (maxL := 3) (ret := (some .int)) (by decide) rfl ?_
  intro p e s m args below meth c s₁ B hml hv
  obtain ⟨rfl, hsz, hP, hK⟩ := hv
  have hx := B.exec
  have hb := B.bytes
  have hr := B.returns
  have hts := atoms_spec (ws := wm_X12_is) B.pre
  have hown : s.vm.findClass RX12 = some m.cls := findClass_of_methodNamed B.named
  have hlocks := B.notSynchronized
  subst hsz
  have hA : ∀ q : Nat, s.heap.size ≤ q → ro s.heap.size q := fun _ h => h
  have hS : va_S (ro s.heap.size) s.heap s.heap [] := va_S.rf
  have hP : va_P D vwCl [(m0, .inr (12, [.int 0, .ref g1, .int 6, .ref g3, .ref g4, .int 0, .ref g6, .ref g7, .int 0, .ref g9, .ref g10, .ref g11, .ref g12, .ref g13, .ref g14, .int 0, .int 0, .int 0, .int 0, .int 0, .ref g20, .ref g21, .int (-9), .ref g23, .ref g24, .ref g25, .ref g26, .int 0, .ref g28, .ref g29, .ref g30, .ref g31, .ref g32, .int 0, .ref g34, .int 0, .int 0, .long 0, .ref g38, .ref g39, .int 0, .int 0, .int 0, .ref g43, .ref g44, .ref g45, .ref g46, .ref g47, .ref g48, .ref g49, .int 0, .ref g51, .ref g52, .ref g53, .ref g54, .ref g55, .ref g56, .int (-9), .int 0, .int 0, .ref g60, .ref g61, .ref g62, .ref g63, .int 0, .ref g65, .ref g66, .ref g67, .ref g68]))] s.heap := hP
  have hl := lv_entry ([.ref m0, .int a1, .int a2]) (n := 3) (Nat.le_of_ble_eq_true rfl)
  rw [lg_entry_eq]
  generalize (lg_sl ([.ref m0, .int a1, .int a2]) ++ List.replicate (3 - (lg_sl ([.ref m0, .int a1, .int a2])).length) Slot.unset).toArray = ls at hl ⊢
  have hl : lv_has ls 3 [(0, .ref m0), (1, .int a1), (2, .int a2)] := hl
  refine lv_aload_n hx hb dX12_is_0 rfl (lv_at hl 0 rfl) ?_
  refine lv_iload_n hx hb dX12_is_1 rfl (lv_at hl 1 rfl) ?_
  have hPc := hP.sub (ws' := [(m0, .inr (12, [.int 0, .ref g1, .int 6, .ref g3, .ref g4, .int 0, .ref g6, .ref g7, .int 0, .ref g9, .ref g10, .ref g11, .ref g12, .ref g13, .ref g14, .int 0, .int 0, .int 0, .int 0, .int 0, .ref g20, .ref g21, .int (-9), .ref g23, .ref g24, .ref g25, .ref g26, .int 0, .ref g28, .ref g29, .ref g30, .ref g31, .ref g32, .int 0, .ref g34, .int 0, .int 0, .long 0, .ref g38, .ref g39, .int 0, .int 0, .int 0, .ref g43, .ref g44, .ref g45, .ref g46, .ref g47, .ref g48, .ref g49, .int 0, .ref g51, .ref g52, .ref g53, .ref g54, .ref g55, .ref g56, .int (-9), .int 0, .int 0, .ref g60, .ref g61, .ref g62, .ref g63, .int 0, .ref g65, .ref g66, .ref g67, .ref g68]))]) [0] rfl
  have hKc := hK.sub (tys' := []) [] rfl
  refine ro_calli (va_runV (As := [.int a1]) (rest := []) ⟨hx, hb, hml, hown, hts⟩ (c_X12_isObject l D s.heap.size m0 g1 g3 g4 g6 g7 g9 g10 g11 g12 g13 g14 g20 g21 g23 g24 g25 g26 g28 g29 g30 g31 g32 g34 g38 g39 g43 g44 g45 g46 g47 g48 g49 g51 g52 g53 g54 g55 g56 g60 g61 g62 g63 g65 g66 g67 g68 a1) (cwV 1 hts gm_X12_is_X12_isObject rfl rfl rfl (by decide +kernel) ⟨Nat.le_of_ble_eq_true rfl, Nat.le_of_ble_eq_true rfl⟩) (pA_V hKc hPc (ci := 12) (q0 := 0) rfl rfl) rfl rfl hl.1 rfl (lv_room (Nat.le_of_ble_eq_true rfl)) dX12_is_2 ⟨Nat.le_of_ble_eq_true rfl, Nat.le_of_ble_eq_true rfl⟩) hS hA hP (fun r1 u1 H locs hw1 hP hS => ?_)
  have hw1 : r1 = 0 := hw1
  subst hw1
  refine lv_if_eq (tgt := 24) hx hb dX12_is_5 (by decide) (fun _ => ?_) (fun q9 => absurd (by decide) q9)
  refine lv_iconst (v := (-1)) hx hb dX12_is_24 (by decide) ?_
  refine lv_goto (tgt := 42) hx hb dX12_is_25 (by decide) ?_
  exact ro_iret hx hb hr hlocks hS dX12_is_42 rfl

def wm_X12_bulk : List Cond := .code yX12_bulk cX12_bulk 3 (some .int) :: (([.methodLink RX12 180 yX12_isObject, .instanceMethod yX12_isObject, .selects RX12 yX12_isObject yX12_isObject, .initialized RX12, .code yX12_isObject cX12_isObject 2 (some .boolean), .fieldLink RX12 177 "TalePlayModel" "objects" "I", .methodLink RX12 166 yX12_in, .static yX12_in, .code yX12_in cX12_in 6 (some .boolean)] : List Cond) ++ wsX120)
set_option maxRecDepth 20000 in
theorem gm_X12_bulk_X12_isObject : GoodIn wm_X12_bulk (wsV RX12 180 RX12 yX12_isObject wm_X12_isObject) := goodIn_app (goodIn_of _ (by decide +kernel)) (goodIn_r _ [5, 6, 7, 8, 4, 9, 10, 11, 12, 13, 14, 15, 16, 17, 18, 19, 20, 21, 22, 23, 24, 25, 26, 27, 28, 29, 30, 31, 32, 33, 34, 35, 36, 37, 38, 39, 40, 41, 42, 43, 44, 45, 46, 47, 48, 49, 50, 51, 52, 53, 54, 55, 56, 57, 58, 59, 60, 61, 62, 63, 64, 65, 66, 67, 68, 69, 70, 71, 72, 73, 74, 75, 76, 77, 78] (by decide +kernel) (by decide +kernel))
set_option maxHeartbeats 4000000 in
set_option maxRecDepth 100000 in
/-- bulk() of a fresh reference -/
theorem c_X12_bulk (l : Launch) (D : va_G) (sz : Nat) (m0 : Nat) (g1 : Nat) (g3 : Nat) (g4 : Nat) (g6 : Nat) (g7 : Nat) (g9 : Nat) (g10 : Nat) (g11 : Nat) (g12 : Nat) (g13 : Nat) (g14 : Nat) (g20 : Nat) (g21 : Nat) (g23 : Nat) (g24 : Nat) (g25 : Nat) (g26 : Nat) (g28 : Nat) (g29 : Nat) (g30 : Nat) (g31 : Nat) (g32 : Nat) (g34 : Nat) (g38 : Nat) (g39 : Nat) (g43 : Nat) (g44 : Nat) (g45 : Nat) (g46 : Nat) (g47 : Nat) (g48 : Nat) (g49 : Nat) (g51 : Nat) (g52 : Nat) (g53 : Nat) (g54 : Nat) (g55 : Nat) (g56 : Nat) (g60 : Nat) (g61 : Nat) (g62 : Nat) (g63 : Nat) (g65 : Nat) (g66 : Nat) (g67 : Nat) (g68 : Nat) (a1 : Int32) : Met l yX12_bulk wm_X12_bulk ({ frames := 2, cells := 0, slots := 0, locals := 46 }) (va_Pc [.ref m0, .int a1] (pA D sz [(m0, .inr (12, [.int 0, .ref g1, .int 6, .ref g3, .ref g4, .int 0, .ref g6, .ref g7, .int 0, .ref g9, .ref g10, .ref g11, .ref g12, .ref g13, .ref g14, .int 0, .int 0, .int 0, .int 0, .int 0, .ref g20, .ref g21, .int (-9), .ref g23, .ref g24, .ref g25, .ref g26, .int 0, .ref g28, .ref g29, .ref g30, .ref g31, .ref g32, .int 0, .ref g34, .int 0, .int 0, .long 0, .ref g38, .ref g39, .int 0, .int 0, .int 0, .ref g43, .ref g44, .ref g45, .ref g46, .ref g47, .ref g48, .ref g49, .int 0, .ref g51, .ref g52, .ref g53, .ref g54, .ref g55, .ref g56, .int (-9), .int 0, .int 0, .ref g60, .ref g61, .ref g62, .ref g63, .int 0, .ref g65, .ref g66, .ref g67, .ref g68]))] [])) (va_Qi (fun (r : Int32) (_ : Unit) => r = (-1)) oA (ro sz)) 0 0 (ro sz) := by
  refine Met.ofW (cc := cX12_bulk) (maxL := 3) (ret := (some .int)) (by decide) rfl ?_
  intro p e s m args below meth c s₁ B hml hv
  obtain ⟨rfl, hsz, hP, hK⟩ := hv
  have hx := B.exec
  have hb := B.bytes
  have hr := B.returns
  have hts := atoms_spec (ws := wm_X12_bulk) B.pre
  have hown : s.vm.findClass RX12 = some m.cls := findClass_of_methodNamed B.named
  have hlocks := B.notSynchronized
  subst hsz
  have hA : ∀ q : Nat, s.heap.size ≤ q → ro s.heap.size q := fun _ h => h
  have hS : va_S (ro s.heap.size) s.heap s.heap [] := va_S.rf
  have hP : va_P D vwCl [(m0, .inr (12, [.int 0, .ref g1, .int 6, .ref g3, .ref g4, .int 0, .ref g6, .ref g7, .int 0, .ref g9, .ref g10, .ref g11, .ref g12, .ref g13, .ref g14, .int 0, .int 0, .int 0, .int 0, .int 0, .ref g20, .ref g21, .int (-9), .ref g23, .ref g24, .ref g25, .ref g26, .int 0, .ref g28, .ref g29, .ref g30, .ref g31, .ref g32, .int 0, .ref g34, .int 0, .int 0, .long 0, .ref g38, .ref g39, .int 0, .int 0, .int 0, .ref g43, .ref g44, .ref g45, .ref g46, .ref g47, .ref g48, .ref g49, .int 0, .ref g51, .ref g52, .ref g53, .ref g54, .ref g55, .ref g56, .int (-9), .int 0, .int 0, .ref g60, .ref g61, .ref g62, .ref g63, .int 0, .ref g65, .ref g66, .ref g67, .ref g68]))] s.heap := hP
  have hl := lv_entry ([.ref m0, .int a1]) (n := 3) (Nat.le_of_ble_eq_true rfl)
  rw [lg_entry_eq]
  generalize (lg_sl ([.ref m0, .int a1]) ++ List.replicate (3 - (lg_sl ([.ref m0, .int a1])).length) Slot.unset).toArray = ls at hl ⊢
  have hl : lv_has ls 3 [(0, .ref m0), (1, .int a1)] := hl
  refine lv_aload_n hx hb dX12_bulk_0 rfl (lv_at hl 0 rfl) ?_
  refine lv_iload_n hx hb dX12_bulk_1 rfl (lv_at hl 1 rfl) ?_
  have hPc := hP.sub (ws' := [(m0, .inr (12, [.int 0, .ref g1, .int 6, .ref g3, .ref g4, .int 0, .ref g6, .ref g7, .int 0, .ref g9, .ref g10, .ref g11, .ref g12, .ref g13, .ref g14, .int 0, .int 0, .int 0, .int 0, .int 0, .ref g20, .ref g21, .int (-9), .ref g23, .ref g24, .ref g25, .ref g26, .int 0, .ref g28, .ref g29, .ref g30, .ref g31, .ref g32, .int 0, .ref g34, .int 0, .int 0, .long 0, .ref g38, .ref g39, .int 0, .int 0, .int 0, .ref g43, .ref g44, .ref g45, .ref g46, .ref g47, .ref g48, .ref g49, .int 0, .ref g51, .ref g52, .ref g53, .ref g54, .ref g55, .ref g56, .int (-9), .int 0, .int 0, .ref g60, .ref g61, .ref g62, .ref g63, .int 0, .ref g65, .ref g66, .ref g67, .ref g68]))]) [0] rfl
  have hKc := hK.sub (tys' := []) [] rfl
  refine ro_calli (va_runV (As := [.int a1]) (rest := []) ⟨hx, hb, hml, hown, hts⟩ (c_X12_isObject l D s.heap.size m0 g1 g3 g4 g6 g7 g9 g10 g11 g12 g13 g14 g20 g21 g23 g24 g25 g26 g28 g29 g30 g31 g32 g34 g38 g39 g43 g44 g45 g46 g47 g48 g49 g51 g52 g53 g54 g55 g56 g60 g61 g62 g63 g65 g66 g67 g68 a1) (cwV 1 hts gm_X12_bulk_X12_isObject rfl rfl rfl (by decide +kernel) ⟨Nat.le_of_ble_eq_true rfl, Nat.le_of_ble_eq_true rfl⟩) (pA_V hKc hPc (ci := 12) (q0 := 0) rfl rfl) rfl rfl hl.1 rfl (lv_room (Nat.le_of_ble_eq_true rfl)) dX12_bulk_2 ⟨Nat.le_of_ble_eq_true rfl, Nat.le_of_ble_eq_true rfl⟩) hS hA hP (fun r1 u1 H locs hw1 hP hS => ?_)
  have hw1 : r1 = 0 := hw1
  subst hw1
  refine lv_if_ne (tgt := 10) hx hb dX12_bulk_5 (by decide) (fun q9 => absurd q9 (by decide)) (fun _ => ?_)
  refine lv_iconst (v := (-1)) hx hb dX12_bulk_8 (by decide) ?_
  exact ro_iret hx hb hr hlocks hS dX12_bulk_9 rfl

def wm_X12_share : List Cond := .code yX12_share cX12_share 8 (some .int) :: (([.methodLink RX12 180 yX12_isObject, .instanceMethod yX12_isObject, .selects RX12 yX12_isObject yX12_isObject, .initialized RX12, .code yX12_isObject cX12_isObject 2 (some .boolean), .fieldLink RX12 177 "TalePlayModel" "objects" "I", .methodLink RX12 166 yX12_in, .static yX12_in, .code yX12_in cX12_in 6 (some .boolean)] : List Cond) ++ wsX120)
set_option maxRecDepth 20000 in
theorem gm_X12_share_X12_isObject : GoodIn wm_X12_share (wsV RX12 180 RX12 yX12_isObject wm_X12_isObject) := goodIn_app (goodIn_of _ (by decide +kernel)) (goodIn_r _ [5, 6, 7, 8, 4, 9, 10, 11, 12, 13, 14, 15, 16, 17, 18, 19, 20, 21, 22, 23, 24, 25, 26, 27, 28, 29, 30, 31, 32, 33, 34, 35, 36, 37, 38, 39, 40, 41, 42, 43, 44, 45, 46, 47, 48, 49, 50, 51, 52, 53, 54, 55, 56, 57, 58, 59, 60, 61, 62, 63, 64, 65, 66, 67, 68, 69, 70, 71, 72, 73, 74, 75, 76, 77, 78] (by decide +kernel) (by decide +kernel))
set_option maxHeartbeats 4000000 in
set_option maxRecDepth 100000 in
/-- share() of a fresh reference -/
theorem c_X12_share (l : Launch) (D : va_G) (sz : Nat) (m0 : Nat) (g1 : Nat) (g3 : Nat) (g4 : Nat) (g6 : Nat) (g7 : Nat) (g9 : Nat) (g10 : Nat) (g11 : Nat) (g12 : Nat) (g13 : Nat) (g14 : Nat) (g20 : Nat) (g21 : Nat) (g23 : Nat) (g24 : Nat) (g25 : Nat) (g26 : Nat) (g28 : Nat) (g29 : Nat) (g30 : Nat) (g31 : Nat) (g32 : Nat) (g34 : Nat) (g38 : Nat) (g39 : Nat) (g43 : Nat) (g44 : Nat) (g45 : Nat) (g46 : Nat) (g47 : Nat) (g48 : Nat) (g49 : Nat) (g51 : Nat) (g52 : Nat) (g53 : Nat) (g54 : Nat) (g55 : Nat) (g56 : Nat) (g60 : Nat) (g61 : Nat) (g62 : Nat) (g63 : Nat) (g65 : Nat) (g66 : Nat) (g67 : Nat) (g68 : Nat) (a1 : Int32) (a2 : Int32) : Met l yX12_share wm_X12_share ({ frames := 2, cells := 0, slots := 0, locals := 46 }) (va_Pc [.ref m0, .int a1, .int a2] (pA D sz [(m0, .inr (12, [.int 0, .ref g1, .int 6, .ref g3, .ref g4, .int 0, .ref g6, .ref g7, .int 0, .ref g9, .ref g10, .ref g11, .ref g12, .ref g13, .ref g14, .int 0, .int 0, .int 0, .int 0, .int 0, .ref g20, .ref g21, .int (-9), .ref g23, .ref g24, .ref g25, .ref g26, .int 0, .ref g28, .ref g29, .ref g30, .ref g31, .ref g32, .int 0, .ref g34, .int 0, .int 0, .long 0, .ref g38, .ref g39, .int 0, .int 0, .int 0, .ref g43, .ref g44, .ref g45, .ref g46, .ref g47, .ref g48, .ref g49, .int 0, .ref g51, .ref g52, .ref g53, .ref g54, .ref g55, .ref g56, .int (-9), .int 0, .int 0, .ref g60, .ref g61, .ref g62, .ref g63, .int 0, .ref g65, .ref g66, .ref g67, .ref g68]))] [])) (va_Qi (fun (r : Int32) (_ : Unit) => r = (-1)) oA (ro sz)) 0 0 (ro sz) := by
  refine Met.ofW (cc := cX12_share) (maxL := 8) (ret := (some .int)) (by decide) rfl ?_
  intro p e s m args below meth c s₁ B hml hv
  obtain ⟨rfl, hsz, hP, hK⟩ := hv
  have hx := B.exec
  have hb := B.bytes
  have hr := B.returns
  have hts := atoms_spec (ws := wm_X12_share) B.pre
  have hown : s.vm.findClass RX12 = some m.cls := findClass_of_methodNamed B.named
  have hlocks := B.notSynchronized
  subst hsz
  have hA : ∀ q : Nat, s.heap.size ≤ q → ro s.heap.size q := fun _ h => h
  have hS : va_S (ro s.heap.size) s.heap s.heap [] := va_S.rf
  have hP : va_P D vwCl [(m0, .inr (12, [.int 0, .ref g1, .int 6, .ref g3, .ref g4, .int 0, .ref g6, .ref g7, .int 0, .ref g9, .ref g10, .ref g11, .ref g12, .ref g13, .ref g14, .int 0, .int 0, .int 0, .int 0, .int 0, .ref g20, .ref g21, .int (-9), .ref g23, .ref g24, .ref g25, .ref g26, .int 0, .ref g28, .ref g29, .ref g30, .ref g31, .ref g32, .int 0, .ref g34, .int 0, .int 0, .long 0, .ref g38, .ref g39, .int 0, .int 0, .int 0, .ref g43, .ref g44, .ref g45, .ref g46, .ref g47, .ref g48, .ref g49, .int 0, .ref g51, .ref g52, .ref g53, .ref g54, .ref g55, .ref g56, .int (-9), .int 0, .int 0, .ref g60, .ref g61, .ref g62, .ref g63, .int 0, .ref g65, .ref g66, .ref g67, .ref g68]))] s.heap := hP
  have hl := lv_entry ([.ref m0, .int a1, .int a2]) (n := 8) (Nat.le_of_ble_eq_true rfl)
  rw [lg_entry_eq]
  generalize (lg_sl ([.ref m0, .int a1, .int a2]) ++ List.replicate (8 - (lg_sl ([.ref m0, .int a1, .int a2])).length) Slot.unset).toArray = ls at hl ⊢
  have hl : lv_has ls 8 [(0, .ref m0), (1, .int a1), (2, .int a2)] := hl
  refine lv_aload_n hx hb dX12_share_0 rfl (lv_at hl 0 rfl) ?_
  refine lv_iload_n hx hb dX12_share_1 rfl (lv_at hl 1 rfl) ?_
  have hPc := hP.sub (ws' := [(m0, .inr (12, [.int 0, .ref g1, .int 6, .ref g3, .ref g4, .int 0, .ref g6, .ref g7, .int 0, .ref g9, .ref g10, .ref g11, .ref g12, .ref g13, .ref g14, .int 0, .int 0, .int 0, .int 0, .int 0, .ref g20, .ref g21, .int (-9), .ref g23, .ref g24, .ref g25, .ref g26, .int 0, .ref g28, .ref g29, .ref g30, .ref g31, .ref g32, .int 0, .ref g34, .int 0, .int 0, .long 0, .ref g38, .ref g39, .int 0, .int 0, .int 0, .ref g43, .ref g44, .ref g45, .ref g46, .ref g47, .ref g48, .ref g49, .int 0, .ref g51, .ref g52, .ref g53, .ref g54, .ref g55, .ref g56, .int (-9), .int 0, .int 0, .ref g60, .ref g61, .ref g62, .ref g63, .int 0, .ref g65, .ref g66, .ref g67, .ref g68]))]) [0] rfl
  have hKc := hK.sub (tys' := []) [] rfl
  refine ro_calli (va_runV (As := [.int a1]) (rest := []) ⟨hx, hb, hml, hown, hts⟩ (c_X12_isObject l D s.heap.size m0 g1 g3 g4 g6 g7 g9 g10 g11 g12 g13 g14 g20 g21 g23 g24 g25 g26 g28 g29 g30 g31 g32 g34 g38 g39 g43 g44 g45 g46 g47 g48 g49 g51 g52 g53 g54 g55 g56 g60 g61 g62 g63 g65 g66 g67 g68 a1) (cwV 1 hts gm_X12_share_X12_isObject rfl rfl rfl (by decide +kernel) ⟨Nat.le_of_ble_eq_true rfl, Nat.le_of_ble_eq_true rfl⟩) (pA_V hKc hPc (ci := 12) (q0 := 0) rfl rfl) rfl rfl hl.1 rfl (lv_room (Nat.le_of_ble_eq_true rfl)) dX12_share_2 ⟨Nat.le_of_ble_eq_true rfl, Nat.le_of_ble_eq_true rfl⟩) hS hA hP (fun r1 u1 H locs hw1 hP hS => ?_)
  have hw1 : r1 = 0 := hw1
  subst hw1
  refine lv_if_eq (tgt := 16) hx hb dX12_share_5 (by decide) (fun _ => ?_) (fun q9 => absurd (by decide) q9)
  refine lv_iconst (v := (-1)) hx hb dX12_share_16 (by decide) ?_
  exact ro_iret hx hb hr hlocks hS dX12_share_17 rfl

def wm_X12_say : List Cond := .code yX12_say cX12_say 9 (some .int) :: (([.fieldLink RX12 205 "TalePlayModel" "rowMany" "I", .constantLong RX12 220 (7), .methodLink RX12 166 yX12_in, .static yX12_in, .initialized RX12, .code yX12_in cX12_in 6 (some .boolean), .methodLink RX12 222 yX12_areNumbers, .instanceMethod yX12_areNumbers, .selects RX12 yX12_areNumbers yX12_areNumbers, .code yX12_areNumbers cX12_areNumbers 5 (some .boolean), .methodLink RX12 180 yX12_isObject, .instanceMethod yX12_isObject, .selects RX12 yX12_isObject yX12_isObject, .code yX12_isObject cX12_isObject 2 (some .boolean), .fieldLink RX12 177 "TalePlayModel" "objects" "I"] : List Cond) ++ wsX120)
set_option maxRecDepth 20000 in
theorem gm_X12_say_X12_in : GoodIn wm_X12_say (va_wsS RX12 166 yX12_in wm_X12_in) := goodIn_app (goodIn_of _ (by decide +kernel)) (goodIn_r _ [6] (by decide +kernel) (by decide +kernel))
set_option maxRecDepth 20000 in
theorem gm_X12_say_X12_areNumbers : GoodIn wm_X12_say (wsV RX12 222 RX12 yX12_areNumbers wm_X12_areNumbers) := goodIn_app (goodIn_of _ (by decide +kernel)) (goodIn_r _ [10, 11, 12, 13, 5, 14, 15, 3, 4, 6, 16, 17, 18, 19, 20, 21, 22, 23, 24, 25, 26, 27, 28, 29, 30, 31, 32, 33, 34, 35, 36, 37, 38, 39, 40, 41, 42, 43, 44, 45, 46, 47, 48, 49, 50, 51, 52, 53, 54, 55, 56, 57, 58, 59, 60, 61, 62, 63, 64, 65, 66, 67, 68, 69, 70, 71, 72, 73, 74, 75, 76, 77, 78, 79, 80, 81, 82, 83, 84] (by decide +kernel) (by decide +kernel))
set_option maxHeartbeats 4000000 in
set_option maxRecDepth 100000 in
/-- say() of a fresh reference -/
theorem c_X12_say (l : Launch) (D : va_G) (sz : Nat) (m0 : Nat) (g1 : Nat) (g3 : Nat) (g4 : Nat) (g6 : Nat) (g7 : Nat) (g9 : Nat) (g10 : Nat) (g11 : Nat) (g12 : Nat) (g13 : Nat) (g14 : Nat) (g20 : Nat) (g21 : Nat) (g23 : Nat) (g24 : Nat) (g25 : Nat) (g26 : Nat) (g28 : Nat) (g29 : Nat) (g30 : Nat) (g31 : Nat) (g32 : Nat) (g34 : Nat) (g38 : Nat) (g39 : Nat) (g43 : Nat) (g44 : Nat) (g45 : Nat) (g46 : Nat) (g47 : Nat) (g48 : Nat) (g49 : Nat) (g51 : Nat) (g52 : Nat) (g53 : Nat) (g54 : Nat) (g55 : Nat) (g56 : Nat) (g60 : Nat) (g61 : Nat) (g62 : Nat) (g63 : Nat) (g65 : Nat) (g66 : Nat) (g67 : Nat) (g68 : Nat) (a1 : Int32) (a2 : Int32) (a3 : Int32) (a4 : Int32) : Met l yX12_say wm_X12_say ({ frames := 3, cells := 0, slots := 0, locals := 70 }) (va_Pc [.ref m0, .int a1, .int a2, .int a3, .int a4] (pB D sz [(m0, .inr (12, [.int 0, .ref g1, .int 6, .ref g3, .ref g4, .int 0, .ref g6, .ref g7, .int 0, .ref g9, .ref g10, .ref g11, .ref g12, .ref g13, .ref g14, .int 0, .int 0, .int 0, .int 0, .int 0, .ref g20, .ref g21, .int (-9), .ref g23, .ref g24, .ref g25, .ref g26, .int 0, .ref g28, .ref g29, .ref g30, .ref g31, .ref g32, .int 0, .ref g34, .int 0, .int 0, .long 0, .ref g38, .ref g39, .int 0, .int 0, .int 0, .ref g43, .ref g44, .ref g45, .ref g46, .ref g47, .ref g48, .ref g49, .int 0, .ref g51, .ref g52, .ref g53, .ref g54, .ref g55, .ref g56, .int (-9), .int 0, .int 0, .ref g60, .ref g61, .ref g62, .ref g63, .int 0, .ref g65, .ref g66, .ref g67, .ref g68]))] [])) (va_Qi (fun (r : Int32) (_ : Unit) => r = (-1)) (oC D (va_A [(m0, .inr (12, [.int 0, .ref g1, .int 6, .ref g3, .ref g4, .int 0, .ref g6, .ref g7, .int 0, .ref g9, .ref g10, .ref g11, .ref g12, .ref g13, .ref g14, .int 0, .int 0, .int 0, .int 0, .int 0, .ref g20, .ref g21, .int (-9), .ref g23, .ref g24, .ref g25, .ref g26, .int 0, .ref g28, .ref g29, .ref g30, .ref g31, .ref g32, .int 0, .ref g34, .int 0, .int 0, .long 0, .ref g38, .ref g39, .int 0, .int 0, .int 0, .ref g43, .ref g44, .ref g45, .ref g46, .ref g47, .ref g48, .ref g49, .int 0, .ref g51, .ref g52, .ref g53, .ref g54, .ref g55, .ref g56, .int (-9), .int 0, .int 0, .ref g60, .ref g61, .ref g62, .ref g63, .int 0, .ref g65, .ref g66, .ref g67, .ref g68]))] sz) (fun _ => []) (fun _ => [])) (va_A [(m0, .inr (12, [.int 0, .ref g1, .int 6, .ref g3, .ref g4, .int 0, .ref g6, .ref g7, .int 0, .ref g9, .ref g10, .ref g11, .ref g12, .ref g13, .ref g14, .int 0, .int 0, .int 0, .int 0, .int 0, .ref g20, .ref g21, .int (-9), .ref g23, .ref g24, .ref g25, .ref g26, .int 0, .ref g28, .ref g29, .ref g30, .ref g31, .ref g32, .int 0, .ref g34, .int 0, .int 0, .long 0, .ref g38, .ref g39, .int 0, .int 0, .int 0, .ref g43, .ref g44, .ref g45, .ref g46, .ref g47, .ref g48, .ref g49, .int 0, .ref g51, .ref g52, .ref g53, .ref g54, .ref g55, .ref g56, .int (-9), .int 0, .int 0, .ref g60, .ref g61, .ref g62, .ref g63, .int 0, .ref g65, .ref g66, .ref g67, .ref g68]))] sz)) 0 0 (va_A [(m0, .inr (12, [.int 0, .ref g1, .int 6, .ref g3, .ref g4, .int 0, .ref g6, .ref g7, .int 0, .ref g9, .ref g10, .ref g11, .ref g12, .ref g13, .ref g14, .int 0, .int 0, .int 0, .int 0, .int 0, .ref g20, .ref g21, .int (-9), .ref g23, .ref g24, .ref g25, .ref g26, .int 0, .ref g28, .ref g29, .ref g30, .ref g31, .ref g32, .int 0, .ref g34, .int 0, .int 0, .long 0, .ref g38, .ref g39, .int 0, .int 0, .int 0, .ref g43, .ref g44, .ref g45, .ref g46, .ref g47, .ref g48, .ref g49, .int 0, .ref g51, .ref g52, .ref g53, .ref g54, .ref g55, .ref g56, .int (-9), .int 0, .int 0, .ref g60, .ref g61, .ref g62, .ref g63, .int 0, .ref g65, .ref g66, .ref g67, .ref g68]))] sz) := by
  refine Met.ofW (cc := cX12_say) (maxL := 9) (ret := (some .int)) (by decide) rfl ?_
  intro p e s m args below meth c s₁ B hml hv
  obtain ⟨rfl, hsz, hP, hK, hD0⟩ := hv
  have hx := B.exec
  have hb := B.bytes
  have hr := B.returns
  have hts := atoms_spec (ws := wm_X12_say) B.pre
  have hown : s.vm.findClass RX12 = some m.cls := findClass_of_methodNamed B.named
  have hlocks := B.notSynchronized
  subst hsz
  have hD := hD0.self (sz := s.heap.size)
  generalize hAe : va_A [(m0, .inr (12, [.int 0, .ref g1, .int 6, .ref g3, .ref g4, .int 0, .ref g6, .ref g7, .int 0, .ref g9, .ref g10, .ref g11, .ref g12, .ref g13, .ref g14, .int 0, .int 0, .int 0, .int 0, .int 0, .ref g20, .ref g21, .int (-9), .ref g23, .ref g24, .ref g25, .ref g26, .int 0, .ref g28, .ref g29, .ref g30, .ref g31, .ref g32, .int 0, .ref g34, .int 0, .int 0, .long 0, .ref g38, .ref g39, .int 0, .int 0, .int 0, .ref g43, .ref g44, .ref g45, .ref g46, .ref g47, .ref g48, .ref g49, .int 0, .ref g51, .ref g52, .ref g53, .ref g54, .ref g55, .ref g56, .int (-9), .int 0, .int 0, .ref g60, .ref g61, .ref g62, .ref g63, .int 0, .ref g65, .ref g66, .ref g67, .ref g68]))] s.heap.size = A at hD ⊢
  have hA : ∀ q : Nat, s.heap.size ≤ q → A q := fun q h => by rw [← hAe]; exact Or.inr h
  have hS : va_S A s.heap s.heap [] := va_S.rf
  have hP : va_P D vwCl [(m0, .inr (12, [.int 0, .ref g1, .int 6, .ref g3, .ref g4, .int 0, .ref g6, .ref g7, .int 0, .ref g9, .ref g10, .ref g11, .ref g12, .ref g13, .ref g14, .int 0, .int 0, .int 0, .int 0, .int 0, .ref g20, .ref g21, .int (-9), .ref g23, .ref g24, .ref g25, .ref g26, .int 0, .ref g28, .ref g29, .ref g30, .ref g31, .ref g32, .int 0, .ref g34, .int 0, .int 0, .long 0, .ref g38, .ref g39, .int 0, .int 0, .int 0, .ref g43, .ref g44, .ref g45, .ref g46, .ref g47, .ref g48, .ref g49, .int 0, .ref g51, .ref g52, .ref g53, .ref g54, .ref g55, .ref g56, .int (-9), .int 0, .int 0, .ref g60, .ref g61, .ref g62, .ref g63, .int 0, .ref g65, .ref g66, .ref g67, .ref g68]))] s.heap := hP
  have hl := lv_entry ([.ref m0, .int a1, .int a2, .int a3, .int a4]) (n := 9) (Nat.le_of_ble_eq_true rfl)
  rw [lg_entry_eq]
  generalize (lg_sl ([.ref m0, .int a1, .int a2, .int a3, .int a4]) ++ List.replicate (9 - (lg_sl ([.ref m0, .int a1, .int a2, .int a3, .int a4])).length) Slot.unset).toArray = ls at hl ⊢
  have hl : lv_has ls 9 [(0, .ref m0), (1, .int a1), (2, .int a2), (3, .int a3), (4, .int a4)] := hl
  refine lv_aload_n hx hb dX12_say_0 rfl (lv_at hl 0 rfl) ?_
  refine lv_iconst (v := 0) hx hb dX12_say_1 (by decide) ?_
  refine va_put (D := D) (ci := 12) (v := .int 0) (ty := .int) (C := RX12) (T := TX12) (N := 69) hx hb hts (fun _ h => List.mem_cons_of_mem _ (List.mem_append_right _ h)) tyX12 tyX12_ok nmX12 hown hK hP hD hS 0 rfl rfl 15 (by decide) (hts (.fieldLink RX12 205 "TalePlayModel" "rowMany" "I") (by decide +kernel)) (fun _ h9 => h9) rfl (by decide +kernel) rfl rfl (Nat.le_of_ble_eq_true rfl) dX12_say_2 (fun H locs hP hD hS => ?_)
  have hP : va_P D vwCl [(m0, .inr (12, [.int 0, .ref g1, .int 6, .ref g3, .ref g4, .int 0, .ref g6, .ref g7, .int 0, .ref g9, .ref g10, .ref g11, .ref g12, .ref g13, .ref g14, .int 0, .int 0, .int 0, .int 0, .int 0, .ref g20, .ref g21, .int (-9), .ref g23, .ref g24, .ref g25, .ref g26, .int 0, .ref g28, .ref g29, .ref g30, .ref g31, .ref g32, .int 0, .ref g34, .int 0, .int 0, .long 0, .ref g38, .ref g39, .int 0, .int 0, .int 0, .ref g43, .ref g44, .ref g45, .ref g46, .ref g47, .ref g48, .ref g49, .int 0, .ref g51, .ref g52, .ref g53, .ref g54, .ref g55, .ref g56, .int (-9), .int 0, .int 0, .ref g60, .ref g61, .ref g62, .ref g63, .int 0, .ref g65, .ref g66, .ref g67, .ref g68]))] H := hP
  have hD : va_D A [(m0, .inr (12, [.int 0, .ref g1, .int 6, .ref g3, .ref g4, .int 0, .ref g6, .ref g7, .int 0, .ref g9, .ref g10, .ref g11, .ref g12, .ref g13, .ref g14, .int 0, .int 0, .int 0, .int 0, .int 0, .ref g20, .ref g21, .int (-9), .ref g23, .ref g24, .ref g25, .ref g26, .int 0, .ref g28, .ref g29, .ref g30, .ref g31, .ref g32, .int 0, .ref g34, .int 0, .int 0, .long 0, .ref g38, .ref g39, .int 0, .int 0, .int 0, .ref g43, .ref g44, .ref g45, .ref g46, .ref g47, .ref g48, .ref g49, .int 0, .ref g51, .ref g52, .ref g53, .ref g54, .ref g55, .ref g56, .int (-9), .int 0, .int 0, .ref g60, .ref g61, .ref g62, .ref g63, .int 0, .ref g65, .ref g66, .ref g67, .ref g68]))] := hD
  refine lv_iload_n hx hb dX12_say_5 rfl (lv_at hl 1 rfl) ?_
  refine lv_i2l (v := a1.toInt64) hx hb dX12_say_6 rfl ?_
  refine lv_lconst (v := 0) hx hb dX12_say_7 (by decide) ?_
  refine lv_ldc2 (v := 7) hx hb hown (hts (.constantLong RX12 220 (7)) (by decide +kernel)) dX12_say_8 ?_
  have hPc := hP.sub (ws' := []) [] rfl
  have hKc := hK.sub (tys' := []) [] rfl
  refine ro_calli (va_runS (As := [.long a1.toInt64, .long 0, .long 7]) (rest := []) ⟨hx, hb, hml, hown, hts⟩ (c_X12_in l D H.size a1.toInt64 0 7 a1.toInt 0 7 ((Int32.toInt_toInt64 a1).trans rfl) (by decide) (by decide)) (va_cwS 3 hts gm_X12_say_X12_in rfl rfl rfl (by decide +kernel) ⟨Nat.le_of_ble_eq_true rfl, Nat.le_of_ble_eq_true rfl⟩) (pA_S hKc hPc) rfl rfl hl.1 rfl (lv_room (Nat.le_of_ble_eq_true rfl)) dX12_say_11 ⟨Nat.le_of_ble_eq_true rfl, Nat.le_of_ble_eq_true rfl⟩) hS hA hP (fun r1 u1 H locs hw1 hP hS => ?_)
  have hw1 : r1 = if (0 ≤ a1.toInt ∧ a1.toInt ≤ 7) then 1 else 0 := hw1
  refine lv_if_eq (tgt := 29) hx hb dX12_say_14 (by decide) (fun c2 => ?_) (fun c2 => ?_)
  · have f2 := fl_f hw1 c2
    refine lv_iconst (v := (-1)) hx hb dX12_say_29 (by decide) ?_
    exact rw_iret () hx hb hr hlocks hS (hK.sub (tys' := []) [] rfl) (hP.sub (ws' := []) [] rfl) (hD.sub (ws' := []) [] (by decide) rfl) dX12_say_30 rfl
  · have f2 := fl_t hw1 c2
    refine lv_aload_n hx hb dX12_say_17 rfl (lv_at hl 0 rfl) ?_
    refine lv_iload_n hx hb dX12_say_18 rfl (lv_at hl 1 rfl) ?_
    refine lv_iload_n hx hb dX12_say_19 rfl (lv_at hl 2 rfl) ?_
    refine lv_iload_n hx hb dX12_say_20 rfl (lv_at hl 3 rfl) ?_
    refine lv_iload hx hb dX12_say_21 (lv_at hl 4 rfl) ?_
    have hPc := hP.sub (ws' := [(m0, .inr (12, [.int 0, .ref g1, .int 6, .ref g3, .ref g4, .int 0, .ref g6, .ref g7, .int 0, .ref g9, .ref g10, .ref g11, .ref g12, .ref g13, .ref g14, .int 0, .int 0, .int 0, .int 0, .int 0, .ref g20, .ref g21, .int (-9), .ref g23, .ref g24, .ref g25, .ref g26, .int 0, .ref g28, .ref g29, .ref g30, .ref g31, .ref g32, .int 0, .ref g34, .int 0, .int 0, .long 0, .ref g38, .ref g39, .int 0, .int 0, .int 0, .ref g43, .ref g44, .ref g45, .ref g46, .ref g47, .ref g48, .ref g49, .int 0, .ref g51, .ref g52, .ref g53, .ref g54, .ref g55, .ref g56, .int (-9), .int 0, .int 0, .ref g60, .ref g61, .ref g62, .ref g63, .int 0, .ref g65, .ref g66, .ref g67, .ref g68]))]) [0] rfl
    have hKc := hK.sub (tys' := []) [] rfl
    refine ro_calli (va_runV (As := [.int a1, .int a2, .int a3, .int a4]) (rest := []) ⟨hx, hb, hml, hown, hts⟩ (c_X12_areNumbers l D H.size m0 g1 g3 g4 g6 g7 g9 g10 g11 g12 g13 g14 g20 g21 g23 g24 g25 g26 g28 g29 g30 g31 g32 g34 g38 g39 g43 g44 g45 g46 g47 g48 g49 g51 g52 g53 g54 g55 g56 g60 g61 g62 g63 g65 g66 g67 g68 a1 a2 a3 a4) (cwV 4 hts gm_X12_say_X12_areNumbers rfl rfl rfl (by decide +kernel) ⟨Nat.le_of_ble_eq_true rfl, Nat.le_of_ble_eq_true rfl⟩) (pA_V hKc hPc (ci := 12) (q0 := 0) rfl rfl) rfl rfl hl.1 rfl (lv_room (Nat.le_of_ble_eq_true rfl)) dX12_say_23 ⟨Nat.le_of_ble_eq_true rfl, Nat.le_of_ble_eq_true rfl⟩) hS hA hP (fun r3 u3 H locs hw3 hP hS => ?_)
    have hw3 : r3 = 0 := hw3
    subst hw3
    refine lv_if_ne (tgt := 31) hx hb dX12_say_26 (by decide) (fun q9 => absurd q9 (by decide)) (fun _ => ?_)
    refine lv_iconst (v := (-1)) hx hb dX12_say_29 (by decide) ?_
    exact rw_iret () hx hb hr hlocks hS (hK.sub (tys' := []) [] rfl) (hP.sub (ws' := []) [] rfl) (hD.sub (ws' := []) [] (by decide) rfl) dX12_say_30 rfl

def wm_X12_unsay : List Cond := .code yX12_unsay cX12_unsay 2 (some .int) :: (([.fieldLink RX12 202 "TalePlayModel" "sentences" "I", .methodLink RX12 166 yX12_in, .static yX12_in, .initialized RX12, .code yX12_in cX12_in 6 (some .boolean)] : List Cond) ++ wsX120)
set_option maxRecDepth 20000 in
theorem gm_X12_unsay_X12_in : GoodIn wm_X12_unsay (va_wsS RX12 166 yX12_in wm_X12_in) := goodIn_app (goodIn_of _ (by decide +kernel)) (goodIn_r _ [5] (by decide +kernel) (by decide +kernel))
set_option maxHeartbeats 4000000 in
set_option maxRecDepth 100000 in
/-- unsay() of a fresh reference -/
theorem c_X12_unsay (l : Launch) (D : va_G) (sz : Nat) (m0 : Nat) (g1 : Nat) (g3 : Nat) (g4 : Nat) (g6 : Nat) (g7 : Nat) (g9 : Nat) (g10 : Nat) (g11 : Nat) (g12 : Nat) (g13 : Nat) (g14 : Nat) (g20 : Nat) (g21 : Nat) (g23 : Nat) (g24 : Nat) (g25 : Nat) (g26 : Nat) (g28 : Nat) (g29 : Nat) (g30 : Nat) (g31 : Nat) (g32 : Nat) (g34 : Nat) (g38 : Nat) (g39 : Nat) (g43 : Nat) (g44 : Nat) (g45 : Nat) (g46 : Nat) (g47 : Nat) (g48 : Nat) (g49 : Nat) (g51 : Nat) (g52 : Nat) (g53 : Nat) (g54 : Nat) (g55 : Nat) (g56 : Nat) (g60 : Nat) (g61 : Nat) (g62 : Nat) (g63 : Nat) (g65 : Nat) (g66 : Nat) (g67 : Nat) (g68 : Nat) (a1 : Int32) : Met l yX12_unsay wm_X12_unsay ({ frames := 1, cells := 0, slots := 0, locals := 25 }) (va_Pc [.ref m0, .int a1] (pA D sz [(m0, .inr (12, [.int 0, .ref g1, .int 6, .ref g3, .ref g4, .int 0, .ref g6, .ref g7, .int 0, .ref g9, .ref g10, .ref g11, .ref g12, .ref g13, .ref g14, .int 0, .int 0, .int 0, .int 0, .int 0, .ref g20, .ref g21, .int (-9), .ref g23, .ref g24, .ref g25, .ref g26, .int 0, .ref g28, .ref g29, .ref g30, .ref g31, .ref g32, .int 0, .ref g34, .int 0, .int 0, .long 0, .ref g38, .ref g39, .int 0, .int 0, .int 0, .ref g43, .ref g44, .ref g45, .ref g46, .ref g47, .ref g48, .ref g49, .int 0, .ref g51, .ref g52, .ref g53, .ref g54, .ref g55, .ref g56, .int (-9), .int 0, .int 0, .ref g60, .ref g61, .ref g62, .ref g63, .int 0, .ref g65, .ref g66, .ref g67, .ref g68]))] [])) (va_Qi (fun (r : Int32) (_ : Unit) => r = (-1)) oA (ro sz)) 0 0 (ro sz) := by
  refine Met.ofW (cc := cX12_unsay) (maxL := 2) (ret := (some .int)) (by decide) rfl ?_
  intro p e s m args below meth c s₁ B hml hv
  obtain ⟨rfl, hsz, hP, hK⟩ := hv
  have hx := B.exec
  have hb := B.bytes
  have hr := B.returns
  have hts := atoms_spec (ws := wm_X12_unsay) B.pre
  have hown : s.vm.findClass RX12 = some m.cls := findClass_of_methodNamed B.named
  have hlocks := B.notSynchronized
  subst hsz
  have hA : ∀ q : Nat, s.heap.size ≤ q → ro s.heap.size q := fun _ h => h
  have hS : va_S (ro s.heap.size) s.heap s.heap [] := va_S.rf
  have hP : va_P D vwCl [(m0, .inr (12, [.int 0, .ref g1, .int 6, .ref g3, .ref g4, .int 0, .ref g6, .ref g7, .int 0, .ref g9, .ref g10, .ref g11, .ref g12, .ref g13, .ref g14, .int 0, .int 0, .int 0, .int 0, .int 0, .ref g20, .ref g21, .int (-9), .ref g23, .ref g24, .ref g25, .ref g26, .int 0, .ref g28, .ref g29, .ref g30, .ref g31, .ref g32, .int 0, .ref g34, .int 0, .int 0, .long 0, .ref g38, .ref g39, .int 0, .int 0, .int 0, .ref g43, .ref g44, .ref g45, .ref g46, .ref g47, .ref g48, .ref g49, .int 0, .ref g51, .ref g52, .ref g53, .ref g54, .ref g55, .ref g56, .int (-9), .int 0, .int 0, .ref g60, .ref g61, .ref g62, .ref g63, .int 0, .ref g65, .ref g66, .ref g67, .ref g68]))] s.heap := hP
  have hl := lv_entry ([.ref m0, .int a1]) (n := 2) (Nat.le_of_ble_eq_true rfl)
  rw [lg_entry_eq]
  generalize (lg_sl ([.ref m0, .int a1]) ++ List.replicate (2 - (lg_sl ([.ref m0, .int a1])).length) Slot.unset).toArray = ls at hl ⊢
  have hl : lv_has ls 2 [(0, .ref m0), (1, .int a1)] := hl
  refine lv_iload_n hx hb dX12_unsay_0 rfl (lv_at hl 1 rfl) ?_
  refine lv_i2l (v := a1.toInt64) hx hb dX12_unsay_1 rfl ?_
  refine lv_lconst (v := 0) hx hb dX12_unsay_2 (by decide) ?_
  refine lv_aload_n hx hb dX12_unsay_3 rfl (lv_at hl 0 rfl) ?_
  refine va_get (D := D) (ci := 12) (v := .int 0) (C := RX12) (T := TX12) (N := 69) hx hb hts (fun _ h => List.mem_cons_of_mem _ (List.mem_append_right _ h)) hown hK hP 0 rfl rfl 8 (by decide) (hts (.fieldLink RX12 202 "TalePlayModel" "sentences" "I") (by decide +kernel)) (fun _ h9 => h9) rfl dX12_unsay_4 ?_
  refine lv_iconst (v := 1) hx hb dX12_unsay_7 (by decide) ?_
  refine lv_isub hx hb dX12_unsay_8 ?_
  refine tp_i (y := (-1)) (by decide) ?_
  refine lv_i2l (v := (-1)) hx hb dX12_unsay_9 (by decide) ?_
  have hPc := hP.sub (ws' := []) [] rfl
  have hKc := hK.sub (tys' := []) [] rfl
  refine ro_calli (va_runS (As := [.long a1.toInt64, .long 0, .long (-1)]) (rest := []) ⟨hx, hb, hml, hown, hts⟩ (c_X12_in0 l D s.heap.size a1.toInt64 0 (-1) a1.toInt 0 (-1) ((Int32.toInt_toInt64 a1).trans rfl) (by decide) (by decide) (by omega)) (va_cwS 3 hts gm_X12_unsay_X12_in rfl rfl rfl (by decide +kernel) ⟨Nat.le_of_ble_eq_true rfl, Nat.le_of_ble_eq_true rfl⟩) (pA_S hKc hPc) rfl rfl hl.1 rfl (lv_room (Nat.le_of_ble_eq_true rfl)) dX12_unsay_10 ⟨Nat.le_of_ble_eq_true rfl, Nat.le_of_ble_eq_true rfl⟩) hS hA hP (fun r1 u1 H locs hw1 hP hS => ?_)
  have hw1 : r1 = 0 := hw1
  subst hw1
  refine lv_if_eq (tgt := 25) hx hb dX12_unsay_13 (by decide) (fun _ => ?_) (fun q9 => absurd (by decide) q9)
  refine lv_iconst (v := (-1)) hx hb dX12_unsay_25 (by decide) ?_
  exact ro_iret hx hb hr hlocks hS dX12_unsay_26 rfl

def wm_X12_sentence : List Cond := .code yX12_sentence cX12_sentence 3 (some .int) :: (([.fieldLink RX12 202 "TalePlayModel" "sentences" "I", .methodLink RX12 166 yX12_in, .static yX12_in, .initialized RX12, .code yX12_in cX12_in 6 (some .boolean)] : List Cond) ++ wsX120)
set_option maxRecDepth 20000 in
theorem gm_X12_sentence_X12_in : GoodIn wm_X12_sentence (va_wsS RX12 166 yX12_in wm_X12_in) := goodIn_app (goodIn_of _ (by decide +kernel)) (goodIn_r _ [5] (by decide +kernel) (by decide +kernel))
set_option maxHeartbeats 4000000 in
set_option maxRecDepth 100000 in
/-- sentence() of a fresh reference -/
theorem c_X12_sentence (l : Launch) (D : va_G) (sz : Nat) (m0 : Nat) (g1 : Nat) (g3 : Nat) (g4 : Nat) (g6 : Nat) (g7 : Nat) (g9 : Nat) (g10 : Nat) (g11 : Nat) (g12 : Nat) (g13 : Nat) (g14 : Nat) (g20 : Nat) (g21 : Nat) (g23 : Nat) (g24 : Nat) (g25 : Nat) (g26 : Nat) (g28 : Nat) (g29 : Nat) (g30 : Nat) (g31 : Nat) (g32 : Nat) (g34 : Nat) (g38 : Nat) (g39 : Nat) (g43 : Nat) (g44 : Nat) (g45 : Nat) (g46 : Nat) (g47 : Nat) (g48 : Nat) (g49 : Nat) (g51 : Nat) (g52 : Nat) (g53 : Nat) (g54 : Nat) (g55 : Nat) (g56 : Nat) (g60 : Nat) (g61 : Nat) (g62 : Nat) (g63 : Nat) (g65 : Nat) (g66 : Nat) (g67 : Nat) (g68 : Nat) (a1 : Int32) (a2 : Int32) : Met l yX12_sentence wm_X12_sentence ({ frames := 1, cells := 0, slots := 0, locals := 25 }) (va_Pc [.ref m0, .int a1, .int a2] (pA D sz [(m0, .inr (12, [.int 0, .ref g1, .int 6, .ref g3, .ref g4, .int 0, .ref g6, .ref g7, .int 0, .ref g9, .ref g10, .ref g11, .ref g12, .ref g13, .ref g14, .int 0, .int 0, .int 0, .int 0, .int 0, .ref g20, .ref g21, .int (-9), .ref g23, .ref g24, .ref g25, .ref g26, .int 0, .ref g28, .ref g29, .ref g30, .ref g31, .ref g32, .int 0, .ref g34, .int 0, .int 0, .long 0, .ref g38, .ref g39, .int 0, .int 0, .int 0, .ref g43, .ref g44, .ref g45, .ref g46, .ref g47, .ref g48, .ref g49, .int 0, .ref g51, .ref g52, .ref g53, .ref g54, .ref g55, .ref g56, .int (-9), .int 0, .int 0, .ref g60, .ref g61, .ref g62, .ref g63, .int 0, .ref g65, .ref g66, .ref g67, .ref g68]))] [])) (va_Qi (fun (r : Int32) (_ : Unit) => r = (-1)) oA (ro sz)) 0 0 (ro sz) := by
  refine Met.ofW (cc := cX12_sentence) (maxL := 3) (ret := (some .int)) (by decide) rfl ?_
  intro p e s m args below meth c s₁ B hml hv
  obtain ⟨rfl, hsz, hP, hK⟩ := hv
  have hx := B.exec
  have hb := B.bytes
  have hr := B.returns
  have hts := atoms_spec (ws := wm_X12_sentence) B.pre
  have hown : s.vm.findClass RX12 = some m.cls := findClass_of_methodNamed B.named
  have hlocks := B.notSynchronized
  subst hsz
  have hA : ∀ q : Nat, s.heap.size ≤ q → ro s.heap.size q := fun _ h => h
  have hS : va_S (ro s.heap.size) s.heap s.heap [] := va_S.rf
  have hP : va_P D vwCl [(m0, .inr (12, [.int 0, .ref g1, .int 6, .ref g3, .ref g4, .int 0, .ref g6, .ref g7, .int 0, .ref g9, .ref g10, .ref g11, .ref g12, .ref g13, .ref g14, .int 0, .int 0, .int 0, .int 0, .int 0, .ref g20, .ref g21, .int (-9), .ref g23, .ref g24, .ref g25, .ref g26, .int 0, .ref g28, .ref g29, .ref g30, .ref g31, .ref g32, .int 0, .ref g34, .int 0, .int 0, .long 0, .ref g38, .ref g39, .int 0, .int 0, .int 0, .ref g43, .ref g44, .ref g45, .ref g46, .ref g47, .ref g48, .ref g49, .int 0, .ref g51, .ref g52, .ref g53, .ref g54, .ref g55, .ref g56, .int (-9), .int 0, .int 0, .ref g60, .ref g61, .ref g62, .ref g63, .int 0, .ref g65, .ref g66, .ref g67, .ref g68]))] s.heap := hP
  have hl := lv_entry ([.ref m0, .int a1, .int a2]) (n := 3) (Nat.le_of_ble_eq_true rfl)
  rw [lg_entry_eq]
  generalize (lg_sl ([.ref m0, .int a1, .int a2]) ++ List.replicate (3 - (lg_sl ([.ref m0, .int a1, .int a2])).length) Slot.unset).toArray = ls at hl ⊢
  have hl : lv_has ls 3 [(0, .ref m0), (1, .int a1), (2, .int a2)] := hl
  refine lv_iload_n hx hb dX12_sentence_0 rfl (lv_at hl 1 rfl) ?_
  refine lv_i2l (v := a1.toInt64) hx hb dX12_sentence_1 rfl ?_
  refine lv_lconst (v := 0) hx hb dX12_sentence_2 (by decide) ?_
  refine lv_aload_n hx hb dX12_sentence_3 rfl (lv_at hl 0 rfl) ?_
  refine va_get (D := D) (ci := 12) (v := .int 0) (C := RX12) (T := TX12) (N := 69) hx hb hts (fun _ h => List.mem_cons_of_mem _ (List.mem_append_right _ h)) hown hK hP 0 rfl rfl 8 (by decide) (hts (.fieldLink RX12 202 "TalePlayModel" "sentences" "I") (by decide +kernel)) (fun _ h9 => h9) rfl dX12_sentence_4 ?_
  refine lv_iconst (v := 1) hx hb dX12_sentence_7 (by decide) ?_
  refine lv_isub hx hb dX12_sentence_8 ?_
  refine tp_i (y := (-1)) (by decide) ?_
  refine lv_i2l (v := (-1)) hx hb dX12_sentence_9 (by decide) ?_
  have hPc := hP.sub (ws' := []) [] rfl
  have hKc := hK.sub (tys' := []) [] rfl
  refine ro_calli (va_runS (As := [.long a1.toInt64, .long 0, .long (-1)]) (rest := []) ⟨hx, hb, hml, hown, hts⟩ (c_X12_in0 l D s.heap.size a1.toInt64 0 (-1) a1.toInt 0 (-1) ((Int32.toInt_toInt64 a1).trans rfl) (by decide) (by decide) (by omega)) (va_cwS 3 hts gm_X12_sentence_X12_in rfl rfl rfl (by decide +kernel) ⟨Nat.le_of_ble_eq_true rfl, Nat.le_of_ble_eq_true rfl⟩) (pA_S hKc hPc) rfl rfl hl.1 rfl (lv_room (Nat.le_of_ble_eq_true rfl)) dX12_sentence_10 ⟨Nat.le_of_ble_eq_true rfl, Nat.le_of_ble_eq_true rfl⟩) hS hA hP (fun r1 u1 H locs hw1 hP hS => ?_)
  have hw1 : r1 = 0 := hw1
  subst hw1
  refine lv_if_eq (tgt := 28) hx hb dX12_sentence_13 (by decide) (fun _ => ?_) (fun q9 => absurd (by decide) q9)
  refine lv_iconst (v := (-1)) hx hb dX12_sentence_28 (by decide) ?_
  exact ro_iret hx hb hr hlocks hS dX12_sentence_29 rfl

def wm_X12_place : List Cond := .code yX12_place cX12_place 4 (some .int) :: (([.methodLink RX12 180 yX12_isObject, .instanceMethod yX12_isObject, .selects RX12 yX12_isObject yX12_isObject, .initialized RX12, .code yX12_isObject cX12_isObject 2 (some .boolean), .fieldLink RX12 177 "TalePlayModel" "objects" "I", .methodLink RX12 166 yX12_in, .static yX12_in, .code yX12_in cX12_in 6 (some .boolean)] : List Cond) ++ wsX120)
set_option maxRecDepth 20000 in
theorem gm_X12_place_X12_isObject : GoodIn wm_X12_place (wsV RX12 180 RX12 yX12_isObject wm_X12_isObject) := goodIn_app (goodIn_of _ (by decide +kernel)) (goodIn_r _ [5, 6, 7, 8, 4, 9, 10, 11, 12, 13, 14, 15, 16, 17, 18, 19, 20, 21, 22, 23, 24, 25, 26, 27, 28, 29, 30, 31, 32, 33, 34, 35, 36, 37, 38, 39, 40, 41, 42, 43, 44, 45, 46, 47, 48, 49, 50, 51, 52, 53, 54, 55, 56, 57, 58, 59, 60, 61, 62, 63, 64, 65, 66, 67, 68, 69, 70, 71, 72, 73, 74, 75, 76, 77, 78] (by decide +kernel) (by decide +kernel))
set_option maxHeartbeats 4000000 in
set_option maxRecDepth 100000 in
/-- place() of a fresh reference -/
theorem c_X12_place (l : Launch) (D : va_G) (sz : Nat) (m0 : Nat) (g1 : Nat) (g3 : Nat) (g4 : Nat) (g6 : Nat) (g7 : Nat) (g9 : Nat) (g10 : Nat) (g11 : Nat) (g12 : Nat) (g13 : Nat) (g14 : Nat) (g20 : Nat) (g21 : Nat) (g23 : Nat) (g24 : Nat) (g25 : Nat) (g26 : Nat) (g28 : Nat) (g29 : Nat) (g30 : Nat) (g31 : Nat) (g32 : Nat) (g34 : Nat) (g38 : Nat) (g39 : Nat) (g43 : Nat) (g44 : Nat) (g45 : Nat) (g46 : Nat) (g47 : Nat) (g48 : Nat) (g49 : Nat) (g51 : Nat) (g52 : Nat) (g53 : Nat) (g54 : Nat) (g55 : Nat) (g56 : Nat) (g60 : Nat) (g61 : Nat) (g62 : Nat) (g63 : Nat) (g65 : Nat) (g66 : Nat) (g67 : Nat) (g68 : Nat) (a1 : Int32) (a2 : Int32) : Met l yX12_place wm_X12_place ({ frames := 2, cells := 0, slots := 0, locals := 46 }) (va_Pc [.ref m0, .int a1, .int a2] (pA D sz [(m0, .inr (12, [.int 0, .ref g1, .int 6, .ref g3, .ref g4, .int 0, .ref g6, .ref g7, .int 0, .ref g9, .ref g10, .ref g11, .ref g12, .ref g13, .ref g14, .int 0, .int 0, .int 0, .int 0, .int 0, .ref g20, .ref g21, .int (-9), .ref g23, .ref g24, .ref g25, .ref g26, .int 0, .ref g28, .ref g29, .ref g30, .ref g31, .ref g32, .int 0, .ref g34, .int 0, .int 0, .long 0, .ref g38, .ref g39, .int 0, .int 0, .int 0, .ref g43, .ref g44, .ref g45, .ref g46, .ref g47, .ref g48, .ref g49, .int 0, .ref g51, .ref g52, .ref g53, .ref g54, .ref g55, .ref g56, .int (-9), .int 0, .int 0, .ref g60, .ref g61, .ref g62, .ref g63, .int 0, .ref g65, .ref g66, .ref g67, .ref g68]))] [])) (va_Qi (fun (r : Int32) (_ : Unit) => r = (-1)) oA (ro sz)) 0 0 (ro sz) := by
  refine Met.ofW (cc := cX12_place) (maxL := 4) (ret := (some .int)) (by decide) rfl ?_
  intro p e s m args below meth c s₁ B hml hv
  obtain ⟨rfl, hsz, hP, hK⟩ := hv
  have hx := B.exec
  have hb := B.bytes
  have hr := B.returns
  have hts := atoms_spec (ws := wm_X12_place) B.pre
  have hown : s.vm.findClass RX12 = some m.cls := findClass_of_methodNamed B.named
  have hlocks := B.notSynchronized
  subst hsz
  have hA : ∀ q : Nat, s.heap.size ≤ q → ro s.heap.size q := fun _ h => h
  have hS : va_S (ro s.heap.size) s.heap s.heap [] := va_S.rf
  have hP : va_P D vwCl [(m0, .inr (12, [.int 0, .ref g1, .int 6, .ref g3, .ref g4, .int 0, .ref g6, .ref g7, .int 0, .ref g9, .ref g10, .ref g11, .ref g12, .ref g13, .ref g14, .int 0, .int 0, .int 0, .int 0, .int 0, .ref g20, .ref g21, .int (-9), .ref g23, .ref g24, .ref g25, .ref g26, .int 0, .ref g28, .ref g29, .ref g30, .ref g31, .ref g32, .int 0, .ref g34, .int 0, .int 0, .long 0, .ref g38, .ref g39, .int 0, .int 0, .int 0, .ref g43, .ref g44, .ref g45, .ref g46, .ref g47, .ref g48, .ref g49, .int 0, .ref g51, .ref g52, .ref g53, .ref g54, .ref g55, .ref g56, .int (-9), .int 0, .int 0, .ref g60, .ref g61, .ref g62, .ref g63, .int 0, .ref g65, .ref g66, .ref g67, .ref g68]))] s.heap := hP
  have hl := lv_entry ([.ref m0, .int a1, .int a2]) (n := 4) (Nat.le_of_ble_eq_true rfl)
  rw [lg_entry_eq]
  generalize (lg_sl ([.ref m0, .int a1, .int a2]) ++ List.replicate (4 - (lg_sl ([.ref m0, .int a1, .int a2])).length) Slot.unset).toArray = ls at hl ⊢
  have hl : lv_has ls 4 [(0, .ref m0), (1, .int a1), (2, .int a2)] := hl
  refine lv_aload_n hx hb dX12_place_0 rfl (lv_at hl 0 rfl) ?_
  refine lv_iload_n hx hb dX12_place_1 rfl (lv_at hl 1 rfl) ?_
  have hPc := hP.sub (ws' := [(m0, .inr (12, [.int 0, .ref g1, .int 6, .ref g3, .ref g4, .int 0, .ref g6, .ref g7, .int 0, .ref g9, .ref g10, .ref g11, .ref g12, .ref g13, .ref g14, .int 0, .int 0, .int 0, .int 0, .int 0, .ref g20, .ref g21, .int (-9), .ref g23, .ref g24, .ref g25, .ref g26, .int 0, .ref g28, .ref g29, .ref g30, .ref g31, .ref g32, .int 0, .ref g34, .int 0, .int 0, .long 0, .ref g38, .ref g39, .int 0, .int 0, .int 0, .ref g43, .ref g44, .ref g45, .ref g46, .ref g47, .ref g48, .ref g49, .int 0, .ref g51, .ref g52, .ref g53, .ref g54, .ref g55, .ref g56, .int (-9), .int 0, .int 0, .ref g60, .ref g61, .ref g62, .ref g63, .int 0, .ref g65, .ref g66, .ref g67, .ref g68]))]) [0] rfl
  have hKc := hK.sub (tys' := []) [] rfl
  refine ro_calli (va_runV (As := [.int a1]) (rest := []) ⟨hx, hb, hml, hown, hts⟩ (c_X12_isObject l D s.heap.size m0 g1 g3 g4 g6 g7 g9 g10 g11 g12 g13 g14 g20 g21 g23 g24 g25 g26 g28 g29 g30 g31 g32 g34 g38 g39 g43 g44 g45 g46 g47 g48 g49 g51 g52 g53 g54 g55 g56 g60 g61 g62 g63 g65 g66 g67 g68 a1) (cwV 1 hts gm_X12_place_X12_isObject rfl rfl rfl (by decide +kernel) ⟨Nat.le_of_ble_eq_true rfl, Nat.le_of_ble_eq_true rfl⟩) (pA_V hKc hPc (ci := 12) (q0 := 0) rfl rfl) rfl rfl hl.1 rfl (lv_room (Nat.le_of_ble_eq_true rfl)) dX12_place_2 ⟨Nat.le_of_ble_eq_true rfl, Nat.le_of_ble_eq_true rfl⟩) hS hA hP (fun r1 u1 H locs hw1 hP hS => ?_)
  have hw1 : r1 = 0 := hw1
  subst hw1
  refine lv_if_eq (tgt := 20) hx hb dX12_place_5 (by decide) (fun _ => ?_) (fun q9 => absurd (by decide) q9)
  refine lv_iconst (v := (-1)) hx hb dX12_place_20 (by decide) ?_
  exact ro_iret hx hb hr hlocks hS dX12_place_21 rfl

def wm_X12_exit : List Cond := .code yX12_exit cX12_exit 4 (some .int) :: (([.methodLink RX12 180 yX12_isObject, .instanceMethod yX12_isObject, .selects RX12 yX12_isObject yX12_isObject, .initialized RX12, .code yX12_isObject cX12_isObject 2 (some .boolean), .fieldLink RX12 177 "TalePlayModel" "objects" "I", .methodLink RX12 166 yX12_in, .static yX12_in, .code yX12_in cX12_in 6 (some .boolean)] : List Cond) ++ wsX120)
set_option maxRecDepth 20000 in
theorem gm_X12_exit_X12_isObject : GoodIn wm_X12_exit (wsV RX12 180 RX12 yX12_isObject wm_X12_isObject) := goodIn_app (goodIn_of _ (by decide +kernel)) (goodIn_r _ [5, 6, 7, 8, 4, 9, 10, 11, 12, 13, 14, 15, 16, 17, 18, 19, 20, 21, 22, 23, 24, 25, 26, 27, 28, 29, 30, 31, 32, 33, 34, 35, 36, 37, 38, 39, 40, 41, 42, 43, 44, 45, 46, 47, 48, 49, 50, 51, 52, 53, 54, 55, 56, 57, 58, 59, 60, 61, 62, 63, 64, 65, 66, 67, 68, 69, 70, 71, 72, 73, 74, 75, 76, 77, 78] (by decide +kernel) (by decide +kernel))
set_option maxHeartbeats 4000000 in
set_option maxRecDepth 100000 in
/-- exit() of a fresh reference -/
theorem c_X12_exit (l : Launch) (D : va_G) (sz : Nat) (m0 : Nat) (g1 : Nat) (g3 : Nat) (g4 : Nat) (g6 : Nat) (g7 : Nat) (g9 : Nat) (g10 : Nat) (g11 : Nat) (g12 : Nat) (g13 : Nat) (g14 : Nat) (g20 : Nat) (g21 : Nat) (g23 : Nat) (g24 : Nat) (g25 : Nat) (g26 : Nat) (g28 : Nat) (g29 : Nat) (g30 : Nat) (g31 : Nat) (g32 : Nat) (g34 : Nat) (g38 : Nat) (g39 : Nat) (g43 : Nat) (g44 : Nat) (g45 : Nat) (g46 : Nat) (g47 : Nat) (g48 : Nat) (g49 : Nat) (g51 : Nat) (g52 : Nat) (g53 : Nat) (g54 : Nat) (g55 : Nat) (g56 : Nat) (g60 : Nat) (g61 : Nat) (g62 : Nat) (g63 : Nat) (g65 : Nat) (g66 : Nat) (g67 : Nat) (g68 : Nat) (a1 : Int32) (a2 : Int32) (a3 : Int32) : Met l yX12_exit wm_X12_exit ({ frames := 2, cells := 0, slots := 0, locals := 46 }) (va_Pc [.ref m0, .int a1, .int a2, .int a3] (pA D sz [(m0, .inr (12, [.int 0, .ref g1, .int 6, .ref g3, .ref g4, .int 0, .ref g6, .ref g7, .int 0, .ref g9, .ref g10, .ref g11, .ref g12, .ref g13, .ref g14, .int 0, .int 0, .int 0, .int 0, .int 0, .ref g20, .ref g21, .int (-9), .ref g23, .ref g24, .ref g25, .ref g26, .int 0, .ref g28, .ref g29, .ref g30, .ref g31, .ref g32, .int 0, .ref g34, .int 0, .int 0, .long 0, .ref g38, .ref g39, .int 0, .int 0, .int 0, .ref g43, .ref g44, .ref g45, .ref g46, .ref g47, .ref g48, .ref g49, .int 0, .ref g51, .ref g52, .ref g53, .ref g54, .ref g55, .ref g56, .int (-9), .int 0, .int 0, .ref g60, .ref g61, .ref g62, .ref g63, .int 0, .ref g65, .ref g66, .ref g67, .ref g68]))] [])) (va_Qi (fun (r : Int32) (_ : Unit) => r = (-1)) oA (ro sz)) 0 0 (ro sz) := by
  refine Met.ofW (cc := cX12_exit) (maxL := 4) (ret := (some .int)) (by decide) rfl ?_
  intro p e s m args below meth c s₁ B hml hv
  obtain ⟨rfl, hsz, hP, hK⟩ := hv
  have hx := B.exec
  have hb := B.bytes
  have hr := B.returns
  have hts := atoms_spec (ws := wm_X12_exit) B.pre
  have hown : s.vm.findClass RX12 = some m.cls := findClass_of_methodNamed B.named
  have hlocks := B.notSynchronized
  subst hsz
  have hA : ∀ q : Nat, s.heap.size ≤ q → ro s.heap.size q := fun _ h => h
  have hS : va_S (ro s.heap.size) s.heap s.heap [] := va_S.rf
  have hP : va_P D vwCl [(m0, .inr (12, [.int 0, .ref g1, .int 6, .ref g3, .ref g4, .int 0, .ref g6, .ref g7, .int 0, .ref g9, .ref g10, .ref g11, .ref g12, .ref g13, .ref g14, .int 0, .int 0, .int 0, .int 0, .int 0, .ref g20, .ref g21, .int (-9), .ref g23, .ref g24, .ref g25, .ref g26, .int 0, .ref g28, .ref g29, .ref g30, .ref g31, .ref g32, .int 0, .ref g34, .int 0, .int 0, .long 0, .ref g38, .ref g39, .int 0, .int 0, .int 0, .ref g43, .ref g44, .ref g45, .ref g46, .ref g47, .ref g48, .ref g49, .int 0, .ref g51, .ref g52, .ref g53, .ref g54, .ref g55, .ref g56, .int (-9), .int 0, .int 0, .ref g60, .ref g61, .ref g62, .ref g63, .int 0, .ref g65, .ref g66, .ref g67, .ref g68]))] s.heap := hP
  have hl := lv_entry ([.ref m0, .int a1, .int a2, .int a3]) (n := 4) (Nat.le_of_ble_eq_true rfl)
  rw [lg_entry_eq]
  generalize (lg_sl ([.ref m0, .int a1, .int a2, .int a3]) ++ List.replicate (4 - (lg_sl ([.ref m0, .int a1, .int a2, .int a3])).length) Slot.unset).toArray = ls at hl ⊢
  have hl : lv_has ls 4 [(0, .ref m0), (1, .int a1), (2, .int a2), (3, .int a3)] := hl
  refine lv_aload_n hx hb dX12_exit_0 rfl (lv_at hl 0 rfl) ?_
  refine lv_iload_n hx hb dX12_exit_1 rfl (lv_at hl 1 rfl) ?_
  have hPc := hP.sub (ws' := [(m0, .inr (12, [.int 0, .ref g1, .int 6, .ref g3, .ref g4, .int 0, .ref g6, .ref g7, .int 0, .ref g9, .ref g10, .ref g11, .ref g12, .ref g13, .ref g14, .int 0, .int 0, .int 0, .int 0, .int 0, .ref g20, .ref g21, .int (-9), .ref g23, .ref g24, .ref g25, .ref g26, .int 0, .ref g28, .ref g29, .ref g30, .ref g31, .ref g32, .int 0, .ref g34, .int 0, .int 0, .long 0, .ref g38, .ref g39, .int 0, .int 0, .int 0, .ref g43, .ref g44, .ref g45, .ref g46, .ref g47, .ref g48, .ref g49, .int 0, .ref g51, .ref g52, .ref g53, .ref g54, .ref g55, .ref g56, .int (-9), .int 0, .int 0, .ref g60, .ref g61, .ref g62, .ref g63, .int 0, .ref g65, .ref g66, .ref g67, .ref g68]))]) [0] rfl
  have hKc := hK.sub (tys' := []) [] rfl
  refine ro_calli (va_runV (As := [.int a1]) (rest := []) ⟨hx, hb, hml, hown, hts⟩ (c_X12_isObject l D s.heap.size m0 g1 g3 g4 g6 g7 g9 g10 g11 g12 g13 g14 g20 g21 g23 g24 g25 g26 g28 g29 g30 g31 g32 g34 g38 g39 g43 g44 g45 g46 g47 g48 g49 g51 g52 g53 g54 g55 g56 g60 g61 g62 g63 g65 g66 g67 g68 a1) (cwV 1 hts gm_X12_exit_X12_isObject rfl rfl rfl (by decide +kernel) ⟨Nat.le_of_ble_eq_true rfl, Nat.le_of_ble_eq_true rfl⟩) (pA_V hKc hPc (ci := 12) (q0 := 0) rfl rfl) rfl rfl hl.1 rfl (lv_room (Nat.le_of_ble_eq_true rfl)) dX12_exit_2 ⟨Nat.le_of_ble_eq_true rfl, Nat.le_of_ble_eq_true rfl⟩) hS hA hP (fun r1 u1 H locs hw1 hP hS => ?_)
  have hw1 : r1 = 0 := hw1
  subst hw1
  refine lv_if_eq (tgt := 32) hx hb dX12_exit_5 (by decide) (fun _ => ?_) (fun q9 => absurd (by decide) q9)
  refine lv_iconst (v := (-1)) hx hb dX12_exit_32 (by decide) ?_
  exact ro_iret hx hb hr hlocks hS dX12_exit_33 rfl

def wm_X12_flag : List Cond := .code yX12_flag cX12_flag 3 (some .int) :: (([.methodLink RX12 180 yX12_isObject, .instanceMethod yX12_isObject, .selects RX12 yX12_isObject yX12_isObject, .initialized RX12, .code yX12_isObject cX12_isObject 2 (some .boolean), .fieldLink RX12 177 "TalePlayModel" "objects" "I", .methodLink RX12 166 yX12_in, .static yX12_in, .code yX12_in cX12_in 6 (some .boolean)] : List Cond) ++ wsX120)
set_option maxRecDepth 20000 in
theorem gm_X12_flag_X12_isObject : GoodIn wm_X12_flag (wsV RX12 180 RX12 yX12_isObject wm_X12_isObject) := goodIn_app (goodIn_of _ (by decide +kernel)) (goodIn_r _ [5, 6, 7, 8, 4, 9, 10, 11, 12, 13, 14, 15, 16, 17, 18, 19, 20, 21, 22, 23, 24, 25, 26, 27, 28, 29, 30, 31, 32, 33, 34, 35, 36, 37, 38, 39, 40, 41, 42, 43, 44, 45, 46, 47, 48, 49, 50, 51, 52, 53, 54, 55, 56, 57, 58, 59, 60, 61, 62, 63, 64, 65, 66, 67, 68, 69, 70, 71, 72, 73, 74, 75, 76, 77, 78] (by decide +kernel) (by decide +kernel))
set_option maxHeartbeats 4000000 in
set_option maxRecDepth 100000 in
/-- flag() of a fresh reference -/
theorem c_X12_flag (l : Launch) (D : va_G) (sz : Nat) (m0 : Nat) (g1 : Nat) (g3 : Nat) (g4 : Nat) (g6 : Nat) (g7 : Nat) (g9 : Nat) (g10 : Nat) (g11 : Nat) (g12 : Nat) (g13 : Nat) (g14 : Nat) (g20 : Nat) (g21 : Nat) (g23 : Nat) (g24 : Nat) (g25 : Nat) (g26 : Nat) (g28 : Nat) (g29 : Nat) (g30 : Nat) (g31 : Nat) (g32 : Nat) (g34 : Nat) (g38 : Nat) (g39 : Nat) (g43 : Nat) (g44 : Nat) (g45 : Nat) (g46 : Nat) (g47 : Nat) (g48 : Nat) (g49 : Nat) (g51 : Nat) (g52 : Nat) (g53 : Nat) (g54 : Nat) (g55 : Nat) (g56 : Nat) (g60 : Nat) (g61 : Nat) (g62 : Nat) (g63 : Nat) (g65 : Nat) (g66 : Nat) (g67 : Nat) (g68 : Nat) (a1 : Int32) (a2 : Int32) : Met l yX12_flag wm_X12_flag ({ frames := 2, cells := 0, slots := 0, locals := 46 }) (va_Pc [.ref m0, .int a1, .int a2] (pA D sz [(m0, .inr (12, [.int 0, .ref g1, .int 6, .ref g3, .ref g4, .int 0, .ref g6, .ref g7, .int 0, .ref g9, .ref g10, .ref g11, .ref g12, .ref g13, .ref g14, .int 0, .int 0, .int 0, .int 0, .int 0, .ref g20, .ref g21, .int (-9), .ref g23, .ref g24, .ref g25, .ref g26, .int 0, .ref g28, .ref g29, .ref g30, .ref g31, .ref g32, .int 0, .ref g34, .int 0, .int 0, .long 0, .ref g38, .ref g39, .int 0, .int 0, .int 0, .ref g43, .ref g44, .ref g45, .ref g46, .ref g47, .ref g48, .ref g49, .int 0, .ref g51, .ref g52, .ref g53, .ref g54, .ref g55, .ref g56, .int (-9), .int 0, .int 0, .ref g60, .ref g61, .ref g62, .ref g63, .int 0, .ref g65, .ref g66, .ref g67, .ref g68]))] [])) (va_Qi (fun (r : Int32) (_ : Unit) => r = (-1)) oA (ro sz)) 0 0 (ro sz) := by
  refine Met.ofW (cc := cX12_flag) (maxL := 3) (ret := (some .int)) (by decide) rfl ?_
  intro p e s m args below meth c s₁ B hml hv
  obtain ⟨rfl, hsz, hP, hK⟩ := hv
  have hx := B.exec
  have hb := B.bytes
  have hr := B.returns
  have hts := atoms_spec (ws := wm_X12_flag) B.pre
  have hown : s.vm.findClass RX12 = some m.cls := findClass_of_methodNamed B.named
  have hlocks := B.notSynchronized
  subst hsz
  have hA : ∀ q : Nat, s.heap.size ≤ q → ro s.heap.size q := fun _ h => h
  have hS : va_S (ro s.heap.size) s.heap s.heap [] := va_S.rf
  have hP : va_P D vwCl [(m0, .inr (12, [.int 0, .ref g1, .int 6, .ref g3, .ref g4, .int 0, .ref g6, .ref g7, .int 0, .ref g9, .ref g10, .ref g11, .ref g12, .ref g13, .ref g14, .int 0, .int 0, .int 0, .int 0, .int 0, .ref g20, .ref g21, .int (-9), .ref g23, .ref g24, .ref g25, .ref g26, .int 0, .ref g28, .ref g29, .ref g30, .ref g31, .ref g32, .int 0, .ref g34, .int 0, .int 0, .long 0, .ref g38, .ref g39, .int 0, .int 0, .int 0, .ref g43, .ref g44, .ref g45, .ref g46, .ref g47, .ref g48, .ref g49, .int 0, .ref g51, .ref g52, .ref g53, .ref g54, .ref g55, .ref g56, .int (-9), .int 0, .int 0, .ref g60, .ref g61, .ref g62, .ref g63, .int 0, .ref g65, .ref g66, .ref g67, .ref g68]))] s.heap := hP
  have hl := lv_entry ([.ref m0, .int a1, .int a2]) (n := 3) (Nat.le_of_ble_eq_true rfl)
  rw [lg_entry_eq]
  generalize (lg_sl ([.ref m0, .int a1, .int a2]) ++ List.replicate (3 - (lg_sl ([.ref m0, .int a1, .int a2])).length) Slot.unset).toArray = ls at hl ⊢
  have hl : lv_has ls 3 [(0, .ref m0), (1, .int a1), (2, .int a2)] := hl
  refine lv_aload_n hx hb dX12_flag_0 rfl (lv_at hl 0 rfl) ?_
  refine lv_iload_n hx hb dX12_flag_1 rfl (lv_at hl 1 rfl) ?_
  have hPc := hP.sub (ws' := [(m0, .inr (12, [.int 0, .ref g1, .int 6, .ref g3, .ref g4, .int 0, .ref g6, .ref g7, .int 0, .ref g9, .ref g10, .ref g11, .ref g12, .ref g13, .ref g14, .int 0, .int 0, .int 0, .int 0, .int 0, .ref g20, .ref g21, .int (-9), .ref g23, .ref g24, .ref g25, .ref g26, .int 0, .ref g28, .ref g29, .ref g30, .ref g31, .ref g32, .int 0, .ref g34, .int 0, .int 0, .long 0, .ref g38, .ref g39, .int 0, .int 0, .int 0, .ref g43, .ref g44, .ref g45, .ref g46, .ref g47, .ref g48, .ref g49, .int 0, .ref g51, .ref g52, .ref g53, .ref g54, .ref g55, .ref g56, .int (-9), .int 0, .int 0, .ref g60, .ref g61, .ref g62, .ref g63, .int 0, .ref g65, .ref g66, .ref g67, .ref g68]))]) [0] rfl
  have hKc := hK.sub (tys' := []) [] rfl
  refine ro_calli (va_runV (As := [.int a1]) (rest := []) ⟨hx, hb, hml, hown, hts⟩ (c_X12_isObject l D s.heap.size m0 g1 g3 g4 g6 g7 g9 g10 g11 g12 g13 g14 g20 g21 g23 g24 g25 g26 g28 g29 g30 g31 g32 g34 g38 g39 g43 g44 g45 g46 g47 g48 g49 g51 g52 g53 g54 g55 g56 g60 g61 g62 g63 g65 g66 g67 g68 a1) (cwV 1 hts gm_X12_flag_X12_isObject rfl rfl rfl (by decide +kernel) ⟨Nat.le_of_ble_eq_true rfl, Nat.le_of_ble_eq_true rfl⟩) (pA_V hKc hPc (ci := 12) (q0 := 0) rfl rfl) rfl rfl hl.1 rfl (lv_room (Nat.le_of_ble_eq_true rfl)) dX12_flag_2 ⟨Nat.le_of_ble_eq_true rfl, Nat.le_of_ble_eq_true rfl⟩) hS hA hP (fun r1 u1 H locs hw1 hP hS => ?_)
  have hw1 : r1 = 0 := hw1
  subst hw1
  refine lv_if_eq (tgt := 20) hx hb dX12_flag_5 (by decide) (fun _ => ?_) (fun q9 => absurd (by decide) q9)
  refine lv_iconst (v := (-1)) hx hb dX12_flag_20 (by decide) ?_
  exact ro_iret hx hb hr hlocks hS dX12_flag_21 rfl

def wm_X12_key : List Cond := .code yX12_key cX12_key 2 (some .int) :: (([.methodLink RX12 180 yX12_isObject, .instanceMethod yX12_isObject, .selects RX12 yX12_isObject yX12_isObject, .initialized RX12, .code yX12_isObject cX12_isObject 2 (some .boolean), .fieldLink RX12 177 "TalePlayModel" "objects" "I", .methodLink RX12 166 yX12_in, .static yX12_in, .code yX12_in cX12_in 6 (some .boolean)] : List Cond) ++ wsX120)
set_option maxRecDepth 20000 in
theorem gm_X12_key_X12_isObject : GoodIn wm_X12_key (wsV RX12 180 RX12 yX12_isObject wm_X12_isObject) := goodIn_app (goodIn_of _ (by decide +kernel)) (goodIn_r _ [5, 6, 7, 8, 4, 9, 10, 11, 12, 13, 14, 15, 16, 17, 18, 19, 20, 21, 22, 23, 24, 25, 26, 27, 28, 29, 30, 31, 32, 33, 34, 35, 36, 37, 38, 39, 40, 41, 42, 43, 44, 45, 46, 47, 48, 49, 50, 51, 52, 53, 54, 55, 56, 57, 58, 59, 60, 61, 62, 63, 64, 65, 66, 67, 68, 69, 70, 71, 72, 73, 74, 75, 76, 77, 78] (by decide +kernel) (by decide +kernel))
set_option maxHeartbeats 4000000 in
set_option maxRecDepth 100000 in
/-- key() of a fresh reference -/
theorem c_X12_key (l : Launch) (D : va_G) (sz : Nat) (m0 : Nat) (g1 : Nat) (g3 : Nat) (g4 : Nat) (g6 : Nat) (g7 : Nat) (g9 : Nat) (g10 : Nat) (g11 : Nat) (g12 : Nat) (g13 : Nat) (g14 : Nat) (g20 : Nat) (g21 : Nat) (g23 : Nat) (g24 : Nat) (g25 : Nat) (g26 : Nat) (g28 : Nat) (g29 : Nat) (g30 : Nat) (g31 : Nat) (g32 : Nat) (g34 : Nat) (g38 : Nat) (g39 : Nat) (g43 : Nat) (g44 : Nat) (g45 : Nat) (g46 : Nat) (g47 : Nat) (g48 : Nat) (g49 : Nat) (g51 : Nat) (g52 : Nat) (g53 : Nat) (g54 : Nat) (g55 : Nat) (g56 : Nat) (g60 : Nat) (g61 : Nat) (g62 : Nat) (g63 : Nat) (g65 : Nat) (g66 : Nat) (g67 : Nat) (g68 : Nat) (a1 : Int32) : Met l yX12_key wm_X12_key ({ frames := 2, cells := 0, slots := 0, locals := 46 }) (va_Pc [.ref m0, .int a1] (pA D sz [(m0, .inr (12, [.int 0, .ref g1, .int 6, .ref g3, .ref g4, .int 0, .ref g6, .ref g7, .int 0, .ref g9, .ref g10, .ref g11, .ref g12, .ref g13, .ref g14, .int 0, .int 0, .int 0, .int 0, .int 0, .ref g20, .ref g21, .int (-9), .ref g23, .ref g24, .ref g25, .ref g26, .int 0, .ref g28, .ref g29, .ref g30, .ref g31, .ref g32, .int 0, .ref g34, .int 0, .int 0, .long 0, .ref g38, .ref g39, .int 0, .int 0, .int 0, .ref g43, .ref g44, .ref g45, .ref g46, .ref g47, .ref g48, .ref g49, .int 0, .ref g51, .ref g52, .ref g53, .ref g54, .ref g55, .ref g56, .int (-9), .int 0, .int 0, .ref g60, .ref g61, .ref g62, .ref g63, .int 0, .ref g65, .ref g66, .ref g67, .ref g68]))] [])) (va_Qi (fun (r : Int32) (_ : Unit) => r = (-1)) oA (ro sz)) 0 0 (ro sz) := by
  refine Met.ofW (cc := cX12_key) (maxL := 2) (ret := (some .int)) (by decide) rfl ?_
  intro p e s m args below meth c s₁ B hml hv
  obtain ⟨rfl, hsz, hP, hK⟩ := hv
  have hx := B.exec
  have hb := B.bytes
  have hr := B.returns
  have hts := atoms_spec (ws := wm_X12_key) B.pre
  have hown : s.vm.findClass RX12 = some m.cls := findClass_of_methodNamed B.named
  have hlocks := B.notSynchronized
  subst hsz
  have hA : ∀ q : Nat, s.heap.size ≤ q → ro s.heap.size q := fun _ h => h
  have hS : va_S (ro s.heap.size) s.heap s.heap [] := va_S.rf
  have hP : va_P D vwCl [(m0, .inr (12, [.int 0, .ref g1, .int 6, .ref g3, .ref g4, .int 0, .ref g6, .ref g7, .int 0, .ref g9, .ref g10, .ref g11, .ref g12, .ref g13, .ref g14, .int 0, .int 0, .int 0, .int 0, .int 0, .ref g20, .ref g21, .int (-9), .ref g23, .ref g24, .ref g25, .ref g26, .int 0, .ref g28, .ref g29, .ref g30, .ref g31, .ref g32, .int 0, .ref g34, .int 0, .int 0, .long 0, .ref g38, .ref g39, .int 0, .int 0, .int 0, .ref g43, .ref g44, .ref g45, .ref g46, .ref g47, .ref g48, .ref g49, .int 0, .ref g51, .ref g52, .ref g53, .ref g54, .ref g55, .ref g56, .int (-9), .int 0, .int 0, .ref g60, .ref g61, .ref g62, .ref g63, .int 0, .ref g65, .ref g66, .ref g67, .ref g68]))] s.heap := hP
  have hl := lv_entry ([.ref m0, .int a1]) (n := 2) (Nat.le_of_ble_eq_true rfl)
  rw [lg_entry_eq]
  generalize (lg_sl ([.ref m0, .int a1]) ++ List.replicate (2 - (lg_sl ([.ref m0, .int a1])).length) Slot.unset).toArray = ls at hl ⊢
  have hl : lv_has ls 2 [(0, .ref m0), (1, .int a1)] := hl
  refine lv_aload_n hx hb dX12_key_0 rfl (lv_at hl 0 rfl) ?_
  refine lv_iload_n hx hb dX12_key_1 rfl (lv_at hl 1 rfl) ?_
  have hPc := hP.sub (ws' := [(m0, .inr (12, [.int 0, .ref g1, .int 6, .ref g3, .ref g4, .int 0, .ref g6, .ref g7, .int 0, .ref g9, .ref g10, .ref g11, .ref g12, .ref g13, .ref g14, .int 0, .int 0, .int 0, .int 0, .int 0, .ref g20, .ref g21, .int (-9), .ref g23, .ref g24, .ref g25, .ref g26, .int 0, .ref g28, .ref g29, .ref g30, .ref g31, .ref g32, .int 0, .ref g34, .int 0, .int 0, .long 0, .ref g38, .ref g39, .int 0, .int 0, .int 0, .ref g43, .ref g44, .ref g45, .ref g46, .ref g47, .ref g48, .ref g49, .int 0, .ref g51, .ref g52, .ref g53, .ref g54, .ref g55, .ref g56, .int (-9), .int 0, .int 0, .ref g60, .ref g61, .ref g62, .ref g63, .int 0, .ref g65, .ref g66, .ref g67, .ref g68]))]) [0] rfl
  have hKc := hK.sub (tys' := []) [] rfl
  refine ro_calli (va_runV (As := [.int a1]) (rest := []) ⟨hx, hb, hml, hown, hts⟩ (c_X12_isObject l D s.heap.size m0 g1 g3 g4 g6 g7 g9 g10 g11 g12 g13 g14 g20 g21 g23 g24 g25 g26 g28 g29 g30 g31 g32 g34 g38 g39 g43 g44 g45 g46 g47 g48 g49 g51 g52 g53 g54 g55 g56 g60 g61 g62 g63 g65 g66 g67 g68 a1) (cwV 1 hts gm_X12_key_X12_isObject rfl rfl rfl (by decide +kernel) ⟨Nat.le_of_ble_eq_true rfl, Nat.le_of_ble_eq_true rfl⟩) (pA_V hKc hPc (ci := 12) (q0 := 0) rfl rfl) rfl rfl hl.1 rfl (lv_room (Nat.le_of_ble_eq_true rfl)) dX12_key_2 ⟨Nat.le_of_ble_eq_true rfl, Nat.le_of_ble_eq_true rfl⟩) hS hA hP (fun r1 u1 H locs hw1 hP hS => ?_)
  have hw1 : r1 = 0 := hw1
  subst hw1
  refine lv_if_ne (tgt := 12) hx hb dX12_key_5 (by decide) (fun q9 => absurd q9 (by decide)) (fun _ => ?_)
  refine lv_iconst (v := (-1)) hx hb dX12_key_8 (by decide) ?_
  refine lv_goto (tgt := 33) hx hb dX12_key_9 (by decide) ?_
  exact ro_iret hx hb hr hlocks hS dX12_key_33 rfl

def wm_X12_way : List Cond := .code yX12_way cX12_way 5 (some .int) :: (([.methodLink RX12 284 yX12_wayRefused, .instanceMethod yX12_wayRefused, .selects RX12 yX12_wayRefused yX12_wayRefused, .initialized RX12, .code yX12_wayRefused cX12_wayRefused 3 (some .int), .methodLink RX12 180 yX12_isObject, .instanceMethod yX12_isObject, .selects RX12 yX12_isObject yX12_isObject, .code yX12_isObject cX12_isObject 2 (some .boolean), .fieldLink RX12 177 "TalePlayModel" "objects" "I", .methodLink RX12 166 yX12_in, .static yX12_in, .code yX12_in cX12_in 6 (some .boolean)] : List Cond) ++ wsX120)
set_option maxRecDepth 20000 in
theorem gm_X12_way_X12_wayRefused : GoodIn wm_X12_way (wsV RX12 284 RX12 yX12_wayRefused wm_X12_wayRefused) := goodIn_app (goodIn_of _ (by decide +kernel)) (goodIn_r _ [5, 6, 7, 8, 4, 9, 10, 11, 12, 13, 14, 15, 16, 17, 18, 19, 20, 21, 22, 23, 24, 25, 26, 27, 28, 29, 30, 31, 32, 33, 34, 35, 36, 37, 38, 39, 40, 41, 42, 43, 44, 45, 46, 47, 48, 49, 50, 51, 52, 53, 54, 55, 56, 57, 58, 59, 60, 61, 62, 63, 64, 65, 66, 67, 68, 69, 70, 71, 72, 73, 74, 75, 76, 77, 78, 79, 80, 81, 82] (by decide +kernel) (by decide +kernel))
set_option maxHeartbeats 4000000 in
set_option maxRecDepth 100000 in
/-- way() of a fresh reference -/
theorem c_X12_way (l : Launch) (D : va_G) (sz : Nat) (m0 : Nat) (g1 : Nat) (g3 : Nat) (g4 : Nat) (g6 : Nat) (g7 : Nat) (g9 : Nat) (g10 : Nat) (g11 : Nat) (g12 : Nat) (g13 : Nat) (g14 : Nat) (g20 : Nat) (g21 : Nat) (g23 : Nat) (g24 : Nat) (g25 : Nat) (g26 : Nat) (g28 : Nat) (g29 : Nat) (g30 : Nat) (g31 : Nat) (g32 : Nat) (g34 : Nat) (g38 : Nat) (g39 : Nat) (g43 : Nat) (g44 : Nat) (g45 : Nat) (g46 : Nat) (g47 : Nat) (g48 : Nat) (g49 : Nat) (g51 : Nat) (g52 : Nat) (g53 : Nat) (g54 : Nat) (g55 : Nat) (g56 : Nat) (g60 : Nat) (g61 : Nat) (g62 : Nat) (g63 : Nat) (g65 : Nat) (g66 : Nat) (g67 : Nat) (g68 : Nat) (a1 : Int32) (a2 : Int32) (a3 : Int32) : Met l yX12_way wm_X12_way ({ frames := 3, cells := 0, slots := 0, locals := 68 }) (va_Pc [.ref m0, .int a1, .int a2, .int a3] (pA D sz [(m0, .inr (12, [.int 0, .ref g1, .int 6, .ref g3, .ref g4, .int 0, .ref g6, .ref g7, .int 0, .ref g9, .ref g10, .ref g11, .ref g12, .ref g13, .ref g14, .int 0, .int 0, .int 0, .int 0, .int 0, .ref g20, .ref g21, .int (-9), .ref g23, .ref g24, .ref g25, .ref g26, .int 0, .ref g28, .ref g29, .ref g30, .ref g31, .ref g32, .int 0, .ref g34, .int 0, .int 0, .long 0, .ref g38, .ref g39, .int 0, .int 0, .int 0, .ref g43, .ref g44, .ref g45, .ref g46, .ref g47, .ref g48, .ref g49, .int 0, .ref g51, .ref g52, .ref g53, .ref g54, .ref g55, .ref g56, .int (-9), .int 0, .int 0, .ref g60, .ref g61, .ref g62, .ref g63, .int 0, .ref g65, .ref g66, .ref g67, .ref g68]))] [])) (va_Qi (fun (r : Int32) (_ : Unit) => r = (-1)) oA (ro sz)) 0 0 (ro sz) := by
  refine Met.ofW (cc := cX12_way) (maxL := 5) (ret := (some .int)) (by decide) rfl ?_
  intro p e s m args below meth c s₁ B hml hv
  obtain ⟨rfl, hsz, hP, hK⟩ := hv
  have hx := B.exec
  have hb := B.bytes
  have hr := B.returns
  have hts := atoms_spec (ws := wm_X12_way) B.pre
  have hown : s.vm.findClass RX12 = some m.cls := findClass_of_methodNamed B.named
  have hlocks := B.notSynchronized
  subst hsz
  have hA : ∀ q : Nat, s.heap.size ≤ q → ro s.heap.size q := fun _ h => h
  have hS : va_S (ro s.heap.size) s.heap s.heap [] := va_S.rf
  have hP : va_P D vwCl [(m0, .inr (12, [.int 0, .ref g1, .int 6, .ref g3, .ref g4, .int 0, .ref g6, .ref g7, .int 0, .ref g9, .ref g10, .ref g11, .ref g12, .ref g13, .ref g14, .int 0, .int 0, .int 0, .int 0, .int 0, .ref g20, .ref g21, .int (-9), .ref g23, .ref g24, .ref g25, .ref g26, .int 0, .ref g28, .ref g29, .ref g30, .ref g31, .ref g32, .int 0, .ref g34, .int 0, .int 0, .long 0, .ref g38, .ref g39, .int 0, .int 0, .int 0, .ref g43, .ref g44, .ref g45, .ref g46, .ref g47, .ref g48, .ref g49, .int 0, .ref g51, .ref g52, .ref g53, .ref g54, .ref g55, .ref g56, .int (-9), .int 0, .int 0, .ref g60, .ref g61, .ref g62, .ref g63, .int 0, .ref g65, .ref g66, .ref g67, .ref g68]))] s.heap := hP
  have hl := lv_entry ([.ref m0, .int a1, .int a2, .int a3]) (n := 5) (Nat.le_of_ble_eq_true rfl)
  rw [lg_entry_eq]
  generalize (lg_sl ([.ref m0, .int a1, .int a2, .int a3]) ++ List.replicate (5 - (lg_sl ([.ref m0, .int a1, .int a2, .int a3])).length) Slot.unset).toArray = ls at hl ⊢
  have hl : lv_has ls 5 [(0, .ref m0), (1, .int a1), (2, .int a2), (3, .int a3)] := hl
  refine lv_aload_n hx hb dX12_way_0 rfl (lv_at hl 0 rfl) ?_
  refine lv_iload_n hx hb dX12_way_1 rfl (lv_at hl 1 rfl) ?_
  refine lv_iload_n hx hb dX12_way_2 rfl (lv_at hl 2 rfl) ?_
  have hPc := hP.sub (ws' := [(m0, .inr (12, [.int 0, .ref g1, .int 6, .ref g3, .ref g4, .int 0, .ref g6, .ref g7, .int 0, .ref g9, .ref g10, .ref g11, .ref g12, .ref g13, .ref g14, .int 0, .int 0, .int 0, .int 0, .int 0, .ref g20, .ref g21, .int (-9), .ref g23, .ref g24, .ref g25, .ref g26, .int 0, .ref g28, .ref g29, .ref g30, .ref g31, .ref g32, .int 0, .ref g34, .int 0, .int 0, .long 0, .ref g38, .ref g39, .int 0, .int 0, .int 0, .ref g43, .ref g44, .ref g45, .ref g46, .ref g47, .ref g48, .ref g49, .int 0, .ref g51, .ref g52, .ref g53, .ref g54, .ref g55, .ref g56, .int (-9), .int 0, .int 0, .ref g60, .ref g61, .ref g62, .ref g63, .int 0, .ref g65, .ref g66, .ref g67, .ref g68]))]) [0] rfl
  have hKc := hK.sub (tys' := []) [] rfl
  refine ro_calli (va_runV (As := [.int a1, .int a2]) (rest := []) ⟨hx, hb, hml, hown, hts⟩ (c_X12_wayRefused l D s.heap.size m0 g1 g3 g4 g6 g7 g9 g10 g11 g12 g13 g14 g20 g21 g23 g24 g25 g26 g28 g29 g30 g31 g32 g34 g38 g39 g43 g44 g45 g46 g47 g48 g49 g51 g52 g53 g54 g55 g56 g60 g61 g62 g63 g65 g66 g67 g68 a1 a2) (cwV 2 hts gm_X12_way_X12_wayRefused rfl rfl rfl (by decide +kernel) ⟨Nat.le_of_ble_eq_true rfl, Nat.le_of_ble_eq_true rfl⟩) (pA_V hKc hPc (ci := 12) (q0 := 0) rfl rfl) rfl rfl hl.1 rfl (lv_room (Nat.le_of_ble_eq_true rfl)) dX12_way_3 ⟨Nat.le_of_ble_eq_true rfl, Nat.le_of_ble_eq_true rfl⟩) hS hA hP (fun r1 u1 H locs hw1 hP hS => ?_)
  have hw1 : r1 = (-1) := hw1
  subst hw1
  refine lv_istore (lv' := [(4, .int (-1)), (0, .ref m0), (1, .int a1), (2, .int a2), (3, .int a3)]) hx hb dX12_way_6 hl (by decide) rfl (fun ls hl => ?_)
  refine lv_iload hx hb dX12_way_8 (lv_at hl 0 rfl) ?_
  refine lv_if_ge (tgt := 16) hx hb dX12_way_10 (by decide) (fun q9 => absurd q9 (by decide)) (fun _ => ?_)
  refine lv_iload hx hb dX12_way_13 (lv_at hl 0 rfl) ?_
  exact ro_iret hx hb hr hlocks hS dX12_way_15 rfl

def wm_X12_toward : List Cond := .code yX12_toward cX12_toward 9 (some .int) :: (([.methodLink RX12 284 yX12_wayRefused, .instanceMethod yX12_wayRefused, .selects RX12 yX12_wayRefused yX12_wayRefused, .initialized RX12, .code yX12_wayRefused cX12_wayRefused 3 (some .int), .methodLink RX12 180 yX12_isObject, .instanceMethod yX12_isObject, .selects RX12 yX12_isObject yX12_isObject, .code yX12_isObject cX12_isObject 2 (some .boolean), .fieldLink RX12 177 "TalePlayModel" "objects" "I", .methodLink RX12 166 yX12_in, .static yX12_in, .code yX12_in cX12_in 6 (some .boolean)] : List Cond) ++ wsX120)
set_option maxRecDepth 20000 in
theorem gm_X12_toward_X12_wayRefused : GoodIn wm_X12_toward (wsV RX12 284 RX12 yX12_wayRefused wm_X12_wayRefused) := goodIn_app (goodIn_of _ (by decide +kernel)) (goodIn_r _ [5, 6, 7, 8, 4, 9, 10, 11, 12, 13, 14, 15, 16, 17, 18, 19, 20, 21, 22, 23, 24, 25, 26, 27, 28, 29, 30, 31, 32, 33, 34, 35, 36, 37, 38, 39, 40, 41, 42, 43, 44, 45, 46, 47, 48, 49, 50, 51, 52, 53, 54, 55, 56, 57, 58, 59, 60, 61, 62, 63, 64, 65, 66, 67, 68, 69, 70, 71, 72, 73, 74, 75, 76, 77, 78, 79, 80, 81, 82] (by decide +kernel) (by decide +kernel))
set_option maxHeartbeats 4000000 in
set_option maxRecDepth 100000 in
/-- toward() of a fresh reference -/
theorem c_X12_toward (l : Launch) (D : va_G) (sz : Nat) (m0 : Nat) (g1 : Nat) (g3 : Nat) (g4 : Nat) (g6 : Nat) (g7 : Nat) (g9 : Nat) (g10 : Nat) (g11 : Nat) (g12 : Nat) (g13 : Nat) (g14 : Nat) (g20 : Nat) (g21 : Nat) (g23 : Nat) (g24 : Nat) (g25 : Nat) (g26 : Nat) (g28 : Nat) (g29 : Nat) (g30 : Nat) (g31 : Nat) (g32 : Nat) (g34 : Nat) (g38 : Nat) (g39 : Nat) (g43 : Nat) (g44 : Nat) (g45 : Nat) (g46 : Nat) (g47 : Nat) (g48 : Nat) (g49 : Nat) (g51 : Nat) (g52 : Nat) (g53 : Nat) (g54 : Nat) (g55 : Nat) (g56 : Nat) (g60 : Nat) (g61 : Nat) (g62 : Nat) (g63 : Nat) (g65 : Nat) (g66 : Nat) (g67 : Nat) (g68 : Nat) (a1 : Int32) (a2 : Int32) (a3 : Int32) : Met l yX12_toward wm_X12_toward ({ frames := 3, cells := 0, slots := 0, locals := 68 }) (va_Pc [.ref m0, .int a1, .int a2, .int a3] (pA D sz [(m0, .inr (12, [.int 0, .ref g1, .int 6, .ref g3, .ref g4, .int 0, .ref g6, .ref g7, .int 0, .ref g9, .ref g10, .ref g11, .ref g12, .ref g13, .ref g14, .int 0, .int 0, .int 0, .int 0, .int 0, .ref g20, .ref g21, .int (-9), .ref g23, .ref g24, .ref g25, .ref g26, .int 0, .ref g28, .ref g29, .ref g30, .ref g31, .ref g32, .int 0, .ref g34, .int 0, .int 0, .long 0, .ref g38, .ref g39, .int 0, .int 0, .int 0, .ref g43, .ref g44, .ref g45, .ref g46, .ref g47, .ref g48, .ref g49, .int 0, .ref g51, .ref g52, .ref g53, .ref g54, .ref g55, .ref g56, .int (-9), .int 0, .int 0, .ref g60, .ref g61, .ref g62, .ref g63, .int 0, .ref g65, .ref g66, .ref g67, .ref g68]))] [])) (va_Qi (fun (r : Int32) (_ : Unit) => r = (-1)) oA (ro sz)) 0 0 (ro sz) := by
  refine Met.ofW (cc := cX12_toward) (maxL := 9) (ret := (some .int)) (by decide) rfl ?_
  intro p e s m args below meth c s₁ B hml hv
  obtain ⟨rfl, hsz, hP, hK⟩ := hv
  have hx := B.exec
  have hb := B.bytes
  have hr := B.returns
  have hts := atoms_spec (ws := wm_X12_toward) B.pre
  have hown : s.vm.findClass RX12 = some m.cls := findClass_of_methodNamed B.named
  have hlocks := B.notSynchronized
  subst hsz
  have hA : ∀ q : Nat, s.heap.size ≤ q → ro s.heap.size q := fun _ h => h
  have hS : va_S (ro s.heap.size) s.heap s.heap [] := va_S.rf
  have hP : va_P D vwCl [(m0, .inr (12, [.int 0, .ref g1, .int 6, .ref g3, .ref g4, .int 0, .ref g6, .ref g7, .int 0, .ref g9, .ref g10, .ref g11, .ref g12, .ref g13, .ref g14, .int 0, .int 0, .int 0, .int 0, .int 0, .ref g20, .ref g21, .int (-9), .ref g23, .ref g24, .ref g25, .ref g26, .int 0, .ref g28, .ref g29, .ref g30, .ref g31, .ref g32, .int 0, .ref g34, .int 0, .int 0, .long 0, .ref g38, .ref g39, .int 0, .int 0, .int 0, .ref g43, .ref g44, .ref g45, .ref g46, .ref g47, .ref g48, .ref g49, .int 0, .ref g51, .ref g52, .ref g53, .ref g54, .ref g55, .ref g56, .int (-9), .int 0, .int 0, .ref g60, .ref g61, .ref g62, .ref g63, .int 0, .ref g65, .ref g66, .ref g67, .ref g68]))] s.heap := hP
  have hl := lv_entry ([.ref m0, .int a1, .int a2, .int a3]) (n := 9) (Nat.le_of_ble_eq_true rfl)
  rw [lg_entry_eq]
  generalize (lg_sl ([.ref m0, .int a1, .int a2, .int a3]) ++ List.replicate (9 - (lg_sl ([.ref m0, .int a1, .int a2, .int a3])).length) Slot.unset).toArray = ls at hl ⊢
  have hl : lv_has ls 9 [(0, .ref m0), (1, .int a1), (2, .int a2), (3, .int a3)] := hl
  refine lv_aload_n hx hb dX12_toward_0 rfl (lv_at hl 0 rfl) ?_
  refine lv_iload_n hx hb dX12_toward_1 rfl (lv_at hl 1 rfl) ?_
  refine lv_iload_n hx hb dX12_toward_2 rfl (lv_at hl 2 rfl) ?_
  have hPc := hP.sub (ws' := [(m0, .inr (12, [.int 0, .ref g1, .int 6, .ref g3, .ref g4, .int 0, .ref g6, .ref g7, .int 0, .ref g9, .ref g10, .ref g11, .ref g12, .ref g13, .ref g14, .int 0, .int 0, .int 0, .int 0, .int 0, .ref g20, .ref g21, .int (-9), .ref g23, .ref g24, .ref g25, .ref g26, .int 0, .ref g28, .ref g29, .ref g30, .ref g31, .ref g32, .int 0, .ref g34, .int 0, .int 0, .long 0, .ref g38, .ref g39, .int 0, .int 0, .int 0, .ref g43, .ref g44, .ref g45, .ref g46, .ref g47, .ref g48, .ref g49, .int 0, .ref g51, .ref g52, .ref g53, .ref g54, .ref g55, .ref g56, .int (-9), .int 0, .int 0, .ref g60, .ref g61, .ref g62, .ref g63, .int 0, .ref g65, .ref g66, .ref g67, .ref g68]))]) [0] rfl
  have hKc := hK.sub (tys' := []) [] rfl
  refine ro_calli (va_runV (As := [.int a1, .int a2]) (rest := []) ⟨hx, hb, hml, hown, hts⟩ (c_X12_wayRefused l D s.heap.size m0 g1 g3 g4 g6 g7 g9 g10 g11 g12 g13 g14 g20 g21 g23 g24 g25 g26 g28 g29 g30 g31 g32 g34 g38 g39 g43 g44 g45 g46 g47 g48 g49 g51 g52 g53 g54 g55 g56 g60 g61 g62 g63 g65 g66 g67 g68 a1 a2) (cwV 2 hts gm_X12_toward_X12_wayRefused rfl rfl rfl (by decide +kernel) ⟨Nat.le_of_ble_eq_true rfl, Nat.le_of_ble_eq_true rfl⟩) (pA_V hKc hPc (ci := 12) (q0 := 0) rfl rfl) rfl rfl hl.1 rfl (lv_room (Nat.le_of_ble_eq_true rfl)) dX12_toward_3 ⟨Nat.le_of_ble_eq_true rfl, Nat.le_of_ble_eq_true rfl⟩) hS hA hP (fun r1 u1 H locs hw1 hP hS => ?_)
  have hw1 : r1 = (-1) := hw1
  subst hw1
  refine lv_istore (lv' := [(4, .int (-1)), (0, .ref m0), (1, .int a1), (2, .int a2), (3, .int a3)]) hx hb dX12_toward_6 hl (by decide) rfl (fun ls hl => ?_)
  refine lv_iload hx hb dX12_toward_8 (lv_at hl 0 rfl) ?_
  refine lv_if_ge (tgt := 16) hx hb dX12_toward_10 (by decide) (fun q9 => absurd q9 (by decide)) (fun _ => ?_)
  refine lv_iload hx hb dX12_toward_13 (lv_at hl 0 rfl) ?_
  exact ro_iret hx hb hr hlocks hS dX12_toward_15 rfl

def wm_X12_begin : List Cond := .code yX12_begin cX12_begin 5 (some .int) :: (([.methodLink RX12 180 yX12_isObject, .instanceMethod yX12_isObject, .selects RX12 yX12_isObject yX12_isObject, .initialized RX12, .code yX12_isObject cX12_isObject 2 (some .boolean), .fieldLink RX12 177 "TalePlayModel" "objects" "I", .methodLink RX12 166 yX12_in, .static yX12_in, .code yX12_in cX12_in 6 (some .boolean)] : List Cond) ++ wsX120)
set_option maxRecDepth 20000 in
theorem gm_X12_begin_X12_isObject : GoodIn wm_X12_begin (wsV RX12 180 RX12 yX12_isObject wm_X12_isObject) := goodIn_app (goodIn_of _ (by decide +kernel)) (goodIn_r _ [5, 6, 7, 8, 4, 9, 10, 11, 12, 13, 14, 15, 16, 17, 18, 19, 20, 21, 22, 23, 24, 25, 26, 27, 28, 29, 30, 31, 32, 33, 34, 35, 36, 37, 38, 39, 40, 41, 42, 43, 44, 45, 46, 47, 48, 49, 50, 51, 52, 53, 54, 55, 56, 57, 58, 59, 60, 61, 62, 63, 64, 65, 66, 67, 68, 69, 70, 71, 72, 73, 74, 75, 76, 77, 78] (by decide +kernel) (by decide +kernel))
set_option maxHeartbeats 4000000 in
set_option maxRecDepth 100000 in
/-- begin() of a fresh reference -/
theorem c_X12_begin (l : Launch) (D : va_G) (sz : Nat) (m0 : Nat) (g1 : Nat) (g3 : Nat) (g4 : Nat) (g6 : Nat) (g7 : Nat) (g9 : Nat) (g10 : Nat) (g11 : Nat) (g12 : Nat) (g13 : Nat) (g14 : Nat) (g20 : Nat) (g21 : Nat) (g23 : Nat) (g24 : Nat) (g25 : Nat) (g26 : Nat) (g28 : Nat) (g29 : Nat) (g30 : Nat) (g31 : Nat) (g32 : Nat) (g34 : Nat) (g38 : Nat) (g39 : Nat) (g43 : Nat) (g44 : Nat) (g45 : Nat) (g46 : Nat) (g47 : Nat) (g48 : Nat) (g49 : Nat) (g51 : Nat) (g52 : Nat) (g53 : Nat) (g54 : Nat) (g55 : Nat) (g56 : Nat) (g60 : Nat) (g61 : Nat) (g62 : Nat) (g63 : Nat) (g65 : Nat) (g66 : Nat) (g67 : Nat) (g68 : Nat) (a1 : Int32) : Met l yX12_begin wm_X12_begin ({ frames := 2, cells := 0, slots := 0, locals := 46 }) (va_Pc [.ref m0, .int a1] (pA D sz [(m0, .inr (12, [.int 0, .ref g1, .int 6, .ref g3, .ref g4, .int 0, .ref g6, .ref g7, .int 0, .ref g9, .ref g10, .ref g11, .ref g12, .ref g13, .ref g14, .int 0, .int 0, .int 0, .int 0, .int 0, .ref g20, .ref g21, .int (-9), .ref g23, .ref g24, .ref g25, .ref g26, .int 0, .ref g28, .ref g29, .ref g30, .ref g31, .ref g32, .int 0, .ref g34, .int 0, .int 0, .long 0, .ref g38, .ref g39, .int 0, .int 0, .int 0, .ref g43, .ref g44, .ref g45, .ref g46, .ref g47, .ref g48, .ref g49, .int 0, .ref g51, .ref g52, .ref g53, .ref g54, .ref g55, .ref g56, .int (-9), .int 0, .int 0, .ref g60, .ref g61, .ref g62, .ref g63, .int 0, .ref g65, .ref g66, .ref g67, .ref g68]))] [])) (va_Qi (fun (r : Int32) (_ : Unit) => r = (-1)) oA (ro sz)) 0 0 (ro sz) := by
  refine Met.ofW (cc := cX12_begin) (maxL := 5) (ret := (some .int)) (by decide) rfl ?_
  intro p e s m args below meth c s₁ B hml hv
  obtain ⟨rfl, hsz, hP, hK⟩ := hv
  have hx := B.exec
  have hb := B.bytes
  have hr := B.returns
  have hts := atoms_spec (ws := wm_X12_begin) B.pre
  have hown : s.vm.findClass RX12 = some m.cls := findClass_of_methodNamed B.named
  have hlocks := B.notSynchronized
  subst hsz
  have hA : ∀ q : Nat, s.heap.size ≤ q → ro s.heap.size q := fun _ h => h
  have hS : va_S (ro s.heap.size) s.heap s.heap [] := va_S.rf
  have hP : va_P D vwCl [(m0, .inr (12, [.int 0, .ref g1, .int 6, .ref g3, .ref g4, .int 0, .ref g6, .ref g7, .int 0, .ref g9, .ref g10, .ref g11, .ref g12, .ref g13, .ref g14, .int 0, .int 0, .int 0, .int 0, .int 0, .ref g20, .ref g21, .int (-9), .ref g23, .ref g24, .ref g25, .ref g26, .int 0, .ref g28, .ref g29, .ref g30, .ref g31, .ref g32, .int 0, .ref g34, .int 0, .int 0, .long 0, .ref g38, .ref g39, .int 0, .int 0, .int 0, .ref g43, .ref g44, .ref g45, .ref g46, .ref g47, .ref g48, .ref g49, .int 0, .ref g51, .ref g52, .ref g53, .ref g54, .ref g55, .ref g56, .int (-9), .int 0, .int 0, .ref g60, .ref g61, .ref g62, .ref g63, .int 0, .ref g65, .ref g66, .ref g67, .ref g68]))] s.heap := hP
  have hl := lv_entry ([.ref m0, .int a1]) (n := 5) (Nat.le_of_ble_eq_true rfl)
  rw [lg_entry_eq]
  generalize (lg_sl ([.ref m0, .int a1]) ++ List.replicate (5 - (lg_sl ([.ref m0, .int a1])).length) Slot.unset).toArray = ls at hl ⊢
  have hl : lv_has ls 5 [(0, .ref m0), (1, .int a1)] := hl
  refine lv_aload_n hx hb dX12_begin_0 rfl (lv_at hl 0 rfl) ?_
  refine lv_iload_n hx hb dX12_begin_1 rfl (lv_at hl 1 rfl) ?_
  have hPc := hP.sub (ws' := [(m0, .inr (12, [.int 0, .ref g1, .int 6, .ref g3, .ref g4, .int 0, .ref g6, .ref g7, .int 0, .ref g9, .ref g10, .ref g11, .ref g12, .ref g13, .ref g14, .int 0, .int 0, .int 0, .int 0, .int 0, .ref g20, .ref g21, .int (-9), .ref g23, .ref g24, .ref g25, .ref g26, .int 0, .ref g28, .ref g29, .ref g30, .ref g31, .ref g32, .int 0, .ref g34, .int 0, .int 0, .long 0, .ref g38, .ref g39, .int 0, .int 0, .int 0, .ref g43, .ref g44, .ref g45, .ref g46, .ref g47, .ref g48, .ref g49, .int 0, .ref g51, .ref g52, .ref g53, .ref g54, .ref g55, .ref g56, .int (-9), .int 0, .int 0, .ref g60, .ref g61, .ref g62, .ref g63, .int 0, .ref g65, .ref g66, .ref g67, .ref g68]))]) [0] rfl
  have hKc := hK.sub (tys' := []) [] rfl
  refine ro_calli (va_runV (As := [.int a1]) (rest := []) ⟨hx, hb, hml, hown, hts⟩ (c_X12_isObject l D s.heap.size m0 g1 g3 g4 g6 g7 g9 g10 g11 g12 g13 g14 g20 g21 g23 g24 g25 g26 g28 g29 g30 g31 g32 g34 g38 g39 g43 g44 g45 g46 g47 g48 g49 g51 g52 g53 g54 g55 g56 g60 g61 g62 g63 g65 g66 g67 g68 a1) (cwV 1 hts gm_X12_begin_X12_isObject rfl rfl rfl (by decide +kernel) ⟨Nat.le_of_ble_eq_true rfl, Nat.le_of_ble_eq_true rfl⟩) (pA_V hKc hPc (ci := 12) (q0 := 0) rfl rfl) rfl rfl hl.1 rfl (lv_room (Nat.le_of_ble_eq_true rfl)) dX12_begin_2 ⟨Nat.le_of_ble_eq_true rfl, Nat.le_of_ble_eq_true rfl⟩) hS hA hP (fun r1 u1 H locs hw1 hP hS => ?_)
  have hw1 : r1 = 0 := hw1
  subst hw1
  refine lv_if_ne (tgt := 10) hx hb dX12_begin_5 (by decide) (fun q9 => absurd q9 (by decide)) (fun _ => ?_)
  refine lv_iconst (v := (-1)) hx hb dX12_begin_8 (by decide) ?_
  exact ro_iret hx hb hr hlocks hS dX12_begin_9 rfl

def wm_X12_now : List Cond := .code yX12_now cX12_now 3 (some .int) :: (([.methodLink RX12 180 yX12_isObject, .instanceMethod yX12_isObject, .selects RX12 yX12_isObject yX12_isObject, .initialized RX12, .code yX12_isObject cX12_isObject 2 (some .boolean), .fieldLink RX12 177 "TalePlayModel" "objects" "I", .methodLink RX12 166 yX12_in, .static yX12_in, .code yX12_in cX12_in 6 (some .boolean)] : List Cond) ++ wsX120)
set_option maxRecDepth 20000 in
theorem gm_X12_now_X12_isObject : GoodIn wm_X12_now (wsV RX12 180 RX12 yX12_isObject wm_X12_isObject) := goodIn_app (goodIn_of _ (by decide +kernel)) (goodIn_r _ [5, 6, 7, 8, 4, 9, 10, 11, 12, 13, 14, 15, 16, 17, 18, 19, 20, 21, 22, 23, 24, 25, 26, 27, 28, 29, 30, 31, 32, 33, 34, 35, 36, 37, 38, 39, 40, 41, 42, 43, 44, 45, 46, 47, 48, 49, 50, 51, 52, 53, 54, 55, 56, 57, 58, 59, 60, 61, 62, 63, 64, 65, 66, 67, 68, 69, 70, 71, 72, 73, 74, 75, 76, 77, 78] (by decide +kernel) (by decide +kernel))
set_option maxHeartbeats 4000000 in
set_option maxRecDepth 100000 in
/-- now() of a fresh reference -/
theorem c_X12_now (l : Launch) (D : va_G) (sz : Nat) (m0 : Nat) (g1 : Nat) (g3 : Nat) (g4 : Nat) (g6 : Nat) (g7 : Nat) (g9 : Nat) (g10 : Nat) (g11 : Nat) (g12 : Nat) (g13 : Nat) (g14 : Nat) (g20 : Nat) (g21 : Nat) (g23 : Nat) (g24 : Nat) (g25 : Nat) (g26 : Nat) (g28 : Nat) (g29 : Nat) (g30 : Nat) (g31 : Nat) (g32 : Nat) (g34 : Nat) (g38 : Nat) (g39 : Nat) (g43 : Nat) (g44 : Nat) (g45 : Nat) (g46 : Nat) (g47 : Nat) (g48 : Nat) (g49 : Nat) (g51 : Nat) (g52 : Nat) (g53 : Nat) (g54 : Nat) (g55 : Nat) (g56 : Nat) (g60 : Nat) (g61 : Nat) (g62 : Nat) (g63 : Nat) (g65 : Nat) (g66 : Nat) (g67 : Nat) (g68 : Nat) (a1 : Int32) (a2 : Int32) : Met l yX12_now wm_X12_now ({ frames := 2, cells := 0, slots := 0, locals := 46 }) (va_Pc [.ref m0, .int a1, .int a2] (pA D sz [(m0, .inr (12, [.int 0, .ref g1, .int 6, .ref g3, .ref g4, .int 0, .ref g6, .ref g7, .int 0, .ref g9, .ref g10, .ref g11, .ref g12, .ref g13, .ref g14, .int 0, .int 0, .int 0, .int 0, .int 0, .ref g20, .ref g21, .int (-9), .ref g23, .ref g24, .ref g25, .ref g26, .int 0, .ref g28, .ref g29, .ref g30, .ref g31, .ref g32, .int 0, .ref g34, .int 0, .int 0, .long 0, .ref g38, .ref g39, .int 0, .int 0, .int 0, .ref g43, .ref g44, .ref g45, .ref g46, .ref g47, .ref g48, .ref g49, .int 0, .ref g51, .ref g52, .ref g53, .ref g54, .ref g55, .ref g56, .int (-9), .int 0, .int 0, .ref g60, .ref g61, .ref g62, .ref g63, .int 0, .ref g65, .ref g66, .ref g67, .ref g68]))] [])) (va_Qi (fun (r : Int32) (_ : Unit) => r = (-1)) oA (ro sz)) 0 0 (ro sz) := by
  refine Met.ofW (cc := cX12_now) (maxL := 3) (ret := (some .int)) (by decide) rfl ?_
  intro p e s m args below meth c s₁ B hml hv
  obtain ⟨rfl, hsz, hP, hK⟩ := hv
  have hx := B.exec
  have hb := B.bytes
  have hr := B.returns
  have hts := atoms_spec (ws := wm_X12_now) B.pre
  have hown : s.vm.findClass RX12 = some m.cls := findClass_of_methodNamed B.named
  have hlocks := B.notSynchronized
  subst hsz
  have hA : ∀ q : Nat, s.heap.size ≤ q → ro s.heap.size q := fun _ h => h
  have hS : va_S (ro s.heap.size) s.heap s.heap [] := va_S.rf
  have hP : va_P D vwCl [(m0, .inr (12, [.int 0, .ref g1, .int 6, .ref g3, .ref g4, .int 0, .ref g6, .ref g7, .int 0, .ref g9, .ref g10, .ref g11, .ref g12, .ref g13, .ref g14, .int 0, .int 0, .int 0, .int 0, .int 0, .ref g20, .ref g21, .int (-9), .ref g23, .ref g24, .ref g25, .ref g26, .int 0, .ref g28, .ref g29, .ref g30, .ref g31, .ref g32, .int 0, .ref g34, .int 0, .int 0, .long 0, .ref g38, .ref g39, .int 0, .int 0, .int 0, .ref g43, .ref g44, .ref g45, .ref g46, .ref g47, .ref g48, .ref g49, .int 0, .ref g51, .ref g52, .ref g53, .ref g54, .ref g55, .ref g56, .int (-9), .int 0, .int 0, .ref g60, .ref g61, .ref g62, .ref g63, .int 0, .ref g65, .ref g66, .ref g67, .ref g68]))] s.heap := hP
  have hl := lv_entry ([.ref m0, .int a1, .int a2]) (n := 3) (Nat.le_of_ble_eq_true rfl)
  rw [lg_entry_eq]
  generalize (lg_sl ([.ref m0, .int a1, .int a2]) ++ List.replicate (3 - (lg_sl ([.ref m0, .int a1, .int a2])).length) Slot.unset).toArray = ls at hl ⊢
  have hl : lv_has ls 3 [(0, .ref m0), (1, .int a1), (2, .int a2)] := hl
  refine lv_aload_n hx hb dX12_now_0 rfl (lv_at hl 0 rfl) ?_
  refine lv_iload_n hx hb dX12_now_1 rfl (lv_at hl 1 rfl) ?_
  have hPc := hP.sub (ws' := [(m0, .inr (12, [.int 0, .ref g1, .int 6, .ref g3, .ref g4, .int 0, .ref g6, .ref g7, .int 0, .ref g9, .ref g10, .ref g11, .ref g12, .ref g13, .ref g14, .int 0, .int 0, .int 0, .int 0, .int 0, .ref g20, .ref g21, .int (-9), .ref g23, .ref g24, .ref g25, .ref g26, .int 0, .ref g28, .ref g29, .ref g30, .ref g31, .ref g32, .int 0, .ref g34, .int 0, .int 0, .long 0, .ref g38, .ref g39, .int 0, .int 0, .int 0, .ref g43, .ref g44, .ref g45, .ref g46, .ref g47, .ref g48, .ref g49, .int 0, .ref g51, .ref g52, .ref g53, .ref g54, .ref g55, .ref g56, .int (-9), .int 0, .int 0, .ref g60, .ref g61, .ref g62, .ref g63, .int 0, .ref g65, .ref g66, .ref g67, .ref g68]))]) [0] rfl
  have hKc := hK.sub (tys' := []) [] rfl
  refine ro_calli (va_runV (As := [.int a1]) (rest := []) ⟨hx, hb, hml, hown, hts⟩ (c_X12_isObject l D s.heap.size m0 g1 g3 g4 g6 g7 g9 g10 g11 g12 g13 g14 g20 g21 g23 g24 g25 g26 g28 g29 g30 g31 g32 g34 g38 g39 g43 g44 g45 g46 g47 g48 g49 g51 g52 g53 g54 g55 g56 g60 g61 g62 g63 g65 g66 g67 g68 a1) (cwV 1 hts gm_X12_now_X12_isObject rfl rfl rfl (by decide +kernel) ⟨Nat.le_of_ble_eq_true rfl, Nat.le_of_ble_eq_true rfl⟩) (pA_V hKc hPc (ci := 12) (q0 := 0) rfl rfl) rfl rfl hl.1 rfl (lv_room (Nat.le_of_ble_eq_true rfl)) dX12_now_2 ⟨Nat.le_of_ble_eq_true rfl, Nat.le_of_ble_eq_true rfl⟩) hS hA hP (fun r1 u1 H locs hw1 hP hS => ?_)
  have hw1 : r1 = 0 := hw1
  subst hw1
  refine lv_if_eq (tgt := 20) hx hb dX12_now_5 (by decide) (fun _ => ?_) (fun q9 => absurd (by decide) q9)
  refine lv_iconst (v := (-1)) hx hb dX12_now_20 (by decide) ?_
  exact ro_iret hx hb hr hlocks hS dX12_now_21 rfl

def wm_X12_seek : List Cond := .code yX12_seek cX12_seek 6 (some .int) :: (([.methodLink RX12 180 yX12_isObject, .instanceMethod yX12_isObject, .selects RX12 yX12_isObject yX12_isObject, .initialized RX12, .code yX12_isObject cX12_isObject 2 (some .boolean), .fieldLink RX12 177 "TalePlayModel" "objects" "I", .methodLink RX12 166 yX12_in, .static yX12_in, .code yX12_in cX12_in 6 (some .boolean)] : List Cond) ++ wsX120)
set_option maxRecDepth 20000 in
theorem gm_X12_seek_X12_isObject : GoodIn wm_X12_seek (wsV RX12 180 RX12 yX12_isObject wm_X12_isObject) := goodIn_app (goodIn_of _ (by decide +kernel)) (goodIn_r _ [5, 6, 7, 8, 4, 9, 10, 11, 12, 13, 14, 15, 16, 17, 18, 19, 20, 21, 22, 23, 24, 25, 26, 27, 28, 29, 30, 31, 32, 33, 34, 35, 36, 37, 38, 39, 40, 41, 42, 43, 44, 45, 46, 47, 48, 49, 50, 51, 52, 53, 54, 55, 56, 57, 58, 59, 60, 61, 62, 63, 64, 65, 66, 67, 68, 69, 70, 71, 72, 73, 74, 75, 76, 77, 78] (by decide +kernel) (by decide +kernel))
set_option maxHeartbeats 4000000 in
set_option maxRecDepth 100000 in
/-- seek() of a fresh reference -/
theorem c_X12_seek (l : Launch) (D : va_G) (sz : Nat) (m0 : Nat) (g1 : Nat) (g3 : Nat) (g4 : Nat) (g6 : Nat) (g7 : Nat) (g9 : Nat) (g10 : Nat) (g11 : Nat) (g12 : Nat) (g13 : Nat) (g14 : Nat) (g20 : Nat) (g21 : Nat) (g23 : Nat) (g24 : Nat) (g25 : Nat) (g26 : Nat) (g28 : Nat) (g29 : Nat) (g30 : Nat) (g31 : Nat) (g32 : Nat) (g34 : Nat) (g38 : Nat) (g39 : Nat) (g43 : Nat) (g44 : Nat) (g45 : Nat) (g46 : Nat) (g47 : Nat) (g48 : Nat) (g49 : Nat) (g51 : Nat) (g52 : Nat) (g53 : Nat) (g54 : Nat) (g55 : Nat) (g56 : Nat) (g60 : Nat) (g61 : Nat) (g62 : Nat) (g63 : Nat) (g65 : Nat) (g66 : Nat) (g67 : Nat) (g68 : Nat) (a1 : Int32) (a2 : Int32) (a3 : Int32) : Met l yX12_seek wm_X12_seek ({ frames := 2, cells := 0, slots := 0, locals := 46 }) (va_Pc [.ref m0, .int a1, .int a2, .int a3] (pA D sz [(m0, .inr (12, [.int 0, .ref g1, .int 6, .ref g3, .ref g4, .int 0, .ref g6, .ref g7, .int 0, .ref g9, .ref g10, .ref g11, .ref g12, .ref g13, .ref g14, .int 0, .int 0, .int 0, .int 0, .int 0, .ref g20, .ref g21, .int (-9), .ref g23, .ref g24, .ref g25, .ref g26, .int 0, .ref g28, .ref g29, .ref g30, .ref g31, .ref g32, .int 0, .ref g34, .int 0, .int 0, .long 0, .ref g38, .ref g39, .int 0, .int 0, .int 0, .ref g43, .ref g44, .ref g45, .ref g46, .ref g47, .ref g48, .ref g49, .int 0, .ref g51, .ref g52, .ref g53, .ref g54, .ref g55, .ref g56, .int (-9), .int 0, .int 0, .ref g60, .ref g61, .ref g62, .ref g63, .int 0, .ref g65, .ref g66, .ref g67, .ref g68]))] [])) (va_Qi (fun (r : Int32) (_ : Unit) => r = (-1)) oA (ro sz)) 0 0 (ro sz) := by
  refine Met.ofW (cc := cX12_seek) (maxL := 6) (ret := (some .int)) (by decide) rfl ?_
  intro p e s m args below meth c s₁ B hml hv
  obtain ⟨rfl, hsz, hP, hK⟩ := hv
  have hx := B.exec
  have hb := B.bytes
  have hr := B.returns
  have hts := atoms_spec (ws := wm_X12_seek) B.pre
  have hown : s.vm.findClass RX12 = some m.cls := findClass_of_methodNamed B.named
  have hlocks := B.notSynchronized
  subst hsz
  have hA : ∀ q : Nat, s.heap.size ≤ q → ro s.heap.size q := fun _ h => h
  have hS : va_S (ro s.heap.size) s.heap s.heap [] := va_S.rf
  have hP : va_P D vwCl [(m0, .inr (12, [.int 0, .ref g1, .int 6, .ref g3, .ref g4, .int 0, .ref g6, .ref g7, .int 0, .ref g9, .ref g10, .ref g11, .ref g12, .ref g13, .ref g14, .int 0, .int 0, .int 0, .int 0, .int 0, .ref g20, .ref g21, .int (-9), .ref g23, .ref g24, .ref g25, .ref g26, .int 0, .ref g28, .ref g29, .ref g30, .ref g31, .ref g32, .int 0, .ref g34, .int 0, .int 0, .long 0, .ref g38, .ref g39, .int 0, .int 0, .int 0, .ref g43, .ref g44, .ref g45, .ref g46, .ref g47, .ref g48, .ref g49, .int 0, .ref g51, .ref g52, .ref g53, .ref g54, .ref g55, .ref g56, .int (-9), .int 0, .int 0, .ref g60, .ref g61, .ref g62, .ref g63, .int 0, .ref g65, .ref g66, .ref g67, .ref g68]))] s.heap := hP
  have hl := lv_entry ([.ref m0, .int a1, .int a2, .int a3]) (n := 6) (Nat.le_of_ble_eq_true rfl)
  rw [lg_entry_eq]
  generalize (lg_sl ([.ref m0, .int a1, .int a2, .int a3]) ++ List.replicate (6 - (lg_sl ([.ref m0, .int a1, .int a2, .int a3])).length) Slot.unset).toArray = ls at hl ⊢
  have hl : lv_has ls 6 [(0, .ref m0), (1, .int a1), (2, .int a2), (3, .int a3)] := hl
  refine lv_aload_n hx hb dX12_seek_0 rfl (lv_at hl 0 rfl) ?_
  refine lv_iload_n hx hb dX12_seek_1 rfl (lv_at hl 1 rfl) ?_
  have hPc := hP.sub (ws' := [(m0, .inr (12, [.int 0, .ref g1, .int 6, .ref g3, .ref g4, .int 0, .ref g6, .ref g7, .int 0, .ref g9, .ref g10, .ref g11, .ref g12, .ref g13, .ref g14, .int 0, .int 0, .int 0, .int 0, .int 0, .ref g20, .ref g21, .int (-9), .ref g23, .ref g24, .ref g25, .ref g26, .int 0, .ref g28, .ref g29, .ref g30, .ref g31, .ref g32, .int 0, .ref g34, .int 0, .int 0, .long 0, .ref g38, .ref g39, .int 0, .int 0, .int 0, .ref g43, .ref g44, .ref g45, .ref g46, .ref g47, .ref g48, .ref g49, .int 0, .ref g51, .ref g52, .ref g53, .ref g54, .ref g55, .ref g56, .int (-9), .int 0, .int 0, .ref g60, .ref g61, .ref g62, .ref g63, .int 0, .ref g65, .ref g66, .ref g67, .ref g68]))]) [0] rfl
  have hKc := hK.sub (tys' := []) [] rfl
  refine ro_calli (va_runV (As := [.int a1]) (rest := []) ⟨hx, hb, hml, hown, hts⟩ (c_X12_isObject l D s.heap.size m0 g1 g3 g4 g6 g7 g9 g10 g11 g12 g13 g14 g20 g21 g23 g24 g25 g26 g28 g29 g30 g31 g32 g34 g38 g39 g43 g44 g45 g46 g47 g48 g49 g51 g52 g53 g54 g55 g56 g60 g61 g62 g63 g65 g66 g67 g68 a1) (cwV 1 hts gm_X12_seek_X12_isObject rfl rfl rfl (by decide +kernel) ⟨Nat.le_of_ble_eq_true rfl, Nat.le_of_ble_eq_true rfl⟩) (pA_V hKc hPc (ci := 12) (q0 := 0) rfl rfl) rfl rfl hl.1 rfl (lv_room (Nat.le_of_ble_eq_true rfl)) dX12_seek_2 ⟨Nat.le_of_ble_eq_true rfl, Nat.le_of_ble_eq_true rfl⟩) hS hA hP (fun r1 u1 H locs hw1 hP hS => ?_)
  have hw1 : r1 = 0 := hw1
  subst hw1
  refine lv_if_eq (tgt := 28) hx hb dX12_seek_5 (by decide) (fun _ => ?_) (fun q9 => absurd (by decide) q9)
  refine lv_iconst (v := (-1)) hx hb dX12_seek_28 (by decide) ?_
  exact ro_iret hx hb hr hlocks hS dX12_seek_29 rfl

def wm_X12_line : List Cond := .code yX12_line cX12_line 5 (some .int) :: (([.methodLink RX12 180 yX12_isObject, .instanceMethod yX12_isObject, .selects RX12 yX12_isObject yX12_isObject, .initialized RX12, .code yX12_isObject cX12_isObject 2 (some .boolean), .fieldLink RX12 177 "TalePlayModel" "objects" "I", .methodLink RX12 166 yX12_in, .static yX12_in, .code yX12_in cX12_in 6 (some .boolean)] : List Cond) ++ wsX120)
set_option maxRecDepth 20000 in
theorem gm_X12_line_X12_isObject : GoodIn wm_X12_line (wsV RX12 180 RX12 yX12_isObject wm_X12_isObject) := goodIn_app (goodIn_of _ (by decide +kernel)) (goodIn_r _ [5, 6, 7, 8, 4, 9, 10, 11, 12, 13, 14, 15, 16, 17, 18, 19, 20, 21, 22, 23, 24, 25, 26, 27, 28, 29, 30, 31, 32, 33, 34, 35, 36, 37, 38, 39, 40, 41, 42, 43, 44, 45, 46, 47, 48, 49, 50, 51, 52, 53, 54, 55, 56, 57, 58, 59, 60, 61, 62, 63, 64, 65, 66, 67, 68, 69, 70, 71, 72, 73, 74, 75, 76, 77, 78] (by decide +kernel) (by decide +kernel))
set_option maxHeartbeats 4000000 in
set_option maxRecDepth 100000 in
/-- line() of a fresh reference -/
theorem c_X12_line (l : Launch) (D : va_G) (sz : Nat) (m0 : Nat) (g1 : Nat) (g3 : Nat) (g4 : Nat) (g6 : Nat) (g7 : Nat) (g9 : Nat) (g10 : Nat) (g11 : Nat) (g12 : Nat) (g13 : Nat) (g14 : Nat) (g20 : Nat) (g21 : Nat) (g23 : Nat) (g24 : Nat) (g25 : Nat) (g26 : Nat) (g28 : Nat) (g29 : Nat) (g30 : Nat) (g31 : Nat) (g32 : Nat) (g34 : Nat) (g38 : Nat) (g39 : Nat) (g43 : Nat) (g44 : Nat) (g45 : Nat) (g46 : Nat) (g47 : Nat) (g48 : Nat) (g49 : Nat) (g51 : Nat) (g52 : Nat) (g53 : Nat) (g54 : Nat) (g55 : Nat) (g56 : Nat) (g60 : Nat) (g61 : Nat) (g62 : Nat) (g63 : Nat) (g65 : Nat) (g66 : Nat) (g67 : Nat) (g68 : Nat) (a1 : Int32) (a2 : Int32) (a3 : Int32) : Met l yX12_line wm_X12_line ({ frames := 2, cells := 0, slots := 0, locals := 46 }) (va_Pc [.ref m0, .int a1, .int a2, .int a3] (pA D sz [(m0, .inr (12, [.int 0, .ref g1, .int 6, .ref g3, .ref g4, .int 0, .ref g6, .ref g7, .int 0, .ref g9, .ref g10, .ref g11, .ref g12, .ref g13, .ref g14, .int 0, .int 0, .int 0, .int 0, .int 0, .ref g20, .ref g21, .int (-9), .ref g23, .ref g24, .ref g25, .ref g26, .int 0, .ref g28, .ref g29, .ref g30, .ref g31, .ref g32, .int 0, .ref g34, .int 0, .int 0, .long 0, .ref g38, .ref g39, .int 0, .int 0, .int 0, .ref g43, .ref g44, .ref g45, .ref g46, .ref g47, .ref g48, .ref g49, .int 0, .ref g51, .ref g52, .ref g53, .ref g54, .ref g55, .ref g56, .int (-9), .int 0, .int 0, .ref g60, .ref g61, .ref g62, .ref g63, .int 0, .ref g65, .ref g66, .ref g67, .ref g68]))] [])) (va_Qi (fun (r : Int32) (_ : Unit) => r = (-1)) oA (ro sz)) 0 0 (ro sz) := by
  refine Met.ofW (cc := cX12_line) (maxL := 5) (ret := (some .int)) (by decide) rfl ?_
  intro p e s m args below meth c s₁ B hml hv
  obtain ⟨rfl, hsz, hP, hK⟩ := hv
  have hx := B.exec
  have hb := B.bytes
  have hr := B.returns
  have hts := atoms_spec (ws := wm_X12_line) B.pre
  have hown : s.vm.findClass RX12 = some m.cls := findClass_of_methodNamed B.named
  have hlocks := B.notSynchronized
  subst hsz
  have hA : ∀ q : Nat, s.heap.size ≤ q → ro s.heap.size q := fun _ h => h
  have hS : va_S (ro s.heap.size) s.heap s.heap [] := va_S.rf
  have hP : va_P D vwCl [(m0, .inr (12, [.int 0, .ref g1, .int 6, .ref g3, .ref g4, .int 0, .ref g6, .ref g7, .int 0, .ref g9, .ref g10, .ref g11, .ref g12, .ref g13, .ref g14, .int 0, .int 0, .int 0, .int 0, .int 0, .ref g20, .ref g21, .int (-9), .ref g23, .ref g24, .ref g25, .ref g26, .int 0, .ref g28, .ref g29, .ref g30, .ref g31, .ref g32, .int 0, .ref g34, .int 0, .int 0, .long 0, .ref g38, .ref g39, .int 0, .int 0, .int 0, .ref g43, .ref g44, .ref g45, .ref g46, .ref g47, .ref g48, .ref g49, .int 0, .ref g51, .ref g52, .ref g53, .ref g54, .ref g55, .ref g56, .int (-9), .int 0, .int 0, .ref g60, .ref g61, .ref g62, .ref g63, .int 0, .ref g65, .ref g66, .ref g67, .ref g68]))] s.heap := hP
  have hl := lv_entry ([.ref m0, .int a1, .int a2, .int a3]) (n := 5) (Nat.le_of_ble_eq_true rfl)
  rw [lg_entry_eq]
  generalize (lg_sl ([.ref m0, .int a1, .int a2, .int a3]) ++ List.replicate (5 - (lg_sl ([.ref m0, .int a1, .int a2, .int a3])).length) Slot.unset).toArray = ls at hl ⊢
  have hl : lv_has ls 5 [(0, .ref m0), (1, .int a1), (2, .int a2), (3, .int a3)] := hl
  refine lv_aload_n hx hb dX12_line_0 rfl (lv_at hl 0 rfl) ?_
  refine lv_iload_n hx hb dX12_line_1 rfl (lv_at hl 1 rfl) ?_
  have hPc := hP.sub (ws' := [(m0, .inr (12, [.int 0, .ref g1, .int 6, .ref g3, .ref g4, .int 0, .ref g6, .ref g7, .int 0, .ref g9, .ref g10, .ref g11, .ref g12, .ref g13, .ref g14, .int 0, .int 0, .int 0, .int 0, .int 0, .ref g20, .ref g21, .int (-9), .ref g23, .ref g24, .ref g25, .ref g26, .int 0, .ref g28, .ref g29, .ref g30, .ref g31, .ref g32, .int 0, .ref g34, .int 0, .int 0, .long 0, .ref g38, .ref g39, .int 0, .int 0, .int 0, .ref g43, .ref g44, .ref g45, .ref g46, .ref g47, .ref g48, .ref g49, .int 0, .ref g51, .ref g52, .ref g53, .ref g54, .ref g55, .ref g56, .int (-9), .int 0, .int 0, .ref g60, .ref g61, .ref g62, .ref g63, .int 0, .ref g65, .ref g66, .ref g67, .ref g68]))]) [0] rfl
  have hKc := hK.sub (tys' := []) [] rfl
  refine ro_calli (va_runV (As := [.int a1]) (rest := []) ⟨hx, hb, hml, hown, hts⟩ (c_X12_isObject l D s.heap.size m0 g1 g3 g4 g6 g7 g9 g10 g11 g12 g13 g14 g20 g21 g23 g24 g25 g26 g28 g29 g30 g31 g32 g34 g38 g39 g43 g44 g45 g46 g47 g48 g49 g51 g52 g53 g54 g55 g56 g60 g61 g62 g63 g65 g66 g67 g68 a1) (cwV 1 hts gm_X12_line_X12_isObject rfl rfl rfl (by decide +kernel) ⟨Nat.le_of_ble_eq_true rfl, Nat.le_of_ble_eq_true rfl⟩) (pA_V hKc hPc (ci := 12) (q0 := 0) rfl rfl) rfl rfl hl.1 rfl (lv_room (Nat.le_of_ble_eq_true rfl)) dX12_line_2 ⟨Nat.le_of_ble_eq_true rfl, Nat.le_of_ble_eq_true rfl⟩) hS hA hP (fun r1 u1 H locs hw1 hP hS => ?_)
  have hw1 : r1 = 0 := hw1
  subst hw1
  refine lv_if_eq (tgt := 26) hx hb dX12_line_5 (by decide) (fun _ => ?_) (fun q9 => absurd (by decide) q9)
  refine lv_iconst (v := (-1)) hx hb dX12_line_26 (by decide) ?_
  exact ro_iret hx hb hr hlocks hS dX12_line_27 rfl

def wm_X12_put : List Cond := .code yX12_put cX12_put 7 (some .int) :: (([.methodLink RX12 180 yX12_isObject, .instanceMethod yX12_isObject, .selects RX12 yX12_isObject yX12_isObject, .initialized RX12, .code yX12_isObject cX12_isObject 2 (some .boolean), .fieldLink RX12 177 "TalePlayModel" "objects" "I", .methodLink RX12 166 yX12_in, .static yX12_in, .code yX12_in cX12_in 6 (some .boolean)] : List Cond) ++ wsX120)
set_option maxRecDepth 20000 in
theorem gm_X12_put_X12_isObject : GoodIn wm_X12_put (wsV RX12 180 RX12 yX12_isObject wm_X12_isObject) := goodIn_app (goodIn_of _ (by decide +kernel)) (goodIn_r _ [5, 6, 7, 8, 4, 9, 10, 11, 12, 13, 14, 15, 16, 17, 18, 19, 20, 21, 22, 23, 24, 25, 26, 27, 28, 29, 30, 31, 32, 33, 34, 35, 36, 37, 38, 39, 40, 41, 42, 43, 44, 45, 46, 47, 48, 49, 50, 51, 52, 53, 54, 55, 56, 57, 58, 59, 60, 61, 62, 63, 64, 65, 66, 67, 68, 69, 70, 71, 72, 73, 74, 75, 76, 77, 78] (by decide +kernel) (by decide +kernel))
set_option maxHeartbeats 4000000 in
set_option maxRecDepth 100000 in
/-- put() of a fresh reference -/
theorem c_X12_put (l : Launch) (D : va_G) (sz : Nat) (m0 : Nat) (g1 : Nat) (g3 : Nat) (g4 : Nat) (g6 : Nat) (g7 : Nat) (g9 : Nat) (g10 : Nat) (g11 : Nat) (g12 : Nat) (g13 : Nat) (g14 : Nat) (g20 : Nat) (g21 : Nat) (g23 : Nat) (g24 : Nat) (g25 : Nat) (g26 : Nat) (g28 : Nat) (g29 : Nat) (g30 : Nat) (g31 : Nat) (g32 : Nat) (g34 : Nat) (g38 : Nat) (g39 : Nat) (g43 : Nat) (g44 : Nat) (g45 : Nat) (g46 : Nat) (g47 : Nat) (g48 : Nat) (g49 : Nat) (g51 : Nat) (g52 : Nat) (g53 : Nat) (g54 : Nat) (g55 : Nat) (g56 : Nat) (g60 : Nat) (g61 : Nat) (g62 : Nat) (g63 : Nat) (g65 : Nat) (g66 : Nat) (g67 : Nat) (g68 : Nat) (a1 : Int32) (a2 : Int32) (a3 : Int32) (a4 : Int64) : Met l yX12_put wm_X12_put ({ frames := 2, cells := 0, slots := 0, locals := 46 }) (va_Pc [.ref m0, .int a1, .int a2, .int a3, .long a4] (pA D sz [(m0, .inr (12, [.int 0, .ref g1, .int 6, .ref g3, .ref g4, .int 0, .ref g6, .ref g7, .int 0, .ref g9, .ref g10, .ref g11, .ref g12, .ref g13, .ref g14, .int 0, .int 0, .int 0, .int 0, .int 0, .ref g20, .ref g21, .int (-9), .ref g23, .ref g24, .ref g25, .ref g26, .int 0, .ref g28, .ref g29, .ref g30, .ref g31, .ref g32, .int 0, .ref g34, .int 0, .int 0, .long 0, .ref g38, .ref g39, .int 0, .int 0, .int 0, .ref g43, .ref g44, .ref g45, .ref g46, .ref g47, .ref g48, .ref g49, .int 0, .ref g51, .ref g52, .ref g53, .ref g54, .ref g55, .ref g56, .int (-9), .int 0, .int 0, .ref g60, .ref g61, .ref g62, .ref g63, .int 0, .ref g65, .ref g66, .ref g67, .ref g68]))] [])) (va_Qi (fun (r : Int32) (_ : Unit) => r = (-1)) oA (ro sz)) 0 0 (ro sz) := by
  refine Met.ofW (cc := cX12_put) (maxL := 7) (ret := (some .int)) (by decide) rfl ?_
  intro p e s m args below meth c s₁ B hml hv
  obtain ⟨rfl, hsz, hP, hK⟩ := hv
  have hx := B.exec
  have hb := B.bytes
  have hr := B.returns
  have hts := atoms_spec (ws := wm_X12_put) B.pre
  have hown : s.vm.findClass RX12 = some m.cls := findClass_of_methodNamed B.named
  have hlocks := B.notSynchronized
  subst hsz
  have hA : ∀ q : Nat, s.heap.size ≤ q → ro s.heap.size q := fun _ h => h
  have hS : va_S (ro s.heap.size) s.heap s.heap [] := va_S.rf
  have hP : va_P D vwCl [(m0, .inr (12, [.int 0, .ref g1, .int 6, .ref g3, .ref g4, .int 0, .ref g6, .ref g7, .int 0, .ref g9, .ref g10, .ref g11, .ref g12, .ref g13, .ref g14, .int 0, .int 0, .int 0, .int 0, .int 0, .ref g20, .ref g21, .int (-9), .ref g23, .ref g24, .ref g25, .ref g26, .int 0, .ref g28, .ref g29, .ref g30, .ref g31, .ref g32, .int 0, .ref g34, .int 0, .int 0, .long 0, .ref g38, .ref g39, .int 0, .int 0, .int 0, .ref g43, .ref g44, .ref g45, .ref g46, .ref g47, .ref g48, .ref g49, .int 0, .ref g51, .ref g52, .ref g53, .ref g54, .ref g55, .ref g56, .int (-9), .int 0, .int 0, .ref g60, .ref g61, .ref g62, .ref g63, .int 0, .ref g65, .ref g66, .ref g67, .ref g68]))] s.heap := hP
  have hl := lv_entry ([.ref m0, .int a1, .int a2, .int a3, .long a4]) (n := 7) (Nat.le_of_ble_eq_true rfl)
  rw [lg_entry_eq]
  generalize (lg_sl ([.ref m0, .int a1, .int a2, .int a3, .long a4]) ++ List.replicate (7 - (lg_sl ([.ref m0, .int a1, .int a2, .int a3, .long a4])).length) Slot.unset).toArray = ls at hl ⊢
  have hl : lv_has ls 7 [(0, .ref m0), (1, .int a1), (2, .int a2), (3, .int a3), (4, .long a4)] := hl
  refine lv_aload_n hx hb dX12_put_0 rfl (lv_at hl 0 rfl) ?_
  refine lv_iload_n hx hb dX12_put_1 rfl (lv_at hl 1 rfl) ?_
  have hPc := hP.sub (ws' := [(m0, .inr (12, [.int 0, .ref g1, .int 6, .ref g3, .ref g4, .int 0, .ref g6, .ref g7, .int 0, .ref g9, .ref g10, .ref g11, .ref g12, .ref g13, .ref g14, .int 0, .int 0, .int 0, .int 0, .int 0, .ref g20, .ref g21, .int (-9), .ref g23, .ref g24, .ref g25, .ref g26, .int 0, .ref g28, .ref g29, .ref g30, .ref g31, .ref g32, .int 0, .ref g34, .int 0, .int 0, .long 0, .ref g38, .ref g39, .int 0, .int 0, .int 0, .ref g43, .ref g44, .ref g45, .ref g46, .ref g47, .ref g48, .ref g49, .int 0, .ref g51, .ref g52, .ref g53, .ref g54, .ref g55, .ref g56, .int (-9), .int 0, .int 0, .ref g60, .ref g61, .ref g62, .ref g63, .int 0, .ref g65, .ref g66, .ref g67, .ref g68]))]) [0] rfl
  have hKc := hK.sub (tys' := []) [] rfl
  refine ro_calli (va_runV (As := [.int a1]) (rest := []) ⟨hx, hb, hml, hown, hts⟩ (c_X12_isObject l D s.heap.size m0 g1 g3 g4 g6 g7 g9 g10 g11 g12 g13 g14 g20 g21 g23 g24 g25 g26 g28 g29 g30 g31 g32 g34 g38 g39 g43 g44 g45 g46 g47 g48 g49 g51 g52 g53 g54 g55 g56 g60 g61 g62 g63 g65 g66 g67 g68 a1) (cwV 1 hts gm_X12_put_X12_isObject rfl rfl rfl (by decide +kernel) ⟨Nat.le_of_ble_eq_true rfl, Nat.le_of_ble_eq_true rfl⟩) (pA_V hKc hPc (ci := 12) (q0 := 0) rfl rfl) rfl rfl hl.1 rfl (lv_room (Nat.le_of_ble_eq_true rfl)) dX12_put_2 ⟨Nat.le_of_ble_eq_true rfl, Nat.le_of_ble_eq_true rfl⟩) hS hA hP (fun r1 u1 H locs hw1 hP hS => ?_)
  have hw1 : r1 = 0 := hw1
  subst hw1
  refine lv_if_eq (tgt := 20) hx hb dX12_put_5 (by decide) (fun _ => ?_) (fun q9 => absurd (by decide) q9)
  refine lv_iconst (v := (-1)) hx hb dX12_put_20 (by decide) ?_
  exact ro_iret hx hb hr hlocks hS dX12_put_21 rfl

def wm_X12_item : List Cond := .code yX12_item cX12_item 5 (some .int) :: (([.methodLink RX12 180 yX12_isObject, .instanceMethod yX12_isObject, .selects RX12 yX12_isObject yX12_isObject, .initialized RX12, .code yX12_isObject cX12_isObject 2 (some .boolean), .fieldLink RX12 177 "TalePlayModel" "objects" "I", .methodLink RX12 166 yX12_in, .static yX12_in, .code yX12_in cX12_in 6 (some .boolean)] : List Cond) ++ wsX120)
set_option maxRecDepth 20000 in
theorem gm_X12_item_X12_isObject : GoodIn wm_X12_item (wsV RX12 180 RX12 yX12_isObject wm_X12_isObject) := goodIn_app (goodIn_of _ (by decide +kernel)) (goodIn_r _ [5, 6, 7, 8, 4, 9, 10, 11, 12, 13, 14, 15, 16, 17, 18, 19, 20, 21, 22, 23, 24, 25, 26, 27, 28, 29, 30, 31, 32, 33, 34, 35, 36, 37, 38, 39, 40, 41, 42, 43, 44, 45, 46, 47, 48, 49, 50, 51, 52, 53, 54, 55, 56, 57, 58, 59, 60, 61, 62, 63, 64, 65, 66, 67, 68, 69, 70, 71, 72, 73, 74, 75, 76, 77, 78] (by decide +kernel) (by decide +kernel))
set_option maxHeartbeats 4000000 in
set_option maxRecDepth 100000 in
/-- item() of a fresh reference -/
theorem c_X12_item (l : Launch) (D : va_G) (sz : Nat) (m0 : Nat) (g1 : Nat) (g3 : Nat) (g4 : Nat) (g6 : Nat) (g7 : Nat) (g9 : Nat) (g10 : Nat) (g11 : Nat) (g12 : Nat) (g13 : Nat) (g14 : Nat) (g20 : Nat) (g21 : Nat) (g23 : Nat) (g24 : Nat) (g25 : Nat) (g26 : Nat) (g28 : Nat) (g29 : Nat) (g30 : Nat) (g31 : Nat) (g32 : Nat) (g34 : Nat) (g38 : Nat) (g39 : Nat) (g43 : Nat) (g44 : Nat) (g45 : Nat) (g46 : Nat) (g47 : Nat) (g48 : Nat) (g49 : Nat) (g51 : Nat) (g52 : Nat) (g53 : Nat) (g54 : Nat) (g55 : Nat) (g56 : Nat) (g60 : Nat) (g61 : Nat) (g62 : Nat) (g63 : Nat) (g65 : Nat) (g66 : Nat) (g67 : Nat) (g68 : Nat) (a1 : Int32) (a2 : Int32) (a3 : Int32) : Met l yX12_item wm_X12_item ({ frames := 2, cells := 0, slots := 0, locals := 46 }) (va_Pc [.ref m0, .int a1, .int a2, .int a3] (pA D sz [(m0, .inr (12, [.int 0, .ref g1, .int 6, .ref g3, .ref g4, .int 0, .ref g6, .ref g7, .int 0, .ref g9, .ref g10, .ref g11, .ref g12, .ref g13, .ref g14, .int 0, .int 0, .int 0, .int 0, .int 0, .ref g20, .ref g21, .int (-9), .ref g23, .ref g24, .ref g25, .ref g26, .int 0, .ref g28, .ref g29, .ref g30, .ref g31, .ref g32, .int 0, .ref g34, .int 0, .int 0, .long 0, .ref g38, .ref g39, .int 0, .int 0, .int 0, .ref g43, .ref g44, .ref g45, .ref g46, .ref g47, .ref g48, .ref g49, .int 0, .ref g51, .ref g52, .ref g53, .ref g54, .ref g55, .ref g56, .int (-9), .int 0, .int 0, .ref g60, .ref g61, .ref g62, .ref g63, .int 0, .ref g65, .ref g66, .ref g67, .ref g68]))] [])) (va_Qi (fun (r : Int32) (_ : Unit) => r = (-1)) oA (ro sz)) 0 0 (ro sz) := by
  refine Met.ofW (cc := cX12_item) (maxL := 5) (ret := (some .int)) (by decide) rfl ?_
  intro p e s m args below meth c s₁ B hml hv
  obtain ⟨rfl, hsz, hP, hK⟩ := hv
  have hx := B.exec
  have hb := B.bytes
  have hr := B.returns
  have hts := atoms_spec (ws := wm_X12_item) B.pre
  have hown : s.vm.findClass RX12 = some m.cls := findClass_of_methodNamed B.named
  have hlocks := B.notSynchronized
  subst hsz
  have hA : ∀ q : Nat, s.heap.size ≤ q → ro s.heap.size q := fun _ h => h
  have hS : va_S (ro s.heap.size) s.heap s.heap [] := va_S.rf
  have hP : va_P D vwCl [(m0, .inr (12, [.int 0, .ref g1, .int 6, .ref g3, .ref g4, .int 0, .ref g6, .ref g7, .int 0, .ref g9, .ref g10, .ref g11, .ref g12, .ref g13, .ref g14, .int 0, .int 0, .int 0, .int 0, .int 0, .ref g20, .ref g21, .int (-9), .ref g23, .ref g24, .ref g25, .ref g26, .int 0, .ref g28, .ref g29, .ref g30, .ref g31, .ref g32, .int 0, .ref g34, .int 0, .int 0, .long 0, .ref g38, .ref g39, .int 0, .int 0, .int 0, .ref g43, .ref g44, .ref g45, .ref g46, .ref g47, .ref g48, .ref g49, .int 0, .ref g51, .ref g52, .ref g53, .ref g54, .ref g55, .ref g56, .int (-9), .int 0, .int 0, .ref g60, .ref g61, .ref g62, .ref g63, .int 0, .ref g65, .ref g66, .ref g67, .ref g68]))] s.heap := hP
  have hl := lv_entry ([.ref m0, .int a1, .int a2, .int a3]) (n := 5) (Nat.le_of_ble_eq_true rfl)
  rw [lg_entry_eq]
  generalize (lg_sl ([.ref m0, .int a1, .int a2, .int a3]) ++ List.replicate (5 - (lg_sl ([.ref m0, .int a1, .int a2, .int a3])).length) Slot.unset).toArray = ls at hl ⊢
  have hl : lv_has ls 5 [(0, .ref m0), (1, .int a1), (2, .int a2), (3, .int a3)] := hl
  refine lv_aload_n hx hb dX12_item_0 rfl (lv_at hl 0 rfl) ?_
  refine lv_iload_n hx hb dX12_item_1 rfl (lv_at hl 1 rfl) ?_
  have hPc := hP.sub (ws' := [(m0, .inr (12, [.int 0, .ref g1, .int 6, .ref g3, .ref g4, .int 0, .ref g6, .ref g7, .int 0, .ref g9, .ref g10, .ref g11, .ref g12, .ref g13, .ref g14, .int 0, .int 0, .int 0, .int 0, .int 0, .ref g20, .ref g21, .int (-9), .ref g23, .ref g24, .ref g25, .ref g26, .int 0, .ref g28, .ref g29, .ref g30, .ref g31, .ref g32, .int 0, .ref g34, .int 0, .int 0, .long 0, .ref g38, .ref g39, .int 0, .int 0, .int 0, .ref g43, .ref g44, .ref g45, .ref g46, .ref g47, .ref g48, .ref g49, .int 0, .ref g51, .ref g52, .ref g53, .ref g54, .ref g55, .ref g56, .int (-9), .int 0, .int 0, .ref g60, .ref g61, .ref g62, .ref g63, .int 0, .ref g65, .ref g66, .ref g67, .ref g68]))]) [0] rfl
  have hKc := hK.sub (tys' := []) [] rfl
  refine ro_calli (va_runV (As := [.int a1]) (rest := []) ⟨hx, hb, hml, hown, hts⟩ (c_X12_isObject l D s.heap.size m0 g1 g3 g4 g6 g7 g9 g10 g11 g12 g13 g14 g20 g21 g23 g24 g25 g26 g28 g29 g30 g31 g32 g34 g38 g39 g43 g44 g45 g46 g47 g48 g49 g51 g52 g53 g54 g55 g56 g60 g61 g62 g63 g65 g66 g67 g68 a1) (cwV 1 hts gm_X12_item_X12_isObject rfl rfl rfl (by decide +kernel) ⟨Nat.le_of_ble_eq_true rfl, Nat.le_of_ble_eq_true rfl⟩) (pA_V hKc hPc (ci := 12) (q0 := 0) rfl rfl) rfl rfl hl.1 rfl (lv_room (Nat.le_of_ble_eq_true rfl)) dX12_item_2 ⟨Nat.le_of_ble_eq_true rfl, Nat.le_of_ble_eq_true rfl⟩) hS hA hP (fun r1 u1 H locs hw1 hP hS => ?_)
  have hw1 : r1 = 0 := hw1
  subst hw1
  refine lv_if_eq (tgt := 20) hx hb dX12_item_5 (by decide) (fun _ => ?_) (fun q9 => absurd (by decide) q9)
  refine lv_iconst (v := (-1)) hx hb dX12_item_20 (by decide) ?_
  exact ro_iret hx hb hr hlocks hS dX12_item_21 rfl

def wm_X12_copy : List Cond := .code yX12_copy cX12_copy 8 (some .int) :: (([.methodLink RX12 180 yX12_isObject, .instanceMethod yX12_isObject, .selects RX12 yX12_isObject yX12_isObject, .initialized RX12, .code yX12_isObject cX12_isObject 2 (some .boolean), .fieldLink RX12 177 "TalePlayModel" "objects" "I", .methodLink RX12 166 yX12_in, .static yX12_in, .code yX12_in cX12_in 6 (some .boolean)] : List Cond) ++ wsX120)
set_option maxRecDepth 20000 in
theorem gm_X12_copy_X12_isObject : GoodIn wm_X12_copy (wsV RX12 180 RX12 yX12_isObject wm_X12_isObject) := goodIn_app (goodIn_of _ (by decide +kernel)) (goodIn_r _ [5, 6, 7, 8, 4, 9, 10, 11, 12, 13, 14, 15, 16, 17, 18, 19, 20, 21, 22, 23, 24, 25, 26, 27, 28, 29, 30, 31, 32, 33, 34, 35, 36, 37, 38, 39, 40, 41, 42, 43, 44, 45, 46, 47, 48, 49, 50, 51, 52, 53, 54, 55, 56, 57, 58, 59, 60, 61, 62, 63, 64, 65, 66, 67, 68, 69, 70, 71, 72, 73, 74, 75, 76, 77, 78] (by decide +kernel) (by decide +kernel))
set_option maxHeartbeats 4000000 in
set_option maxRecDepth 100000 in
/-- copy() of a fresh reference -/
theorem c_X12_copy (l : Launch) (D : va_G) (sz : Nat) (m0 : Nat) (g1 : Nat) (g3 : Nat) (g4 : Nat) (g6 : Nat) (g7 : Nat) (g9 : Nat) (g10 : Nat) (g11 : Nat) (g12 : Nat) (g13 : Nat) (g14 : Nat) (g20 : Nat) (g21 : Nat) (g23 : Nat) (g24 : Nat) (g25 : Nat) (g26 : Nat) (g28 : Nat) (g29 : Nat) (g30 : Nat) (g31 : Nat) (g32 : Nat) (g34 : Nat) (g38 : Nat) (g39 : Nat) (g43 : Nat) (g44 : Nat) (g45 : Nat) (g46 : Nat) (g47 : Nat) (g48 : Nat) (g49 : Nat) (g51 : Nat) (g52 : Nat) (g53 : Nat) (g54 : Nat) (g55 : Nat) (g56 : Nat) (g60 : Nat) (g61 : Nat) (g62 : Nat) (g63 : Nat) (g65 : Nat) (g66 : Nat) (g67 : Nat) (g68 : Nat) (a1 : Int32) (a2 : Int32) (a3 : Int32) (a4 : Int32) (a5 : Int32) (a6 : Int32) : Met l yX12_copy wm_X12_copy ({ frames := 2, cells := 0, slots := 0, locals := 46 }) (va_Pc [.ref m0, .int a1, .int a2, .int a3, .int a4, .int a5, .int a6] (pA D sz [(m0, .inr (12, [.int 0, .ref g1, .int 6, .ref g3, .ref g4, .int 0, .ref g6, .ref g7, .int 0, .ref g9, .ref g10, .ref g11, .ref g12, .ref g13, .ref g14, .int 0, .int 0, .int 0, .int 0, .int 0, .ref g20, .ref g21, .int (-9), .ref g23, .ref g24, .ref g25, .ref g26, .int 0, .ref g28, .ref g29, .ref g30, .ref g31, .ref g32, .int 0, .ref g34, .int 0, .int 0, .long 0, .ref g38, .ref g39, .int 0, .int 0, .int 0, .ref g43, .ref g44, .ref g45, .ref g46, .ref g47, .ref g48, .ref g49, .int 0, .ref g51, .ref g52, .ref g53, .ref g54, .ref g55, .ref g56, .int (-9), .int 0, .int 0, .ref g60, .ref g61, .ref g62, .ref g63, .int 0, .ref g65, .ref g66, .ref g67, .ref g68]))] [])) (va_Qi (fun (r : Int32) (_ : Unit) => r = (-1)) oA (ro sz)) 0 0 (ro sz) := by
  refine Met.ofW (cc := cX12_copy) (maxL := 8) (ret := (some .int)) (by decide) rfl ?_
  intro p e s m args below meth c s₁ B hml hv
  obtain ⟨rfl, hsz, hP, hK⟩ := hv
  have hx := B.exec
  have hb := B.bytes
  have hr := B.returns
  have hts := atoms_spec (ws := wm_X12_copy) B.pre
  have hown : s.vm.findClass RX12 = some m.cls := findClass_of_methodNamed B.named
  have hlocks := B.notSynchronized
  subst hsz
  have hA : ∀ q : Nat, s.heap.size ≤ q → ro s.heap.size q := fun _ h => h
  have hS : va_S (ro s.heap.size) s.heap s.heap [] := va_S.rf
  have hP : va_P D vwCl [(m0, .inr (12, [.int 0, .ref g1, .int 6, .ref g3, .ref g4, .int 0, .ref g6, .ref g7, .int 0, .ref g9, .ref g10, .ref g11, .ref g12, .ref g13, .ref g14, .int 0, .int 0, .int 0, .int 0, .int 0, .ref g20, .ref g21, .int (-9), .ref g23, .ref g24, .ref g25, .ref g26, .int 0, .ref g28, .ref g29, .ref g30, .ref g31, .ref g32, .int 0, .ref g34, .int 0, .int 0, .long 0, .ref g38, .ref g39, .int 0, .int 0, .int 0, .ref g43, .ref g44, .ref g45, .ref g46, .ref g47, .ref g48, .ref g49, .int 0, .ref g51, .ref g52, .ref g53, .ref g54, .ref g55, .ref g56, .int (-9), .int 0, .int 0, .ref g60, .ref g61, .ref g62, .ref g63, .int 0, .ref g65, .ref g66, .ref g67, .ref g68]))] s.heap := hP
  have hl := lv_entry ([.ref m0, .int a1, .int a2, .int a3, .int a4, .int a5, .int a6]) (n := 8) (Nat.le_of_ble_eq_true rfl)
  rw [lg_entry_eq]
  generalize (lg_sl ([.ref m0, .int a1, .int a2, .int a3, .int a4, .int a5, .int a6]) ++ List.replicate (8 - (lg_sl ([.ref m0, .int a1, .int a2, .int a3, .int a4, .int a5, .int a6])).length) Slot.unset).toArray = ls at hl ⊢
  have hl : lv_has ls 8 [(0, .ref m0), (1, .int a1), (2, .int a2), (3, .int a3), (4, .int a4), (5, .int a5), (6, .int a6)] := hl
  refine lv_aload_n hx hb dX12_copy_0 rfl (lv_at hl 0 rfl) ?_
  refine lv_iload_n hx hb dX12_copy_1 rfl (lv_at hl 1 rfl) ?_
  have hPc := hP.sub (ws' := [(m0, .inr (12, [.int 0, .ref g1, .int 6, .ref g3, .ref g4, .int 0, .ref g6, .ref g7, .int 0, .ref g9, .ref g10, .ref g11, .ref g12, .ref g13, .ref g14, .int 0, .int 0, .int 0, .int 0, .int 0, .ref g20, .ref g21, .int (-9), .ref g23, .ref g24, .ref g25, .ref g26, .int 0, .ref g28, .ref g29, .ref g30, .ref g31, .ref g32, .int 0, .ref g34, .int 0, .int 0, .long 0, .ref g38, .ref g39, .int 0, .int 0, .int 0, .ref g43, .ref g44, .ref g45, .ref g46, .ref g47, .ref g48, .ref g49, .int 0, .ref g51, .ref g52, .ref g53, .ref g54, .ref g55, .ref g56, .int (-9), .int 0, .int 0, .ref g60, .ref g61, .ref g62, .ref g63, .int 0, .ref g65, .ref g66, .ref g67, .ref g68]))]) [0] rfl
  have hKc := hK.sub (tys' := []) [] rfl
  refine ro_calli (va_runV (As := [.int a1]) (rest := []) ⟨hx, hb, hml, hown, hts⟩ (c_X12_isObject l D s.heap.size m0 g1 g3 g4 g6 g7 g9 g10 g11 g12 g13 g14 g20 g21 g23 g24 g25 g26 g28 g29 g30 g31 g32 g34 g38 g39 g43 g44 g45 g46 g47 g48 g49 g51 g52 g53 g54 g55 g56 g60 g61 g62 g63 g65 g66 g67 g68 a1) (cwV 1 hts gm_X12_copy_X12_isObject rfl rfl rfl (by decide +kernel) ⟨Nat.le_of_ble_eq_true rfl, Nat.le_of_ble_eq_true rfl⟩) (pA_V hKc hPc (ci := 12) (q0 := 0) rfl rfl) rfl rfl hl.1 rfl (lv_room (Nat.le_of_ble_eq_true rfl)) dX12_copy_2 ⟨Nat.le_of_ble_eq_true rfl, Nat.le_of_ble_eq_true rfl⟩) hS hA hP (fun r1 u1 H locs hw1 hP hS => ?_)
  have hw1 : r1 = 0 := hw1
  subst hw1
  refine lv_if_eq (tgt := 29) hx hb dX12_copy_5 (by decide) (fun _ => ?_) (fun q9 => absurd (by decide) q9)
  refine lv_iconst (v := (-1)) hx hb dX12_copy_29 (by decide) ?_
  exact ro_iret hx hb hr hlocks hS dX12_copy_30 rfl

def wm_X12_role : List Cond := .code yX12_role cX12_role 4 (some .int) :: (([.fieldLink RX12 450 "TalePlayModel" "casts" "I", .methodLink RX12 166 yX12_in, .static yX12_in, .initialized RX12, .code yX12_in cX12_in 6 (some .boolean)] : List Cond) ++ wsX120)
set_option maxRecDepth 20000 in
theorem gm_X12_role_X12_in : GoodIn wm_X12_role (va_wsS RX12 166 yX12_in wm_X12_in) := goodIn_app (goodIn_of _ (by decide +kernel)) (goodIn_r _ [5] (by decide +kernel) (by decide +kernel))
set_option maxHeartbeats 4000000 in
set_option maxRecDepth 100000 in
/-- role() of a fresh reference -/
theorem c_X12_role (l : Launch) (D : va_G) (sz : Nat) (m0 : Nat) (g1 : Nat) (g3 : Nat) (g4 : Nat) (g6 : Nat) (g7 : Nat) (g9 : Nat) (g10 : Nat) (g11 : Nat) (g12 : Nat) (g13 : Nat) (g14 : Nat) (g20 : Nat) (g21 : Nat) (g23 : Nat) (g24 : Nat) (g25 : Nat) (g26 : Nat) (g28 : Nat) (g29 : Nat) (g30 : Nat) (g31 : Nat) (g32 : Nat) (g34 : Nat) (g38 : Nat) (g39 : Nat) (g43 : Nat) (g44 : Nat) (g45 : Nat) (g46 : Nat) (g47 : Nat) (g48 : Nat) (g49 : Nat) (g51 : Nat) (g52 : Nat) (g53 : Nat) (g54 : Nat) (g55 : Nat) (g56 : Nat) (g60 : Nat) (g61 : Nat) (g62 : Nat) (g63 : Nat) (g65 : Nat) (g66 : Nat) (g67 : Nat) (g68 : Nat) (a1 : Int32) (a2 : Int32) (a3 : Int32) : Met l yX12_role wm_X12_role ({ frames := 1, cells := 0, slots := 0, locals := 25 }) (va_Pc [.ref m0, .int a1, .int a2, .int a3] (pA D sz [(m0, .inr (12, [.int 0, .ref g1, .int 6, .ref g3, .ref g4, .int 0, .ref g6, .ref g7, .int 0, .ref g9, .ref g10, .ref g11, .ref g12, .ref g13, .ref g14, .int 0, .int 0, .int 0, .int 0, .int 0, .ref g20, .ref g21, .int (-9), .ref g23, .ref g24, .ref g25, .ref g26, .int 0, .ref g28, .ref g29, .ref g30, .ref g31, .ref g32, .int 0, .ref g34, .int 0, .int 0, .long 0, .ref g38, .ref g39, .int 0, .int 0, .int 0, .ref g43, .ref g44, .ref g45, .ref g46, .ref g47, .ref g48, .ref g49, .int 0, .ref g51, .ref g52, .ref g53, .ref g54, .ref g55, .ref g56, .int (-9), .int 0, .int 0, .ref g60, .ref g61, .ref g62, .ref g63, .int 0, .ref g65, .ref g66, .ref g67, .ref g68]))] [])) (va_Qi (fun (r : Int32) (_ : Unit) => r = (-1)) oA (ro sz)) 0 0 (ro sz) := by
  refine Met.ofW (cc := cX12_role) (maxL := 4) (ret := (some .int)) (by decide) rfl ?_
  intro p e s m args below meth c s₁ B hml hv
  obtain ⟨rfl, hsz, hP, hK⟩ := hv
  have hx := B.exec
  have hb := B.bytes
  have hr := B.returns
  have hts := atoms_spec (ws := wm_X12_role) B.pre
  have hown : s.vm.findClass RX12 = some m.cls := findClass_of_methodNamed B.named
  have hlocks := B.notSynchronized
  subst hsz
  have hA : ∀ q : Nat, s.heap.size ≤ q → ro s.heap.size q := fun _ h => h
  have hS : va_S (ro s.heap.size) s.heap s.heap [] := va_S.rf
  have hP : va_P D vwCl [(m0, .inr (12, [.int 0, .ref g1, .int 6, .ref g3, .ref g4, .int 0, .ref g6, .ref g7, .int 0, .ref g9, .ref g10, .ref g11, .ref g12, .ref g13, .ref g14, .int 0, .int 0, .int 0, .int 0, .int 0, .ref g20, .ref g21, .int (-9), .ref g23, .ref g24, .ref g25, .ref g26, .int 0, .ref g28, .ref g29, .ref g30, .ref g31, .ref g32, .int 0, .ref g34, .int 0, .int 0, .long 0, .ref g38, .ref g39, .int 0, .int 0, .int 0, .ref g43, .ref g44, .ref g45, .ref g46, .ref g47, .ref g48, .ref g49, .int 0, .ref g51, .ref g52, .ref g53, .ref g54, .ref g55, .ref g56, .int (-9), .int 0, .int 0, .ref g60, .ref g61, .ref g62, .ref g63, .int 0, .ref g65, .ref g66, .ref g67, .ref g68]))] s.heap := hP
  have hl := lv_entry ([.ref m0, .int a1, .int a2, .int a3]) (n := 4) (Nat.le_of_ble_eq_true rfl)
  rw [lg_entry_eq]
  generalize (lg_sl ([.ref m0, .int a1, .int a2, .int a3]) ++ List.replicate (4 - (lg_sl ([.ref m0, .int a1, .int a2, .int a3])).length) Slot.unset).toArray = ls at hl ⊢
  have hl : lv_has ls 4 [(0, .ref m0), (1, .int a1), (2, .int a2), (3, .int a3)] := hl
  refine lv_iload_n hx hb dX12_role_0 rfl (lv_at hl 1 rfl) ?_
  refine lv_i2l (v := a1.toInt64) hx hb dX12_role_1 rfl ?_
  refine lv_lconst (v := 0) hx hb dX12_role_2 (by decide) ?_
  refine lv_aload_n hx hb dX12_role_3 rfl (lv_at hl 0 rfl) ?_
  refine va_get (D := D) (ci := 12) (v := .int 0) (C := RX12) (T := TX12) (N := 69) hx hb hts (fun _ h => List.mem_cons_of_mem _ (List.mem_append_right _ h)) hown hK hP 0 rfl rfl 64 (by decide) (hts (.fieldLink RX12 450 "TalePlayModel" "casts" "I") (by decide +kernel)) (fun _ h9 => h9) rfl dX12_role_4 ?_
  refine lv_iconst (v := 1) hx hb dX12_role_7 (by decide) ?_
  refine lv_isub hx hb dX12_role_8 ?_
  refine tp_i (y := (-1)) (by decide) ?_
  refine lv_i2l (v := (-1)) hx hb dX12_role_9 (by decide) ?_
  have hPc := hP.sub (ws' := []) [] rfl
  have hKc := hK.sub (tys' := []) [] rfl
  refine ro_calli (va_runS (As := [.long a1.toInt64, .long 0, .long (-1)]) (rest := []) ⟨hx, hb, hml, hown, hts⟩ (c_X12_in0 l D s.heap.size a1.toInt64 0 (-1) a1.toInt 0 (-1) ((Int32.toInt_toInt64 a1).trans rfl) (by decide) (by decide) (by omega)) (va_cwS 3 hts gm_X12_role_X12_in rfl rfl rfl (by decide +kernel) ⟨Nat.le_of_ble_eq_true rfl, Nat.le_of_ble_eq_true rfl⟩) (pA_S hKc hPc) rfl rfl hl.1 rfl (lv_room (Nat.le_of_ble_eq_true rfl)) dX12_role_10 ⟨Nat.le_of_ble_eq_true rfl, Nat.le_of_ble_eq_true rfl⟩) hS hA hP (fun r1 u1 H locs hw1 hP hS => ?_)
  have hw1 : r1 = 0 := hw1
  subst hw1
  refine lv_if_eq (tgt := 30) hx hb dX12_role_13 (by decide) (fun _ => ?_) (fun q9 => absurd (by decide) q9)
  refine lv_iconst (v := (-1)) hx hb dX12_role_30 (by decide) ?_
  exact ro_iret hx hb hr hlocks hS dX12_role_31 rfl

def wm_X12_who : List Cond := .code yX12_who cX12_who 3 (some .int) :: (([.fieldLink RX12 450 "TalePlayModel" "casts" "I", .methodLink RX12 166 yX12_in, .static yX12_in, .initialized RX12, .code yX12_in cX12_in 6 (some .boolean)] : List Cond) ++ wsX120)
set_option maxRecDepth 20000 in
theorem gm_X12_who_X12_in : GoodIn wm_X12_who (va_wsS RX12 166 yX12_in wm_X12_in) := goodIn_app (goodIn_of _ (by decide +kernel)) (goodIn_r _ [5] (by decide +kernel) (by decide +kernel))
set_option maxHeartbeats 4000000 in
set_option maxRecDepth 100000 in
/-- who() of a fresh reference -/
theorem c_X12_who (l : Launch) (D : va_G) (sz : Nat) (m0 : Nat) (g1 : Nat) (g3 : Nat) (g4 : Nat) (g6 : Nat) (g7 : Nat) (g9 : Nat) (g10 : Nat) (g11 : Nat) (g12 : Nat) (g13 : Nat) (g14 : Nat) (g20 : Nat) (g21 : Nat) (g23 : Nat) (g24 : Nat) (g25 : Nat) (g26 : Nat) (g28 : Nat) (g29 : Nat) (g30 : Nat) (g31 : Nat) (g32 : Nat) (g34 : Nat) (g38 : Nat) (g39 : Nat) (g43 : Nat) (g44 : Nat) (g45 : Nat) (g46 : Nat) (g47 : Nat) (g48 : Nat) (g49 : Nat) (g51 : Nat) (g52 : Nat) (g53 : Nat) (g54 : Nat) (g55 : Nat) (g56 : Nat) (g60 : Nat) (g61 : Nat) (g62 : Nat) (g63 : Nat) (g65 : Nat) (g66 : Nat) (g67 : Nat) (g68 : Nat) (a1 : Int32) (a2 : Int32) : Met l yX12_who wm_X12_who ({ frames := 1, cells := 0, slots := 0, locals := 25 }) (va_Pc [.ref m0, .int a1, .int a2] (pA D sz [(m0, .inr (12, [.int 0, .ref g1, .int 6, .ref g3, .ref g4, .int 0, .ref g6, .ref g7, .int 0, .ref g9, .ref g10, .ref g11, .ref g12, .ref g13, .ref g14, .int 0, .int 0, .int 0, .int 0, .int 0, .ref g20, .ref g21, .int (-9), .ref g23, .ref g24, .ref g25, .ref g26, .int 0, .ref g28, .ref g29, .ref g30, .ref g31, .ref g32, .int 0, .ref g34, .int 0, .int 0, .long 0, .ref g38, .ref g39, .int 0, .int 0, .int 0, .ref g43, .ref g44, .ref g45, .ref g46, .ref g47, .ref g48, .ref g49, .int 0, .ref g51, .ref g52, .ref g53, .ref g54, .ref g55, .ref g56, .int (-9), .int 0, .int 0, .ref g60, .ref g61, .ref g62, .ref g63, .int 0, .ref g65, .ref g66, .ref g67, .ref g68]))] [])) (va_Qi (fun (r : Int32) (_ : Unit) => r = (-1)) oA (ro sz)) 0 0 (ro sz) := by
  refine Met.ofW (cc := cX12_who) (maxL := 3) (ret := (some .int)) (by decide) rfl ?_
  intro p e s m args below meth c s₁ B hml hv
  obtain ⟨rfl, hsz, hP, hK⟩ := hv
  have hx := B.exec
  have hb := B.bytes
  have hr := B.returns
  have hts := atoms_spec (ws := wm_X12_who) B.pre
  have hown : s.vm.findClass RX12 = some m.cls := findClass_of_methodNamed B.named
  have hlocks := B.notSynchronized
  subst hsz
  have hA : ∀ q : Nat, s.heap.size ≤ q → ro s.heap.size q := fun _ h => h
  have hS : va_S (ro s.heap.size) s.heap s.heap [] := va_S.rf
  have hP : va_P D vwCl [(m0, .inr (12, [.int 0, .ref g1, .int 6, .ref g3, .ref g4, .int 0, .ref g6, .ref g7, .int 0, .ref g9, .ref g10, .ref g11, .ref g12, .ref g13, .ref g14, .int 0, .int 0, .int 0, .int 0, .int 0, .ref g20, .ref g21, .int (-9), .ref g23, .ref g24, .ref g25, .ref g26, .int 0, .ref g28, .ref g29, .ref g30, .ref g31, .ref g32, .int 0, .ref g34, .int 0, .int 0, .long 0, .ref g38, .ref g39, .int 0, .int 0, .int 0, .ref g43, .ref g44, .ref g45, .ref g46, .ref g47, .ref g48, .ref g49, .int 0, .ref g51, .ref g52, .ref g53, .ref g54, .ref g55, .ref g56, .int (-9), .int 0, .int 0, .ref g60, .ref g61, .ref g62, .ref g63, .int 0, .ref g65, .ref g66, .ref g67, .ref g68]))] s.heap := hP
  have hl := lv_entry ([.ref m0, .int a1, .int a2]) (n := 3) (Nat.le_of_ble_eq_true rfl)
  rw [lg_entry_eq]
  generalize (lg_sl ([.ref m0, .int a1, .int a2]) ++ List.replicate (3 - (lg_sl ([.ref m0, .int a1, .int a2])).length) Slot.unset).toArray = ls at hl ⊢
  have hl : lv_has ls 3 [(0, .ref m0), (1, .int a1), (2, .int a2)] := hl
  refine lv_iload_n hx hb dX12_who_0 rfl (lv_at hl 1 rfl) ?_
  refine lv_i2l (v := a1.toInt64) hx hb dX12_who_1 rfl ?_
  refine lv_lconst (v := 0) hx hb dX12_who_2 (by decide) ?_
  refine lv_aload_n hx hb dX12_who_3 rfl (lv_at hl 0 rfl) ?_
  refine va_get (D := D) (ci := 12) (v := .int 0) (C := RX12) (T := TX12) (N := 69) hx hb hts (fun _ h => List.mem_cons_of_mem _ (List.mem_append_right _ h)) hown hK hP 0 rfl rfl 64 (by decide) (hts (.fieldLink RX12 450 "TalePlayModel" "casts" "I") (by decide +kernel)) (fun _ h9 => h9) rfl dX12_who_4 ?_
  refine lv_iconst (v := 1) hx hb dX12_who_7 (by decide) ?_
  refine lv_isub hx hb dX12_who_8 ?_
  refine tp_i (y := (-1)) (by decide) ?_
  refine lv_i2l (v := (-1)) hx hb dX12_who_9 (by decide) ?_
  have hPc := hP.sub (ws' := []) [] rfl
  have hKc := hK.sub (tys' := []) [] rfl
  refine ro_calli (va_runS (As := [.long a1.toInt64, .long 0, .long (-1)]) (rest := []) ⟨hx, hb, hml, hown, hts⟩ (c_X12_in0 l D s.heap.size a1.toInt64 0 (-1) a1.toInt 0 (-1) ((Int32.toInt_toInt64 a1).trans rfl) (by decide) (by decide) (by omega)) (va_cwS 3 hts gm_X12_who_X12_in rfl rfl rfl (by decide +kernel) ⟨Nat.le_of_ble_eq_true rfl, Nat.le_of_ble_eq_true rfl⟩) (pA_S hKc hPc) rfl rfl hl.1 rfl (lv_room (Nat.le_of_ble_eq_true rfl)) dX12_who_10 ⟨Nat.le_of_ble_eq_true rfl, Nat.le_of_ble_eq_true rfl⟩) hS hA hP (fun r1 u1 H locs hw1 hP hS => ?_)
  have hw1 : r1 = 0 := hw1
  subst hw1
  refine lv_if_ne (tgt := 18) hx hb dX12_who_13 (by decide) (fun q9 => absurd q9 (by decide)) (fun _ => ?_)
  refine lv_iconst (v := (-1)) hx hb dX12_who_16 (by decide) ?_
  exact ro_iret hx hb hr hlocks hS dX12_who_17 rfl

