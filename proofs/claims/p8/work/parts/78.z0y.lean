set_option maxHeartbeats 4000000 in
set_option maxRecDepth 100000 in
theorem s_X12_whyNotLeave_t (l : Launch) (D : va_G) (sz : Nat) (o : Nat) (a : Nat → Nat) (t : Nat → ClassId) (i : Nat → Int32) (q : Int64) (c : Nat → Nat → Int32) (d : Nat → Nat → Int64) (hI : mInv i c) (hs_T : TI (i 5).toInt (fun z => Kd (c 3) (c 6) z 0) (i 22).toInt (c 23) (c 24)) (hs_E : CcE (c 3) (c 6) (c 47) (c 48) (c 49) (i 5).toInt) : Met l yX12_whyNotLeave wm_X12_whyNotLeave ({ frames := 1, cells := 0, slots := 0, locals := 20 }) (va_Pc [.ref o] (pA D sz (mW o a t i q c d) (mT t))) (va_Qi (fun (r : Int32) (_ : Unit) => ((0 ≤ r.toInt ∧ r.toInt ≤ 21) ∧ (Im (r.toInt = 0) (¬ (c 23 (c 24 (i 22).toInt.toNat).toInt.toNat).toInt = -9)) ∧ (r.toInt = leaveV (ByR (zM (c 3) (c 6) (i 5).toInt) (nF (i 5).toInt (c 23) (c 24)) (fMn (i 5).toInt (c 23)) (i 22).toInt) ((fMn (i 5).toInt (c 23)) (i 22).toInt = 0 ∧ (zM (c 3) (c 6) (i 5).toInt) ((nF (i 5).toInt (c 23) (c 24)) (i 22).toInt) = 3 ∧ ¬ (bM (c 25)) ((nF (i 5).toInt (c 23) (c 24)) (i 22).toInt)) ((fMn (i 5).toInt (c 23)) ((nF (i 5).toInt (c 23) (c 24)) (i 22).toInt) = 0 ∨ (fMn (i 5).toInt (c 23)) ((nF (i 5).toInt (c 23) (c 24)) (i 22).toInt) = 1)))) oA (ro sz)) 0 0 (ro sz) := by
  refine Met.ofW (cc := cX12_whyNotLeave) (maxL := 2) (ret := (some .int)) (by decide +kernel) rfl ?_
  intro p e s m args below meth cd s₁ B hml hv
  obtain ⟨rfl, hsz, hP, hK⟩ := hv
  have hx := B.exec
  have hb := B.bytes
  have hr := B.returns
  have hts := atoms_spec (ws := wm_X12_whyNotLeave) B.pre
  have hown : s.vm.findClass RX12 = some m.cls := findClass_of_methodNamed B.named
  have hlocks := B.notSynchronized
  subst hsz
  have hA : ∀ q : Nat, s.heap.size ≤ q → ro s.heap.size q := fun _ h => h
  have hS : va_S (ro s.heap.size) s.heap s.heap [] := va_S.rf
  have hl := lv_entry ([.ref o]) (n := 2) (Nat.le_of_ble_eq_true rfl)
  rw [lg_entry_eq]
  generalize (lg_sl ([.ref o]) ++ List.replicate (2 - (lg_sl ([.ref o])).length) Slot.unset).toArray = ls at hl ⊢
  have hl : lv_has ls 2 [(0, .ref o)] := hl
  have rb5_i : 0 ≤ (i 5).toInt ∧ (i 5).toInt ≤ 30 := hI.1 5
  have rb22_i : (i 22).toInt = -9 ∨ (0 ≤ (i 22).toInt ∧ (i 22).toInt ≤ 29) := hI.1 22
  have hTt := hs_T
  obtain ⟨⟨hp0, hp1, hp2⟩, hT2, hT3, ⟨rk, hrk⟩, rr, hq0, hq1, hq2, hq3⟩ := hTt
  have hsp : Sp (nF (i 5).toInt (c 23) (c 24)) := nF_Sp (by omega) hT2
  have hpl := TI_p hs_T
  have hpa : 0 ≤ (c 24 (i 22).toNatClampNeg).toInt ∧ (c 24 (i 22).toNatClampNeg).toInt < (i 5).toInt := hT2 _ hp0 hp1 hpl
  have hnp : (nF (i 5).toInt (c 23) (c 24)) (i 22).toInt = (c 24 (i 22).toInt.toNat).toInt := by unfold nF; rw [if_pos ⟨hp0, hp1, hpl⟩]
  have hfp : (fMn (i 5).toInt (c 23)) (i 22).toInt = (c 23 (i 22).toInt.toNat).toInt := fMn_i ⟨hp0, hp1⟩
  have hcp := H3_i (hs_E (c 24 (i 22).toInt.toNat).toInt hpa.1 hpa.2)
  have hfa : (fMn (i 5).toInt (c 23)) ((nF (i 5).toInt (c 23) (c 24)) (i 22).toInt) = (c 23 (c 24 (i 22).toInt.toNat).toInt.toNat).toInt := by rw [hnp]; exact fMn_i hpa
  refine lv_aload_n hx hb dX12_whyNotLeave_0 rfl (lv_at hl 0 rfl) ?_
  refine ro_calli (va_runV (As := []) (rest := []) ⟨hx, hb, hml, hown, hts⟩ (s_X12_isInRoom_t l D s.heap.size o a t i q c d  hI hs_T hs_E) (cwV 0 hts gm_X12_whyNotLeave_X12_isInRoom rfl rfl rfl (by decide +kernel) ⟨Nat.le_of_ble_eq_true rfl, Nat.le_of_ble_eq_true rfl⟩) (pA_V hK hP (ci := 12) (q0 := 0) rfl rfl) rfl rfl hl.1 rfl (lv_room (Nat.le_of_ble_eq_true rfl)) dX12_whyNotLeave_1 ⟨Nat.le_of_ble_eq_true rfl, Nat.le_of_ble_eq_true rfl⟩) hS hA hP (fun r1 u1 H locs hw1 hP hS => ?_)
  have hw1 : ((0 ≤ r1.toInt ∧ r1.toInt ≤ 1) ∧ (Sm r1 (ByR (zM (c 3) (c 6) (i 5).toInt) (nF (i 5).toInt (c 23) (c 24)) (fMn (i 5).toInt (c 23)) (i 22).toInt))) := hw1
  obtain ⟨hw1, hr1_0⟩ := hw1
  have hr1_0 : Sm r1 (ByR (zM (c 3) (c 6) (i 5).toInt) (nF (i 5).toInt (c 23) (c 24)) (fMn (i 5).toInt (c 23)) (i 22).toInt) := hr1_0
  refine lv_if_eq (tgt := 9) hx hb dX12_whyNotLeave_4 (by decide +kernel) (fun c2 => ?_) (fun c2 => ?_)
  · have f2 := (ti_eq (a := r1.toInt) (b := 0) rfl (by decide +kernel)).mp c2
    have s2 := sm_f hr1_0 c2
    refine lv_aload_n hx hb dX12_whyNotLeave_9 rfl (lv_at hl 0 rfl) ?_
    refine mget_24 hx hb hts (fun _ h => List.mem_cons_of_mem _ (List.mem_append_right _ h)) hown hK hP (hts (.fieldLink RX12 53 "TalePlayModel" "nAt" "[I") (List.mem_cons_of_mem _ (List.mem_append_left _ (List.mem_of_getElem? (i := 8) rfl)))) dX12_whyNotLeave_10 ?_
    refine lv_aload_n hx hb dX12_whyNotLeave_13 rfl (lv_at hl 0 rfl) ?_
    refine mget_22 (v := (i 22)) rfl hx hb hts (fun _ h => List.mem_cons_of_mem _ (List.mem_append_right _ h)) hown hK hP (hts (.fieldLink RX12 155 "TalePlayModel" "player" "I") (List.mem_cons_of_mem _ (List.mem_append_left _ (List.mem_of_getElem? (i := 6) rfl)))) dX12_whyNotLeave_14 ?_
    refine mld_24 hx hb hK hP (vp_in_iff.mpr (by have h9 : (i 22).toInt = (i 22).toInt := rfl; omega)) dX12_whyNotLeave_17 (fun x3 ex3 => ?_)
    have rx3 : x3.toInt = -9 ∨ (0 ≤ x3.toInt ∧ x3.toInt ≤ 29) := by rw [ex3]; exact hI.2 24 _
    have gx3 : (c 24 ((i 22) : Int32).toNatClampNeg).toInt = x3.toInt := by rw [ex3]
    refine lv_istore_n (lv' := [(1, .int x3), (0, .ref o)]) hx hb dX12_whyNotLeave_18 rfl hl (by decide +kernel) rfl (fun ls hl => ?_)
    refine lv_aload_n hx hb dX12_whyNotLeave_19 rfl (lv_at hl 1 rfl) ?_
    refine mget_23 hx hb hts (fun _ h => List.mem_cons_of_mem _ (List.mem_append_right _ h)) hown hK hP (hts (.fieldLink RX12 50 "TalePlayModel" "nForm" "[I") (List.mem_cons_of_mem _ (List.mem_append_left _ (List.mem_of_getElem? (i := 5) rfl)))) dX12_whyNotLeave_20 ?_
    refine lv_aload_n hx hb dX12_whyNotLeave_23 rfl (lv_at hl 1 rfl) ?_
    refine mget_22 (v := (i 22)) rfl hx hb hts (fun _ h => List.mem_cons_of_mem _ (List.mem_append_right _ h)) hown hK hP (hts (.fieldLink RX12 155 "TalePlayModel" "player" "I") (List.mem_cons_of_mem _ (List.mem_append_left _ (List.mem_of_getElem? (i := 6) rfl)))) dX12_whyNotLeave_24 ?_
    refine mld_23 hx hb hK hP (vp_in_iff.mpr (by have h9 : (i 22).toInt = (i 22).toInt := rfl; omega)) dX12_whyNotLeave_27 (fun x4 ex4 => ?_)
    have rx4 : x4.toInt = -9 ∨ (0 ≤ x4.toInt ∧ x4.toInt ≤ 4) := by rw [ex4]; exact hI.2 23 _
    have gx4 : (c 23 ((i 22) : Int32).toNatClampNeg).toInt = x4.toInt := by rw [ex4]
    refine lv_if_ne (tgt := 51) hx hb dX12_whyNotLeave_28 (by decide +kernel) (fun c5 => ?_) (fun c5 => ?_)
    · have f5 := mt (ti_eq (a := x4.toInt) (b := 0) rfl (by decide +kernel)).mpr c5
      refine lv_aload_n hx hb dX12_whyNotLeave_51 rfl (lv_at hl 1 rfl) ?_
      refine mget_23 hx hb hts (fun _ h => List.mem_cons_of_mem _ (List.mem_append_right _ h)) hown hK hP (hts (.fieldLink RX12 50 "TalePlayModel" "nForm" "[I") (List.mem_cons_of_mem _ (List.mem_append_left _ (List.mem_of_getElem? (i := 5) rfl)))) dX12_whyNotLeave_52 ?_
      refine lv_iload_n hx hb dX12_whyNotLeave_55 rfl (lv_at hl 0 rfl) ?_
      refine mld_23 hx hb hK hP (vp_in_iff.mpr (by have h9 : x3.toInt = x3.toInt := rfl; omega)) dX12_whyNotLeave_56 (fun x6 ex6 => ?_)
      have rx6 : x6.toInt = -9 ∨ (0 ≤ x6.toInt ∧ x6.toInt ≤ 4) := by rw [ex6]; exact hI.2 23 _
      have gx6 : (c 23 (x3 : Int32).toNatClampNeg).toInt = x6.toInt := by rw [ex6]
      refine lv_if_eq (tgt := 75) hx hb dX12_whyNotLeave_57 (by decide +kernel) (fun c7 => ?_) (fun c7 => ?_)
      · have f7 := (ti_eq (a := x6.toInt) (b := 0) rfl (by decide +kernel)).mp c7
        refine lv_iconst (v := 0) hx hb dX12_whyNotLeave_75 (by decide +kernel) ?_
        exact ro_iret hx hb hr hlocks hS dX12_whyNotLeave_76 ⟨(show 0 ≤ (0 : Int32).toInt ∧ (0 : Int32).toInt ≤ 21 from by decide +kernel), (show Im ((0 : Int32).toInt = 0) (¬ (c 23 (c 24 (i 22).toInt.toNat).toInt.toNat).toInt = -9) from fun _ => by rw [show (c 24 (i 22).toInt.toNat).toInt = x3.toInt from gx3]; show ¬ (c 23 x3.toNatClampNeg).toInt = -9; omega), (show (0 : Int32).toInt = leaveV (ByR (zM (c 3) (c 6) (i 5).toInt) (nF (i 5).toInt (c 23) (c 24)) (fMn (i 5).toInt (c 23)) (i 22).toInt) ((fMn (i 5).toInt (c 23)) (i 22).toInt = 0 ∧ (zM (c 3) (c 6) (i 5).toInt) ((nF (i 5).toInt (c 23) (c 24)) (i 22).toInt) = 3 ∧ ¬ (bM (c 25)) ((nF (i 5).toInt (c 23) (c 24)) (i 22).toInt)) ((fMn (i 5).toInt (c 23)) ((nF (i 5).toInt (c 23) (c 24)) (i 22).toInt) = 0 ∨ (fMn (i 5).toInt (c 23)) ((nF (i 5).toInt (c 23) (c 24)) (i 22).toInt) = 1) from by unfold leaveV; rw [iV_n s2, iV_n (fun h9 => by have h8 := h9.1; rw [hfp] at h8; have h7 := (show (c 23 (i 22).toInt.toNat).toInt = x4.toInt from gx4); omega), iV_n (by rw [hfa]; have h8 := (show (c 23 (c 24 (i 22).toInt.toNat).toInt.toNat).toInt = x6.toInt from by rw [(show (c 24 (i 22).toInt.toNat).toInt = x3.toInt from gx3)]; exact gx6); omega)]; first | done | decide)⟩
      · have f7 := mt (ti_eq (a := x6.toInt) (b := 0) rfl (by decide +kernel)).mpr c7
        refine lv_aload_n hx hb dX12_whyNotLeave_60 rfl (lv_at hl 1 rfl) ?_
        refine mget_23 hx hb hts (fun _ h => List.mem_cons_of_mem _ (List.mem_append_right _ h)) hown hK hP (hts (.fieldLink RX12 50 "TalePlayModel" "nForm" "[I") (List.mem_cons_of_mem _ (List.mem_append_left _ (List.mem_of_getElem? (i := 5) rfl)))) dX12_whyNotLeave_61 ?_
        refine lv_iload_n hx hb dX12_whyNotLeave_64 rfl (lv_at hl 0 rfl) ?_
        refine mld_23 hx hb hK hP (vp_in_iff.mpr (by have h9 : x3.toInt = x3.toInt := rfl; omega)) dX12_whyNotLeave_65 (fun x8 ex8 => ?_)
        have rx8 : x8.toInt = -9 ∨ (0 ≤ x8.toInt ∧ x8.toInt ≤ 4) := by rw [ex8]; exact hI.2 23 _
        have gx8 : (c 23 (x3 : Int32).toNatClampNeg).toInt = x8.toInt := by rw [ex8]
        refine lv_iconst (v := 1) hx hb dX12_whyNotLeave_66 (by decide +kernel) ?_
        refine lv_icmp_eq (tgt := 75) hx hb dX12_whyNotLeave_67 (by decide +kernel) (fun c9 => ?_) (fun c9 => ?_)
        · have f9 := (ti_eq (a := x8.toInt) (b := 1) rfl (by decide +kernel)).mp c9
          refine lv_iconst (v := 0) hx hb dX12_whyNotLeave_75 (by decide +kernel) ?_
          exact ro_iret hx hb hr hlocks hS dX12_whyNotLeave_76 ⟨(show 0 ≤ (0 : Int32).toInt ∧ (0 : Int32).toInt ≤ 21 from by decide +kernel), (show Im ((0 : Int32).toInt = 0) (¬ (c 23 (c 24 (i 22).toInt.toNat).toInt.toNat).toInt = -9) from fun _ => by rw [show (c 24 (i 22).toInt.toNat).toInt = x3.toInt from gx3]; show ¬ (c 23 x3.toNatClampNeg).toInt = -9; omega), (show (0 : Int32).toInt = leaveV (ByR (zM (c 3) (c 6) (i 5).toInt) (nF (i 5).toInt (c 23) (c 24)) (fMn (i 5).toInt (c 23)) (i 22).toInt) ((fMn (i 5).toInt (c 23)) (i 22).toInt = 0 ∧ (zM (c 3) (c 6) (i 5).toInt) ((nF (i 5).toInt (c 23) (c 24)) (i 22).toInt) = 3 ∧ ¬ (bM (c 25)) ((nF (i 5).toInt (c 23) (c 24)) (i 22).toInt)) ((fMn (i 5).toInt (c 23)) ((nF (i 5).toInt (c 23) (c 24)) (i 22).toInt) = 0 ∨ (fMn (i 5).toInt (c 23)) ((nF (i 5).toInt (c 23) (c 24)) (i 22).toInt) = 1) from by unfold leaveV; rw [iV_n s2, iV_n (fun h9 => by have h8 := h9.1; rw [hfp] at h8; have h7 := (show (c 23 (i 22).toInt.toNat).toInt = x4.toInt from gx4); omega), iV_n (by rw [hfa]; have h8 := (show (c 23 (c 24 (i 22).toInt.toNat).toInt.toNat).toInt = x8.toInt from by rw [(show (c 24 (i 22).toInt.toNat).toInt = x3.toInt from gx3)]; exact gx8); omega)]; first | done | decide)⟩
        · have f9 := mt (ti_eq (a := x8.toInt) (b := 1) rfl (by decide +kernel)).mpr c9
          refine lv_bipush (v := 21) hx hb dX12_whyNotLeave_70 (by decide +kernel) ?_
          refine lv_goto (tgt := 76) hx hb dX12_whyNotLeave_72 (by decide +kernel) ?_
          exact ro_iret hx hb hr hlocks hS dX12_whyNotLeave_76 ⟨(show 0 ≤ (21 : Int32).toInt ∧ (21 : Int32).toInt ≤ 21 from by decide +kernel), (show Im ((21 : Int32).toInt = 0) (¬ (c 23 (c 24 (i 22).toInt.toNat).toInt.toNat).toInt = -9) from fun h9 => absurd h9 (by decide +kernel)), (show (21 : Int32).toInt = leaveV (ByR (zM (c 3) (c 6) (i 5).toInt) (nF (i 5).toInt (c 23) (c 24)) (fMn (i 5).toInt (c 23)) (i 22).toInt) ((fMn (i 5).toInt (c 23)) (i 22).toInt = 0 ∧ (zM (c 3) (c 6) (i 5).toInt) ((nF (i 5).toInt (c 23) (c 24)) (i 22).toInt) = 3 ∧ ¬ (bM (c 25)) ((nF (i 5).toInt (c 23) (c 24)) (i 22).toInt)) ((fMn (i 5).toInt (c 23)) ((nF (i 5).toInt (c 23) (c 24)) (i 22).toInt) = 0 ∨ (fMn (i 5).toInt (c 23)) ((nF (i 5).toInt (c 23) (c 24)) (i 22).toInt) = 1) from by unfold leaveV; rw [iV_n s2, iV_n (fun h9 => by have h8 := h9.1; rw [hfp] at h8; have h7 := (show (c 23 (i 22).toInt.toNat).toInt = x4.toInt from gx4); omega), iV_y (by rw [hfa]; have h8 := (show (c 23 (c 24 (i 22).toInt.toNat).toInt.toNat).toInt = x8.toInt from by rw [(show (c 24 (i 22).toInt.toNat).toInt = x3.toInt from gx3)]; exact gx8); omega)]; first | done | decide)⟩
    · have f5 := (ti_eq (a := x4.toInt) (b := 0) rfl (by decide +kernel)).mp c5
      refine lv_aload_n hx hb dX12_whyNotLeave_31 rfl (lv_at hl 1 rfl) ?_
      refine mget_47 hx hb hts (fun _ h => List.mem_cons_of_mem _ (List.mem_append_right _ h)) hown hK hP (hts (.fieldLink RX12 98 "TalePlayModel" "isBox" "[Z") (List.mem_cons_of_mem _ (List.mem_append_left _ (List.mem_of_getElem? (i := 9) rfl)))) dX12_whyNotLeave_32 ?_
      refine lv_iload_n hx hb dX12_whyNotLeave_35 rfl (lv_at hl 0 rfl) ?_
      refine mld_47 hx hb hK hP (vp_in_iff.mpr (by have h9 : x3.toInt = x3.toInt := rfl; omega)) dX12_whyNotLeave_36 (fun x10 ex10 => ?_)
      have rx10 : 0 ≤ x10.toInt ∧ x10.toInt ≤ 1 := by rw [ex10]; exact hI.2 47 _
      have gx10 : (c 47 (x3 : Int32).toNatClampNeg).toInt = x10.toInt := by rw [ex10]
      refine lv_if_eq (tgt := 51) hx hb dX12_whyNotLeave_37 (by decide +kernel) (fun c11 => ?_) (fun c11 => ?_)
      · have f11 := (ti_eq (a := x10.toInt) (b := 0) rfl (by decide +kernel)).mp c11
        refine lv_aload_n hx hb dX12_whyNotLeave_51 rfl (lv_at hl 1 rfl) ?_
        refine mget_23 hx hb hts (fun _ h => List.mem_cons_of_mem _ (List.mem_append_right _ h)) hown hK hP (hts (.fieldLink RX12 50 "TalePlayModel" "nForm" "[I") (List.mem_cons_of_mem _ (List.mem_append_left _ (List.mem_of_getElem? (i := 5) rfl)))) dX12_whyNotLeave_52 ?_
        refine lv_iload_n hx hb dX12_whyNotLeave_55 rfl (lv_at hl 0 rfl) ?_
        refine mld_23 hx hb hK hP (vp_in_iff.mpr (by have h9 : x3.toInt = x3.toInt := rfl; omega)) dX12_whyNotLeave_56 (fun x12 ex12 => ?_)
        have rx12 : x12.toInt = -9 ∨ (0 ≤ x12.toInt ∧ x12.toInt ≤ 4) := by rw [ex12]; exact hI.2 23 _
        have gx12 : (c 23 (x3 : Int32).toNatClampNeg).toInt = x12.toInt := by rw [ex12]
        refine lv_if_eq (tgt := 75) hx hb dX12_whyNotLeave_57 (by decide +kernel) (fun c13 => ?_) (fun c13 => ?_)
        · have f13 := (ti_eq (a := x12.toInt) (b := 0) rfl (by decide +kernel)).mp c13
          refine lv_iconst (v := 0) hx hb dX12_whyNotLeave_75 (by decide +kernel) ?_
          exact ro_iret hx hb hr hlocks hS dX12_whyNotLeave_76 ⟨(show 0 ≤ (0 : Int32).toInt ∧ (0 : Int32).toInt ≤ 21 from by decide +kernel), (show Im ((0 : Int32).toInt = 0) (¬ (c 23 (c 24 (i 22).toInt.toNat).toInt.toNat).toInt = -9) from fun _ => by rw [show (c 24 (i 22).toInt.toNat).toInt = x3.toInt from gx3]; show ¬ (c 23 x3.toNatClampNeg).toInt = -9; omega), (show (0 : Int32).toInt = leaveV (ByR (zM (c 3) (c 6) (i 5).toInt) (nF (i 5).toInt (c 23) (c 24)) (fMn (i 5).toInt (c 23)) (i 22).toInt) ((fMn (i 5).toInt (c 23)) (i 22).toInt = 0 ∧ (zM (c 3) (c 6) (i 5).toInt) ((nF (i 5).toInt (c 23) (c 24)) (i 22).toInt) = 3 ∧ ¬ (bM (c 25)) ((nF (i 5).toInt (c 23) (c 24)) (i 22).toInt)) ((fMn (i 5).toInt (c 23)) ((nF (i 5).toInt (c 23) (c 24)) (i 22).toInt) = 0 ∨ (fMn (i 5).toInt (c 23)) ((nF (i 5).toInt (c 23) (c 24)) (i 22).toInt) = 1) from by unfold leaveV; rw [iV_n s2, iV_n (fun h9 => by have h8 := h9.2.1; rw [hnp] at h8; have h7 := hcp.1.mpr h8; have h6 := (show (c 47 (c 24 (i 22).toInt.toNat).toInt.toNat).toInt = x10.toInt from by rw [(show (c 24 (i 22).toInt.toNat).toInt = x3.toInt from gx3)]; exact gx10); omega), iV_n (by rw [hfa]; have h8 := (show (c 23 (c 24 (i 22).toInt.toNat).toInt.toNat).toInt = x12.toInt from by rw [(show (c 24 (i 22).toInt.toNat).toInt = x3.toInt from gx3)]; exact gx12); omega)]; first | done | decide)⟩
        · have f13 := mt (ti_eq (a := x12.toInt) (b := 0) rfl (by decide +kernel)).mpr c13
          refine lv_aload_n hx hb dX12_whyNotLeave_60 rfl (lv_at hl 1 rfl) ?_
          refine mget_23 hx hb hts (fun _ h => List.mem_cons_of_mem _ (List.mem_append_right _ h)) hown hK hP (hts (.fieldLink RX12 50 "TalePlayModel" "nForm" "[I") (List.mem_cons_of_mem _ (List.mem_append_left _ (List.mem_of_getElem? (i := 5) rfl)))) dX12_whyNotLeave_61 ?_
          refine lv_iload_n hx hb dX12_whyNotLeave_64 rfl (lv_at hl 0 rfl) ?_
          refine mld_23 hx hb hK hP (vp_in_iff.mpr (by have h9 : x3.toInt = x3.toInt := rfl; omega)) dX12_whyNotLeave_65 (fun x14 ex14 => ?_)
          have rx14 : x14.toInt = -9 ∨ (0 ≤ x14.toInt ∧ x14.toInt ≤ 4) := by rw [ex14]; exact hI.2 23 _
          have gx14 : (c 23 (x3 : Int32).toNatClampNeg).toInt = x14.toInt := by rw [ex14]
          refine lv_iconst (v := 1) hx hb dX12_whyNotLeave_66 (by decide +kernel) ?_
          refine lv_icmp_eq (tgt := 75) hx hb dX12_whyNotLeave_67 (by decide +kernel) (fun c15 => ?_) (fun c15 => ?_)
          · have f15 := (ti_eq (a := x14.toInt) (b := 1) rfl (by decide +kernel)).mp c15
            refine lv_iconst (v := 0) hx hb dX12_whyNotLeave_75 (by decide +kernel) ?_
            exact ro_iret hx hb hr hlocks hS dX12_whyNotLeave_76 ⟨(show 0 ≤ (0 : Int32).toInt ∧ (0 : Int32).toInt ≤ 21 from by decide +kernel), (show Im ((0 : Int32).toInt = 0) (¬ (c 23 (c 24 (i 22).toInt.toNat).toInt.toNat).toInt = -9) from fun _ => by rw [show (c 24 (i 22).toInt.toNat).toInt = x3.toInt from gx3]; show ¬ (c 23 x3.toNatClampNeg).toInt = -9; omega), (show (0 : Int32).toInt = leaveV (ByR (zM (c 3) (c 6) (i 5).toInt) (nF (i 5).toInt (c 23) (c 24)) (fMn (i 5).toInt (c 23)) (i 22).toInt) ((fMn (i 5).toInt (c 23)) (i 22).toInt = 0 ∧ (zM (c 3) (c 6) (i 5).toInt) ((nF (i 5).toInt (c 23) (c 24)) (i 22).toInt) = 3 ∧ ¬ (bM (c 25)) ((nF (i 5).toInt (c 23) (c 24)) (i 22).toInt)) ((fMn (i 5).toInt (c 23)) ((nF (i 5).toInt (c 23) (c 24)) (i 22).toInt) = 0 ∨ (fMn (i 5).toInt (c 23)) ((nF (i 5).toInt (c 23) (c 24)) (i 22).toInt) = 1) from by unfold leaveV; rw [iV_n s2, iV_n (fun h9 => by have h8 := h9.2.1; rw [hnp] at h8; have h7 := hcp.1.mpr h8; have h6 := (show (c 47 (c 24 (i 22).toInt.toNat).toInt.toNat).toInt = x10.toInt from by rw [(show (c 24 (i 22).toInt.toNat).toInt = x3.toInt from gx3)]; exact gx10); omega), iV_n (by rw [hfa]; have h8 := (show (c 23 (c 24 (i 22).toInt.toNat).toInt.toNat).toInt = x14.toInt from by rw [(show (c 24 (i 22).toInt.toNat).toInt = x3.toInt from gx3)]; exact gx14); omega)]; first | done | decide)⟩
          · have f15 := mt (ti_eq (a := x14.toInt) (b := 1) rfl (by decide +kernel)).mpr c15
            refine lv_bipush (v := 21) hx hb dX12_whyNotLeave_70 (by decide +kernel) ?_
            refine lv_goto (tgt := 76) hx hb dX12_whyNotLeave_72 (by decide +kernel) ?_
            exact ro_iret hx hb hr hlocks hS dX12_whyNotLeave_76 ⟨(show 0 ≤ (21 : Int32).toInt ∧ (21 : Int32).toInt ≤ 21 from by decide +kernel), (show Im ((21 : Int32).toInt = 0) (¬ (c 23 (c 24 (i 22).toInt.toNat).toInt.toNat).toInt = -9) from fun h9 => absurd h9 (by decide +kernel)), (show (21 : Int32).toInt = leaveV (ByR (zM (c 3) (c 6) (i 5).toInt) (nF (i 5).toInt (c 23) (c 24)) (fMn (i 5).toInt (c 23)) (i 22).toInt) ((fMn (i 5).toInt (c 23)) (i 22).toInt = 0 ∧ (zM (c 3) (c 6) (i 5).toInt) ((nF (i 5).toInt (c 23) (c 24)) (i 22).toInt) = 3 ∧ ¬ (bM (c 25)) ((nF (i 5).toInt (c 23) (c 24)) (i 22).toInt)) ((fMn (i 5).toInt (c 23)) ((nF (i 5).toInt (c 23) (c 24)) (i 22).toInt) = 0 ∨ (fMn (i 5).toInt (c 23)) ((nF (i 5).toInt (c 23) (c 24)) (i 22).toInt) = 1) from by unfold leaveV; rw [iV_n s2, iV_n (fun h9 => by have h8 := h9.2.1; rw [hnp] at h8; have h7 := hcp.1.mpr h8; have h6 := (show (c 47 (c 24 (i 22).toInt.toNat).toInt.toNat).toInt = x10.toInt from by rw [(show (c 24 (i 22).toInt.toNat).toInt = x3.toInt from gx3)]; exact gx10); omega), iV_y (by rw [hfa]; have h8 := (show (c 23 (c 24 (i 22).toInt.toNat).toInt.toNat).toInt = x14.toInt from by rw [(show (c 24 (i 22).toInt.toNat).toInt = x3.toInt from gx3)]; exact gx14); omega)]; first | done | decide)⟩
      · have f11 := mt (ti_eq (a := x10.toInt) (b := 0) rfl (by decide +kernel)).mpr c11
        refine lv_aload_n hx hb dX12_whyNotLeave_40 rfl (lv_at hl 1 rfl) ?_
        refine mget_25 hx hb hts (fun _ h => List.mem_cons_of_mem _ (List.mem_append_right _ h)) hown hK hP (hts (.fieldLink RX12 56 "TalePlayModel" "nOpen" "[Z") (List.mem_cons_of_mem _ (List.mem_append_left _ (List.mem_of_getElem? (i := 10) rfl)))) dX12_whyNotLeave_41 ?_
        refine lv_iload_n hx hb dX12_whyNotLeave_44 rfl (lv_at hl 0 rfl) ?_
        refine mld_25 hx hb hK hP (vp_in_iff.mpr (by have h9 : x3.toInt = x3.toInt := rfl; omega)) dX12_whyNotLeave_45 (fun x16 ex16 => ?_)
        have rx16 : 0 ≤ x16.toInt ∧ x16.toInt ≤ 1 := by rw [ex16]; exact hI.2 25 _
        have gx16 : (c 25 (x3 : Int32).toNatClampNeg).toInt = x16.toInt := by rw [ex16]
        refine lv_if_ne (tgt := 51) hx hb dX12_whyNotLeave_46 (by decide +kernel) (fun c17 => ?_) (fun c17 => ?_)
        · have f17 := mt (ti_eq (a := x16.toInt) (b := 0) rfl (by decide +kernel)).mpr c17
          refine lv_aload_n hx hb dX12_whyNotLeave_51 rfl (lv_at hl 1 rfl) ?_
          refine mget_23 hx hb hts (fun _ h => List.mem_cons_of_mem _ (List.mem_append_right _ h)) hown hK hP (hts (.fieldLink RX12 50 "TalePlayModel" "nForm" "[I") (List.mem_cons_of_mem _ (List.mem_append_left _ (List.mem_of_getElem? (i := 5) rfl)))) dX12_whyNotLeave_52 ?_
          refine lv_iload_n hx hb dX12_whyNotLeave_55 rfl (lv_at hl 0 rfl) ?_
          refine mld_23 hx hb hK hP (vp_in_iff.mpr (by have h9 : x3.toInt = x3.toInt := rfl; omega)) dX12_whyNotLeave_56 (fun x18 ex18 => ?_)
          have rx18 : x18.toInt = -9 ∨ (0 ≤ x18.toInt ∧ x18.toInt ≤ 4) := by rw [ex18]; exact hI.2 23 _
          have gx18 : (c 23 (x3 : Int32).toNatClampNeg).toInt = x18.toInt := by rw [ex18]
          refine lv_if_eq (tgt := 75) hx hb dX12_whyNotLeave_57 (by decide +kernel) (fun c19 => ?_) (fun c19 => ?_)
          · have f19 := (ti_eq (a := x18.toInt) (b := 0) rfl (by decide +kernel)).mp c19
            refine lv_iconst (v := 0) hx hb dX12_whyNotLeave_75 (by decide +kernel) ?_
            exact ro_iret hx hb hr hlocks hS dX12_whyNotLeave_76 ⟨(show 0 ≤ (0 : Int32).toInt ∧ (0 : Int32).toInt ≤ 21 from by decide +kernel), (show Im ((0 : Int32).toInt = 0) (¬ (c 23 (c 24 (i 22).toInt.toNat).toInt.toNat).toInt = -9) from fun _ => by rw [show (c 24 (i 22).toInt.toNat).toInt = x3.toInt from gx3]; show ¬ (c 23 x3.toNatClampNeg).toInt = -9; omega), (show (0 : Int32).toInt = leaveV (ByR (zM (c 3) (c 6) (i 5).toInt) (nF (i 5).toInt (c 23) (c 24)) (fMn (i 5).toInt (c 23)) (i 22).toInt) ((fMn (i 5).toInt (c 23)) (i 22).toInt = 0 ∧ (zM (c 3) (c 6) (i 5).toInt) ((nF (i 5).toInt (c 23) (c 24)) (i 22).toInt) = 3 ∧ ¬ (bM (c 25)) ((nF (i 5).toInt (c 23) (c 24)) (i 22).toInt)) ((fMn (i 5).toInt (c 23)) ((nF (i 5).toInt (c 23) (c 24)) (i 22).toInt) = 0 ∨ (fMn (i 5).toInt (c 23)) ((nF (i 5).toInt (c 23) (c 24)) (i 22).toInt) = 1) from by unfold leaveV; rw [iV_n s2, iV_n (fun h9 => h9.2.2 (by rw [hnp]; exact (show (c 25 (c 24 (i 22).toInt.toNat).toInt.toNat).toInt = 1 from by have h8 := (show (c 25 (c 24 (i 22).toInt.toNat).toInt.toNat).toInt = x16.toInt from by rw [(show (c 24 (i 22).toInt.toNat).toInt = x3.toInt from gx3)]; exact gx16); omega))), iV_n (by rw [hfa]; have h8 := (show (c 23 (c 24 (i 22).toInt.toNat).toInt.toNat).toInt = x18.toInt from by rw [(show (c 24 (i 22).toInt.toNat).toInt = x3.toInt from gx3)]; exact gx18); omega)]; first | done | decide)⟩
          · have f19 := mt (ti_eq (a := x18.toInt) (b := 0) rfl (by decide +kernel)).mpr c19
            refine lv_aload_n hx hb dX12_whyNotLeave_60 rfl (lv_at hl 1 rfl) ?_
            refine mget_23 hx hb hts (fun _ h => List.mem_cons_of_mem _ (List.mem_append_right _ h)) hown hK hP (hts (.fieldLink RX12 50 "TalePlayModel" "nForm" "[I") (List.mem_cons_of_mem _ (List.mem_append_left _ (List.mem_of_getElem? (i := 5) rfl)))) dX12_whyNotLeave_61 ?_
            refine lv_iload_n hx hb dX12_whyNotLeave_64 rfl (lv_at hl 0 rfl) ?_
            refine mld_23 hx hb hK hP (vp_in_iff.mpr (by have h9 : x3.toInt = x3.toInt := rfl; omega)) dX12_whyNotLeave_65 (fun x20 ex20 => ?_)
            have rx20 : x20.toInt = -9 ∨ (0 ≤ x20.toInt ∧ x20.toInt ≤ 4) := by rw [ex20]; exact hI.2 23 _
            have gx20 : (c 23 (x3 : Int32).toNatClampNeg).toInt = x20.toInt := by rw [ex20]
            refine lv_iconst (v := 1) hx hb dX12_whyNotLeave_66 (by decide +kernel) ?_
            refine lv_icmp_eq (tgt := 75) hx hb dX12_whyNotLeave_67 (by decide +kernel) (fun c21 => ?_) (fun c21 => ?_)
            · have f21 := (ti_eq (a := x20.toInt) (b := 1) rfl (by decide +kernel)).mp c21
              refine lv_iconst (v := 0) hx hb dX12_whyNotLeave_75 (by decide +kernel) ?_
              exact ro_iret hx hb hr hlocks hS dX12_whyNotLeave_76 ⟨(show 0 ≤ (0 : Int32).toInt ∧ (0 : Int32).toInt ≤ 21 from by decide +kernel), (show Im ((0 : Int32).toInt = 0) (¬ (c 23 (c 24 (i 22).toInt.toNat).toInt.toNat).toInt = -9) from fun _ => by rw [show (c 24 (i 22).toInt.toNat).toInt = x3.toInt from gx3]; show ¬ (c 23 x3.toNatClampNeg).toInt = -9; omega), (show (0 : Int32).toInt = leaveV (ByR (zM (c 3) (c 6) (i 5).toInt) (nF (i 5).toInt (c 23) (c 24)) (fMn (i 5).toInt (c 23)) (i 22).toInt) ((fMn (i 5).toInt (c 23)) (i 22).toInt = 0 ∧ (zM (c 3) (c 6) (i 5).toInt) ((nF (i 5).toInt (c 23) (c 24)) (i 22).toInt) = 3 ∧ ¬ (bM (c 25)) ((nF (i 5).toInt (c 23) (c 24)) (i 22).toInt)) ((fMn (i 5).toInt (c 23)) ((nF (i 5).toInt (c 23) (c 24)) (i 22).toInt) = 0 ∨ (fMn (i 5).toInt (c 23)) ((nF (i 5).toInt (c 23) (c 24)) (i 22).toInt) = 1) from by unfold leaveV; rw [iV_n s2, iV_n (fun h9 => h9.2.2 (by rw [hnp]; exact (show (c 25 (c 24 (i 22).toInt.toNat).toInt.toNat).toInt = 1 from by have h8 := (show (c 25 (c 24 (i 22).toInt.toNat).toInt.toNat).toInt = x16.toInt from by rw [(show (c 24 (i 22).toInt.toNat).toInt = x3.toInt from gx3)]; exact gx16); omega))), iV_n (by rw [hfa]; have h8 := (show (c 23 (c 24 (i 22).toInt.toNat).toInt.toNat).toInt = x20.toInt from by rw [(show (c 24 (i 22).toInt.toNat).toInt = x3.toInt from gx3)]; exact gx20); omega)]; first | done | decide)⟩
            · have f21 := mt (ti_eq (a := x20.toInt) (b := 1) rfl (by decide +kernel)).mpr c21
              refine lv_bipush (v := 21) hx hb dX12_whyNotLeave_70 (by decide +kernel) ?_
              refine lv_goto (tgt := 76) hx hb dX12_whyNotLeave_72 (by decide +kernel) ?_
              exact ro_iret hx hb hr hlocks hS dX12_whyNotLeave_76 ⟨(show 0 ≤ (21 : Int32).toInt ∧ (21 : Int32).toInt ≤ 21 from by decide +kernel), (show Im ((21 : Int32).toInt = 0) (¬ (c 23 (c 24 (i 22).toInt.toNat).toInt.toNat).toInt = -9) from fun h9 => absurd h9 (by decide +kernel)), (show (21 : Int32).toInt = leaveV (ByR (zM (c 3) (c 6) (i 5).toInt) (nF (i 5).toInt (c 23) (c 24)) (fMn (i 5).toInt (c 23)) (i 22).toInt) ((fMn (i 5).toInt (c 23)) (i 22).toInt = 0 ∧ (zM (c 3) (c 6) (i 5).toInt) ((nF (i 5).toInt (c 23) (c 24)) (i 22).toInt) = 3 ∧ ¬ (bM (c 25)) ((nF (i 5).toInt (c 23) (c 24)) (i 22).toInt)) ((fMn (i 5).toInt (c 23)) ((nF (i 5).toInt (c 23) (c 24)) (i 22).toInt) = 0 ∨ (fMn (i 5).toInt (c 23)) ((nF (i 5).toInt (c 23) (c 24)) (i 22).toInt) = 1) from by unfold leaveV; rw [iV_n s2, iV_n (fun h9 => h9.2.2 (by rw [hnp]; exact (show (c 25 (c 24 (i 22).toInt.toNat).toInt.toNat).toInt = 1 from by have h8 := (show (c 25 (c 24 (i 22).toInt.toNat).toInt.toNat).toInt = x16.toInt from by rw [(show (c 24 (i 22).toInt.toNat).toInt = x3.toInt from gx3)]; exact gx16); omega))), iV_y (by rw [hfa]; have h8 := (show (c 23 (c 24 (i 22).toInt.toNat).toInt.toNat).toInt = x20.toInt from by rw [(show (c 24 (i 22).toInt.toNat).toInt = x3.toInt from gx3)]; exact gx20); omega)]; first | done | decide)⟩
        · have f17 := (ti_eq (a := x16.toInt) (b := 0) rfl (by decide +kernel)).mp c17
          refine lv_iconst (v := 3) hx hb dX12_whyNotLeave_49 (by decide +kernel) ?_
          exact ro_iret hx hb hr hlocks hS dX12_whyNotLeave_50 ⟨(show 0 ≤ (3 : Int32).toInt ∧ (3 : Int32).toInt ≤ 21 from by decide +kernel), (show Im ((3 : Int32).toInt = 0) (¬ (c 23 (c 24 (i 22).toInt.toNat).toInt.toNat).toInt = -9) from fun h9 => absurd h9 (by decide +kernel)), (show (3 : Int32).toInt = leaveV (ByR (zM (c 3) (c 6) (i 5).toInt) (nF (i 5).toInt (c 23) (c 24)) (fMn (i 5).toInt (c 23)) (i 22).toInt) ((fMn (i 5).toInt (c 23)) (i 22).toInt = 0 ∧ (zM (c 3) (c 6) (i 5).toInt) ((nF (i 5).toInt (c 23) (c 24)) (i 22).toInt) = 3 ∧ ¬ (bM (c 25)) ((nF (i 5).toInt (c 23) (c 24)) (i 22).toInt)) ((fMn (i 5).toInt (c 23)) ((nF (i 5).toInt (c 23) (c 24)) (i 22).toInt) = 0 ∨ (fMn (i 5).toInt (c 23)) ((nF (i 5).toInt (c 23) (c 24)) (i 22).toInt) = 1) from by unfold leaveV; rw [iV_n s2, iV_y ⟨by rw [hfp]; have h8 := (show (c 23 (i 22).toInt.toNat).toInt = x4.toInt from gx4); omega, by rw [hnp]; exact hcp.1.mp (by have h8 := (show (c 47 (c 24 (i 22).toInt.toNat).toInt.toNat).toInt = x10.toInt from by rw [(show (c 24 (i 22).toInt.toNat).toInt = x3.toInt from gx3)]; exact gx10); omega), fun h9 => by rw [hnp] at h9; have h7 : (c 25 (c 24 (i 22).toInt.toNat).toInt.toNat).toInt = 1 := h9; have h8 := (show (c 25 (c 24 (i 22).toInt.toNat).toInt.toNat).toInt = x16.toInt from by rw [(show (c 24 (i 22).toInt.toNat).toInt = x3.toInt from gx3)]; exact gx16); omega⟩]; first | done | decide)⟩
  · have f2 := mt (ti_eq (a := r1.toInt) (b := 0) rfl (by decide +kernel)).mpr c2
    have s2 := sm_t hr1_0 c2
    refine lv_iconst (v := 1) hx hb dX12_whyNotLeave_7 (by decide +kernel) ?_
    exact ro_iret hx hb hr hlocks hS dX12_whyNotLeave_8 ⟨(show 0 ≤ (1 : Int32).toInt ∧ (1 : Int32).toInt ≤ 21 from by decide +kernel), (show Im ((1 : Int32).toInt = 0) (¬ (c 23 (c 24 (i 22).toInt.toNat).toInt.toNat).toInt = -9) from fun h9 => absurd h9 (by decide +kernel)), (show (1 : Int32).toInt = leaveV (ByR (zM (c 3) (c 6) (i 5).toInt) (nF (i 5).toInt (c 23) (c 24)) (fMn (i 5).toInt (c 23)) (i 22).toInt) ((fMn (i 5).toInt (c 23)) (i 22).toInt = 0 ∧ (zM (c 3) (c 6) (i 5).toInt) ((nF (i 5).toInt (c 23) (c 24)) (i 22).toInt) = 3 ∧ ¬ (bM (c 25)) ((nF (i 5).toInt (c 23) (c 24)) (i 22).toInt)) ((fMn (i 5).toInt (c 23)) ((nF (i 5).toInt (c 23) (c 24)) (i 22).toInt) = 0 ∨ (fMn (i 5).toInt (c 23)) ((nF (i 5).toInt (c 23) (c 24)) (i 22).toInt) = 1) from by unfold leaveV; rw [iV_y s2]; first | done | decide)⟩

set_option maxHeartbeats 4000000 in
set_option maxRecDepth 100000 in
theorem s_X12_body_t (l : Launch) (D : va_G) (sz : Nat) (o : Nat) (a : Nat → Nat) (t : Nat → ClassId) (i : Nat → Int32) (q : Int64) (c : Nat → Nat → Int32) (d : Nat → Nat → Int64) (b1 : Int32) (hI : mInv i c) (hb1 : 0 ≤ b1.toInt ∧ b1.toInt ≤ 5) (h33 : (i 33).toInt = 0) : Met l yX12_body wm_X12_body ({ frames := 0, cells := 0, slots := 0, locals := 0 }) (va_Pc [.ref o, .int b1] (pB D sz (mW o a t i q c d) (mT t))) (va_Qv (fun (u : MS) => True ∧ mInv u.1 u.2.2.1 ∧ (∀ k, k ∉ ([] : List Nat) → u.1 k = i k) ∧ (∀ k, k ∉ ([] : List Nat) → u.2.2.1 k = c k)) (oC D (va_A (mW o a t i q c d) sz) (fun u : MS => mW o a t u.1 u.2.1 u.2.2.1 u.2.2.2) (fun _ => [])) (va_A (mW o a t i q c d) sz)) 0 0 (va_A (mW o a t i q c d) sz) := by
  refine Met.ofW (cc := cX12_body) (maxL := 2) (ret := none) (by decide +kernel) rfl ?_
  intro p e s m args below meth cd s₁ B hml hv
  obtain ⟨rfl, hsz, hP, hK, hD0⟩ := hv
  have hx := B.exec
  have hb := B.bytes
  have hr := B.returns
  have hts := atoms_spec (ws := wm_X12_body) B.pre
  have hown : s.vm.findClass RX12 = some m.cls := findClass_of_methodNamed B.named
  have hlocks := B.notSynchronized
  subst hsz
  have hD := hD0.self (sz := s.heap.size)
  generalize hAe : va_A (mW o a t i q c d) s.heap.size = A at hD ⊢
  have hA : ∀ q : Nat, s.heap.size ≤ q → A q := fun q h => by rw [← hAe]; exact Or.inr h
  have hS : va_S A s.heap s.heap [] := va_S.rf
  have hfi : ∀ k, k ∉ ([] : List Nat) → i k = i k := fun _ _ => rfl
  have hfc : ∀ k, k ∉ ([] : List Nat) → c k = c k := fun _ _ => rfl
  have hl := lv_entry ([.ref o, .int b1]) (n := 2) (Nat.le_of_ble_eq_true rfl)
  rw [lg_entry_eq]
  generalize (lg_sl ([.ref o, .int b1]) ++ List.replicate (2 - (lg_sl ([.ref o, .int b1])).length) Slot.unset).toArray = ls at hl ⊢
  have hl : lv_has ls 2 [(0, .ref o), (1, .int b1)] := hl
  refine lv_aload_n hx hb dX12_body_0 rfl (lv_at hl 0 rfl) ?_
  refine mget_33 (v := (i 33)) rfl hx hb hts (fun _ h => List.mem_cons_of_mem _ (List.mem_append_right _ h)) hown hK hP (hts (.fieldLink RX12 294 "TalePlayModel" "traces" "Z") (List.mem_cons_of_mem _ (List.mem_append_left _ (List.mem_of_getElem? (i := 0) rfl)))) dX12_body_1 ?_
  have rb33_i : 0 ≤ (i 33).toInt ∧ (i 33).toInt ≤ 1 := hI.1 33
  refine lv_if_eq (tgt := 36) hx hb dX12_body_4 (by decide +kernel) (fun c1 => ?_) (fun c1 => ?_)
  · have f1 := (ti_eq (a := (i 33).toInt) (b := 0) rfl (by decide +kernel)).mp c1
    exact rw_vret (i, q, c, d) hx hb hr hlocks hS (hK.sub (tys' := []) [] rfl) hP hD dX12_body_36 ⟨trivial, hI, fr_w hfi (by decide +kernel), fr_w hfc (by decide +kernel)⟩
  · have f1 := mt (ti_eq (a := (i 33).toInt) (b := 0) rfl (by decide +kernel)).mpr c1
    exfalso; omega

