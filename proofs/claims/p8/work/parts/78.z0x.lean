set_option maxHeartbeats 4000000 in
set_option maxRecDepth 100000 in
theorem s_X12_whyNotEnter_t (l : Launch) (D : va_G) (sz : Nat) (o : Nat) (a : Nat → Nat) (t : Nat → ClassId) (i : Nat → Int32) (q : Int64) (c : Nat → Nat → Int32) (d : Nat → Nat → Int64) (w : Int32) (hI : mInv i c) (hw : 0 ≤ w.toInt ∧ w.toInt < (i 5).toInt) (hs_T : TI (i 5).toInt (fun z => Kd (c 3) (c 6) z 0) (i 22).toInt (c 23) (c 24)) (hs_C : Cc (c 3) (c 6) (c 47) (c 48) (c 49) (i 5).toInt) (hs_E : CcE (c 3) (c 6) (c 47) (c 48) (c 49) (i 5).toInt) : Met l yX12_whyNotEnter wm_X12_whyNotEnter ({ frames := 1, cells := 0, slots := 0, locals := 23 }) (va_Pc [.ref o, .int w] (pA D sz (mW o a t i q c d) (mT t))) (va_Qi (fun (r : Int32) (_ : Unit) => ((0 ≤ r.toInt ∧ r.toInt ≤ 20) ∧ (Im (r.toInt = 0) ((Kd (c 3) (c 6) w.toInt 3 ∨ Kd (c 3) (c 6) w.toInt 4) ∧ ¬ Ch (nF (i 5).toInt (c 23) (c 24)) (nF (i 5).toInt (c 23) (c 24) w.toInt) (i 22).toInt ∧ (c 44 w.toNatClampNeg).toInt = 1)) ∧ (r.toInt = enterV ((c 43 w.toInt.toNat).toInt = 1) ((zM (c 3) (c 6) (i 5).toInt) w.toInt = 3 ∨ (zM (c 3) (c 6) (i 5).toInt) w.toInt = 4) (ChB 30 (nF (i 5).toInt (c 23) (c 24)) ((nF (i 5).toInt (c 23) (c 24)) w.toInt) (i 22).toInt) ((zM (c 3) (c 6) (i 5).toInt) w.toInt = 3 ∧ ¬ (bM (c 25)) w.toInt) ((c 44 w.toInt.toNat).toInt = 1) ((nF (i 5).toInt (c 23) (c 24)) (i 22).toInt = w.toInt)))) oA (ro sz)) 0 0 (ro sz) := by
  refine Met.ofW (cc := cX12_whyNotEnter) (maxL := 2) (ret := (some .int)) (by decide +kernel) rfl ?_
  intro p e s m args below meth cd s₁ B hml hv
  obtain ⟨rfl, hsz, hP, hK⟩ := hv
  have hx := B.exec
  have hb := B.bytes
  have hr := B.returns
  have hts := atoms_spec (ws := wm_X12_whyNotEnter) B.pre
  have hown : s.vm.findClass RX12 = some m.cls := findClass_of_methodNamed B.named
  have hlocks := B.notSynchronized
  subst hsz
  have hA : ∀ q : Nat, s.heap.size ≤ q → ro s.heap.size q := fun _ h => h
  have hS : va_S (ro s.heap.size) s.heap s.heap [] := va_S.rf
  have hl := lv_entry ([.ref o, .int w]) (n := 2) (Nat.le_of_ble_eq_true rfl)
  rw [lg_entry_eq]
  generalize (lg_sl ([.ref o, .int w]) ++ List.replicate (2 - (lg_sl ([.ref o, .int w])).length) Slot.unset).toArray = ls at hl ⊢
  have hl : lv_has ls 2 [(0, .ref o), (1, .int w)] := hl
  have rb5_i : 0 ≤ (i 5).toInt ∧ (i 5).toInt ≤ 30 := hI.1 5
  have rb22_i : (i 22).toInt = -9 ∨ (0 ≤ (i 22).toInt ∧ (i 22).toInt ≤ 29) := hI.1 22
  have hTt := hs_T
  obtain ⟨⟨hp0, hp1, hp2⟩, hT2, hT3, ⟨rk, hrk⟩, rr, hq0, hq1, hq2, hq3⟩ := hTt
  have hsp : Sp (nF (i 5).toInt (c 23) (c 24)) := nF_Sp (by omega) hT2
  have hpl := TI_p hs_T
  have hpa : 0 ≤ (c 24 (i 22).toNatClampNeg).toInt ∧ (c 24 (i 22).toNatClampNeg).toInt < (i 5).toInt := hT2 _ hp0 hp1 hpl
  have hnp : (nF (i 5).toInt (c 23) (c 24)) (i 22).toInt = (c 24 (i 22).toInt.toNat).toInt := by unfold nF; rw [if_pos ⟨hp0, hp1, hpl⟩]
  have hfp : (fMn (i 5).toInt (c 23)) (i 22).toInt = (c 23 (i 22).toInt.toNat).toInt := fMn_i ⟨hp0, hp1⟩
  have hcp := H3_i (hs_E (c 24 (i 22).toInt.toNat).toInt hpa.1 hpa.2)
  have hcw := H3_i (hs_E w.toInt (by omega) (by omega))
  have hzw := zM_i (pa := c 3) (ko := c 6) (N := (i 5).toInt) (x := w.toInt) (by omega)
  refine lv_aload_n hx hb dX12_whyNotEnter_0 rfl (lv_at hl 0 rfl) ?_
  refine mget_43 hx hb hts (fun _ h => List.mem_cons_of_mem _ (List.mem_append_right _ h)) hown hK hP (hts (.fieldLink RX12 86 "TalePlayModel" "seen" "[Z") (List.mem_cons_of_mem _ (List.mem_append_left _ (List.mem_append_left _ (List.mem_of_getElem? (i := 0) rfl))))) dX12_whyNotEnter_1 ?_
  refine lv_iload_n hx hb dX12_whyNotEnter_4 rfl (lv_at hl 1 rfl) ?_
  refine mld_43 hx hb hK hP (vp_in_iff.mpr (by have h9 : w.toInt = w.toInt := rfl; omega)) dX12_whyNotEnter_5 (fun x1 ex1 => ?_)
  have rx1 : 0 ≤ x1.toInt ∧ x1.toInt ≤ 1 := by rw [ex1]; exact hI.2 43 _
  have gx1 : (c 43 (w : Int32).toNatClampNeg).toInt = x1.toInt := by rw [ex1]
  refine lv_if_ne (tgt := 11) hx hb dX12_whyNotEnter_6 (by decide +kernel) (fun c2 => ?_) (fun c2 => ?_)
  · have f2 := mt (ti_eq (a := x1.toInt) (b := 0) rfl (by decide +kernel)).mpr c2
    refine lv_aload_n hx hb dX12_whyNotEnter_11 rfl (lv_at hl 0 rfl) ?_
    refine mget_47 hx hb hts (fun _ h => List.mem_cons_of_mem _ (List.mem_append_right _ h)) hown hK hP (hts (.fieldLink RX12 98 "TalePlayModel" "isBox" "[Z") (List.mem_cons_of_mem _ (List.mem_append_left _ (List.mem_append_left _ (List.mem_of_getElem? (i := 1) rfl))))) dX12_whyNotEnter_12 ?_
    refine lv_iload_n hx hb dX12_whyNotEnter_15 rfl (lv_at hl 1 rfl) ?_
    refine mld_47 hx hb hK hP (vp_in_iff.mpr (by have h9 : w.toInt = w.toInt := rfl; omega)) dX12_whyNotEnter_16 (fun x3 ex3 => ?_)
    have rx3 : 0 ≤ x3.toInt ∧ x3.toInt ≤ 1 := by rw [ex3]; exact hI.2 47 _
    have gx3 : (c 47 (w : Int32).toNatClampNeg).toInt = x3.toInt := by rw [ex3]
    have jn4 : (Kd (c 3) (c 6) w.toInt 3 ∨ Kd (c 3) (c 6) w.toInt 4) → ((zM (c 3) (c 6) (i 5).toInt) w.toInt = 3 ∨ (zM (c 3) (c 6) (i 5).toInt) w.toInt = 4) → ∀ (H : Heap) (locs : List Loc) (ls : Array Slot), va_P D vwCl (mW o a t i q c d) H → va_S (ro s.heap.size) s.heap H locs → lv_has ls 2 [(0, .ref o), (1, .int w)] → W p l e (headSpec wm_X12_whyNotEnter ({ frames := 1, cells := 0, slots := 0, locals := 23 })).room s m ([.ref o, .int w] : List Value).toArray below meth cd H locs 0 0 (MQ below (va_Qi (fun (r : Int32) (_ : Unit) => ((0 ≤ r.toInt ∧ r.toInt ≤ 20) ∧ (Im (r.toInt = 0) ((Kd (c 3) (c 6) w.toInt 3 ∨ Kd (c 3) (c 6) w.toInt 4) ∧ ¬ Ch (nF (i 5).toInt (c 23) (c 24)) (nF (i 5).toInt (c 23) (c 24) w.toInt) (i 22).toInt ∧ (c 44 w.toNatClampNeg).toInt = 1)) ∧ (r.toInt = enterV ((c 43 w.toInt.toNat).toInt = 1) ((zM (c 3) (c 6) (i 5).toInt) w.toInt = 3 ∨ (zM (c 3) (c 6) (i 5).toInt) w.toInt = 4) (ChB 30 (nF (i 5).toInt (c 23) (c 24)) ((nF (i 5).toInt (c 23) (c 24)) w.toInt) (i 22).toInt) ((zM (c 3) (c 6) (i 5).toInt) w.toInt = 3 ∧ ¬ (bM (c 25)) w.toInt) ((c 44 w.toInt.toNat).toInt = 1) ((nF (i 5).toInt (c 23) (c 24)) (i 22).toInt = w.toInt)))) oA (ro s.heap.size)) ([.ref o, .int w] : List Value).toArray s 0 0 (ro s.heap.size)) (F0 m 32 ls []) := by
      intro hz4_0 hz4_1 H locs ls hP hS hl
      refine lv_aload_n hx hb dX12_whyNotEnter_32 rfl (lv_at hl 0 rfl) ?_
      refine lv_aload_n hx hb dX12_whyNotEnter_33 rfl (lv_at hl 0 rfl) ?_
      refine mget_22 (v := (i 22)) rfl hx hb hts (fun _ h => List.mem_cons_of_mem _ (List.mem_append_right _ h)) hown hK hP (hts (.fieldLink RX12 155 "TalePlayModel" "player" "I") (List.mem_cons_of_mem _ (List.mem_append_left _ (List.mem_append_left _ (List.mem_of_getElem? (i := 2) rfl))))) dX12_whyNotEnter_34 ?_
      refine lv_iload_n hx hb dX12_whyNotEnter_37 rfl (lv_at hl 1 rfl) ?_
      refine ro_calli (va_runV (As := [.int (i 22), .int w]) (rest := []) ⟨hx, hb, hml, hown, hts⟩ (s_X12_isUpFrom_t l D H.size o a t i q c d (i 22) w hI (show 0 ≤ (i 22).toInt ∧ (i 22).toInt < ((i 5) : Int32).toInt from by omega) (show 0 ≤ w.toInt ∧ w.toInt < ((i 5) : Int32).toInt from by omega) hs_T) (cwV 2 hts gm_X12_whyNotEnter_X12_isUpFrom rfl rfl rfl (by decide +kernel) ⟨Nat.le_of_ble_eq_true rfl, Nat.le_of_ble_eq_true rfl⟩) (pA_V hK hP (ci := 12) (q0 := 0) rfl rfl) rfl rfl hl.1 rfl (lv_room (Nat.le_of_ble_eq_true rfl)) dX12_whyNotEnter_38 ⟨Nat.le_of_ble_eq_true rfl, Nat.le_of_ble_eq_true rfl⟩) hS hA hP (fun r5 u5 H locs hw5 hP hS => ?_)
      have hw5 : ((0 ≤ r5.toInt ∧ r5.toInt ≤ 1) ∧ (Im (r5.toInt = 0) (¬ Ch (nF (i 5).toInt (c 23) (c 24)) (nF (i 5).toInt (c 23) (c 24) w.toInt) (i 22).toInt)) ∧ (Sm r5 (ChB 30 (nF (i 5).toInt (c 23) (c 24)) ((nF (i 5).toInt (c 23) (c 24)) w.toInt) (i 22).toInt))) := hw5
      obtain ⟨hw5, hr5_0, hr5_1⟩ := hw5
      have hr5_0 : Im (r5.toInt = 0) (¬ Ch (nF (i 5).toInt (c 23) (c 24)) (nF (i 5).toInt (c 23) (c 24) w.toInt) (i 22).toInt) := hr5_0
      have hr5_1 : Sm r5 (ChB 30 (nF (i 5).toInt (c 23) (c 24)) ((nF (i 5).toInt (c 23) (c 24)) w.toInt) (i 22).toInt) := hr5_1
      refine lv_if_eq (tgt := 47) hx hb dX12_whyNotEnter_41 (by decide +kernel) (fun c6 => ?_) (fun c6 => ?_)
      · have f6 := (ti_eq (a := r5.toInt) (b := 0) rfl (by decide +kernel)).mp c6
        have s6 := sm_f hr5_1 c6
        have hUp := hr5_0
        refine lv_aload_n hx hb dX12_whyNotEnter_47 rfl (lv_at hl 0 rfl) ?_
        refine mget_47 hx hb hts (fun _ h => List.mem_cons_of_mem _ (List.mem_append_right _ h)) hown hK hP (hts (.fieldLink RX12 98 "TalePlayModel" "isBox" "[Z") (List.mem_cons_of_mem _ (List.mem_append_left _ (List.mem_append_left _ (List.mem_of_getElem? (i := 1) rfl))))) dX12_whyNotEnter_48 ?_
        refine lv_iload_n hx hb dX12_whyNotEnter_51 rfl (lv_at hl 1 rfl) ?_
        refine mld_47 hx hb hK hP (vp_in_iff.mpr (by have h9 : w.toInt = w.toInt := rfl; omega)) dX12_whyNotEnter_52 (fun x7 ex7 => ?_)
        have rx7 : 0 ≤ x7.toInt ∧ x7.toInt ≤ 1 := by rw [ex7]; exact hI.2 47 _
        have gx7 : (c 47 (w : Int32).toNatClampNeg).toInt = x7.toInt := by rw [ex7]
        refine lv_if_eq (tgt := 67) hx hb dX12_whyNotEnter_53 (by decide +kernel) (fun c8 => ?_) (fun c8 => ?_)
        · have f8 := (ti_eq (a := x7.toInt) (b := 0) rfl (by decide +kernel)).mp c8
          refine lv_aload_n hx hb dX12_whyNotEnter_67 rfl (lv_at hl 0 rfl) ?_
          refine mget_44 hx hb hts (fun _ h => List.mem_cons_of_mem _ (List.mem_append_right _ h)) hown hK hP (hts (.fieldLink RX12 89 "TalePlayModel" "reached" "[Z") (List.mem_cons_of_mem _ (List.mem_append_left _ (List.mem_append_left _ (List.mem_of_getElem? (i := 10) rfl))))) dX12_whyNotEnter_68 ?_
          refine lv_iload_n hx hb dX12_whyNotEnter_71 rfl (lv_at hl 1 rfl) ?_
          refine mld_44 hx hb hK hP (vp_in_iff.mpr (by have h9 : w.toInt = w.toInt := rfl; omega)) dX12_whyNotEnter_72 (fun x9 ex9 => ?_)
          have rx9 : 0 ≤ x9.toInt ∧ x9.toInt ≤ 1 := by rw [ex9]; exact hI.2 44 _
          have gx9 : (c 44 (w : Int32).toNatClampNeg).toInt = x9.toInt := by rw [ex9]
          refine lv_if_ne (tgt := 79) hx hb dX12_whyNotEnter_73 (by decide +kernel) (fun c10 => ?_) (fun c10 => ?_)
          · have f10 := mt (ti_eq (a := x9.toInt) (b := 0) rfl (by decide +kernel)).mpr c10
            refine lv_aload_n hx hb dX12_whyNotEnter_79 rfl (lv_at hl 0 rfl) ?_
            refine mget_24 hx hb hts (fun _ h => List.mem_cons_of_mem _ (List.mem_append_right _ h)) hown hK hP (hts (.fieldLink RX12 53 "TalePlayModel" "nAt" "[I") (List.mem_cons_of_mem _ (List.mem_append_left _ (List.mem_append_left _ (List.mem_of_getElem? (i := 9) rfl))))) dX12_whyNotEnter_80 ?_
            refine lv_aload_n hx hb dX12_whyNotEnter_83 rfl (lv_at hl 0 rfl) ?_
            refine mget_22 (v := (i 22)) rfl hx hb hts (fun _ h => List.mem_cons_of_mem _ (List.mem_append_right _ h)) hown hK hP (hts (.fieldLink RX12 155 "TalePlayModel" "player" "I") (List.mem_cons_of_mem _ (List.mem_append_left _ (List.mem_append_left _ (List.mem_of_getElem? (i := 2) rfl))))) dX12_whyNotEnter_84 ?_
            refine mld_24 hx hb hK hP (vp_in_iff.mpr (by have h9 : (i 22).toInt = (i 22).toInt := rfl; omega)) dX12_whyNotEnter_87 (fun x11 ex11 => ?_)
            have rx11 : x11.toInt = -9 ∨ (0 ≤ x11.toInt ∧ x11.toInt ≤ 29) := by rw [ex11]; exact hI.2 24 _
            have gx11 : (c 24 ((i 22) : Int32).toNatClampNeg).toInt = x11.toInt := by rw [ex11]
            refine lv_iload_n hx hb dX12_whyNotEnter_88 rfl (lv_at hl 1 rfl) ?_
            refine lv_icmp_ne (tgt := 97) hx hb dX12_whyNotEnter_89 (by decide +kernel) (fun c12 => ?_) (fun c12 => ?_)
            · have f12 := mt (ti_eq (a := x11.toInt) (b := w.toInt) rfl rfl).mpr c12
              refine lv_iconst (v := 0) hx hb dX12_whyNotEnter_97 (by decide +kernel) ?_
              exact ro_iret hx hb hr hlocks hS dX12_whyNotEnter_98 ⟨(show 0 ≤ (0 : Int32).toInt ∧ (0 : Int32).toInt ≤ 20 from by decide +kernel), (show Im ((0 : Int32).toInt = 0) ((Kd (c 3) (c 6) w.toInt 3 ∨ Kd (c 3) (c 6) w.toInt 4) ∧ ¬ Ch (nF (i 5).toInt (c 23) (c 24)) (nF (i 5).toInt (c 23) (c 24) w.toInt) (i 22).toInt ∧ (c 44 w.toNatClampNeg).toInt = 1) from fun _ => ⟨hz4_0, hUp (by omega), by omega⟩), (show (0 : Int32).toInt = enterV ((c 43 w.toInt.toNat).toInt = 1) ((zM (c 3) (c 6) (i 5).toInt) w.toInt = 3 ∨ (zM (c 3) (c 6) (i 5).toInt) w.toInt = 4) (ChB 30 (nF (i 5).toInt (c 23) (c 24)) ((nF (i 5).toInt (c 23) (c 24)) w.toInt) (i 22).toInt) ((zM (c 3) (c 6) (i 5).toInt) w.toInt = 3 ∧ ¬ (bM (c 25)) w.toInt) ((c 44 w.toInt.toNat).toInt = 1) ((nF (i 5).toInt (c 23) (c 24)) (i 22).toInt = w.toInt) from by unfold enterV; rw [iV_n (by have h8 := (show (c 43 w.toInt.toNat).toInt = x1.toInt from gx1); omega), iV_n (fun h9 => h9 hz4_1), iV_n s6, iV_n (fun h9 => by have h8 := hcw.1.mpr h9.1; have h7 := (show (c 47 w.toInt.toNat).toInt = x7.toInt from gx7); omega), iV_n (by have h8 := (show (c 44 w.toInt.toNat).toInt = x9.toInt from gx9); omega), iV_n (by rw [hnp]; have h8 := (show (c 24 (i 22).toInt.toNat).toInt = x11.toInt from gx11); omega)]; first | done | decide)⟩
            · have f12 := (ti_eq (a := x11.toInt) (b := w.toInt) rfl rfl).mp c12
              refine lv_bipush (v := 20) hx hb dX12_whyNotEnter_92 (by decide +kernel) ?_
              refine lv_goto (tgt := 98) hx hb dX12_whyNotEnter_94 (by decide +kernel) ?_
              exact ro_iret hx hb hr hlocks hS dX12_whyNotEnter_98 ⟨(show 0 ≤ (20 : Int32).toInt ∧ (20 : Int32).toInt ≤ 20 from by decide +kernel), (show Im ((20 : Int32).toInt = 0) ((Kd (c 3) (c 6) w.toInt 3 ∨ Kd (c 3) (c 6) w.toInt 4) ∧ ¬ Ch (nF (i 5).toInt (c 23) (c 24)) (nF (i 5).toInt (c 23) (c 24) w.toInt) (i 22).toInt ∧ (c 44 w.toNatClampNeg).toInt = 1) from fun h9 => absurd h9 (by decide +kernel)), (show (20 : Int32).toInt = enterV ((c 43 w.toInt.toNat).toInt = 1) ((zM (c 3) (c 6) (i 5).toInt) w.toInt = 3 ∨ (zM (c 3) (c 6) (i 5).toInt) w.toInt = 4) (ChB 30 (nF (i 5).toInt (c 23) (c 24)) ((nF (i 5).toInt (c 23) (c 24)) w.toInt) (i 22).toInt) ((zM (c 3) (c 6) (i 5).toInt) w.toInt = 3 ∧ ¬ (bM (c 25)) w.toInt) ((c 44 w.toInt.toNat).toInt = 1) ((nF (i 5).toInt (c 23) (c 24)) (i 22).toInt = w.toInt) from by unfold enterV; rw [iV_n (by have h8 := (show (c 43 w.toInt.toNat).toInt = x1.toInt from gx1); omega), iV_n (fun h9 => h9 hz4_1), iV_n s6, iV_n (fun h9 => by have h8 := hcw.1.mpr h9.1; have h7 := (show (c 47 w.toInt.toNat).toInt = x7.toInt from gx7); omega), iV_n (by have h8 := (show (c 44 w.toInt.toNat).toInt = x9.toInt from gx9); omega), iV_y (by rw [hnp]; have h8 := (show (c 24 (i 22).toInt.toNat).toInt = x11.toInt from gx11); omega)]; first | done | decide)⟩
          · have f10 := (ti_eq (a := x9.toInt) (b := 0) rfl (by decide +kernel)).mp c10
            refine lv_bipush (v := 8) hx hb dX12_whyNotEnter_76 (by decide +kernel) ?_
            exact ro_iret hx hb hr hlocks hS dX12_whyNotEnter_78 ⟨(show 0 ≤ (8 : Int32).toInt ∧ (8 : Int32).toInt ≤ 20 from by decide +kernel), (show Im ((8 : Int32).toInt = 0) ((Kd (c 3) (c 6) w.toInt 3 ∨ Kd (c 3) (c 6) w.toInt 4) ∧ ¬ Ch (nF (i 5).toInt (c 23) (c 24)) (nF (i 5).toInt (c 23) (c 24) w.toInt) (i 22).toInt ∧ (c 44 w.toNatClampNeg).toInt = 1) from fun h9 => absurd h9 (by decide +kernel)), (show (8 : Int32).toInt = enterV ((c 43 w.toInt.toNat).toInt = 1) ((zM (c 3) (c 6) (i 5).toInt) w.toInt = 3 ∨ (zM (c 3) (c 6) (i 5).toInt) w.toInt = 4) (ChB 30 (nF (i 5).toInt (c 23) (c 24)) ((nF (i 5).toInt (c 23) (c 24)) w.toInt) (i 22).toInt) ((zM (c 3) (c 6) (i 5).toInt) w.toInt = 3 ∧ ¬ (bM (c 25)) w.toInt) ((c 44 w.toInt.toNat).toInt = 1) ((nF (i 5).toInt (c 23) (c 24)) (i 22).toInt = w.toInt) from by unfold enterV; rw [iV_n (by have h8 := (show (c 43 w.toInt.toNat).toInt = x1.toInt from gx1); omega), iV_n (fun h9 => h9 hz4_1), iV_n s6, iV_n (fun h9 => by have h8 := hcw.1.mpr h9.1; have h7 := (show (c 47 w.toInt.toNat).toInt = x7.toInt from gx7); omega), iV_y (by have h8 := (show (c 44 w.toInt.toNat).toInt = x9.toInt from gx9); omega)]; first | done | decide)⟩
        · have f8 := mt (ti_eq (a := x7.toInt) (b := 0) rfl (by decide +kernel)).mpr c8
          refine lv_aload_n hx hb dX12_whyNotEnter_56 rfl (lv_at hl 0 rfl) ?_
          refine mget_25 hx hb hts (fun _ h => List.mem_cons_of_mem _ (List.mem_append_right _ h)) hown hK hP (hts (.fieldLink RX12 56 "TalePlayModel" "nOpen" "[Z") (List.mem_cons_of_mem _ (List.mem_append_left _ (List.mem_append_left _ (List.mem_of_getElem? (i := 11) rfl))))) dX12_whyNotEnter_57 ?_
          refine lv_iload_n hx hb dX12_whyNotEnter_60 rfl (lv_at hl 1 rfl) ?_
          refine mld_25 hx hb hK hP (vp_in_iff.mpr (by have h9 : w.toInt = w.toInt := rfl; omega)) dX12_whyNotEnter_61 (fun x13 ex13 => ?_)
          have rx13 : 0 ≤ x13.toInt ∧ x13.toInt ≤ 1 := by rw [ex13]; exact hI.2 25 _
          have gx13 : (c 25 (w : Int32).toNatClampNeg).toInt = x13.toInt := by rw [ex13]
          refine lv_if_ne (tgt := 67) hx hb dX12_whyNotEnter_62 (by decide +kernel) (fun c14 => ?_) (fun c14 => ?_)
          · have f14 := mt (ti_eq (a := x13.toInt) (b := 0) rfl (by decide +kernel)).mpr c14
            refine lv_aload_n hx hb dX12_whyNotEnter_67 rfl (lv_at hl 0 rfl) ?_
            refine mget_44 hx hb hts (fun _ h => List.mem_cons_of_mem _ (List.mem_append_right _ h)) hown hK hP (hts (.fieldLink RX12 89 "TalePlayModel" "reached" "[Z") (List.mem_cons_of_mem _ (List.mem_append_left _ (List.mem_append_left _ (List.mem_of_getElem? (i := 10) rfl))))) dX12_whyNotEnter_68 ?_
            refine lv_iload_n hx hb dX12_whyNotEnter_71 rfl (lv_at hl 1 rfl) ?_
            refine mld_44 hx hb hK hP (vp_in_iff.mpr (by have h9 : w.toInt = w.toInt := rfl; omega)) dX12_whyNotEnter_72 (fun x15 ex15 => ?_)
            have rx15 : 0 ≤ x15.toInt ∧ x15.toInt ≤ 1 := by rw [ex15]; exact hI.2 44 _
            have gx15 : (c 44 (w : Int32).toNatClampNeg).toInt = x15.toInt := by rw [ex15]
            refine lv_if_ne (tgt := 79) hx hb dX12_whyNotEnter_73 (by decide +kernel) (fun c16 => ?_) (fun c16 => ?_)
            · have f16 := mt (ti_eq (a := x15.toInt) (b := 0) rfl (by decide +kernel)).mpr c16
              refine lv_aload_n hx hb dX12_whyNotEnter_79 rfl (lv_at hl 0 rfl) ?_
              refine mget_24 hx hb hts (fun _ h => List.mem_cons_of_mem _ (List.mem_append_right _ h)) hown hK hP (hts (.fieldLink RX12 53 "TalePlayModel" "nAt" "[I") (List.mem_cons_of_mem _ (List.mem_append_left _ (List.mem_append_left _ (List.mem_of_getElem? (i := 9) rfl))))) dX12_whyNotEnter_80 ?_
              refine lv_aload_n hx hb dX12_whyNotEnter_83 rfl (lv_at hl 0 rfl) ?_
              refine mget_22 (v := (i 22)) rfl hx hb hts (fun _ h => List.mem_cons_of_mem _ (List.mem_append_right _ h)) hown hK hP (hts (.fieldLink RX12 155 "TalePlayModel" "player" "I") (List.mem_cons_of_mem _ (List.mem_append_left _ (List.mem_append_left _ (List.mem_of_getElem? (i := 2) rfl))))) dX12_whyNotEnter_84 ?_
              refine mld_24 hx hb hK hP (vp_in_iff.mpr (by have h9 : (i 22).toInt = (i 22).toInt := rfl; omega)) dX12_whyNotEnter_87 (fun x17 ex17 => ?_)
              have rx17 : x17.toInt = -9 ∨ (0 ≤ x17.toInt ∧ x17.toInt ≤ 29) := by rw [ex17]; exact hI.2 24 _
              have gx17 : (c 24 ((i 22) : Int32).toNatClampNeg).toInt = x17.toInt := by rw [ex17]
              refine lv_iload_n hx hb dX12_whyNotEnter_88 rfl (lv_at hl 1 rfl) ?_
              refine lv_icmp_ne (tgt := 97) hx hb dX12_whyNotEnter_89 (by decide +kernel) (fun c18 => ?_) (fun c18 => ?_)
              · have f18 := mt (ti_eq (a := x17.toInt) (b := w.toInt) rfl rfl).mpr c18
                refine lv_iconst (v := 0) hx hb dX12_whyNotEnter_97 (by decide +kernel) ?_
                exact ro_iret hx hb hr hlocks hS dX12_whyNotEnter_98 ⟨(show 0 ≤ (0 : Int32).toInt ∧ (0 : Int32).toInt ≤ 20 from by decide +kernel), (show Im ((0 : Int32).toInt = 0) ((Kd (c 3) (c 6) w.toInt 3 ∨ Kd (c 3) (c 6) w.toInt 4) ∧ ¬ Ch (nF (i 5).toInt (c 23) (c 24)) (nF (i 5).toInt (c 23) (c 24) w.toInt) (i 22).toInt ∧ (c 44 w.toNatClampNeg).toInt = 1) from fun _ => ⟨hz4_0, hUp (by omega), by omega⟩), (show (0 : Int32).toInt = enterV ((c 43 w.toInt.toNat).toInt = 1) ((zM (c 3) (c 6) (i 5).toInt) w.toInt = 3 ∨ (zM (c 3) (c 6) (i 5).toInt) w.toInt = 4) (ChB 30 (nF (i 5).toInt (c 23) (c 24)) ((nF (i 5).toInt (c 23) (c 24)) w.toInt) (i 22).toInt) ((zM (c 3) (c 6) (i 5).toInt) w.toInt = 3 ∧ ¬ (bM (c 25)) w.toInt) ((c 44 w.toInt.toNat).toInt = 1) ((nF (i 5).toInt (c 23) (c 24)) (i 22).toInt = w.toInt) from by unfold enterV; rw [iV_n (by have h8 := (show (c 43 w.toInt.toNat).toInt = x1.toInt from gx1); omega), iV_n (fun h9 => h9 hz4_1), iV_n s6, iV_n (fun h9 => h9.2 (show (c 25 w.toInt.toNat).toInt = 1 from by have h8 := (show (c 25 w.toInt.toNat).toInt = x13.toInt from gx13); omega)), iV_n (by have h8 := (show (c 44 w.toInt.toNat).toInt = x15.toInt from gx15); omega), iV_n (by rw [hnp]; have h8 := (show (c 24 (i 22).toInt.toNat).toInt = x17.toInt from gx17); omega)]; first | done | decide)⟩
              · have f18 := (ti_eq (a := x17.toInt) (b := w.toInt) rfl rfl).mp c18
                refine lv_bipush (v := 20) hx hb dX12_whyNotEnter_92 (by decide +kernel) ?_
                refine lv_goto (tgt := 98) hx hb dX12_whyNotEnter_94 (by decide +kernel) ?_
                exact ro_iret hx hb hr hlocks hS dX12_whyNotEnter_98 ⟨(show 0 ≤ (20 : Int32).toInt ∧ (20 : Int32).toInt ≤ 20 from by decide +kernel), (show Im ((20 : Int32).toInt = 0) ((Kd (c 3) (c 6) w.toInt 3 ∨ Kd (c 3) (c 6) w.toInt 4) ∧ ¬ Ch (nF (i 5).toInt (c 23) (c 24)) (nF (i 5).toInt (c 23) (c 24) w.toInt) (i 22).toInt ∧ (c 44 w.toNatClampNeg).toInt = 1) from fun h9 => absurd h9 (by decide +kernel)), (show (20 : Int32).toInt = enterV ((c 43 w.toInt.toNat).toInt = 1) ((zM (c 3) (c 6) (i 5).toInt) w.toInt = 3 ∨ (zM (c 3) (c 6) (i 5).toInt) w.toInt = 4) (ChB 30 (nF (i 5).toInt (c 23) (c 24)) ((nF (i 5).toInt (c 23) (c 24)) w.toInt) (i 22).toInt) ((zM (c 3) (c 6) (i 5).toInt) w.toInt = 3 ∧ ¬ (bM (c 25)) w.toInt) ((c 44 w.toInt.toNat).toInt = 1) ((nF (i 5).toInt (c 23) (c 24)) (i 22).toInt = w.toInt) from by unfold enterV; rw [iV_n (by have h8 := (show (c 43 w.toInt.toNat).toInt = x1.toInt from gx1); omega), iV_n (fun h9 => h9 hz4_1), iV_n s6, iV_n (fun h9 => h9.2 (show (c 25 w.toInt.toNat).toInt = 1 from by have h8 := (show (c 25 w.toInt.toNat).toInt = x13.toInt from gx13); omega)), iV_n (by have h8 := (show (c 44 w.toInt.toNat).toInt = x15.toInt from gx15); omega), iV_y (by rw [hnp]; have h8 := (show (c 24 (i 22).toInt.toNat).toInt = x17.toInt from gx17); omega)]; first | done | decide)⟩
            · have f16 := (ti_eq (a := x15.toInt) (b := 0) rfl (by decide +kernel)).mp c16
              refine lv_bipush (v := 8) hx hb dX12_whyNotEnter_76 (by decide +kernel) ?_
              exact ro_iret hx hb hr hlocks hS dX12_whyNotEnter_78 ⟨(show 0 ≤ (8 : Int32).toInt ∧ (8 : Int32).toInt ≤ 20 from by decide +kernel), (show Im ((8 : Int32).toInt = 0) ((Kd (c 3) (c 6) w.toInt 3 ∨ Kd (c 3) (c 6) w.toInt 4) ∧ ¬ Ch (nF (i 5).toInt (c 23) (c 24)) (nF (i 5).toInt (c 23) (c 24) w.toInt) (i 22).toInt ∧ (c 44 w.toNatClampNeg).toInt = 1) from fun h9 => absurd h9 (by decide +kernel)), (show (8 : Int32).toInt = enterV ((c 43 w.toInt.toNat).toInt = 1) ((zM (c 3) (c 6) (i 5).toInt) w.toInt = 3 ∨ (zM (c 3) (c 6) (i 5).toInt) w.toInt = 4) (ChB 30 (nF (i 5).toInt (c 23) (c 24)) ((nF (i 5).toInt (c 23) (c 24)) w.toInt) (i 22).toInt) ((zM (c 3) (c 6) (i 5).toInt) w.toInt = 3 ∧ ¬ (bM (c 25)) w.toInt) ((c 44 w.toInt.toNat).toInt = 1) ((nF (i 5).toInt (c 23) (c 24)) (i 22).toInt = w.toInt) from by unfold enterV; rw [iV_n (by have h8 := (show (c 43 w.toInt.toNat).toInt = x1.toInt from gx1); omega), iV_n (fun h9 => h9 hz4_1), iV_n s6, iV_n (fun h9 => h9.2 (show (c 25 w.toInt.toNat).toInt = 1 from by have h8 := (show (c 25 w.toInt.toNat).toInt = x13.toInt from gx13); omega)), iV_y (by have h8 := (show (c 44 w.toInt.toNat).toInt = x15.toInt from gx15); omega)]; first | done | decide)⟩
          · have f14 := (ti_eq (a := x13.toInt) (b := 0) rfl (by decide +kernel)).mp c14
            refine lv_iconst (v := 3) hx hb dX12_whyNotEnter_65 (by decide +kernel) ?_
            exact ro_iret hx hb hr hlocks hS dX12_whyNotEnter_66 ⟨(show 0 ≤ (3 : Int32).toInt ∧ (3 : Int32).toInt ≤ 20 from by decide +kernel), (show Im ((3 : Int32).toInt = 0) ((Kd (c 3) (c 6) w.toInt 3 ∨ Kd (c 3) (c 6) w.toInt 4) ∧ ¬ Ch (nF (i 5).toInt (c 23) (c 24)) (nF (i 5).toInt (c 23) (c 24) w.toInt) (i 22).toInt ∧ (c 44 w.toNatClampNeg).toInt = 1) from fun h9 => absurd h9 (by decide +kernel)), (show (3 : Int32).toInt = enterV ((c 43 w.toInt.toNat).toInt = 1) ((zM (c 3) (c 6) (i 5).toInt) w.toInt = 3 ∨ (zM (c 3) (c 6) (i 5).toInt) w.toInt = 4) (ChB 30 (nF (i 5).toInt (c 23) (c 24)) ((nF (i 5).toInt (c 23) (c 24)) w.toInt) (i 22).toInt) ((zM (c 3) (c 6) (i 5).toInt) w.toInt = 3 ∧ ¬ (bM (c 25)) w.toInt) ((c 44 w.toInt.toNat).toInt = 1) ((nF (i 5).toInt (c 23) (c 24)) (i 22).toInt = w.toInt) from by unfold enterV; rw [iV_n (by have h8 := (show (c 43 w.toInt.toNat).toInt = x1.toInt from gx1); omega), iV_n (fun h9 => h9 hz4_1), iV_n s6, iV_y ⟨hcw.1.mp (by have h9 := (show (c 47 w.toInt.toNat).toInt = x7.toInt from gx7); omega), fun h9 => by have h7 : (c 25 w.toInt.toNat).toInt = 1 := h9; have h8 := (show (c 25 w.toInt.toNat).toInt = x13.toInt from gx13); omega⟩]; first | done | decide)⟩
      · have f6 := mt (ti_eq (a := r5.toInt) (b := 0) rfl (by decide +kernel)).mpr c6
        have s6 := sm_t hr5_1 c6
        refine lv_bipush (v := 13) hx hb dX12_whyNotEnter_44 (by decide +kernel) ?_
        exact ro_iret hx hb hr hlocks hS dX12_whyNotEnter_46 ⟨(show 0 ≤ (13 : Int32).toInt ∧ (13 : Int32).toInt ≤ 20 from by decide +kernel), (show Im ((13 : Int32).toInt = 0) ((Kd (c 3) (c 6) w.toInt 3 ∨ Kd (c 3) (c 6) w.toInt 4) ∧ ¬ Ch (nF (i 5).toInt (c 23) (c 24)) (nF (i 5).toInt (c 23) (c 24) w.toInt) (i 22).toInt ∧ (c 44 w.toNatClampNeg).toInt = 1) from fun h9 => absurd h9 (by decide +kernel)), (show (13 : Int32).toInt = enterV ((c 43 w.toInt.toNat).toInt = 1) ((zM (c 3) (c 6) (i 5).toInt) w.toInt = 3 ∨ (zM (c 3) (c 6) (i 5).toInt) w.toInt = 4) (ChB 30 (nF (i 5).toInt (c 23) (c 24)) ((nF (i 5).toInt (c 23) (c 24)) w.toInt) (i 22).toInt) ((zM (c 3) (c 6) (i 5).toInt) w.toInt = 3 ∧ ¬ (bM (c 25)) w.toInt) ((c 44 w.toInt.toNat).toInt = 1) ((nF (i 5).toInt (c 23) (c 24)) (i 22).toInt = w.toInt) from by unfold enterV; rw [iV_n (by have h8 := (show (c 43 w.toInt.toNat).toInt = x1.toInt from gx1); omega), iV_n (fun h9 => h9 hz4_1), iV_y s6]; first | done | decide)⟩
    refine lv_if_ne (tgt := 32) hx hb dX12_whyNotEnter_17 (by decide +kernel) (fun c19 => ?_) (fun c19 => ?_)
    · have f19 := mt (ti_eq (a := x3.toInt) (b := 0) rfl (by decide +kernel)).mpr c19
      exact jn4   (show Kd (c 3) (c 6) w.toInt 3 ∨ Kd (c 3) (c 6) w.toInt 4 from Or.inl ((hs_C w.toInt (by omega) (by omega)).2.1 (by show (c 47 w.toNatClampNeg).toInt = 1; omega))) (show (zM (c 3) (c 6) (i 5).toInt) w.toInt = 3 ∨ (zM (c 3) (c 6) (i 5).toInt) w.toInt = 4 from Or.inl (hcw.1.mp (by have h9 := (show (c 47 w.toInt.toNat).toInt = x3.toInt from gx3); omega))) _ _ _ hP hS (lv_sub hl [0, 1] rfl)
    · have f19 := (ti_eq (a := x3.toInt) (b := 0) rfl (by decide +kernel)).mp c19
      refine lv_aload_n hx hb dX12_whyNotEnter_20 rfl (lv_at hl 0 rfl) ?_
      refine lv_iload_n hx hb dX12_whyNotEnter_21 rfl (lv_at hl 1 rfl) ?_
      refine lv_iconst (v := 4) hx hb dX12_whyNotEnter_22 (by decide +kernel) ?_
      refine ro_calli (va_runV (As := [.int w, .int 4]) (rest := []) ⟨hx, hb, hml, hown, hts⟩ (s_X12_isOf l D s.heap.size o a t i q c d w 4 hI (show 0 ≤ w.toInt ∧ w.toInt ≤ 29 from by have h91 : (4 : Int32).toInt = 4 := (by decide +kernel); omega) (show 0 ≤ 4 from by decide +kernel)) (cwV 2 hts gm_X12_whyNotEnter_X12_isOf rfl rfl rfl (by decide +kernel) ⟨Nat.le_of_ble_eq_true rfl, Nat.le_of_ble_eq_true rfl⟩) (pA_V hK hP (ci := 12) (q0 := 0) rfl rfl) rfl rfl hl.1 rfl (lv_room (Nat.le_of_ble_eq_true rfl)) dX12_whyNotEnter_23 ⟨Nat.le_of_ble_eq_true rfl, Nat.le_of_ble_eq_true rfl⟩) hS hA hP (fun r20 u20 H locs hw20 hP hS => ?_)
      have hw20 : ((0 ≤ r20.toInt ∧ r20.toInt ≤ 1) ∧ (Sm r20 (Kd (c 3) (c 6) w.toInt 4))) := hw20
      obtain ⟨hw20, hr20_0⟩ := hw20
      have hr20_0 : Sm r20 (Kd (c 3) (c 6) w.toInt 4) := hr20_0
      refine lv_if_ne (tgt := 32) hx hb dX12_whyNotEnter_26 (by decide +kernel) (fun c21 => ?_) (fun c21 => ?_)
      · have f21 := mt (ti_eq (a := r20.toInt) (b := 0) rfl (by decide +kernel)).mpr c21
        have s21 := sm_t hr20_0 c21
        exact jn4   (show Kd (c 3) (c 6) w.toInt 3 ∨ Kd (c 3) (c 6) w.toInt 4 from Or.inr s21) (show (zM (c 3) (c 6) (i 5).toInt) w.toInt = 3 ∨ (zM (c 3) (c 6) (i 5).toInt) w.toInt = 4 from Or.inr (by rw [hzw]; exact (kS_k hI (by omega) (by omega)).mp s21)) _ _ _ hP hS (lv_sub hl [0, 1] rfl)
      · have f21 := (ti_eq (a := r20.toInt) (b := 0) rfl (by decide +kernel)).mp c21
        have s21 := sm_f hr20_0 c21
        refine lv_bipush (v := 12) hx hb dX12_whyNotEnter_29 (by decide +kernel) ?_
        exact ro_iret hx hb hr hlocks hS dX12_whyNotEnter_31 ⟨(show 0 ≤ (12 : Int32).toInt ∧ (12 : Int32).toInt ≤ 20 from by decide +kernel), (show Im ((12 : Int32).toInt = 0) ((Kd (c 3) (c 6) w.toInt 3 ∨ Kd (c 3) (c 6) w.toInt 4) ∧ ¬ Ch (nF (i 5).toInt (c 23) (c 24)) (nF (i 5).toInt (c 23) (c 24) w.toInt) (i 22).toInt ∧ (c 44 w.toNatClampNeg).toInt = 1) from fun h9 => absurd h9 (by decide +kernel)), (show (12 : Int32).toInt = enterV ((c 43 w.toInt.toNat).toInt = 1) ((zM (c 3) (c 6) (i 5).toInt) w.toInt = 3 ∨ (zM (c 3) (c 6) (i 5).toInt) w.toInt = 4) (ChB 30 (nF (i 5).toInt (c 23) (c 24)) ((nF (i 5).toInt (c 23) (c 24)) w.toInt) (i 22).toInt) ((zM (c 3) (c 6) (i 5).toInt) w.toInt = 3 ∧ ¬ (bM (c 25)) w.toInt) ((c 44 w.toInt.toNat).toInt = 1) ((nF (i 5).toInt (c 23) (c 24)) (i 22).toInt = w.toInt) from by unfold enterV; rw [iV_n (by have h8 := (show (c 43 w.toInt.toNat).toInt = x1.toInt from gx1); omega), iV_y (fun h9 => h9.elim (fun h8 => by have h7 := hcw.1.mpr h8; have h6 := (show (c 47 w.toInt.toNat).toInt = x3.toInt from gx3); omega) (fun h8 => s21 ((kS_k hI (by omega) (by omega)).mpr (by rw [← hzw]; exact h8))))]; first | done | decide)⟩
  · have f2 := (ti_eq (a := x1.toInt) (b := 0) rfl (by decide +kernel)).mp c2
    refine lv_iconst (v := 4) hx hb dX12_whyNotEnter_9 (by decide +kernel) ?_
    exact ro_iret hx hb hr hlocks hS dX12_whyNotEnter_10 ⟨(show 0 ≤ (4 : Int32).toInt ∧ (4 : Int32).toInt ≤ 20 from by decide +kernel), (show Im ((4 : Int32).toInt = 0) ((Kd (c 3) (c 6) w.toInt 3 ∨ Kd (c 3) (c 6) w.toInt 4) ∧ ¬ Ch (nF (i 5).toInt (c 23) (c 24)) (nF (i 5).toInt (c 23) (c 24) w.toInt) (i 22).toInt ∧ (c 44 w.toNatClampNeg).toInt = 1) from fun h9 => absurd h9 (by decide +kernel)), (show (4 : Int32).toInt = enterV ((c 43 w.toInt.toNat).toInt = 1) ((zM (c 3) (c 6) (i 5).toInt) w.toInt = 3 ∨ (zM (c 3) (c 6) (i 5).toInt) w.toInt = 4) (ChB 30 (nF (i 5).toInt (c 23) (c 24)) ((nF (i 5).toInt (c 23) (c 24)) w.toInt) (i 22).toInt) ((zM (c 3) (c 6) (i 5).toInt) w.toInt = 3 ∧ ¬ (bM (c 25)) w.toInt) ((c 44 w.toInt.toNat).toInt = 1) ((nF (i 5).toInt (c 23) (c 24)) (i 22).toInt = w.toInt) from by unfold enterV; rw [iV_y (by have h8 := (show (c 43 w.toInt.toNat).toInt = x1.toInt from gx1); omega)]; first | done | decide)⟩

