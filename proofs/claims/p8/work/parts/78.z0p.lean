set_option maxHeartbeats 4000000 in
set_option maxRecDepth 100000 in
theorem s_X12_isInView_t (l : Launch) (D : va_G) (sz : Nat) (o : Nat) (a : Nat → Nat) (t : Nat → ClassId) (i : Nat → Int32) (q : Int64) (c : Nat → Nat → Int32) (d : Nat → Nat → Int64) (w : Int32) (s1 : Int32) (b1 : Int32) (hI : mInv i c) (hw : 0 ≤ w.toInt ∧ w.toInt < (i 5).toInt) (hs1 : 0 ≤ s1.toInt ∧ s1.toInt < (i 5).toInt) (hs_T : TI (i 5).toInt (fun z => Kd (c 3) (c 6) z 0) (i 22).toInt (c 23) (c 24)) (hb1 : 0 ≤ b1.toInt ∧ b1.toInt ≤ 1) (hs_E : CcE (c 3) (c 6) (c 47) (c 48) (c 49) (i 5).toInt) : Met l yX12_isInView wm_X12_isInView ({ frames := 1, cells := 0, slots := 0, locals := 23 }) (va_Pc [.ref o, .int w, .int s1, .int b1] (pA D sz (mW o a t i q c d) (mT t))) (va_Qi (fun (r : Int32) (_ : Unit) => ((0 ≤ r.toInt ∧ r.toInt ≤ 1) ∧ (Sm r (w.toInt = (i 22).toInt ∨ Vw (zM (c 3) (c 6) (i 5).toInt) (nF (i 5).toInt (c 23) (c 24)) (bM (c 25)) (bM (c 46)) (sdM (zM (c 3) (c 6) (i 5).toInt) (c 9) (c 10) (c 11) (c 13) (i 8).toInt) ((1 : Int) ≤ b1.toInt) s1.toInt w.toInt)) ∧ (Im (r.toInt = 1) (w.toInt = (i 22).toInt ∨ (c 49 w.toNatClampNeg).toInt = 1 ∨ Ch (nF (i 5).toInt (c 23) (c 24)) w.toInt s1.toInt)))) oA (ro sz)) 0 0 (ro sz) := by
  refine Met.ofW (cc := cX12_isInView) (maxL := 5) (ret := (some .boolean)) (by decide +kernel) rfl ?_
  intro p e s m args below meth cd s₁ B hml hv
  obtain ⟨rfl, hsz, hP, hK⟩ := hv
  have hx := B.exec
  have hb := B.bytes
  have hr := B.returns
  have hts := atoms_spec (ws := wm_X12_isInView) B.pre
  have hown : s.vm.findClass RX12 = some m.cls := findClass_of_methodNamed B.named
  have hlocks := B.notSynchronized
  subst hsz
  have hA : ∀ q : Nat, s.heap.size ≤ q → ro s.heap.size q := fun _ h => h
  have hS : va_S (ro s.heap.size) s.heap s.heap [] := va_S.rf
  have hl := lv_entry ([.ref o, .int w, .int s1, .int b1]) (n := 5) (Nat.le_of_ble_eq_true rfl)
  rw [lg_entry_eq]
  generalize (lg_sl ([.ref o, .int w, .int s1, .int b1]) ++ List.replicate (5 - (lg_sl ([.ref o, .int w, .int s1, .int b1])).length) Slot.unset).toArray = ls at hl ⊢
  have hl : lv_has ls 5 [(0, .ref o), (1, .int w), (2, .int s1), (3, .int b1)] := hl
  have rb5_i : 0 ≤ (i 5).toInt ∧ (i 5).toInt ≤ 30 := hI.1 5
  have rb22_i : (i 22).toInt = -9 ∨ (0 ≤ (i 22).toInt ∧ (i 22).toInt ≤ 29) := hI.1 22
  have hTt := hs_T
  obtain ⟨⟨hp0, hp1, hp2⟩, hT2, hT3, ⟨rk, hrk⟩, rr, hq0, hq1, hq2, hq3⟩ := hTt
  have hsp : Sp (nF (i 5).toInt (c 23) (c 24)) := nF_Sp (by omega) hT2
  have hpl := TI_p hs_T
  have hpa : 0 ≤ (c 24 (i 22).toNatClampNeg).toInt ∧ (c 24 (i 22).toNatClampNeg).toInt < (i 5).toInt := hT2 _ hp0 hp1 hpl
  have hKw := H3_i (hs_E w.toInt (by omega) (by omega))
  have hKs := H3_i (hs_E s1.toInt (by omega) (by omega))
  refine lv_iload_n hx hb dX12_isInView_0 rfl (lv_at hl 1 rfl) ?_
  refine lv_aload_n hx hb dX12_isInView_1 rfl (lv_at hl 0 rfl) ?_
  refine mget_22 (v := (i 22)) rfl hx hb hts (fun _ h => List.mem_cons_of_mem _ (List.mem_append_right _ h)) hown hK hP (hts (.fieldLink RX12 155 "TalePlayModel" "player" "I") (List.mem_cons_of_mem _ (List.mem_append_left _ (List.mem_append_left _ (List.mem_of_getElem? (i := 0) rfl))))) dX12_isInView_2 ?_
  refine lv_icmp_eq (tgt := 13) hx hb dX12_isInView_5 (by decide +kernel) (fun c1 => ?_) (fun c1 => ?_)
  · have f1 := (ti_eq (a := w.toInt) (b := (i 22).toInt) rfl rfl).mp c1
    refine lv_iload_n hx hb dX12_isInView_13 rfl (lv_at hl 1 rfl) ?_
    refine lv_aload_n hx hb dX12_isInView_14 rfl (lv_at hl 0 rfl) ?_
    refine mget_22 (v := (i 22)) rfl hx hb hts (fun _ h => List.mem_cons_of_mem _ (List.mem_append_right _ h)) hown hK hP (hts (.fieldLink RX12 155 "TalePlayModel" "player" "I") (List.mem_cons_of_mem _ (List.mem_append_left _ (List.mem_append_left _ (List.mem_of_getElem? (i := 0) rfl))))) dX12_isInView_15 ?_
    refine lv_icmp_eq (tgt := 30) hx hb dX12_isInView_18 (by decide +kernel) (fun c2 => ?_) (fun c2 => ?_)
    · have f2 := (ti_eq (a := w.toInt) (b := (i 22).toInt) rfl rfl).mp c2
      refine lv_iconst (v := 1) hx hb dX12_isInView_30 (by decide +kernel) ?_
      refine lv_goto (tgt := 35) hx hb dX12_isInView_31 (by decide +kernel) ?_
      exact ro_zret hx hb hr hlocks hS rfl dX12_isInView_35 ⟨(show 0 ≤ (1 : Int32).toInt ∧ (1 : Int32).toInt ≤ 1 from by decide +kernel), (show Sm (1 : Int32) (w.toInt = (i 22).toInt ∨ Vw (zM (c 3) (c 6) (i 5).toInt) (nF (i 5).toInt (c 23) (c 24)) (bM (c 25)) (bM (c 46)) (sdM (zM (c 3) (c 6) (i 5).toInt) (c 9) (c 10) (c 11) (c 13) (i 8).toInt) ((1 : Int) ≤ b1.toInt) s1.toInt w.toInt) from sm_1 (by first | exact Or.inl (by omega))), (show Im ((1 : Int32).toInt = 1) (w.toInt = (i 22).toInt ∨ (c 49 w.toNatClampNeg).toInt = 1 ∨ Ch (nF (i 5).toInt (c 23) (c 24)) w.toInt s1.toInt) from fun _ => by first | exact Or.inl (by omega) | exact Or.inr (Or.inl (by omega)) | exact Or.inr (Or.inr (by rw [show w.toInt = s1.toInt by omega]; exact Ch_rf)))⟩
    · have f2 := mt (ti_eq (a := w.toInt) (b := (i 22).toInt) rfl rfl).mpr c2
      refine lv_aload_n hx hb dX12_isInView_21 rfl (lv_at hl 0 rfl) ?_
      refine mget_47 hx hb hts (fun _ h => List.mem_cons_of_mem _ (List.mem_append_right _ h)) hown hK hP (hts (.fieldLink RX12 98 "TalePlayModel" "isBox" "[Z") (List.mem_cons_of_mem _ (List.mem_append_left _ (List.mem_append_left _ (List.mem_of_getElem? (i := 1) rfl))))) dX12_isInView_22 ?_
      refine lv_iload_n hx hb dX12_isInView_25 rfl (lv_at hl 2 rfl) ?_
      refine mld_47 hx hb hK hP (vp_in_iff.mpr (by have h9 : s1.toInt = s1.toInt := rfl; omega)) dX12_isInView_26 (fun x3 ex3 => ?_)
      have rx3 : 0 ≤ x3.toInt ∧ x3.toInt ≤ 1 := by rw [ex3]; exact hI.2 47 _
      have gx3 : (c 47 (s1 : Int32).toNatClampNeg).toInt = x3.toInt := by rw [ex3]
      refine lv_if_eq (tgt := 34) hx hb dX12_isInView_27 (by decide +kernel) (fun c4 => ?_) (fun c4 => ?_)
      · have f4 := (ti_eq (a := x3.toInt) (b := 0) rfl (by decide +kernel)).mp c4
        refine lv_iconst (v := 0) hx hb dX12_isInView_34 (by decide +kernel) ?_
        exact ro_zret hx hb hr hlocks hS rfl dX12_isInView_35 ⟨(show 0 ≤ (0 : Int32).toInt ∧ (0 : Int32).toInt ≤ 1 from by decide +kernel), (show Sm (0 : Int32) (w.toInt = (i 22).toInt ∨ Vw (zM (c 3) (c 6) (i 5).toInt) (nF (i 5).toInt (c 23) (c 24)) (bM (c 25)) (bM (c 46)) (sdM (zM (c 3) (c 6) (i 5).toInt) (c 9) (c 10) (c 11) (c 13) (i 8).toInt) ((1 : Int) ≤ b1.toInt) s1.toInt w.toInt) from sm_0 (fun h9 => by rcases h9 with h9 | h9; (· omega); (· rcases h9.2 with h8 | h8 | h8; (· have h7 := hKs.1.mpr h8.2; have h6 := (show (c 47 s1.toInt.toNat).toInt = x3.toInt from gx3); omega); (· have h7 := h8.1; omega); (· have h7 := h8.1; omega)))), (show Im ((0 : Int32).toInt = 1) (w.toInt = (i 22).toInt ∨ (c 49 w.toNatClampNeg).toInt = 1 ∨ Ch (nF (i 5).toInt (c 23) (c 24)) w.toInt s1.toInt) from fun h9 => absurd h9 (by decide +kernel))⟩
      · have f4 := mt (ti_eq (a := x3.toInt) (b := 0) rfl (by decide +kernel)).mpr c4
        refine lv_iconst (v := 1) hx hb dX12_isInView_30 (by decide +kernel) ?_
        refine lv_goto (tgt := 35) hx hb dX12_isInView_31 (by decide +kernel) ?_
        exact ro_zret hx hb hr hlocks hS rfl dX12_isInView_35 ⟨(show 0 ≤ (1 : Int32).toInt ∧ (1 : Int32).toInt ≤ 1 from by decide +kernel), (show Sm (1 : Int32) (w.toInt = (i 22).toInt ∨ Vw (zM (c 3) (c 6) (i 5).toInt) (nF (i 5).toInt (c 23) (c 24)) (bM (c 25)) (bM (c 46)) (sdM (zM (c 3) (c 6) (i 5).toInt) (c 9) (c 10) (c 11) (c 13) (i 8).toInt) ((1 : Int) ≤ b1.toInt) s1.toInt w.toInt) from sm_1 (by first | exact Or.inl (by omega) | exact Or.inr ⟨by omega, Or.inl ⟨by omega, hKs.1.mp (by have h9 := (show (c 47 s1.toInt.toNat).toInt = x3.toInt from gx3); omega)⟩⟩)), (show Im ((1 : Int32).toInt = 1) (w.toInt = (i 22).toInt ∨ (c 49 w.toNatClampNeg).toInt = 1 ∨ Ch (nF (i 5).toInt (c 23) (c 24)) w.toInt s1.toInt) from fun _ => by first | exact Or.inl (by omega) | exact Or.inr (Or.inl (by omega)) | exact Or.inr (Or.inr (by rw [show w.toInt = s1.toInt by omega]; exact Ch_rf)))⟩
  · have f1 := mt (ti_eq (a := w.toInt) (b := (i 22).toInt) rfl rfl).mpr c1
    refine lv_iload_n hx hb dX12_isInView_8 rfl (lv_at hl 1 rfl) ?_
    refine lv_iload_n hx hb dX12_isInView_9 rfl (lv_at hl 2 rfl) ?_
    refine lv_icmp_ne (tgt := 36) hx hb dX12_isInView_10 (by decide +kernel) (fun c5 => ?_) (fun c5 => ?_)
    · have f5 := mt (ti_eq (a := w.toInt) (b := s1.toInt) rfl rfl).mpr c5
      refine lv_aload_n hx hb dX12_isInView_36 rfl (lv_at hl 0 rfl) ?_
      refine mget_49 hx hb hts (fun _ h => List.mem_cons_of_mem _ (List.mem_append_right _ h)) hown hK hP (hts (.fieldLink RX12 104 "TalePlayModel" "isDoor" "[Z") (List.mem_cons_of_mem _ (List.mem_append_left _ (List.mem_append_left _ (List.mem_of_getElem? (i := 2) rfl))))) dX12_isInView_37 ?_
      refine lv_iload_n hx hb dX12_isInView_40 rfl (lv_at hl 1 rfl) ?_
      refine mld_49 hx hb hK hP (vp_in_iff.mpr (by have h9 : w.toInt = w.toInt := rfl; omega)) dX12_isInView_41 (fun x6 ex6 => ?_)
      have rx6 : 0 ≤ x6.toInt ∧ x6.toInt ≤ 1 := by rw [ex6]; exact hI.2 49 _
      have gx6 : (c 49 (w : Int32).toNatClampNeg).toInt = x6.toInt := by rw [ex6]
      refine lv_if_eq (tgt := 69) hx hb dX12_isInView_42 (by decide +kernel) (fun c7 => ?_) (fun c7 => ?_)
      · have f7 := (ti_eq (a := x6.toInt) (b := 0) rfl (by decide +kernel)).mp c7
        refine lv_iload_n hx hb dX12_isInView_69 rfl (lv_at hl 1 rfl) ?_
        refine lv_istore (lv' := [(4, .int w), (0, .ref o), (1, .int w), (2, .int s1), (3, .int b1)]) hx hb dX12_isInView_70 hl (by decide +kernel) rfl (fun ls hl => ?_)
        have lp8 : ∀ (fu : Nat) (y8_4 : Int32), (0 ≤ y8_4.toInt ∧ y8_4.toInt ≤ 29) → (y8_4.toInt < (i 5).toInt) → (Ch (nF (i 5).toInt (c 23) (c 24)) w.toInt y8_4.toInt) → (∃ k : Nat, rk y8_4.toInt ≤ k ∧ (InB 30 (nF (i 5).toInt (c 23) (c 24)) (Cv (zM (c 3) (c 6) (i 5).toInt) (bM (c 25)) (bM (c 46)) ((1 : Int) ≤ b1.toInt)) s1.toInt ((nF (i 5).toInt (c 23) (c 24)) w.toInt) ↔ InB k (nF (i 5).toInt (c 23) (c 24)) (Cv (zM (c 3) (c 6) (i 5).toInt) (bM (c 25)) (bM (c 46)) ((1 : Int) ≤ b1.toInt)) s1.toInt ((nF (i 5).toInt (c 23) (c 24)) y8_4.toInt))) → rk y8_4.toInt < fu → ∀ (H : Heap) (locs : List Loc) (ls : Array Slot), va_P D vwCl (mW o a t i q c d) H → va_S (ro s.heap.size) s.heap H locs → lv_has ls 5 [(4, .int y8_4), (0, .ref o), (1, .int w), (2, .int s1), (3, .int b1)] → W p l e (headSpec wm_X12_isInView ({ frames := 1, cells := 0, slots := 0, locals := 23 })).room s m ([.ref o, .int w, .int s1, .int b1] : List Value).toArray below meth cd H locs 0 0 (MQ below (va_Qi (fun (r : Int32) (_ : Unit) => ((0 ≤ r.toInt ∧ r.toInt ≤ 1) ∧ (Sm r (w.toInt = (i 22).toInt ∨ Vw (zM (c 3) (c 6) (i 5).toInt) (nF (i 5).toInt (c 23) (c 24)) (bM (c 25)) (bM (c 46)) (sdM (zM (c 3) (c 6) (i 5).toInt) (c 9) (c 10) (c 11) (c 13) (i 8).toInt) ((1 : Int) ≤ b1.toInt) s1.toInt w.toInt)) ∧ (Im (r.toInt = 1) (w.toInt = (i 22).toInt ∨ (c 49 w.toNatClampNeg).toInt = 1 ∨ Ch (nF (i 5).toInt (c 23) (c 24)) w.toInt s1.toInt)))) oA (ro s.heap.size)) ([.ref o, .int w, .int s1, .int b1] : List Value).toArray s 0 0 (ro s.heap.size)) (F0 m 72 ls []) := by
          intro fu
          induction fu with
          | zero => intro y8_4 hy8_4 hz8_0 hz8_1 hz8_2 hm; exact absurd hm (Nat.not_lt_zero _)
          | succ fu ih =>
            intro y8_4 hy8_4 hz8_0 hz8_1 hz8_2 hm H locs ls hP hS hl
            have ih8 := ih
            refine lv_aload_n hx hb dX12_isInView_72 rfl (lv_at hl 1 rfl) ?_
            refine mget_23 hx hb hts (fun _ h => List.mem_cons_of_mem _ (List.mem_append_right _ h)) hown hK hP (hts (.fieldLink RX12 50 "TalePlayModel" "nForm" "[I") (List.mem_cons_of_mem _ (List.mem_append_left _ (List.mem_append_left _ (List.mem_of_getElem? (i := 3) rfl))))) dX12_isInView_73 ?_
            refine lv_iload hx hb dX12_isInView_76 (lv_at hl 0 rfl) ?_
            refine mld_23 hx hb hK hP (vp_in_iff.mpr (by have h9 : y8_4.toInt = y8_4.toInt := rfl; omega)) dX12_isInView_78 (fun x9 ex9 => ?_)
            have rx9 : x9.toInt = -9 ∨ (0 ≤ x9.toInt ∧ x9.toInt ≤ 4) := by rw [ex9]; exact hI.2 23 _
            have gx9 : (c 23 (y8_4 : Int32).toNatClampNeg).toInt = x9.toInt := by rw [ex9]
            refine lv_bipush (v := (-9)) hx hb dX12_isInView_79 (by decide +kernel) ?_
            refine lv_icmp_eq (tgt := 113) hx hb dX12_isInView_81 (by decide +kernel) (fun c10 => ?_) (fun c10 => ?_)
            · have f10 := (ti_eq (a := x9.toInt) (b := (-9)) rfl (by decide +kernel)).mp c10
              refine lv_iconst (v := 0) hx hb dX12_isInView_113 (by decide +kernel) ?_
              exact ro_zret hx hb hr hlocks hS rfl dX12_isInView_114 ⟨(show 0 ≤ (0 : Int32).toInt ∧ (0 : Int32).toInt ≤ 1 from by decide +kernel), (show Sm (0 : Int32) (w.toInt = (i 22).toInt ∨ Vw (zM (c 3) (c 6) (i 5).toInt) (nF (i 5).toInt (c 23) (c 24)) (bM (c 25)) (bM (c 46)) (sdM (zM (c 3) (c 6) (i 5).toInt) (c 9) (c 10) (c 11) (c 13) (i 8).toInt) ((1 : Int) ≤ b1.toInt) s1.toInt w.toInt) from sm_0 (fun h9 => by rcases h9 with h9 | h9; (· omega); (· rcases h9.2 with h8 | h8 | h8; (· have h7 := h8.1; omega); (· exact (fun h8 => by have h7 := hKw.2.2.mpr h8; have h6 := (show (c 49 w.toInt.toNat).toInt = x6.toInt from gx6); omega) h8.2.1); (· exact (InM_9 hz8_2 (nF_no ex9 (by omega)) hsp.1 (by omega)) h8.2.2)))), (show Im ((0 : Int32).toInt = 1) (w.toInt = (i 22).toInt ∨ (c 49 w.toNatClampNeg).toInt = 1 ∨ Ch (nF (i 5).toInt (c 23) (c 24)) w.toInt s1.toInt) from fun h9 => absurd h9 (by decide +kernel))⟩
            · have f10 := mt (ti_eq (a := x9.toInt) (b := (-9)) rfl (by decide +kernel)).mpr c10
              refine lv_aload_n hx hb dX12_isInView_84 rfl (lv_at hl 1 rfl) ?_
              refine mget_24 hx hb hts (fun _ h => List.mem_cons_of_mem _ (List.mem_append_right _ h)) hown hK hP (hts (.fieldLink RX12 53 "TalePlayModel" "nAt" "[I") (List.mem_cons_of_mem _ (List.mem_append_left _ (List.mem_append_left _ (List.mem_of_getElem? (i := 4) rfl))))) dX12_isInView_85 ?_
              refine lv_iload hx hb dX12_isInView_88 (lv_at hl 0 rfl) ?_
              refine mld_24 hx hb hK hP (vp_in_iff.mpr (by have h9 : y8_4.toInt = y8_4.toInt := rfl; omega)) dX12_isInView_90 (fun x11 ex11 => ?_)
              have rx11 : x11.toInt = -9 ∨ (0 ≤ x11.toInt ∧ x11.toInt ≤ 29) := by rw [ex11]; exact hI.2 24 _
              have gx11 : (c 24 (y8_4 : Int32).toNatClampNeg).toInt = x11.toInt := by rw [ex11]
              obtain ⟨hn, hax, hbx⟩ := T_st hT2 (y := y8_4) (by omega) ex9 (by omega) ex11
              have hk := hrk.2 y8_4.toInt (by omega) (by omega) (by rw [hn]; omega)
              rw [hn] at hk
              have hcw : Ch (nF (i 5).toInt (c 23) (c 24)) w.toInt x11.toInt := Ch_tr hz8_1 (Ch_up (by rw [hn]; exact Ch_rf))
              refine lv_istore (lv' := [(4, .int x11), (0, .ref o), (1, .int w), (2, .int s1), (3, .int b1)]) hx hb dX12_isInView_91 hl (by decide +kernel) rfl (fun ls hl => ?_)
              refine lv_iload hx hb dX12_isInView_93 (lv_at hl 0 rfl) ?_
              refine lv_iload_n hx hb dX12_isInView_95 rfl (lv_at hl 3 rfl) ?_
              refine lv_icmp_ne (tgt := 101) hx hb dX12_isInView_96 (by decide +kernel) (fun c12 => ?_) (fun c12 => ?_)
              · have f12 := mt (ti_eq (a := x11.toInt) (b := s1.toInt) rfl rfl).mpr c12
                refine lv_aload_n hx hb dX12_isInView_101 rfl (lv_at hl 1 rfl) ?_
                refine lv_iload hx hb dX12_isInView_102 (lv_at hl 0 rfl) ?_
                refine lv_iload_n hx hb dX12_isInView_104 rfl (lv_at hl 4 rfl) ?_
                refine ro_calli (va_runV (As := [.int x11, .int b1]) (rest := []) ⟨hx, hb, hml, hown, hts⟩ (s_X12_shuts_t l D H.size o a t i q c d x11 b1 hI (show 0 ≤ x11.toInt ∧ x11.toInt < ((i 5) : Int32).toInt from by omega) (show 0 ≤ b1.toInt ∧ b1.toInt ≤ 1 from by omega) hs_E) (cwV 2 hts gm_X12_isInView_X12_shuts rfl rfl rfl (by decide +kernel) ⟨Nat.le_of_ble_eq_true rfl, Nat.le_of_ble_eq_true rfl⟩) (pA_V hK hP (ci := 12) (q0 := 0) rfl rfl) rfl rfl hl.1 rfl (lv_room (Nat.le_of_ble_eq_true rfl)) dX12_isInView_105 ⟨Nat.le_of_ble_eq_true rfl, Nat.le_of_ble_eq_true rfl⟩) hS hA hP (fun r13 u13 H locs hw13 hP hS => ?_)
                have hw13 : ((0 ≤ r13.toInt ∧ r13.toInt ≤ 1) ∧ (Sm r13 (Cv (zM (c 3) (c 6) (i 5).toInt) (bM (c 25)) (bM (c 46)) ((1 : Int) ≤ b1.toInt) x11.toInt))) := hw13
                obtain ⟨hw13, hr13_0⟩ := hw13
                have hr13_0 : Sm r13 (Cv (zM (c 3) (c 6) (i 5).toInt) (bM (c 25)) (bM (c 46)) ((1 : Int) ≤ b1.toInt) x11.toInt) := hr13_0
                refine lv_if_eq (tgt := 72) hx hb dX12_isInView_108 (by decide +kernel) (fun c14 => ?_) (fun c14 => ?_)
                · have f14 := (ti_eq (a := r13.toInt) (b := 0) rfl (by decide +kernel)).mp c14
                  have s14 := sm_f hr13_0 c14
                  exact ih8 x11 (show 0 ≤ x11.toInt ∧ x11.toInt ≤ 29 from by omega) (show x11.toInt < (i 5).toInt from by omega) (show Ch (nF (i 5).toInt (c 23) (c 24)) w.toInt x11.toInt from hcw) (show ∃ k : Nat, rk x11.toInt ≤ k ∧ (InB 30 (nF (i 5).toInt (c 23) (c 24)) (Cv (zM (c 3) (c 6) (i 5).toInt) (bM (c 25)) (bM (c 46)) ((1 : Int) ≤ b1.toInt)) s1.toInt ((nF (i 5).toInt (c 23) (c 24)) w.toInt) ↔ InB k (nF (i 5).toInt (c 23) (c 24)) (Cv (zM (c 3) (c 6) (i 5).toInt) (bM (c 25)) (bM (c 46)) ((1 : Int) ≤ b1.toInt)) s1.toInt ((nF (i 5).toInt (c 23) (c 24)) x11.toInt)) from InM_s hz8_2 hn hk (by omega) s14) (by omega) _ _ _ hP hS (lv_sub hl [0, 1, 2, 3, 4] rfl)
                · have f14 := mt (ti_eq (a := r13.toInt) (b := 0) rfl (by decide +kernel)).mpr c14
                  have s14 := sm_t hr13_0 c14
                  refine lv_iconst (v := 0) hx hb dX12_isInView_111 (by decide +kernel) ?_
                  exact ro_zret hx hb hr hlocks hS rfl dX12_isInView_112 ⟨(show 0 ≤ (0 : Int32).toInt ∧ (0 : Int32).toInt ≤ 1 from by decide +kernel), (show Sm (0 : Int32) (w.toInt = (i 22).toInt ∨ Vw (zM (c 3) (c 6) (i 5).toInt) (nF (i 5).toInt (c 23) (c 24)) (bM (c 25)) (bM (c 46)) (sdM (zM (c 3) (c 6) (i 5).toInt) (c 9) (c 10) (c 11) (c 13) (i 8).toInt) ((1 : Int) ≤ b1.toInt) s1.toInt w.toInt) from sm_0 (fun h9 => by rcases h9 with h9 | h9; (· omega); (· rcases h9.2 with h8 | h8 | h8; (· have h7 := h8.1; omega); (· exact (fun h8 => by have h7 := hKw.2.2.mpr h8; have h6 := (show (c 49 w.toInt.toNat).toInt = x6.toInt from gx6); omega) h8.2.1); (· exact (InM_c hz8_2 hn (by omega) s14) h8.2.2)))), (show Im ((0 : Int32).toInt = 1) (w.toInt = (i 22).toInt ∨ (c 49 w.toNatClampNeg).toInt = 1 ∨ Ch (nF (i 5).toInt (c 23) (c 24)) w.toInt s1.toInt) from fun h9 => absurd h9 (by decide +kernel))⟩
              · have f12 := (ti_eq (a := x11.toInt) (b := s1.toInt) rfl rfl).mp c12
                refine lv_iconst (v := 1) hx hb dX12_isInView_99 (by decide +kernel) ?_
                exact ro_zret hx hb hr hlocks hS rfl dX12_isInView_100 ⟨(show 0 ≤ (1 : Int32).toInt ∧ (1 : Int32).toInt ≤ 1 from by decide +kernel), (show Sm (1 : Int32) (w.toInt = (i 22).toInt ∨ Vw (zM (c 3) (c 6) (i 5).toInt) (nF (i 5).toInt (c 23) (c 24)) (bM (c 25)) (bM (c 46)) (sdM (zM (c 3) (c 6) (i 5).toInt) (c 9) (c 10) (c 11) (c 13) (i 8).toInt) ((1 : Int) ≤ b1.toInt) s1.toInt w.toInt) from sm_1 (Or.inr ⟨by omega, Or.inr (Or.inr ⟨by omega, (fun h8 => by have h7 := hKw.2.2.mpr h8; have h6 := (show (c 49 w.toInt.toNat).toInt = x6.toInt from gx6); omega), InM_y hz8_2 hn hk (by omega)⟩)⟩)), (show Im ((1 : Int32).toInt = 1) (w.toInt = (i 22).toInt ∨ (c 49 w.toNatClampNeg).toInt = 1 ∨ Ch (nF (i 5).toInt (c 23) (c 24)) w.toInt s1.toInt) from fun _ => Or.inr (Or.inr (by rw [show s1.toInt = x11.toInt by omega]; exact hcw)))⟩
        exact lp8 _ w (show 0 ≤ w.toInt ∧ w.toInt ≤ 29 from by omega) (show w.toInt < (i 5).toInt from by omega) (show Ch (nF (i 5).toInt (c 23) (c 24)) w.toInt w.toInt from Ch_rf) (show ∃ k : Nat, rk w.toInt ≤ k ∧ (InB 30 (nF (i 5).toInt (c 23) (c 24)) (Cv (zM (c 3) (c 6) (i 5).toInt) (bM (c 25)) (bM (c 46)) ((1 : Int) ≤ b1.toInt)) s1.toInt ((nF (i 5).toInt (c 23) (c 24)) w.toInt) ↔ InB k (nF (i 5).toInt (c 23) (c 24)) (Cv (zM (c 3) (c 6) (i 5).toInt) (bM (c 25)) (bM (c 46)) ((1 : Int) ≤ b1.toInt)) s1.toInt ((nF (i 5).toInt (c 23) (c 24)) w.toInt)) from InM_0 (hrk.1 _)) (Nat.lt_succ_self _) _ _ _ hP hS (lv_sub hl [0, 1, 2, 3, 4] rfl)
      · have f7 := mt (ti_eq (a := x6.toInt) (b := 0) rfl (by decide +kernel)).mpr c7
        refine lv_aload_n hx hb dX12_isInView_45 rfl (lv_at hl 0 rfl) ?_
        refine mget_48 hx hb hts (fun _ h => List.mem_cons_of_mem _ (List.mem_append_right _ h)) hown hK hP (hts (.fieldLink RX12 101 "TalePlayModel" "isRoom" "[Z") (List.mem_cons_of_mem _ (List.mem_append_left _ (List.mem_append_left _ (List.mem_of_getElem? (i := 12) rfl))))) dX12_isInView_46 ?_
        refine lv_iload_n hx hb dX12_isInView_49 rfl (lv_at hl 2 rfl) ?_
        refine mld_48 hx hb hK hP (vp_in_iff.mpr (by have h9 : s1.toInt = s1.toInt := rfl; omega)) dX12_isInView_50 (fun x15 ex15 => ?_)
        have rx15 : 0 ≤ x15.toInt ∧ x15.toInt ≤ 1 := by rw [ex15]; exact hI.2 48 _
        have gx15 : (c 48 (s1 : Int32).toNatClampNeg).toInt = x15.toInt := by rw [ex15]
        refine lv_if_eq (tgt := 67) hx hb dX12_isInView_51 (by decide +kernel) (fun c16 => ?_) (fun c16 => ?_)
        · have f16 := (ti_eq (a := x15.toInt) (b := 0) rfl (by decide +kernel)).mp c16
          refine lv_iconst (v := 0) hx hb dX12_isInView_67 (by decide +kernel) ?_
          exact ro_zret hx hb hr hlocks hS rfl dX12_isInView_68 ⟨(show 0 ≤ (0 : Int32).toInt ∧ (0 : Int32).toInt ≤ 1 from by decide +kernel), (show Sm (0 : Int32) (w.toInt = (i 22).toInt ∨ Vw (zM (c 3) (c 6) (i 5).toInt) (nF (i 5).toInt (c 23) (c 24)) (bM (c 25)) (bM (c 46)) (sdM (zM (c 3) (c 6) (i 5).toInt) (c 9) (c 10) (c 11) (c 13) (i 8).toInt) ((1 : Int) ≤ b1.toInt) s1.toInt w.toInt) from sm_0 (fun h9 => by rcases h9 with h9 | h9; (· omega); (· rcases h9.2 with h8 | h8 | h8; (· have h7 := h8.1; omega); (· have h7 := hKs.2.1.mpr h8.2.2.1; have h6 := (show (c 48 s1.toInt.toNat).toInt = x15.toInt from gx15); omega); (· exact h8.2.1 (hKw.2.2.mp (by have h9 := (show (c 49 w.toInt.toNat).toInt = x6.toInt from gx6); omega)))))), (show Im ((0 : Int32).toInt = 1) (w.toInt = (i 22).toInt ∨ (c 49 w.toNatClampNeg).toInt = 1 ∨ Ch (nF (i 5).toInt (c 23) (c 24)) w.toInt s1.toInt) from fun h9 => absurd h9 (by decide +kernel))⟩
        · have f16 := mt (ti_eq (a := x15.toInt) (b := 0) rfl (by decide +kernel)).mpr c16
          refine lv_aload_n hx hb dX12_isInView_54 rfl (lv_at hl 0 rfl) ?_
          refine lv_iload_n hx hb dX12_isInView_55 rfl (lv_at hl 1 rfl) ?_
          refine lv_iload_n hx hb dX12_isInView_56 rfl (lv_at hl 2 rfl) ?_
          have rb8_i : 0 ≤ (i 8).toInt ∧ (i 8).toInt ≤ 200 := hI.1 8
          refine ro_calli (va_runV (As := [.int w, .int s1]) (rest := []) ⟨hx, hb, hml, hown, hts⟩ (s_X12_isSide_t l D s.heap.size o a t i q c d w s1 hI ) (cwV 2 hts gm_X12_isInView_X12_isSide rfl rfl rfl (by decide +kernel) ⟨Nat.le_of_ble_eq_true rfl, Nat.le_of_ble_eq_true rfl⟩) (pA_V hK hP (ci := 12) (q0 := 0) rfl rfl) rfl rfl hl.1 rfl (lv_room (Nat.le_of_ble_eq_true rfl)) dX12_isInView_57 ⟨Nat.le_of_ble_eq_true rfl, Nat.le_of_ble_eq_true rfl⟩) hS hA hP (fun r17 u17 H locs hw17 hP hS => ?_)
          have hw17 : ((0 ≤ r17.toInt ∧ r17.toInt ≤ 1) ∧ (Sm r17 (∃ s : Nat, (s : Int) < (i 8).toInt ∧ sdP (c 9) (c 10) (c 11) (c 13) w.toInt s1.toInt s))) := hw17
          obtain ⟨hw17, hr17_0⟩ := hw17
          have hr17_0 : Sm r17 (∃ s : Nat, (s : Int) < (i 8).toInt ∧ sdP (c 9) (c 10) (c 11) (c 13) w.toInt s1.toInt s) := hr17_0
          refine lv_if_eq (tgt := 67) hx hb dX12_isInView_60 (by decide +kernel) (fun c18 => ?_) (fun c18 => ?_)
          · have f18 := (ti_eq (a := r17.toInt) (b := 0) rfl (by decide +kernel)).mp c18
            have s18 := sm_f hr17_0 c18
            refine lv_iconst (v := 0) hx hb dX12_isInView_67 (by decide +kernel) ?_
            exact ro_zret hx hb hr hlocks hS rfl dX12_isInView_68 ⟨(show 0 ≤ (0 : Int32).toInt ∧ (0 : Int32).toInt ≤ 1 from by decide +kernel), (show Sm (0 : Int32) (w.toInt = (i 22).toInt ∨ Vw (zM (c 3) (c 6) (i 5).toInt) (nF (i 5).toInt (c 23) (c 24)) (bM (c 25)) (bM (c 46)) (sdM (zM (c 3) (c 6) (i 5).toInt) (c 9) (c 10) (c 11) (c 13) (i 8).toInt) ((1 : Int) ≤ b1.toInt) s1.toInt w.toInt) from sm_0 (fun h9 => by rcases h9 with h9 | h9; (· omega); (· rcases h9.2 with h8 | h8 | h8; (· have h7 := h8.1; omega); (· exact s18 h8.2.2.2); (· exact h8.2.1 (hKw.2.2.mp (by have h9 := (show (c 49 w.toInt.toNat).toInt = x6.toInt from gx6); omega)))))), (show Im ((0 : Int32).toInt = 1) (w.toInt = (i 22).toInt ∨ (c 49 w.toNatClampNeg).toInt = 1 ∨ Ch (nF (i 5).toInt (c 23) (c 24)) w.toInt s1.toInt) from fun h9 => absurd h9 (by decide +kernel))⟩
          · have f18 := mt (ti_eq (a := r17.toInt) (b := 0) rfl (by decide +kernel)).mpr c18
            have s18 := sm_t hr17_0 c18
            refine lv_iconst (v := 1) hx hb dX12_isInView_63 (by decide +kernel) ?_
            refine lv_goto (tgt := 68) hx hb dX12_isInView_64 (by decide +kernel) ?_
            exact ro_zret hx hb hr hlocks hS rfl dX12_isInView_68 ⟨(show 0 ≤ (1 : Int32).toInt ∧ (1 : Int32).toInt ≤ 1 from by decide +kernel), (show Sm (1 : Int32) (w.toInt = (i 22).toInt ∨ Vw (zM (c 3) (c 6) (i 5).toInt) (nF (i 5).toInt (c 23) (c 24)) (bM (c 25)) (bM (c 46)) (sdM (zM (c 3) (c 6) (i 5).toInt) (c 9) (c 10) (c 11) (c 13) (i 8).toInt) ((1 : Int) ≤ b1.toInt) s1.toInt w.toInt) from sm_1 (Or.inr ⟨by omega, Or.inr (Or.inl ⟨by omega, (hKw.2.2.mp (by have h9 := (show (c 49 w.toInt.toNat).toInt = x6.toInt from gx6); omega)), hKs.2.1.mp (by have h9 := (show (c 48 s1.toInt.toNat).toInt = x15.toInt from gx15); omega), s18⟩)⟩)), (show Im ((1 : Int32).toInt = 1) (w.toInt = (i 22).toInt ∨ (c 49 w.toNatClampNeg).toInt = 1 ∨ Ch (nF (i 5).toInt (c 23) (c 24)) w.toInt s1.toInt) from fun _ => by first | exact Or.inl (by omega) | exact Or.inr (Or.inl (by omega)) | exact Or.inr (Or.inr (by rw [show w.toInt = s1.toInt by omega]; exact Ch_rf)))⟩
    · have f5 := (ti_eq (a := w.toInt) (b := s1.toInt) rfl rfl).mp c5
      refine lv_iload_n hx hb dX12_isInView_13 rfl (lv_at hl 1 rfl) ?_
      refine lv_aload_n hx hb dX12_isInView_14 rfl (lv_at hl 0 rfl) ?_
      refine mget_22 (v := (i 22)) rfl hx hb hts (fun _ h => List.mem_cons_of_mem _ (List.mem_append_right _ h)) hown hK hP (hts (.fieldLink RX12 155 "TalePlayModel" "player" "I") (List.mem_cons_of_mem _ (List.mem_append_left _ (List.mem_append_left _ (List.mem_of_getElem? (i := 0) rfl))))) dX12_isInView_15 ?_
      refine lv_icmp_eq (tgt := 30) hx hb dX12_isInView_18 (by decide +kernel) (fun c19 => ?_) (fun c19 => ?_)
      · have f19 := (ti_eq (a := w.toInt) (b := (i 22).toInt) rfl rfl).mp c19
        refine lv_iconst (v := 1) hx hb dX12_isInView_30 (by decide +kernel) ?_
        refine lv_goto (tgt := 35) hx hb dX12_isInView_31 (by decide +kernel) ?_
        exact ro_zret hx hb hr hlocks hS rfl dX12_isInView_35 ⟨(show 0 ≤ (1 : Int32).toInt ∧ (1 : Int32).toInt ≤ 1 from by decide +kernel), (show Sm (1 : Int32) (w.toInt = (i 22).toInt ∨ Vw (zM (c 3) (c 6) (i 5).toInt) (nF (i 5).toInt (c 23) (c 24)) (bM (c 25)) (bM (c 46)) (sdM (zM (c 3) (c 6) (i 5).toInt) (c 9) (c 10) (c 11) (c 13) (i 8).toInt) ((1 : Int) ≤ b1.toInt) s1.toInt w.toInt) from sm_1 (by first | exact Or.inl (by omega))), (show Im ((1 : Int32).toInt = 1) (w.toInt = (i 22).toInt ∨ (c 49 w.toNatClampNeg).toInt = 1 ∨ Ch (nF (i 5).toInt (c 23) (c 24)) w.toInt s1.toInt) from fun _ => by first | exact Or.inl (by omega) | exact Or.inr (Or.inl (by omega)) | exact Or.inr (Or.inr (by rw [show w.toInt = s1.toInt by omega]; exact Ch_rf)))⟩
      · have f19 := mt (ti_eq (a := w.toInt) (b := (i 22).toInt) rfl rfl).mpr c19
        refine lv_aload_n hx hb dX12_isInView_21 rfl (lv_at hl 0 rfl) ?_
        refine mget_47 hx hb hts (fun _ h => List.mem_cons_of_mem _ (List.mem_append_right _ h)) hown hK hP (hts (.fieldLink RX12 98 "TalePlayModel" "isBox" "[Z") (List.mem_cons_of_mem _ (List.mem_append_left _ (List.mem_append_left _ (List.mem_of_getElem? (i := 1) rfl))))) dX12_isInView_22 ?_
        refine lv_iload_n hx hb dX12_isInView_25 rfl (lv_at hl 2 rfl) ?_
        refine mld_47 hx hb hK hP (vp_in_iff.mpr (by have h9 : s1.toInt = s1.toInt := rfl; omega)) dX12_isInView_26 (fun x20 ex20 => ?_)
        have rx20 : 0 ≤ x20.toInt ∧ x20.toInt ≤ 1 := by rw [ex20]; exact hI.2 47 _
        have gx20 : (c 47 (s1 : Int32).toNatClampNeg).toInt = x20.toInt := by rw [ex20]
        refine lv_if_eq (tgt := 34) hx hb dX12_isInView_27 (by decide +kernel) (fun c21 => ?_) (fun c21 => ?_)
        · have f21 := (ti_eq (a := x20.toInt) (b := 0) rfl (by decide +kernel)).mp c21
          refine lv_iconst (v := 0) hx hb dX12_isInView_34 (by decide +kernel) ?_
          exact ro_zret hx hb hr hlocks hS rfl dX12_isInView_35 ⟨(show 0 ≤ (0 : Int32).toInt ∧ (0 : Int32).toInt ≤ 1 from by decide +kernel), (show Sm (0 : Int32) (w.toInt = (i 22).toInt ∨ Vw (zM (c 3) (c 6) (i 5).toInt) (nF (i 5).toInt (c 23) (c 24)) (bM (c 25)) (bM (c 46)) (sdM (zM (c 3) (c 6) (i 5).toInt) (c 9) (c 10) (c 11) (c 13) (i 8).toInt) ((1 : Int) ≤ b1.toInt) s1.toInt w.toInt) from sm_0 (fun h9 => by rcases h9 with h9 | h9; (· omega); (· rcases h9.2 with h8 | h8 | h8; (· have h7 := hKs.1.mpr h8.2; have h6 := (show (c 47 s1.toInt.toNat).toInt = x20.toInt from gx20); omega); (· have h7 := h8.1; omega); (· have h7 := h8.1; omega)))), (show Im ((0 : Int32).toInt = 1) (w.toInt = (i 22).toInt ∨ (c 49 w.toNatClampNeg).toInt = 1 ∨ Ch (nF (i 5).toInt (c 23) (c 24)) w.toInt s1.toInt) from fun h9 => absurd h9 (by decide +kernel))⟩
        · have f21 := mt (ti_eq (a := x20.toInt) (b := 0) rfl (by decide +kernel)).mpr c21
          refine lv_iconst (v := 1) hx hb dX12_isInView_30 (by decide +kernel) ?_
          refine lv_goto (tgt := 35) hx hb dX12_isInView_31 (by decide +kernel) ?_
          exact ro_zret hx hb hr hlocks hS rfl dX12_isInView_35 ⟨(show 0 ≤ (1 : Int32).toInt ∧ (1 : Int32).toInt ≤ 1 from by decide +kernel), (show Sm (1 : Int32) (w.toInt = (i 22).toInt ∨ Vw (zM (c 3) (c 6) (i 5).toInt) (nF (i 5).toInt (c 23) (c 24)) (bM (c 25)) (bM (c 46)) (sdM (zM (c 3) (c 6) (i 5).toInt) (c 9) (c 10) (c 11) (c 13) (i 8).toInt) ((1 : Int) ≤ b1.toInt) s1.toInt w.toInt) from sm_1 (by first | exact Or.inl (by omega) | exact Or.inr ⟨by omega, Or.inl ⟨by omega, hKs.1.mp (by have h9 := (show (c 47 s1.toInt.toNat).toInt = x20.toInt from gx20); omega)⟩⟩)), (show Im ((1 : Int32).toInt = 1) (w.toInt = (i 22).toInt ∨ (c 49 w.toNatClampNeg).toInt = 1 ∨ Ch (nF (i 5).toInt (c 23) (c 24)) w.toInt s1.toInt) from fun _ => by first | exact Or.inl (by omega) | exact Or.inr (Or.inl (by omega)) | exact Or.inr (Or.inr (by rw [show w.toInt = s1.toInt by omega]; exact Ch_rf)))⟩

theorem kQ {i : Nat → Int32} {c : Nat → Nat → Int32} {N x k : Int} {r : Int32} (hI : mInv i c) (hk : 0 ≤ k ∧ k ≤ 5) (h1 : ¬ k = 1) (hx : 0 ≤ x ∧ x < N) (h : Sm r (Kd (c 3) (c 6) x k)) : r.toInt = 1 ↔ zM (c 3) (c 6) N x = k := by
  rw [zM_i hx, ← kS_k hI hk h1]
  rcases h with h | h
  · exact ⟨fun _ => h.2, fun _ => h.1⟩
  · exact ⟨fun q => by omega, fun q => absurd q h.2⟩

