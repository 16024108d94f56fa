set_option maxHeartbeats 4000000 in
set_option maxRecDepth 100000 in
theorem s_X12_whyNotTake_0 (l : Launch) (D : va_G) (sz : Nat) (o : Nat) (a : Nat → Nat) (t : Nat → ClassId) (i : Nat → Int32) (q : Int64) (c : Nat → Nat → Int32) (d : Nat → Nat → Int64) (w : Int32) (hI : mInv i c) (hw : 0 ≤ w.toInt ∧ w.toInt < (i 5).toInt) (hs_T : TI (i 5).toInt (fun z => Kd (c 3) (c 6) z 0) (i 22).toInt (c 23) (c 24)) (hs_G : Acy (gF (c 9) (c 10) (c 11) (c 13) (c 23) (c 24) (i 8).toInt (i 5).toInt (i 22).toInt)) (h33 : (i 33).toInt = 0) : Met l yX12_whyNotTake wm_X12_whyNotTake ({ frames := 3, cells := 0, slots := 0, locals := 70 }) (va_Pc [.ref o, .int w] (pB D sz (mW o a t i q c d) (mT t))) (va_Qi (fun (r : Int32) (u : MS) => ((0 ≤ r.toInt ∧ r.toInt ≤ 10) ∧ (Im (r.toInt = 0) (¬ w.toInt = (i 22).toInt ∧ ¬ Ch (nF (i 5).toInt (c 23) (c 24)) (nF (i 5).toInt (c 23) (c 24) (i 22).toInt) w.toInt ∧ Kd (c 3) (c 6) w.toInt 1))) ∧ mInv u.1 u.2.2.1 ∧ (∀ k, k ∉ ([36] : List Nat) → u.1 k = i k) ∧ (∀ k, k ∉ ([38, 39] : List Nat) → u.2.2.1 k = c k)) (oC D (va_A (mW o a t i q c d) sz) (fun u : MS => mW o a t u.1 u.2.1 u.2.2.1 u.2.2.2) (fun _ => [])) (va_A (mW o a t i q c d) sz)) 0 0 (va_A (mW o a t i q c d) sz) := by
  refine Met.ofW (cc := cX12_whyNotTake) (maxL := 4) (ret := (some .int)) (by decide +kernel) rfl ?_
  intro p e s m args below meth cd s₁ B hml hv
  obtain ⟨rfl, hsz, hP, hK, hD0⟩ := hv
  have hx := B.exec
  have hb := B.bytes
  have hr := B.returns
  have hts := atoms_spec (ws := wm_X12_whyNotTake) B.pre
  have hown : s.vm.findClass RX12 = some m.cls := findClass_of_methodNamed B.named
  have hlocks := B.notSynchronized
  subst hsz
  have hD := hD0.self (sz := s.heap.size)
  generalize hAe : va_A (mW o a t i q c d) s.heap.size = A at hD ⊢
  have hA : ∀ q : Nat, s.heap.size ≤ q → A q := fun q h => by rw [← hAe]; exact Or.inr h
  have hS : va_S A s.heap s.heap [] := va_S.rf
  have hfi : ∀ k, k ∉ ([] : List Nat) → i k = i k := fun _ _ => rfl
  have hfc : ∀ k, k ∉ ([] : List Nat) → c k = c k := fun _ _ => rfl
  have hl := lv_entry ([.ref o, .int w]) (n := 4) (Nat.le_of_ble_eq_true rfl)
  rw [lg_entry_eq]
  generalize (lg_sl ([.ref o, .int w]) ++ List.replicate (4 - (lg_sl ([.ref o, .int w])).length) Slot.unset).toArray = ls at hl ⊢
  have hl : lv_has ls 4 [(0, .ref o), (1, .int w)] := hl
  have rb5_i : 0 ≤ (i 5).toInt ∧ (i 5).toInt ≤ 30 := hI.1 5
  have rb22_i : (i 22).toInt = -9 ∨ (0 ≤ (i 22).toInt ∧ (i 22).toInt ≤ 29) := hI.1 22
  have hTt := hs_T
  obtain ⟨⟨hp0, hp1, hp2⟩, hT2, hT3, ⟨rk, hrk⟩, rr, hq0, hq1, hq2, hq3⟩ := hTt
  have hsp : Sp (nF (i 5).toInt (c 23) (c 24)) := nF_Sp (by omega) hT2
  have hpl := TI_p hs_T
  have hpa : 0 ≤ (c 24 (i 22).toNatClampNeg).toInt ∧ (c 24 (i 22).toNatClampNeg).toInt < (i 5).toInt := hT2 _ hp0 hp1 hpl
  refine lv_aload_n hx hb dX12_whyNotTake_0 rfl (lv_at hl 0 rfl) ?_
  refine mget_43 hx hb hts (fun _ h => List.mem_cons_of_mem _ (List.mem_append_right _ h)) hown hK hP (hts (.fieldLink RX12 86 "TalePlayModel" "seen" "[Z") (List.mem_cons_of_mem _ (List.mem_append_left _ (List.mem_append_left _ (List.mem_of_getElem? (i := 0) rfl))))) dX12_whyNotTake_1 ?_
  refine lv_iload_n hx hb dX12_whyNotTake_4 rfl (lv_at hl 1 rfl) ?_
  refine mld_43 hx hb hK hP (vp_in_iff.mpr (by have h9 : w.toInt = w.toInt := rfl; omega)) dX12_whyNotTake_5 (fun x1 ex1 => ?_)
  have rx1 : 0 ≤ x1.toInt ∧ x1.toInt ≤ 1 := by rw [ex1]; exact hI.2 43 _
  refine lv_if_ne (tgt := 11) hx hb dX12_whyNotTake_6 (by decide +kernel) (fun c2 => ?_) (fun c2 => ?_)
  · have f2 := mt (ti_eq (a := x1.toInt) (b := 0) rfl (by decide +kernel)).mpr c2
    refine lv_iload_n hx hb dX12_whyNotTake_11 rfl (lv_at hl 1 rfl) ?_
    refine lv_aload_n hx hb dX12_whyNotTake_12 rfl (lv_at hl 0 rfl) ?_
    refine mget_22 (v := (i 22)) rfl hx hb hts (fun _ h => List.mem_cons_of_mem _ (List.mem_append_right _ h)) hown hK hP (hts (.fieldLink RX12 155 "TalePlayModel" "player" "I") (List.mem_cons_of_mem _ (List.mem_append_left _ (List.mem_append_left _ (List.mem_of_getElem? (i := 1) rfl))))) dX12_whyNotTake_13 ?_
    refine lv_icmp_eq (tgt := 31) hx hb dX12_whyNotTake_16 (by decide +kernel) (fun c3 => ?_) (fun c3 => ?_)
    · have f3 := (ti_eq (a := w.toInt) (b := (i 22).toInt) rfl rfl).mp c3
      refine lv_iconst (v := 5) hx hb dX12_whyNotTake_31 (by decide +kernel) ?_
      exact rw_iret (i, q, c, d) hx hb hr hlocks hS (hK.sub (tys' := []) [] rfl) hP hD dX12_whyNotTake_32 ⟨⟨(show 0 ≤ (5 : Int32).toInt ∧ (5 : Int32).toInt ≤ 10 from by decide +kernel), (show Im ((5 : Int32).toInt = 0) (¬ w.toInt = (i 22).toInt ∧ ¬ Ch (nF (i 5).toInt (c 23) (c 24)) (nF (i 5).toInt (c 23) (c 24) (i 22).toInt) w.toInt ∧ Kd (c 3) (c 6) w.toInt 1) from fun h9 => absurd h9 (by decide +kernel))⟩, hI, fr_w hfi (by decide +kernel), fr_w hfc (by decide +kernel)⟩
    · have f3 := mt (ti_eq (a := w.toInt) (b := (i 22).toInt) rfl rfl).mpr c3
      refine lv_aload_n hx hb dX12_whyNotTake_19 rfl (lv_at hl 0 rfl) ?_
      refine lv_iload_n hx hb dX12_whyNotTake_20 rfl (lv_at hl 1 rfl) ?_
      refine lv_aload_n hx hb dX12_whyNotTake_21 rfl (lv_at hl 0 rfl) ?_
      refine mget_22 (v := (i 22)) rfl hx hb hts (fun _ h => List.mem_cons_of_mem _ (List.mem_append_right _ h)) hown hK hP (hts (.fieldLink RX12 155 "TalePlayModel" "player" "I") (List.mem_cons_of_mem _ (List.mem_append_left _ (List.mem_append_left _ (List.mem_of_getElem? (i := 1) rfl))))) dX12_whyNotTake_22 ?_
      refine ro_calli (va_runV (As := [.int w, .int (i 22)]) (rest := []) ⟨hx, hb, hml, hown, hts⟩ (s_X12_isUpFrom l D s.heap.size o a t i q c d w (i 22) hI (show 0 ≤ w.toInt ∧ w.toInt < ((i 5) : Int32).toInt from by omega) (show 0 ≤ (i 22).toInt ∧ (i 22).toInt < ((i 5) : Int32).toInt from by omega) hs_T) (cwV 2 hts gm_X12_whyNotTake_X12_isUpFrom rfl rfl rfl (by decide +kernel) ⟨Nat.le_of_ble_eq_true rfl, Nat.le_of_ble_eq_true rfl⟩) (pA_V hK hP (ci := 12) (q0 := 0) rfl rfl) rfl rfl hl.1 rfl (lv_room (Nat.le_of_ble_eq_true rfl)) dX12_whyNotTake_25 ⟨Nat.le_of_ble_eq_true rfl, Nat.le_of_ble_eq_true rfl⟩) hS hA hP (fun r4 u4 H locs hw4 hP hS => ?_)
      have hw4 : ((0 ≤ r4.toInt ∧ r4.toInt ≤ 1) ∧ (Im (r4.toInt = 0) (¬ Ch (nF (i 5).toInt (c 23) (c 24)) (nF (i 5).toInt (c 23) (c 24) (i 22).toInt) w.toInt))) := hw4
      obtain ⟨hw4, hr4_0⟩ := hw4
      have hr4_0 : Im (r4.toInt = 0) (¬ Ch (nF (i 5).toInt (c 23) (c 24)) (nF (i 5).toInt (c 23) (c 24) (i 22).toInt) w.toInt) := hr4_0
      refine lv_if_eq (tgt := 33) hx hb dX12_whyNotTake_28 (by decide +kernel) (fun c5 => ?_) (fun c5 => ?_)
      · have f5 := (ti_eq (a := r4.toInt) (b := 0) rfl (by decide +kernel)).mp c5
        have hUp := hr4_0
        refine lv_aload_n hx hb dX12_whyNotTake_33 rfl (lv_at hl 0 rfl) ?_
        refine lv_iload_n hx hb dX12_whyNotTake_34 rfl (lv_at hl 1 rfl) ?_
        refine ro_calli (va_runV (As := [.int w]) (rest := []) ⟨hx, hb, hml, hown, hts⟩ (s_X12_holds l D H.size o a t i q c d w hI (show 0 ≤ w.toInt ∧ w.toInt ≤ 29 from by omega)) (cwV 1 hts gm_X12_whyNotTake_X12_holds rfl rfl rfl (by decide +kernel) ⟨Nat.le_of_ble_eq_true rfl, Nat.le_of_ble_eq_true rfl⟩) (pA_V hK hP (ci := 12) (q0 := 0) rfl rfl) rfl rfl hl.1 rfl (lv_room (Nat.le_of_ble_eq_true rfl)) dX12_whyNotTake_35 ⟨Nat.le_of_ble_eq_true rfl, Nat.le_of_ble_eq_true rfl⟩) hS hA hP (fun r6 u6 H locs hw6 hP hS => ?_)
        have hw6 : ((0 ≤ r6.toInt ∧ r6.toInt ≤ 1) ∧ (Im (r6.toInt = 1) ((c 23 w.toNatClampNeg).toInt = 2 ∧ (c 24 w.toNatClampNeg).toInt = (i 22).toInt))) := hw6
        obtain ⟨hw6, hr6_0⟩ := hw6
        have hr6_0 : Im (r6.toInt = 1) ((c 23 w.toNatClampNeg).toInt = 2 ∧ (c 24 w.toNatClampNeg).toInt = (i 22).toInt) := hr6_0
        refine lv_if_eq (tgt := 44) hx hb dX12_whyNotTake_38 (by decide +kernel) (fun c7 => ?_) (fun c7 => ?_)
        · have f7 := (ti_eq (a := r6.toInt) (b := 0) rfl (by decide +kernel)).mp c7
          refine lv_aload_n hx hb dX12_whyNotTake_44 rfl (lv_at hl 0 rfl) ?_
          refine lv_iload_n hx hb dX12_whyNotTake_45 rfl (lv_at hl 1 rfl) ?_
          refine ro_calli (va_runV (As := [.int w]) (rest := []) ⟨hx, hb, hml, hown, hts⟩ (s_X12_isGoods l D H.size o a t i q c d w hI (show 0 ≤ w.toInt ∧ w.toInt ≤ 29 from by omega)) (cwV 1 hts gm_X12_whyNotTake_X12_isGoods rfl rfl rfl (by decide +kernel) ⟨Nat.le_of_ble_eq_true rfl, Nat.le_of_ble_eq_true rfl⟩) (pA_V hK hP (ci := 12) (q0 := 0) rfl rfl) rfl rfl hl.1 rfl (lv_room (Nat.le_of_ble_eq_true rfl)) dX12_whyNotTake_46 ⟨Nat.le_of_ble_eq_true rfl, Nat.le_of_ble_eq_true rfl⟩) hS hA hP (fun r8 u8 H locs hw8 hP hS => ?_)
          have hw8 : ((0 ≤ r8.toInt ∧ r8.toInt ≤ 1) ∧ (Im (r8.toInt = 1) (Kd (c 3) (c 6) w.toInt 1))) := hw8
          obtain ⟨hw8, hr8_0⟩ := hw8
          have hr8_0 : Im (r8.toInt = 1) (Kd (c 3) (c 6) w.toInt 1) := hr8_0
          refine lv_if_eq (tgt := 72) hx hb dX12_whyNotTake_49 (by decide +kernel) (fun c9 => ?_) (fun c9 => ?_)
          · have f9 := (ti_eq (a := r8.toInt) (b := 0) rfl (by decide +kernel)).mp c9
            refine lv_bipush (v := 7) hx hb dX12_whyNotTake_72 (by decide +kernel) ?_
            exact rw_iret (i, q, c, d) hx hb hr hlocks hS (hK.sub (tys' := []) [] rfl) hP hD dX12_whyNotTake_74 ⟨⟨(show 0 ≤ (7 : Int32).toInt ∧ (7 : Int32).toInt ≤ 10 from by decide +kernel), (show Im ((7 : Int32).toInt = 0) (¬ w.toInt = (i 22).toInt ∧ ¬ Ch (nF (i 5).toInt (c 23) (c 24)) (nF (i 5).toInt (c 23) (c 24) (i 22).toInt) w.toInt ∧ Kd (c 3) (c 6) w.toInt 1) from fun h9 => absurd h9 (by decide +kernel))⟩, hI, fr_w hfi (by decide +kernel), fr_w hfc (by decide +kernel)⟩
          · have f9 := mt (ti_eq (a := r8.toInt) (b := 0) rfl (by decide +kernel)).mpr c9
            have hGd := hr8_0
            refine lv_aload_n hx hb dX12_whyNotTake_52 rfl (lv_at hl 0 rfl) ?_
            refine lv_iload_n hx hb dX12_whyNotTake_53 rfl (lv_at hl 1 rfl) ?_
            refine lv_iconst (v := 3) hx hb dX12_whyNotTake_54 (by decide +kernel) ?_
            refine ro_calli (va_runV (As := [.int w, .int 3]) (rest := []) ⟨hx, hb, hml, hown, hts⟩ (s_X12_saidFlag l D H.size o a t i q c d w 3 hI (show 0 ≤ w.toInt ∧ w.toInt ≤ 29 from by have h91 : (3 : Int32).toInt = 3 := (by decide +kernel); omega) (show 0 ≤ 3 ∧ 3 ≤ 5 from by decide +kernel)) (cwV 2 hts gm_X12_whyNotTake_X12_saidFlag rfl rfl rfl (by decide +kernel) ⟨Nat.le_of_ble_eq_true rfl, Nat.le_of_ble_eq_true rfl⟩) (pA_V hK hP (ci := 12) (q0 := 0) rfl rfl) rfl rfl hl.1 rfl (lv_room (Nat.le_of_ble_eq_true rfl)) dX12_whyNotTake_55 ⟨Nat.le_of_ble_eq_true rfl, Nat.le_of_ble_eq_true rfl⟩) hS hA hP (fun r10 u10 H locs hw10 hP hS => ?_)
            have hw10 : (r10.toInt = -9 ∨ (0 ≤ r10.toInt ∧ r10.toInt ≤ 1)) := hw10
            refine lv_iconst (v := 1) hx hb dX12_whyNotTake_58 (by decide +kernel) ?_
            refine lv_icmp_eq (tgt := 72) hx hb dX12_whyNotTake_59 (by decide +kernel) (fun c11 => ?_) (fun c11 => ?_)
            · have f11 := (ti_eq (a := r10.toInt) (b := 1) rfl (by decide +kernel)).mp c11
              refine lv_bipush (v := 7) hx hb dX12_whyNotTake_72 (by decide +kernel) ?_
              exact rw_iret (i, q, c, d) hx hb hr hlocks hS (hK.sub (tys' := []) [] rfl) hP hD dX12_whyNotTake_74 ⟨⟨(show 0 ≤ (7 : Int32).toInt ∧ (7 : Int32).toInt ≤ 10 from by decide +kernel), (show Im ((7 : Int32).toInt = 0) (¬ w.toInt = (i 22).toInt ∧ ¬ Ch (nF (i 5).toInt (c 23) (c 24)) (nF (i 5).toInt (c 23) (c 24) (i 22).toInt) w.toInt ∧ Kd (c 3) (c 6) w.toInt 1) from fun h9 => absurd h9 (by decide +kernel))⟩, hI, fr_w hfi (by decide +kernel), fr_w hfc (by decide +kernel)⟩
            · have f11 := mt (ti_eq (a := r10.toInt) (b := 1) rfl (by decide +kernel)).mpr c11
              refine lv_aload_n hx hb dX12_whyNotTake_62 rfl (lv_at hl 0 rfl) ?_
              refine mget_23 hx hb hts (fun _ h => List.mem_cons_of_mem _ (List.mem_append_right _ h)) hown hK hP (hts (.fieldLink RX12 50 "TalePlayModel" "nForm" "[I") (List.mem_cons_of_mem _ (List.mem_append_left _ (List.mem_append_left _ (List.mem_of_getElem? (i := 7) rfl))))) dX12_whyNotTake_63 ?_
              refine lv_iload_n hx hb dX12_whyNotTake_66 rfl (lv_at hl 1 rfl) ?_
              refine mld_23 hx hb hK hP (vp_in_iff.mpr (by have h9 : w.toInt = w.toInt := rfl; omega)) dX12_whyNotTake_67 (fun x12 ex12 => ?_)
              have rx12 : x12.toInt = -9 ∨ (0 ≤ x12.toInt ∧ x12.toInt ≤ 4) := by rw [ex12]; exact hI.2 23 _
              refine lv_iconst (v := 4) hx hb dX12_whyNotTake_68 (by decide +kernel) ?_
              refine lv_icmp_ne (tgt := 75) hx hb dX12_whyNotTake_69 (by decide +kernel) (fun c13 => ?_) (fun c13 => ?_)
              · have f13 := mt (ti_eq (a := x12.toInt) (b := 4) rfl (by decide +kernel)).mpr c13
                refine lv_aload_n hx hb dX12_whyNotTake_75 rfl (lv_at hl 0 rfl) ?_
                refine mget_44 hx hb hts (fun _ h => List.mem_cons_of_mem _ (List.mem_append_right _ h)) hown hK hP (hts (.fieldLink RX12 89 "TalePlayModel" "reached" "[Z") (List.mem_cons_of_mem _ (List.mem_append_left _ (List.mem_append_right _ (List.mem_append_right _ (List.mem_append_left _ (List.mem_of_getElem? (i := 10) rfl))))))) dX12_whyNotTake_76 ?_
                refine lv_iload_n hx hb dX12_whyNotTake_79 rfl (lv_at hl 1 rfl) ?_
                refine mld_44 hx hb hK hP (vp_in_iff.mpr (by have h9 : w.toInt = w.toInt := rfl; omega)) dX12_whyNotTake_80 (fun x14 ex14 => ?_)
                have rx14 : 0 ≤ x14.toInt ∧ x14.toInt ≤ 1 := by rw [ex14]; exact hI.2 44 _
                refine lv_if_ne (tgt := 87) hx hb dX12_whyNotTake_81 (by decide +kernel) (fun c15 => ?_) (fun c15 => ?_)
                · have f15 := mt (ti_eq (a := x14.toInt) (b := 0) rfl (by decide +kernel)).mpr c15
                  refine lv_iload_n hx hb dX12_whyNotTake_87 rfl (lv_at hl 1 rfl) ?_
                  refine lv_istore_n (lv' := [(2, .int w), (0, .ref o), (1, .int w)]) hx hb dX12_whyNotTake_88 rfl hl (by decide +kernel) rfl (fun ls hl => ?_)
                  have lp16 : ∀ (fu : Nat) (y16_2 : Int32), (0 ≤ y16_2.toInt ∧ y16_2.toInt ≤ 29) → (y16_2.toInt < (i 5).toInt) → rk y16_2.toInt < fu → ∀ (H : Heap) (locs : List Loc) (ls : Array Slot), va_P D vwCl (mW o a t i q c d) H → va_D A (mW o a t i q c d) → va_S A s.heap H locs → lv_has ls 4 [(2, .int y16_2), (0, .ref o), (1, .int w)] → W p l e (headSpec wm_X12_whyNotTake ({ frames := 3, cells := 0, slots := 0, locals := 70 })).room s m ([.ref o, .int w] : List Value).toArray below meth cd H locs 0 0 (MQ below (va_Qi (fun (r : Int32) (u : MS) => ((0 ≤ r.toInt ∧ r.toInt ≤ 10) ∧ (Im (r.toInt = 0) (¬ w.toInt = (i 22).toInt ∧ ¬ Ch (nF (i 5).toInt (c 23) (c 24)) (nF (i 5).toInt (c 23) (c 24) (i 22).toInt) w.toInt ∧ Kd (c 3) (c 6) w.toInt 1))) ∧ mInv u.1 u.2.2.1 ∧ (∀ k, k ∉ ([36] : List Nat) → u.1 k = i k) ∧ (∀ k, k ∉ ([38, 39] : List Nat) → u.2.2.1 k = c k)) (oC D A (fun u : MS => mW o a t u.1 u.2.1 u.2.2.1 u.2.2.2) (fun _ => [])) A) ([.ref o, .int w] : List Value).toArray s 0 0 A) (F0 m 89 ls []) := by
                    intro fu
                    induction fu with
                    | zero => intro y16_2 hy16_2 hz16_0 hm; exact absurd hm (Nat.not_lt_zero _)
                    | succ fu ih =>
                      intro y16_2 hy16_2 hz16_0 hm H locs ls hP hD hS hl
                      have ih16 := ih
                      refine lv_aload_n hx hb dX12_whyNotTake_89 rfl (lv_at hl 1 rfl) ?_
                      refine mget_23 hx hb hts (fun _ h => List.mem_cons_of_mem _ (List.mem_append_right _ h)) hown hK hP (hts (.fieldLink RX12 50 "TalePlayModel" "nForm" "[I") (List.mem_cons_of_mem _ (List.mem_append_left _ (List.mem_append_left _ (List.mem_of_getElem? (i := 7) rfl))))) dX12_whyNotTake_90 ?_
                      refine lv_iload_n hx hb dX12_whyNotTake_93 rfl (lv_at hl 0 rfl) ?_
                      refine mld_23 hx hb hK hP (vp_in_iff.mpr (by have h9 : y16_2.toInt = y16_2.toInt := rfl; omega)) dX12_whyNotTake_94 (fun x17 ex17 => ?_)
                      have rx17 : x17.toInt = -9 ∨ (0 ≤ x17.toInt ∧ x17.toInt ≤ 4) := by rw [ex17]; exact hI.2 23 _
                      refine lv_bipush (v := (-9)) hx hb dX12_whyNotTake_95 (by decide +kernel) ?_
                      refine lv_icmp_eq (tgt := 140) hx hb dX12_whyNotTake_97 (by decide +kernel) (fun c18 => ?_) (fun c18 => ?_)
                      · have f18 := (ti_eq (a := x17.toInt) (b := (-9)) rfl (by decide +kernel)).mp c18
                        refine lv_aload_n hx hb dX12_whyNotTake_140 rfl (lv_at hl 1 rfl) ?_
                        refine lv_iload_n hx hb dX12_whyNotTake_141 rfl (lv_at hl 2 rfl) ?_
                        have rb8_i : 0 ≤ (i 8).toInt ∧ (i 8).toInt ≤ 200 := hI.1 8
                        have rb33_i : 0 ≤ (i 33).toInt ∧ (i 33).toInt ≤ 1 := hI.1 33
                        refine al_calli (va_runV (As := [.int w]) (rest := []) ⟨hx, hb, hml, hown, hts⟩ (s_X12_bulkOf_0 l D H.size o a t i q c d w hI (show 0 ≤ w.toInt ∧ w.toInt ≤ 29 from by omega) hs_G (show ((i 33) : Int32).toInt = 0 from by omega)) (cwV 1 hts gm_X12_whyNotTake_X12_bulkOf rfl rfl rfl (by decide +kernel) ⟨Nat.le_of_ble_eq_true rfl, Nat.le_of_ble_eq_true rfl⟩) (pB_V hK hP hD (ci := 12) (q0 := 0) rfl rfl) rfl rfl hl.1 rfl (lv_room (Nat.le_of_ble_eq_true rfl)) dX12_whyNotTake_142 ⟨Nat.le_of_ble_eq_true rfl, Nat.le_of_ble_eq_true rfl⟩) hS hA hP hD (fun r19 u19 H locs hw19 hP hD hS => ?_)
                        obtain ⟨i19, q19, c19, d19⟩ := u19
                        have hw19 : True ∧ mInv i19 c19 ∧ (∀ k, k ∉ ([36] : List Nat) → i19 k = i k) ∧ (∀ k, k ∉ ([38, 39] : List Nat) → c19 k = c k) := hw19
                        obtain ⟨hw19, hI, hei19, hec19⟩ := hw19
                        have hfi : ∀ k, k ∉ ([36] : List Nat) → i19 k = i k := fr_z hfi hei19 (by decide +kernel) (by decide +kernel)
                        have hfc : ∀ k, k ∉ ([38, 39] : List Nat) → c19 k = c k := fr_z hfc hec19 (by decide +kernel) (by decide +kernel)
                        have hP : va_P D vwCl (mW o a t i19 q19 c19 d19) H := hP
                        have hD : va_D A (mW o a t i19 q19 c19 d19) := hD
                        refine lv_istore_n (lv' := [(2, .int r19), (0, .ref o), (1, .int w)]) hx hb dX12_whyNotTake_145 rfl hl (by decide +kernel) rfl (fun ls hl => ?_)
                        refine lv_iconst (v := 0) hx hb dX12_whyNotTake_146 (by decide +kernel) ?_
                        refine lv_istore_n (lv' := [(3, .int 0), (2, .int r19), (0, .ref o), (1, .int w)]) hx hb dX12_whyNotTake_147 rfl hl (by decide +kernel) rfl (fun ls hl => ?_)
                        have lp20 : ∀ (fu : Nat) (i20 : Nat → Int32) (q20 : Int64) (c20 : Nat → Nat → Int32) (d20 : Nat → Nat → Int64) (y20_3 : Int32) (y20_2 : Int32), mInv i20 c20 → (∀ k, k ∉ ([36] : List Nat) → i20 k = i k) → (∀ k, k ∉ ([38, 39] : List Nat) → c20 k = c k) → (0 ≤ y20_3.toInt ∧ y20_3.toInt ≤ 30) → (30 - y20_3.toInt).toNat < fu → ∀ (H : Heap) (locs : List Loc) (ls : Array Slot), va_P D vwCl (mW o a t i20 q20 c20 d20) H → va_D A (mW o a t i20 q20 c20 d20) → va_S A s.heap H locs → lv_has ls 4 [(3, .int y20_3), (2, .int y20_2), (0, .ref o), (1, .int w)] → W p l e (headSpec wm_X12_whyNotTake ({ frames := 3, cells := 0, slots := 0, locals := 70 })).room s m ([.ref o, .int w] : List Value).toArray below meth cd H locs 0 0 (MQ below (va_Qi (fun (r : Int32) (u : MS) => ((0 ≤ r.toInt ∧ r.toInt ≤ 10) ∧ (Im (r.toInt = 0) (¬ w.toInt = (i 22).toInt ∧ ¬ Ch (nF (i 5).toInt (c 23) (c 24)) (nF (i 5).toInt (c 23) (c 24) (i 22).toInt) w.toInt ∧ Kd (c 3) (c 6) w.toInt 1))) ∧ mInv u.1 u.2.2.1 ∧ (∀ k, k ∉ ([36] : List Nat) → u.1 k = i k) ∧ (∀ k, k ∉ ([38, 39] : List Nat) → u.2.2.1 k = c k)) (oC D A (fun u : MS => mW o a t u.1 u.2.1 u.2.2.1 u.2.2.2) (fun _ => [])) A) ([.ref o, .int w] : List Value).toArray s 0 0 A) (F0 m 148 ls []) := by
                          intro fu
                          induction fu with
                          | zero => intro i20 q20 c20 d20 y20_3 y20_2 hI hfi hfc hy20_3 hm; exact absurd hm (Nat.not_lt_zero _)
                          | succ fu ih =>
                            intro i20 q20 c20 d20 y20_3 y20_2 hI hfi hfc hy20_3 hm H locs ls hP hD hS hl
                            have ih20 := ih
                            refine lv_iload_n hx hb dX12_whyNotTake_148 rfl (lv_at hl 0 rfl) ?_
                            refine lv_aload_n hx hb dX12_whyNotTake_149 rfl (lv_at hl 2 rfl) ?_
                            refine mget_5 (v := (i20 5)) rfl hx hb hts (fun _ h => List.mem_cons_of_mem _ (List.mem_append_right _ h)) hown hK hP (hts (.fieldLink RX12 177 "TalePlayModel" "objects" "I") (List.mem_cons_of_mem _ (List.mem_append_left _ (List.mem_append_right _ (List.mem_append_right _ (List.mem_append_right _ (List.mem_append_left _ (List.mem_of_getElem? (i := 13) rfl)))))))) dX12_whyNotTake_150 ?_
                            have rb5_i20 : 0 ≤ (i20 5).toInt ∧ (i20 5).toInt ≤ 30 := hI.1 5
                            have re5_i20 : (i20 5).toInt = (i 5).toInt := congrArg Int32.toInt (hfi 5 (by decide +kernel))
                            refine lv_icmp_ge (tgt := 182) hx hb dX12_whyNotTake_153 (by decide +kernel) (fun c21 => ?_) (fun c21 => ?_)
                            · have f21 := (ti_le (a := (i20 5).toInt) (b := y20_3.toInt) rfl rfl).mp c21
                              refine lv_iload_n hx hb dX12_whyNotTake_182 rfl (lv_at hl 1 rfl) ?_
                              refine lv_bipush (v := 100) hx hb dX12_whyNotTake_183 (by decide +kernel) ?_
                              refine lv_icmp_le (tgt := 193) hx hb dX12_whyNotTake_185 (by decide +kernel) (fun c22 => ?_) (fun c22 => ?_)
                              · have f22 := (ti_le (a := y20_2.toInt) (b := 100) rfl (by decide +kernel)).mp c22
                                refine lv_iconst (v := 0) hx hb dX12_whyNotTake_193 (by decide +kernel) ?_
                                exact rw_iret (i20, q20, c20, d20) hx hb hr hlocks hS (hK.sub (tys' := []) [] rfl) hP hD dX12_whyNotTake_194 ⟨⟨(show 0 ≤ (0 : Int32).toInt ∧ (0 : Int32).toInt ≤ 10 from by decide +kernel), (show Im ((0 : Int32).toInt = 0) (¬ w.toInt = (i 22).toInt ∧ ¬ Ch (nF (i 5).toInt (c 23) (c 24)) (nF (i 5).toInt (c 23) (c 24) (i 22).toInt) w.toInt ∧ Kd (c 3) (c 6) w.toInt 1) from fun _ => ⟨by omega, hUp (by omega), hGd (by omega)⟩)⟩, hI, fr_w hfi (by decide +kernel), fr_w hfc (by decide +kernel)⟩
                              · have f22 := mt (ti_le (a := y20_2.toInt) (b := 100) rfl (by decide +kernel)).mpr c22
                                refine lv_bipush (v := 10) hx hb dX12_whyNotTake_188 (by decide +kernel) ?_
                                refine lv_goto (tgt := 194) hx hb dX12_whyNotTake_190 (by decide +kernel) ?_
                                exact rw_iret (i20, q20, c20, d20) hx hb hr hlocks hS (hK.sub (tys' := []) [] rfl) hP hD dX12_whyNotTake_194 ⟨⟨(show 0 ≤ (10 : Int32).toInt ∧ (10 : Int32).toInt ≤ 10 from by decide +kernel), (show Im ((10 : Int32).toInt = 0) (¬ w.toInt = (i 22).toInt ∧ ¬ Ch (nF (i 5).toInt (c 23) (c 24)) (nF (i 5).toInt (c 23) (c 24) (i 22).toInt) w.toInt ∧ Kd (c 3) (c 6) w.toInt 1) from fun h9 => absurd h9 (by decide +kernel))⟩, hI, fr_w hfi (by decide +kernel), fr_w hfc (by decide +kernel)⟩
                            · have f21 := mt (ti_le (a := (i20 5).toInt) (b := y20_3.toInt) rfl rfl).mpr c21
                              refine lv_iload_n hx hb dX12_whyNotTake_156 rfl (lv_at hl 1 rfl) ?_
                              refine lv_aload_n hx hb dX12_whyNotTake_157 rfl (lv_at hl 2 rfl) ?_
                              refine lv_iload_n hx hb dX12_whyNotTake_158 rfl (lv_at hl 0 rfl) ?_
                              have rb22_i20 : (i20 22).toInt = -9 ∨ (0 ≤ (i20 22).toInt ∧ (i20 22).toInt ≤ 29) := hI.1 22
                              have re22_i20 : (i20 22).toInt = (i 22).toInt := congrArg Int32.toInt (hfi 22 (by decide +kernel))
                              refine ro_calli (va_runV (As := [.int y20_3]) (rest := [.int y20_2]) ⟨hx, hb, hml, hown, hts⟩ (s_X12_holds l D H.size o a t i20 q20 c20 d20 y20_3 hI (show 0 ≤ y20_3.toInt ∧ y20_3.toInt ≤ 29 from by omega)) (cwV 1 hts gm_X12_whyNotTake_X12_holds rfl rfl rfl (by decide +kernel) ⟨Nat.le_of_ble_eq_true rfl, Nat.le_of_ble_eq_true rfl⟩) (pA_V hK hP (ci := 12) (q0 := 0) rfl rfl) rfl rfl hl.1 rfl (lv_room (Nat.le_of_ble_eq_true rfl)) dX12_whyNotTake_159 ⟨Nat.le_of_ble_eq_true rfl, Nat.le_of_ble_eq_true rfl⟩) hS hA hP (fun r23 u23 H locs hw23 hP hS => ?_)
                              have hw23 : ((0 ≤ r23.toInt ∧ r23.toInt ≤ 1) ∧ (Im (r23.toInt = 1) ((c20 23 y20_3.toNatClampNeg).toInt = 2 ∧ (c20 24 y20_3.toNatClampNeg).toInt = (i20 22).toInt))) := hw23
                              obtain ⟨hw23, hr23_0⟩ := hw23
                              have hr23_0 : Im (r23.toInt = 1) ((c 23 y20_3.toNatClampNeg).toInt = 2 ∧ (c 24 y20_3.toNatClampNeg).toInt = (i 22).toInt) := by have h9 := hr23_0; rw [show c20 23 = c 23 from hfc 23 (by decide +kernel), show c20 24 = c 24 from hfc 24 (by decide +kernel), show i20 22 = i 22 from hfi 22 (by decide +kernel)] at h9; exact h9
                              have jn24 : ∀ (i24 : Nat → Int32) (q24 : Int64) (c24 : Nat → Nat → Int32) (d24 : Nat → Nat → Int64) (z24_0 : Int32), mInv i24 c24 → (∀ k, k ∉ ([36] : List Nat) → i24 k = i k) → (∀ k, k ∉ ([38, 39] : List Nat) → c24 k = c k) → ∀ (H : Heap) (locs : List Loc) (ls : Array Slot), va_P D vwCl (mW o a t i24 q24 c24 d24) H → va_D A (mW o a t i24 q24 c24 d24) → va_S A s.heap H locs → lv_has ls 4 [(3, .int y20_3), (2, .int y20_2), (0, .ref o), (1, .int w)] → W p l e (headSpec wm_X12_whyNotTake ({ frames := 3, cells := 0, slots := 0, locals := 70 })).room s m ([.ref o, .int w] : List Value).toArray below meth cd H locs 0 0 (MQ below (va_Qi (fun (r : Int32) (u : MS) => ((0 ≤ r.toInt ∧ r.toInt ≤ 10) ∧ (Im (r.toInt = 0) (¬ w.toInt = (i 22).toInt ∧ ¬ Ch (nF (i 5).toInt (c 23) (c 24)) (nF (i 5).toInt (c 23) (c 24) (i 22).toInt) w.toInt ∧ Kd (c 3) (c 6) w.toInt 1))) ∧ mInv u.1 u.2.2.1 ∧ (∀ k, k ∉ ([36] : List Nat) → u.1 k = i k) ∧ (∀ k, k ∉ ([38, 39] : List Nat) → u.2.2.1 k = c k)) (oC D A (fun u : MS => mW o a t u.1 u.2.1 u.2.2.1 u.2.2.2) (fun _ => [])) A) ([.ref o, .int w] : List Value).toArray s 0 0 A) (F0 m 174 ls [.int z24_0, .int y20_2]) := by
                                intro i24 q24 c24 d24 z24_0 hI hfi hfc H locs ls hP hD hS hl
                                refine lv_iadd hx hb dX12_whyNotTake_174 ?_
                                refine lv_topi (fun x25 ex25 => ?_)
                                refine lv_istore_n (lv' := [(2, .int x25), (3, .int y20_3), (0, .ref o), (1, .int w)]) hx hb dX12_whyNotTake_175 rfl hl (by decide +kernel) rfl (fun ls hl => ?_)
                                obtain ⟨x26, ex26⟩ : ∃ y : Int32, y = y20_3 + 1 := ⟨_, rfl⟩
                                have tx26 := ti_add (a := y20_3.toInt) (b := 1) ex26 rfl (by decide +kernel) (by omega) (by omega)
                                refine lv_iinc (v := x26) (lv' := [(3, .int x26), (2, .int x25), (0, .ref o), (1, .int w)]) hx hb dX12_whyNotTake_176 hl (k := 1) rfl (by rw [ex26]; rfl) (by decide +kernel) rfl (fun ls hl => ?_)
                                refine lv_goto (tgt := 148) hx hb dX12_whyNotTake_179 (by decide +kernel) ?_
                                exact ih20 i24 q24 c24 d24 x26 x25 hI (fr_w hfi (by decide +kernel)) (fr_w hfc (by decide +kernel)) (show 0 ≤ x26.toInt ∧ x26.toInt ≤ 30 from by have h50 : x26.toInt = (y20_3.toInt + 1) := tx26; omega) (by have h50 : x26.toInt = (y20_3.toInt + 1) := tx26; omega) _ _ _ hP hD hS (lv_sub hl [0, 1, 2, 3] rfl)
                              refine lv_if_eq (tgt := 173) hx hb dX12_whyNotTake_162 (by decide +kernel) (fun c27 => ?_) (fun c27 => ?_)
                              · have f27 := (ti_eq (a := r23.toInt) (b := 0) rfl (by decide +kernel)).mp c27
                                refine lv_iconst (v := 0) hx hb dX12_whyNotTake_173 (by decide +kernel) ?_
                                exact jn24 i20 q20 c20 d20  (0 : Int32) hI (fr_w hfi (by decide +kernel)) (fr_w hfc (by decide +kernel)) _ _ _ hP hD hS (lv_sub hl [0, 1, 2, 3] rfl)
                              · have f27 := mt (ti_eq (a := r23.toInt) (b := 0) rfl (by decide +kernel)).mpr c27
                                refine lv_aload_n hx hb dX12_whyNotTake_165 rfl (lv_at hl 2 rfl) ?_
                                refine lv_iload_n hx hb dX12_whyNotTake_166 rfl (lv_at hl 0 rfl) ?_
                                have rb8_i20 : 0 ≤ (i20 8).toInt ∧ (i20 8).toInt ≤ 200 := hI.1 8
                                have re8_i20 : (i20 8).toInt = (i 8).toInt := congrArg Int32.toInt (hfi 8 (by decide +kernel))
                                have rb33_i20 : 0 ≤ (i20 33).toInt ∧ (i20 33).toInt ≤ 1 := hI.1 33
                                have re33_i20 : (i20 33).toInt = (i 33).toInt := congrArg Int32.toInt (hfi 33 (by decide +kernel))
                                refine al_calli (va_runV (As := [.int y20_3]) (rest := [.int y20_2]) ⟨hx, hb, hml, hown, hts⟩ (s_X12_bulkOf_0 l D H.size o a t i20 q20 c20 d20 y20_3 hI (show 0 ≤ y20_3.toInt ∧ y20_3.toInt ≤ 29 from by omega) (by rw [show c20 9 = c 9 from hfc 9 (by decide +kernel), show c20 10 = c 10 from hfc 10 (by decide +kernel), show c20 11 = c 11 from hfc 11 (by decide +kernel), show c20 13 = c 13 from hfc 13 (by decide +kernel), show c20 23 = c 23 from hfc 23 (by decide +kernel), show c20 24 = c 24 from hfc 24 (by decide +kernel), show i20 5 = i 5 from hfi 5 (by decide +kernel), show i20 8 = i 8 from hfi 8 (by decide +kernel), show i20 22 = i 22 from hfi 22 (by decide +kernel)]; exact hs_G) (show ((i20 33) : Int32).toInt = 0 from by omega)) (cwV 1 hts gm_X12_whyNotTake_X12_bulkOf rfl rfl rfl (by decide +kernel) ⟨Nat.le_of_ble_eq_true rfl, Nat.le_of_ble_eq_true rfl⟩) (pB_V hK hP hD (ci := 12) (q0 := 0) rfl rfl) rfl rfl hl.1 rfl (lv_room (Nat.le_of_ble_eq_true rfl)) dX12_whyNotTake_167 ⟨Nat.le_of_ble_eq_true rfl, Nat.le_of_ble_eq_true rfl⟩) hS hA hP hD (fun r28 u28 H locs hw28 hP hD hS => ?_)
                                obtain ⟨i28, q28, c28, d28⟩ := u28
                                have hw28 : True ∧ mInv i28 c28 ∧ (∀ k, k ∉ ([36] : List Nat) → i28 k = i20 k) ∧ (∀ k, k ∉ ([38, 39] : List Nat) → c28 k = c20 k) := hw28
                                obtain ⟨hw28, hI, hei28, hec28⟩ := hw28
                                have hfi : ∀ k, k ∉ ([36] : List Nat) → i28 k = i k := fr_z hfi hei28 (by decide +kernel) (by decide +kernel)
                                have hfc : ∀ k, k ∉ ([38, 39] : List Nat) → c28 k = c k := fr_z hfc hec28 (by decide +kernel) (by decide +kernel)
                                have hP : va_P D vwCl (mW o a t i28 q28 c28 d28) H := hP
                                have hD : va_D A (mW o a t i28 q28 c28 d28) := hD
                                refine lv_goto (tgt := 174) hx hb dX12_whyNotTake_170 (by decide +kernel) ?_
                                exact jn24 i28 q28 c28 d28  r28 hI (fr_w hfi (by decide +kernel)) (fr_w hfc (by decide +kernel)) _ _ _ hP hD hS (lv_sub hl [0, 1, 2, 3] rfl)
                        exact lp20 _ i19 q19 c19 d19 (0 : Int32) r19 hI (fr_w hfi (by decide +kernel)) (fr_w hfc (by decide +kernel)) (show 0 ≤ (0 : Int32).toInt ∧ (0 : Int32).toInt ≤ 30 from by decide +kernel) (Nat.lt_succ_self _) _ _ _ hP hD hS (lv_sub hl [0, 1, 2, 3] rfl)
                      · have f18 := mt (ti_eq (a := x17.toInt) (b := (-9)) rfl (by decide +kernel)).mpr c18
                        refine lv_aload_n hx hb dX12_whyNotTake_100 rfl (lv_at hl 1 rfl) ?_
                        refine lv_aload_n hx hb dX12_whyNotTake_101 rfl (lv_at hl 1 rfl) ?_
                        refine mget_24 hx hb hts (fun _ h => List.mem_cons_of_mem _ (List.mem_append_right _ h)) hown hK hP (hts (.fieldLink RX12 53 "TalePlayModel" "nAt" "[I") (List.mem_cons_of_mem _ (List.mem_append_left _ (List.mem_append_left _ (List.mem_of_getElem? (i := 8) rfl))))) dX12_whyNotTake_102 ?_
                        refine lv_iload_n hx hb dX12_whyNotTake_105 rfl (lv_at hl 0 rfl) ?_
                        refine mld_24 hx hb hK hP (vp_in_iff.mpr (by have h9 : y16_2.toInt = y16_2.toInt := rfl; omega)) dX12_whyNotTake_106 (fun x29 ex29 => ?_)
                        have rx29 : x29.toInt = -9 ∨ (0 ≤ x29.toInt ∧ x29.toInt ≤ 29) := by rw [ex29]; exact hI.2 24 _
                        obtain ⟨hnb, haxb, hbxb⟩ := T_st hT2 (y := y16_2) (by omega) ex17 (by omega) ex29
                        have hkb := hrk.2 y16_2.toInt (by omega) (by omega) (by rw [hnb]; omega)
                        rw [hnb] at hkb
                        refine lv_iconst (v := 5) hx hb dX12_whyNotTake_107 (by decide +kernel) ?_
                        refine ro_calli (va_runV (As := [.int x29, .int 5]) (rest := []) ⟨hx, hb, hml, hown, hts⟩ (s_X12_isOf l D H.size o a t i q c d x29 5 hI (show 0 ≤ x29.toInt ∧ x29.toInt ≤ 29 from by have h91 : (5 : Int32).toInt = 5 := (by decide +kernel); omega) (show 0 ≤ 5 from by decide +kernel)) (cwV 2 hts gm_X12_whyNotTake_X12_isOf rfl rfl rfl (by decide +kernel) ⟨Nat.le_of_ble_eq_true rfl, Nat.le_of_ble_eq_true rfl⟩) (pA_V hK hP (ci := 12) (q0 := 0) rfl rfl) rfl rfl hl.1 rfl (lv_room (Nat.le_of_ble_eq_true rfl)) dX12_whyNotTake_108 ⟨Nat.le_of_ble_eq_true rfl, Nat.le_of_ble_eq_true rfl⟩) hS hA hP (fun r30 u30 H locs hw30 hP hS => ?_)
                        have hw30 : ((0 ≤ r30.toInt ∧ r30.toInt ≤ 1) ∧ (Sm r30 (Kd (c 3) (c 6) x29.toInt 5))) := hw30
                        obtain ⟨hw30, hr30_0⟩ := hw30
                        have hr30_0 : Sm r30 (Kd (c 3) (c 6) x29.toInt 5) := hr30_0
                        have jn31 : ∀ (H : Heap) (locs : List Loc) (ls : Array Slot), va_P D vwCl (mW o a t i q c d) H → va_D A (mW o a t i q c d) → va_S A s.heap H locs → lv_has ls 4 [(2, .int y16_2), (0, .ref o), (1, .int w)] → W p l e (headSpec wm_X12_whyNotTake ({ frames := 3, cells := 0, slots := 0, locals := 70 })).room s m ([.ref o, .int w] : List Value).toArray below meth cd H locs 0 0 (MQ below (va_Qi (fun (r : Int32) (u : MS) => ((0 ≤ r.toInt ∧ r.toInt ≤ 10) ∧ (Im (r.toInt = 0) (¬ w.toInt = (i 22).toInt ∧ ¬ Ch (nF (i 5).toInt (c 23) (c 24)) (nF (i 5).toInt (c 23) (c 24) (i 22).toInt) w.toInt ∧ Kd (c 3) (c 6) w.toInt 1))) ∧ mInv u.1 u.2.2.1 ∧ (∀ k, k ∉ ([36] : List Nat) → u.1 k = i k) ∧ (∀ k, k ∉ ([38, 39] : List Nat) → u.2.2.1 k = c k)) (oC D A (fun u : MS => mW o a t u.1 u.2.1 u.2.2.1 u.2.2.2) (fun _ => [])) A) ([.ref o, .int w] : List Value).toArray s 0 0 A) (F0 m 130 ls []) := by
                          intro H locs ls hP hD hS hl
                          refine lv_aload_n hx hb dX12_whyNotTake_130 rfl (lv_at hl 1 rfl) ?_
                          refine mget_24 hx hb hts (fun _ h => List.mem_cons_of_mem _ (List.mem_append_right _ h)) hown hK hP (hts (.fieldLink RX12 53 "TalePlayModel" "nAt" "[I") (List.mem_cons_of_mem _ (List.mem_append_left _ (List.mem_append_left _ (List.mem_of_getElem? (i := 8) rfl))))) dX12_whyNotTake_131 ?_
                          refine lv_iload_n hx hb dX12_whyNotTake_134 rfl (lv_at hl 0 rfl) ?_
                          refine mld_24 hx hb hK hP (vp_in_iff.mpr (by have h9 : y16_2.toInt = y16_2.toInt := rfl; omega)) dX12_whyNotTake_135 (fun x32 ex32 => ?_)
                          have rx32 : x32.toInt = -9 ∨ (0 ≤ x32.toInt ∧ x32.toInt ≤ 29) := by rw [ex32]; exact hI.2 24 _
                          obtain ⟨hn, hax, hbx⟩ := T_st hT2 (y := y16_2) (by omega) ex17 (by omega) ex32
                          have hk := hrk.2 y16_2.toInt (by omega) (by omega) (by rw [hn]; omega)
                          rw [hn] at hk
                          refine lv_istore_n (lv' := [(2, .int x32), (0, .ref o), (1, .int w)]) hx hb dX12_whyNotTake_136 rfl hl (by decide +kernel) rfl (fun ls hl => ?_)
                          refine lv_goto (tgt := 89) hx hb dX12_whyNotTake_137 (by decide +kernel) ?_
                          exact ih16 x32 (show 0 ≤ x32.toInt ∧ x32.toInt ≤ 29 from by omega) (show x32.toInt < (i 5).toInt from by omega) (by omega) _ _ _ hP hD hS (lv_sub hl [0, 1, 2] rfl)
                        refine lv_if_eq (tgt := 130) hx hb dX12_whyNotTake_111 (by decide +kernel) (fun c33 => ?_) (fun c33 => ?_)
                        · have f33 := (ti_eq (a := r30.toInt) (b := 0) rfl (by decide +kernel)).mp c33
                          have s33 := sm_f hr30_0 c33
                          exact jn31    _ _ _ hP hD hS (lv_sub hl [0, 1, 2] rfl)
                        · have f33 := mt (ti_eq (a := r30.toInt) (b := 0) rfl (by decide +kernel)).mpr c33
                          have s33 := sm_t hr30_0 c33
                          refine lv_aload_n hx hb dX12_whyNotTake_114 rfl (lv_at hl 1 rfl) ?_
                          refine mget_24 hx hb hts (fun _ h => List.mem_cons_of_mem _ (List.mem_append_right _ h)) hown hK hP (hts (.fieldLink RX12 53 "TalePlayModel" "nAt" "[I") (List.mem_cons_of_mem _ (List.mem_append_left _ (List.mem_append_left _ (List.mem_of_getElem? (i := 8) rfl))))) dX12_whyNotTake_115 ?_
                          refine lv_iload_n hx hb dX12_whyNotTake_118 rfl (lv_at hl 0 rfl) ?_
                          refine mld_24 hx hb hK hP (vp_in_iff.mpr (by have h9 : y16_2.toInt = y16_2.toInt := rfl; omega)) dX12_whyNotTake_119 (fun x34 ex34 => ?_)
                          have rx34 : x34.toInt = -9 ∨ (0 ≤ x34.toInt ∧ x34.toInt ≤ 29) := by rw [ex34]; exact hI.2 24 _
                          refine lv_aload_n hx hb dX12_whyNotTake_120 rfl (lv_at hl 1 rfl) ?_
                          refine mget_22 (v := (i 22)) rfl hx hb hts (fun _ h => List.mem_cons_of_mem _ (List.mem_append_right _ h)) hown hK hP (hts (.fieldLink RX12 155 "TalePlayModel" "player" "I") (List.mem_cons_of_mem _ (List.mem_append_left _ (List.mem_append_left _ (List.mem_of_getElem? (i := 1) rfl))))) dX12_whyNotTake_121 ?_
                          refine lv_icmp_eq (tgt := 130) hx hb dX12_whyNotTake_124 (by decide +kernel) (fun c35 => ?_) (fun c35 => ?_)
                          · have f35 := (ti_eq (a := x34.toInt) (b := (i 22).toInt) rfl rfl).mp c35
                            exact jn31    _ _ _ hP hD hS (lv_sub hl [0, 1, 2] rfl)
                          · have f35 := mt (ti_eq (a := x34.toInt) (b := (i 22).toInt) rfl rfl).mpr c35
                            refine lv_bipush (v := 9) hx hb dX12_whyNotTake_127 (by decide +kernel) ?_
                            exact rw_iret (i, q, c, d) hx hb hr hlocks hS (hK.sub (tys' := []) [] rfl) hP hD dX12_whyNotTake_129 ⟨⟨(show 0 ≤ (9 : Int32).toInt ∧ (9 : Int32).toInt ≤ 10 from by decide +kernel), (show Im ((9 : Int32).toInt = 0) (¬ w.toInt = (i 22).toInt ∧ ¬ Ch (nF (i 5).toInt (c 23) (c 24)) (nF (i 5).toInt (c 23) (c 24) (i 22).toInt) w.toInt ∧ Kd (c 3) (c 6) w.toInt 1) from fun h9 => absurd h9 (by decide +kernel))⟩, hI, fr_w hfi (by decide +kernel), fr_w hfc (by decide +kernel)⟩
                  exact lp16 _ w (show 0 ≤ w.toInt ∧ w.toInt ≤ 29 from by omega) (show w.toInt < (i 5).toInt from by omega) (Nat.lt_succ_self _) _ _ _ hP hD hS (lv_sub hl [0, 1, 2] rfl)
                · have f15 := (ti_eq (a := x14.toInt) (b := 0) rfl (by decide +kernel)).mp c15
                  refine lv_bipush (v := 8) hx hb dX12_whyNotTake_84 (by decide +kernel) ?_
                  exact rw_iret (i, q, c, d) hx hb hr hlocks hS (hK.sub (tys' := []) [] rfl) hP hD dX12_whyNotTake_86 ⟨⟨(show 0 ≤ (8 : Int32).toInt ∧ (8 : Int32).toInt ≤ 10 from by decide +kernel), (show Im ((8 : Int32).toInt = 0) (¬ w.toInt = (i 22).toInt ∧ ¬ Ch (nF (i 5).toInt (c 23) (c 24)) (nF (i 5).toInt (c 23) (c 24) (i 22).toInt) w.toInt ∧ Kd (c 3) (c 6) w.toInt 1) from fun h9 => absurd h9 (by decide +kernel))⟩, hI, fr_w hfi (by decide +kernel), fr_w hfc (by decide +kernel)⟩
              · have f13 := (ti_eq (a := x12.toInt) (b := 4) rfl (by decide +kernel)).mp c13
                refine lv_bipush (v := 7) hx hb dX12_whyNotTake_72 (by decide +kernel) ?_
                exact rw_iret (i, q, c, d) hx hb hr hlocks hS (hK.sub (tys' := []) [] rfl) hP hD dX12_whyNotTake_74 ⟨⟨(show 0 ≤ (7 : Int32).toInt ∧ (7 : Int32).toInt ≤ 10 from by decide +kernel), (show Im ((7 : Int32).toInt = 0) (¬ w.toInt = (i 22).toInt ∧ ¬ Ch (nF (i 5).toInt (c 23) (c 24)) (nF (i 5).toInt (c 23) (c 24) (i 22).toInt) w.toInt ∧ Kd (c 3) (c 6) w.toInt 1) from fun h9 => absurd h9 (by decide +kernel))⟩, hI, fr_w hfi (by decide +kernel), fr_w hfc (by decide +kernel)⟩
        · have f7 := mt (ti_eq (a := r6.toInt) (b := 0) rfl (by decide +kernel)).mpr c7
          refine lv_bipush (v := 6) hx hb dX12_whyNotTake_41 (by decide +kernel) ?_
          exact rw_iret (i, q, c, d) hx hb hr hlocks hS (hK.sub (tys' := []) [] rfl) hP hD dX12_whyNotTake_43 ⟨⟨(show 0 ≤ (6 : Int32).toInt ∧ (6 : Int32).toInt ≤ 10 from by decide +kernel), (show Im ((6 : Int32).toInt = 0) (¬ w.toInt = (i 22).toInt ∧ ¬ Ch (nF (i 5).toInt (c 23) (c 24)) (nF (i 5).toInt (c 23) (c 24) (i 22).toInt) w.toInt ∧ Kd (c 3) (c 6) w.toInt 1) from fun h9 => absurd h9 (by decide +kernel))⟩, hI, fr_w hfi (by decide +kernel), fr_w hfc (by decide +kernel)⟩
      · have f5 := mt (ti_eq (a := r4.toInt) (b := 0) rfl (by decide +kernel)).mpr c5
        refine lv_iconst (v := 5) hx hb dX12_whyNotTake_31 (by decide +kernel) ?_
        exact rw_iret (i, q, c, d) hx hb hr hlocks hS (hK.sub (tys' := []) [] rfl) hP hD dX12_whyNotTake_32 ⟨⟨(show 0 ≤ (5 : Int32).toInt ∧ (5 : Int32).toInt ≤ 10 from by decide +kernel), (show Im ((5 : Int32).toInt = 0) (¬ w.toInt = (i 22).toInt ∧ ¬ Ch (nF (i 5).toInt (c 23) (c 24)) (nF (i 5).toInt (c 23) (c 24) (i 22).toInt) w.toInt ∧ Kd (c 3) (c 6) w.toInt 1) from fun h9 => absurd h9 (by decide +kernel))⟩, hI, fr_w hfi (by decide +kernel), fr_w hfc (by decide +kernel)⟩
  · have f2 := (ti_eq (a := x1.toInt) (b := 0) rfl (by decide +kernel)).mp c2
    refine lv_iconst (v := 4) hx hb dX12_whyNotTake_9 (by decide +kernel) ?_
    exact rw_iret (i, q, c, d) hx hb hr hlocks hS (hK.sub (tys' := []) [] rfl) hP hD dX12_whyNotTake_10 ⟨⟨(show 0 ≤ (4 : Int32).toInt ∧ (4 : Int32).toInt ≤ 10 from by decide +kernel), (show Im ((4 : Int32).toInt = 0) (¬ w.toInt = (i 22).toInt ∧ ¬ Ch (nF (i 5).toInt (c 23) (c 24)) (nF (i 5).toInt (c 23) (c 24) (i 22).toInt) w.toInt ∧ Kd (c 3) (c 6) w.toInt 1) from fun h9 => absurd h9 (by decide +kernel))⟩, hI, fr_w hfi (by decide +kernel), fr_w hfc (by decide +kernel)⟩

