set_option maxHeartbeats 4000000 in
set_option maxRecDepth 100000 in
theorem s_X12_whyNotGo_t (l : Launch) (D : va_G) (sz : Nat) (o : Nat) (a : Nat → Nat) (t : Nat → ClassId) (i : Nat → Int32) (q : Int64) (c : Nat → Nat → Int32) (d : Nat → Nat → Int64) (d1 : Int32) (hI : mInv i c) (hd1 : 0 ≤ d1.toInt ∧ d1.toInt ≤ 9) (hs_T : TI (i 5).toInt (fun z => Kd (c 3) (c 6) z 0) (i 22).toInt (c 23) (c 24)) (hs_E : CcE (c 3) (c 6) (c 47) (c 48) (c 49) (i 5).toInt) : Met l yX12_whyNotGo wm_X12_whyNotGo ({ frames := 2, cells := 0, slots := 0, locals := 48 }) (va_Pc [.ref o, .int d1] (pB D sz (mW o a t i q c d) (mT t))) (va_Qi (fun (r : Int32) (u : MS) => ((0 ≤ r.toInt ∧ r.toInt ≤ 3) ∧ (Im (r.toInt = 0) (∃ v, LdR (c 3) (c 6) (c 9) (c 10) (c 11) (c 12) (c 13) (i 8).toInt (c 24 (i 22).toInt.toNat).toInt d1.toInt v ∧ ¬ v = -9)) ∧ (∃ ld dr bw im : Int, FeM (c 3) (c 6) (c 9) (c 10) (c 11) (c 12) (c 13) (i 8).toInt (c 24 (i 22).toInt.toNat).toInt d1.toInt ld dr bw im ∧ r.toInt = goV (ByR (zM (c 3) (c 6) (i 5).toInt) (nF (i 5).toInt (c 23) (c 24)) (fMn (i 5).toInt (c 23)) (i 22).toInt) ld dr (bM (c 25)))) ∧ mInv u.1 u.2.2.1 ∧ (∀ k, k ∉ ([16, 17, 18, 19] : List Nat) → u.1 k = i k) ∧ (∀ k, k ∉ ([] : List Nat) → u.2.2.1 k = c k)) (oC D (va_A (mW o a t i q c d) sz) (fun u : MS => mW o a t u.1 u.2.1 u.2.2.1 u.2.2.2) (fun _ => [])) (va_A (mW o a t i q c d) sz)) 0 0 (va_A (mW o a t i q c d) sz) := by
  refine Met.ofW (cc := cX12_whyNotGo) (maxL := 2) (ret := (some .int)) (by decide +kernel) rfl ?_
  intro p e s m args below meth cd s₁ B hml hv
  obtain ⟨rfl, hsz, hP, hK, hD0⟩ := hv
  have hx := B.exec
  have hb := B.bytes
  have hr := B.returns
  have hts := atoms_spec (ws := wm_X12_whyNotGo) B.pre
  have hown : s.vm.findClass RX12 = some m.cls := findClass_of_methodNamed B.named
  have hlocks := B.notSynchronized
  subst hsz
  have hD := hD0.self (sz := s.heap.size)
  generalize hAe : va_A (mW o a t i q c d) s.heap.size = A at hD ⊢
  have hA : ∀ q : Nat, s.heap.size ≤ q → A q := fun q h => by rw [← hAe]; exact Or.inr h
  have hS : va_S A s.heap s.heap [] := va_S.rf
  have hfi : ∀ k, k ∉ ([] : List Nat) → i k = i k := fun _ _ => rfl
  have hfc : ∀ k, k ∉ ([] : List Nat) → c k = c k := fun _ _ => rfl
  have hl := lv_entry ([.ref o, .int d1]) (n := 2) (Nat.le_of_ble_eq_true rfl)
  rw [lg_entry_eq]
  generalize (lg_sl ([.ref o, .int d1]) ++ List.replicate (2 - (lg_sl ([.ref o, .int d1])).length) Slot.unset).toArray = ls at hl ⊢
  have hl : lv_has ls 2 [(0, .ref o), (1, .int d1)] := hl
  have rb5_i : 0 ≤ (i 5).toInt ∧ (i 5).toInt ≤ 30 := hI.1 5
  have rb22_i : (i 22).toInt = -9 ∨ (0 ≤ (i 22).toInt ∧ (i 22).toInt ≤ 29) := hI.1 22
  have hTt := hs_T
  obtain ⟨⟨hp0, hp1, hp2⟩, hT2, hT3, ⟨rk, hrk⟩, rr, hq0, hq1, hq2, hq3⟩ := hTt
  have hsp : Sp (nF (i 5).toInt (c 23) (c 24)) := nF_Sp (by omega) hT2
  have hpl := TI_p hs_T
  have hpa : 0 ≤ (c 24 (i 22).toNatClampNeg).toInt ∧ (c 24 (i 22).toNatClampNeg).toInt < (i 5).toInt := hT2 _ hp0 hp1 hpl
  have hnp : (nF (i 5).toInt (c 23) (c 24)) (i 22).toInt = (c 24 (i 22).toInt.toNat).toInt := by unfold nF; rw [if_pos ⟨hp0, hp1, hpl⟩]
  have hfp : (fMn (i 5).toInt (c 23)) (i 22).toInt = (c 23 (i 22).toInt.toNat).toInt := fMn_i ⟨hp0, hp1⟩
  have hcp := H3_i (hs_E (c 24 (i 22).toInt.toNat).toInt hpa.1 hpa.2)
  refine lv_aload_n hx hb dX12_whyNotGo_0 rfl (lv_at hl 0 rfl) ?_
  refine ro_calli (va_runV (As := []) (rest := []) ⟨hx, hb, hml, hown, hts⟩ (s_X12_isInRoom_t l D s.heap.size o a t i q c d  hI hs_T hs_E) (cwV 0 hts gm_X12_whyNotGo_X12_isInRoom rfl rfl rfl (by decide +kernel) ⟨Nat.le_of_ble_eq_true rfl, Nat.le_of_ble_eq_true rfl⟩) (pA_V hK hP (ci := 12) (q0 := 0) rfl rfl) rfl rfl hl.1 rfl (lv_room (Nat.le_of_ble_eq_true rfl)) dX12_whyNotGo_1 ⟨Nat.le_of_ble_eq_true rfl, Nat.le_of_ble_eq_true rfl⟩) hS hA hP (fun r1 u1 H locs hw1 hP hS => ?_)
  have hw1 : ((0 ≤ r1.toInt ∧ r1.toInt ≤ 1) ∧ (Sm r1 (ByR (zM (c 3) (c 6) (i 5).toInt) (nF (i 5).toInt (c 23) (c 24)) (fMn (i 5).toInt (c 23)) (i 22).toInt))) := hw1
  obtain ⟨hw1, hr1_0⟩ := hw1
  have hr1_0 : Sm r1 (ByR (zM (c 3) (c 6) (i 5).toInt) (nF (i 5).toInt (c 23) (c 24)) (fMn (i 5).toInt (c 23)) (i 22).toInt) := hr1_0
  refine lv_if_ne (tgt := 9) hx hb dX12_whyNotGo_4 (by decide +kernel) (fun c2 => ?_) (fun c2 => ?_)
  · have f2 := mt (ti_eq (a := r1.toInt) (b := 0) rfl (by decide +kernel)).mpr c2
    have s2 := sm_t hr1_0 c2
    refine lv_aload_n hx hb dX12_whyNotGo_9 rfl (lv_at hl 0 rfl) ?_
    refine lv_aload_n hx hb dX12_whyNotGo_10 rfl (lv_at hl 0 rfl) ?_
    refine mget_24 hx hb hts (fun _ h => List.mem_cons_of_mem _ (List.mem_append_right _ h)) hown hK hP (hts (.fieldLink RX12 53 "TalePlayModel" "nAt" "[I") (List.mem_cons_of_mem _ (List.mem_append_left _ (List.mem_append_left _ (List.mem_of_getElem? (i := 8) rfl))))) dX12_whyNotGo_11 ?_
    refine lv_aload_n hx hb dX12_whyNotGo_14 rfl (lv_at hl 0 rfl) ?_
    refine mget_22 (v := (i 22)) rfl hx hb hts (fun _ h => List.mem_cons_of_mem _ (List.mem_append_right _ h)) hown hK hP (hts (.fieldLink RX12 155 "TalePlayModel" "player" "I") (List.mem_cons_of_mem _ (List.mem_append_left _ (List.mem_append_left _ (List.mem_of_getElem? (i := 6) rfl))))) dX12_whyNotGo_15 ?_
    refine mld_24 hx hb hK hP (vp_in_iff.mpr (by have h9 : (i 22).toInt = (i 22).toInt := rfl; omega)) dX12_whyNotGo_18 (fun x3 ex3 => ?_)
    have rx3 : x3.toInt = -9 ∨ (0 ≤ x3.toInt ∧ x3.toInt ≤ 29) := by rw [ex3]; exact hI.2 24 _
    have gx3 : (c 24 ((i 22) : Int32).toNatClampNeg).toInt = x3.toInt := by rw [ex3]
    refine lv_iload_n hx hb dX12_whyNotGo_19 rfl (lv_at hl 1 rfl) ?_
    have rb8_i : 0 ≤ (i 8).toInt ∧ (i 8).toInt ≤ 200 := hI.1 8
    refine al_calli (va_runV (As := [.int x3, .int d1]) (rest := []) ⟨hx, hb, hml, hown, hts⟩ (s_X12_findExit_e l D H.size o a t i q c d x3 d1 hI (show 0 ≤ x3.toInt ∧ x3.toInt ≤ 29 from by omega) (show 0 ≤ d1.toInt ∧ d1.toInt ≤ 9 from by omega)) (cwV 2 hts gm_X12_whyNotGo_X12_findExit rfl rfl rfl (by decide +kernel) ⟨Nat.le_of_ble_eq_true rfl, Nat.le_of_ble_eq_true rfl⟩) (pB_V hK hP hD (ci := 12) (q0 := 0) rfl rfl) rfl rfl hl.1 rfl (lv_room (Nat.le_of_ble_eq_true rfl)) dX12_whyNotGo_20 ⟨Nat.le_of_ble_eq_true rfl, Nat.le_of_ble_eq_true rfl⟩) hS hA hP hD (fun r4 u4 H locs hw4 hP hD hS => ?_)
    obtain ⟨i4, q4, c4, d4⟩ := u4
    have hw4 : (0 ≤ r4.toInt ∧ r4.toInt ≤ 1) ∧ mInv i4 c4 ∧ (∀ k, k ∉ ([16, 17, 18, 19] : List Nat) → i4 k = i k) ∧ (∀ k, k ∉ ([] : List Nat) → c4 k = c k) ∧ (LdR (c 3) (c 6) (c 9) (c 10) (c 11) (c 12) (c 13) (i 8).toInt x3.toInt d1.toInt (i4 16).toInt) ∧ (FeM (c 3) (c 6) (c 9) (c 10) (c 11) (c 12) (c 13) (i 8).toInt x3.toInt d1.toInt (i4 16).toInt (i4 17).toInt (i4 18).toInt (i4 19).toInt) ∧ ((r4.toInt = 1 ∧ ¬ (i4 18).toInt = -9) ∨ (r4.toInt = 0 ∧ (i4 18).toInt = -9)) := hw4
    obtain ⟨hw4, hI, hei4, hec4, hxp4_0, hxp4_1, hxp4_2⟩ := hw4
    have hxp4_0 : LdR (c 3) (c 6) (c 9) (c 10) (c 11) (c 12) (c 13) (i 8).toInt x3.toInt d1.toInt (i4 16).toInt := hxp4_0
    have hxp4_1 : FeM (c 3) (c 6) (c 9) (c 10) (c 11) (c 12) (c 13) (i 8).toInt x3.toInt d1.toInt (i4 16).toInt (i4 17).toInt (i4 18).toInt (i4 19).toInt := hxp4_1
    have hxp4_2 : (r4.toInt = 1 ∧ ¬ (i4 18).toInt = -9) ∨ (r4.toInt = 0 ∧ (i4 18).toInt = -9) := hxp4_2
    have hfi : ∀ k, k ∉ ([16, 17, 18, 19] : List Nat) → i4 k = i k := fr_z hfi hei4 (by decide +kernel) (by decide +kernel)
    have hfc : ∀ k, k ∉ ([] : List Nat) → c4 k = c k := fr_z hfc hec4 (by decide +kernel) (by decide +kernel)
    have hP : va_P D vwCl (mW o a t i4 q4 c4 d4) H := hP
    have hD : va_D A (mW o a t i4 q4 c4 d4) := hD
    refine lv_if_eq (tgt := 35) hx hb dX12_whyNotGo_23 (by decide +kernel) (fun c5 => ?_) (fun c5 => ?_)
    · have f5 := (ti_eq (a := r4.toInt) (b := 0) rfl (by decide +kernel)).mp c5
      refine lv_iconst (v := 2) hx hb dX12_whyNotGo_35 (by decide +kernel) ?_
      exact rw_iret (i4, q4, c4, d4) hx hb hr hlocks hS (hK.sub (tys' := []) [] rfl) hP hD dX12_whyNotGo_36 ⟨⟨(show 0 ≤ (2 : Int32).toInt ∧ (2 : Int32).toInt ≤ 3 from by decide +kernel), (show Im ((2 : Int32).toInt = 0) (∃ v, LdR (c 3) (c 6) (c 9) (c 10) (c 11) (c 12) (c 13) (i 8).toInt (c 24 (i 22).toInt.toNat).toInt d1.toInt v ∧ ¬ v = -9) from fun h9 => absurd h9 (by decide +kernel)), (show ∃ ld dr bw im : Int, FeM (c 3) (c 6) (c 9) (c 10) (c 11) (c 12) (c 13) (i 8).toInt (c 24 (i 22).toInt.toNat).toInt d1.toInt ld dr bw im ∧ (2 : Int32).toInt = goV (ByR (zM (c 3) (c 6) (i 5).toInt) (nF (i 5).toInt (c 23) (c 24)) (fMn (i 5).toInt (c 23)) (i 22).toInt) ld dr (bM (c 25)) from ⟨_, _, _, _, by rw [show (c 24 (i 22).toInt.toNat).toInt = x3.toInt from gx3]; exact hxp4_1, by unfold goV; rw [iV_n (fun h9 => h9 s2), iV_y (by first | omega | exact FeM_9 hxp4_1 (by omega))]; first | done | decide⟩)⟩, hI, fr_w hfi (by decide +kernel), fr_w hfc (by decide +kernel)⟩
    · have f5 := mt (ti_eq (a := r4.toInt) (b := 0) rfl (by decide +kernel)).mpr c5
      refine lv_aload_n hx hb dX12_whyNotGo_26 rfl (lv_at hl 0 rfl) ?_
      refine mget_16 (v := (i4 16)) rfl hx hb hts (fun _ h => List.mem_cons_of_mem _ (List.mem_append_right _ h)) hown hK hP (hts (.fieldLink RX12 263 "TalePlayModel" "leads" "I") (List.mem_cons_of_mem _ (List.mem_append_left _ (List.mem_append_left _ (List.mem_of_getElem? (i := 13) rfl))))) dX12_whyNotGo_27 ?_
      have rb16_i4 : (i4 16).toInt = -9 ∨ (0 ≤ (i4 16).toInt ∧ (i4 16).toInt ≤ 29) := hI.1 16
      refine lv_bipush (v := (-9)) hx hb dX12_whyNotGo_30 (by decide +kernel) ?_
      refine lv_icmp_ne (tgt := 37) hx hb dX12_whyNotGo_32 (by decide +kernel) (fun c6 => ?_) (fun c6 => ?_)
      · have f6 := mt (ti_eq (a := (i4 16).toInt) (b := (-9)) rfl (by decide +kernel)).mpr c6
        refine lv_aload_n hx hb dX12_whyNotGo_37 rfl (lv_at hl 0 rfl) ?_
        refine mget_17 (v := (i4 17)) rfl hx hb hts (fun _ h => List.mem_cons_of_mem _ (List.mem_append_right _ h)) hown hK hP (hts (.fieldLink RX12 266 "TalePlayModel" "byDoor" "I") (List.mem_cons_of_mem _ (List.mem_append_left _ (List.mem_append_left _ (List.mem_of_getElem? (i := 14) rfl))))) dX12_whyNotGo_38 ?_
        have rb17_i4 : (i4 17).toInt = -9 ∨ (0 ≤ (i4 17).toInt ∧ (i4 17).toInt ≤ 29) := hI.1 17
        refine lv_bipush (v := (-9)) hx hb dX12_whyNotGo_41 (by decide +kernel) ?_
        refine lv_icmp_eq (tgt := 62) hx hb dX12_whyNotGo_43 (by decide +kernel) (fun c7 => ?_) (fun c7 => ?_)
        · have f7 := (ti_eq (a := (i4 17).toInt) (b := (-9)) rfl (by decide +kernel)).mp c7
          refine lv_iconst (v := 0) hx hb dX12_whyNotGo_62 (by decide +kernel) ?_
          exact rw_iret (i4, q4, c4, d4) hx hb hr hlocks hS (hK.sub (tys' := []) [] rfl) hP hD dX12_whyNotGo_63 ⟨⟨(show 0 ≤ (0 : Int32).toInt ∧ (0 : Int32).toInt ≤ 3 from by decide +kernel), (show Im ((0 : Int32).toInt = 0) (∃ v, LdR (c 3) (c 6) (c 9) (c 10) (c 11) (c 12) (c 13) (i 8).toInt (c 24 (i 22).toInt.toNat).toInt d1.toInt v ∧ ¬ v = -9) from fun _ => ⟨_, by rw [show (c 24 (i 22).toInt.toNat).toInt = x3.toInt from gx3]; exact hxp4_0, by omega⟩), (show ∃ ld dr bw im : Int, FeM (c 3) (c 6) (c 9) (c 10) (c 11) (c 12) (c 13) (i 8).toInt (c 24 (i 22).toInt.toNat).toInt d1.toInt ld dr bw im ∧ (0 : Int32).toInt = goV (ByR (zM (c 3) (c 6) (i 5).toInt) (nF (i 5).toInt (c 23) (c 24)) (fMn (i 5).toInt (c 23)) (i 22).toInt) ld dr (bM (c 25)) from ⟨_, _, _, _, by rw [show (c 24 (i 22).toInt.toNat).toInt = x3.toInt from gx3]; exact hxp4_1, by unfold goV; rw [iV_n (fun h9 => h9 s2), iV_n (by omega), iV_n (fun h9 => h9.1 (by omega))]; first | done | decide⟩)⟩, hI, fr_w hfi (by decide +kernel), fr_w hfc (by decide +kernel)⟩
        · have f7 := mt (ti_eq (a := (i4 17).toInt) (b := (-9)) rfl (by decide +kernel)).mpr c7
          refine lv_aload_n hx hb dX12_whyNotGo_46 rfl (lv_at hl 0 rfl) ?_
          refine mget_25 hx hb hts (fun _ h => List.mem_cons_of_mem _ (List.mem_append_right _ h)) hown hK hP (hts (.fieldLink RX12 56 "TalePlayModel" "nOpen" "[Z") (List.mem_cons_of_mem _ (List.mem_append_left _ (List.mem_append_right _ (List.mem_append_right _ (List.mem_of_getElem? (i := 1) rfl)))))) dX12_whyNotGo_47 ?_
          refine lv_aload_n hx hb dX12_whyNotGo_50 rfl (lv_at hl 0 rfl) ?_
          refine mget_17 (v := (i4 17)) rfl hx hb hts (fun _ h => List.mem_cons_of_mem _ (List.mem_append_right _ h)) hown hK hP (hts (.fieldLink RX12 266 "TalePlayModel" "byDoor" "I") (List.mem_cons_of_mem _ (List.mem_append_left _ (List.mem_append_left _ (List.mem_of_getElem? (i := 14) rfl))))) dX12_whyNotGo_51 ?_
          refine mld_25 hx hb hK hP (vp_in_iff.mpr (by have h9 : (i4 17).toInt = (i4 17).toInt := rfl; omega)) dX12_whyNotGo_54 (fun x8 ex8 => ?_)
          have rx8 : 0 ≤ x8.toInt ∧ x8.toInt ≤ 1 := by rw [ex8]; exact hI.2 25 _
          have gx8 : (c 25 ((i4 17) : Int32).toNatClampNeg).toInt = x8.toInt := by rw [ex8, show c4 25 = c 25 from hfc 25 (by decide +kernel)]
          refine lv_if_ne (tgt := 62) hx hb dX12_whyNotGo_55 (by decide +kernel) (fun c9 => ?_) (fun c9 => ?_)
          · have f9 := mt (ti_eq (a := x8.toInt) (b := 0) rfl (by decide +kernel)).mpr c9
            refine lv_iconst (v := 0) hx hb dX12_whyNotGo_62 (by decide +kernel) ?_
            exact rw_iret (i4, q4, c4, d4) hx hb hr hlocks hS (hK.sub (tys' := []) [] rfl) hP hD dX12_whyNotGo_63 ⟨⟨(show 0 ≤ (0 : Int32).toInt ∧ (0 : Int32).toInt ≤ 3 from by decide +kernel), (show Im ((0 : Int32).toInt = 0) (∃ v, LdR (c 3) (c 6) (c 9) (c 10) (c 11) (c 12) (c 13) (i 8).toInt (c 24 (i 22).toInt.toNat).toInt d1.toInt v ∧ ¬ v = -9) from fun _ => ⟨_, by rw [show (c 24 (i 22).toInt.toNat).toInt = x3.toInt from gx3]; exact hxp4_0, by omega⟩), (show ∃ ld dr bw im : Int, FeM (c 3) (c 6) (c 9) (c 10) (c 11) (c 12) (c 13) (i 8).toInt (c 24 (i 22).toInt.toNat).toInt d1.toInt ld dr bw im ∧ (0 : Int32).toInt = goV (ByR (zM (c 3) (c 6) (i 5).toInt) (nF (i 5).toInt (c 23) (c 24)) (fMn (i 5).toInt (c 23)) (i 22).toInt) ld dr (bM (c 25)) from ⟨_, _, _, _, by rw [show (c 24 (i 22).toInt.toNat).toInt = x3.toInt from gx3]; exact hxp4_1, by unfold goV; rw [iV_n (fun h9 => h9 s2), iV_n (by omega), iV_n (fun h9 => h9.2 (show (c 25 (i4 17).toInt.toNat).toInt = 1 from by have h7 : (c 25 (i4 17).toInt.toNat).toInt = x8.toInt := gx8; omega))]; first | done | decide⟩)⟩, hI, fr_w hfi (by decide +kernel), fr_w hfc (by decide +kernel)⟩
          · have f9 := (ti_eq (a := x8.toInt) (b := 0) rfl (by decide +kernel)).mp c9
            refine lv_iconst (v := 3) hx hb dX12_whyNotGo_58 (by decide +kernel) ?_
            refine lv_goto (tgt := 63) hx hb dX12_whyNotGo_59 (by decide +kernel) ?_
            exact rw_iret (i4, q4, c4, d4) hx hb hr hlocks hS (hK.sub (tys' := []) [] rfl) hP hD dX12_whyNotGo_63 ⟨⟨(show 0 ≤ (3 : Int32).toInt ∧ (3 : Int32).toInt ≤ 3 from by decide +kernel), (show Im ((3 : Int32).toInt = 0) (∃ v, LdR (c 3) (c 6) (c 9) (c 10) (c 11) (c 12) (c 13) (i 8).toInt (c 24 (i 22).toInt.toNat).toInt d1.toInt v ∧ ¬ v = -9) from fun h9 => absurd h9 (by decide +kernel)), (show ∃ ld dr bw im : Int, FeM (c 3) (c 6) (c 9) (c 10) (c 11) (c 12) (c 13) (i 8).toInt (c 24 (i 22).toInt.toNat).toInt d1.toInt ld dr bw im ∧ (3 : Int32).toInt = goV (ByR (zM (c 3) (c 6) (i 5).toInt) (nF (i 5).toInt (c 23) (c 24)) (fMn (i 5).toInt (c 23)) (i 22).toInt) ld dr (bM (c 25)) from ⟨_, _, _, _, by rw [show (c 24 (i 22).toInt.toNat).toInt = x3.toInt from gx3]; exact hxp4_1, by unfold goV; rw [iV_n (fun h9 => h9 s2), iV_n (by omega), iV_y ⟨by omega, fun h9 => by have h8 : (c 25 (i4 17).toInt.toNat).toInt = 1 := h9; have h7 : (c 25 (i4 17).toInt.toNat).toInt = x8.toInt := gx8; omega⟩]; first | done | decide⟩)⟩, hI, fr_w hfi (by decide +kernel), fr_w hfc (by decide +kernel)⟩
      · have f6 := (ti_eq (a := (i4 16).toInt) (b := (-9)) rfl (by decide +kernel)).mp c6
        refine lv_iconst (v := 2) hx hb dX12_whyNotGo_35 (by decide +kernel) ?_
        exact rw_iret (i4, q4, c4, d4) hx hb hr hlocks hS (hK.sub (tys' := []) [] rfl) hP hD dX12_whyNotGo_36 ⟨⟨(show 0 ≤ (2 : Int32).toInt ∧ (2 : Int32).toInt ≤ 3 from by decide +kernel), (show Im ((2 : Int32).toInt = 0) (∃ v, LdR (c 3) (c 6) (c 9) (c 10) (c 11) (c 12) (c 13) (i 8).toInt (c 24 (i 22).toInt.toNat).toInt d1.toInt v ∧ ¬ v = -9) from fun h9 => absurd h9 (by decide +kernel)), (show ∃ ld dr bw im : Int, FeM (c 3) (c 6) (c 9) (c 10) (c 11) (c 12) (c 13) (i 8).toInt (c 24 (i 22).toInt.toNat).toInt d1.toInt ld dr bw im ∧ (2 : Int32).toInt = goV (ByR (zM (c 3) (c 6) (i 5).toInt) (nF (i 5).toInt (c 23) (c 24)) (fMn (i 5).toInt (c 23)) (i 22).toInt) ld dr (bM (c 25)) from ⟨_, _, _, _, by rw [show (c 24 (i 22).toInt.toNat).toInt = x3.toInt from gx3]; exact hxp4_1, by unfold goV; rw [iV_n (fun h9 => h9 s2), iV_y (by first | omega | exact FeM_9 hxp4_1 (by omega))]; first | done | decide⟩)⟩, hI, fr_w hfi (by decide +kernel), fr_w hfc (by decide +kernel)⟩
  · have f2 := (ti_eq (a := r1.toInt) (b := 0) rfl (by decide +kernel)).mp c2
    have s2 := sm_f hr1_0 c2
    refine lv_iconst (v := 1) hx hb dX12_whyNotGo_7 (by decide +kernel) ?_
    exact rw_iret (i, q, c, d) hx hb hr hlocks hS (hK.sub (tys' := []) [] rfl) hP hD dX12_whyNotGo_8 ⟨⟨(show 0 ≤ (1 : Int32).toInt ∧ (1 : Int32).toInt ≤ 3 from by decide +kernel), (show Im ((1 : Int32).toInt = 0) (∃ v, LdR (c 3) (c 6) (c 9) (c 10) (c 11) (c 12) (c 13) (i 8).toInt (c 24 (i 22).toInt.toNat).toInt d1.toInt v ∧ ¬ v = -9) from fun h9 => absurd h9 (by decide +kernel)), (show ∃ ld dr bw im : Int, FeM (c 3) (c 6) (c 9) (c 10) (c 11) (c 12) (c 13) (i 8).toInt (c 24 (i 22).toInt.toNat).toInt d1.toInt ld dr bw im ∧ (1 : Int32).toInt = goV (ByR (zM (c 3) (c 6) (i 5).toInt) (nF (i 5).toInt (c 23) (c 24)) (fMn (i 5).toInt (c 23)) (i 22).toInt) ld dr (bM (c 25)) from by obtain ⟨a9, b9, c9, e9, h9⟩ := FeM_x (c 3) (c 6) (c 9) (c 10) (c 11) (c 12) (c 13) (i 8).toInt (c 24 (i 22).toInt.toNat).toInt d1.toInt; exact ⟨a9, b9, c9, e9, h9, by unfold goV; rw [iV_y s2]; first | done | decide⟩)⟩, hI, fr_w hfi (by decide +kernel), fr_w hfc (by decide +kernel)⟩

