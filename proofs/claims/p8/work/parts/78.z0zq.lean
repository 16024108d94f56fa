set_option maxHeartbeats 4000000 in
set_option maxRecDepth 100000 in
theorem s_X12_seek_t (l : Launch) (D : va_G) (sz : Nat) (o : Nat) (a : Nat → Nat) (t : Nat → ClassId) (i : Nat → Int32) (q : Int64) (c : Nat → Nat → Int32) (d : Nat → Nat → Int64) (w1 : Int32) (w2 : Int32) (n1 : Int32) (hI : mInv i c) (hs_S : SJ (c 3) (c 6) (c 9) (c 10) (c 11) (c 13) (i 2).toInt (i 5).toInt (i 8).toInt) (hs_J : TJ (c 3) (c 6) (c 23) (c 24) (c 29) (c 30) (i 5).toInt (i 22).toInt (i 27).toInt) (h33 : (i 33).toInt = 0) : Met l yX12_seek wm_X12_seek ({ frames := 7, cells := 0, slots := 0, locals := 168 }) (va_Pc [.ref o, .int w1, .int w2, .int n1] (pB D sz (mW o a t i q c d) (mT t))) (va_Qi (fun (r : Int32) (u : MS) => True ∧ mInv u.1 u.2.2.1 ∧ (∀ k, k ∉ ([16, 17, 18, 19, 36, 40, 41, 42, 50, 57, 58, 59] : List Nat) → u.1 k = i k) ∧ (∀ k, k ∉ ([23, 24, 25, 26, 38, 39, 43, 44, 45, 46, 47, 48, 49, 51, 52, 53, 54, 55, 56] : List Nat) → u.2.2.1 k = c k) ∧ (SJ (u.2.2.1 3) (u.2.2.1 6) (u.2.2.1 9) (u.2.2.1 10) (u.2.2.1 11) (u.2.2.1 13) (u.1 2).toInt (u.1 5).toInt (u.1 8).toInt) ∧ (TJ (u.2.2.1 3) (u.2.2.1 6) (u.2.2.1 23) (u.2.2.1 24) (u.2.2.1 29) (u.2.2.1 30) (u.1 5).toInt (u.1 22).toInt (u.1 27).toInt) ∧ (Sk4 (u.2.2.1 23) (u.2.2.1 24) (u.2.2.1 25) (u.2.2.1 26) (c 23) (c 24) (c 25) (c 26) (i 5).toInt)) (oC D (va_A (mW o a t i q c d) sz) (fun u : MS => mW o a t u.1 u.2.1 u.2.2.1 u.2.2.2) (fun _ => [])) (va_A (mW o a t i q c d) sz)) 0 0 (va_A (mW o a t i q c d) sz) := by
  refine Met.ofW (cc := cX12_seek) (maxL := 6) (ret := (some .int)) (by decide +kernel) rfl ?_
  intro p e s m args below meth cd s₁ B hml hv
  obtain ⟨rfl, hsz, hP, hK, hD0⟩ := hv
  have hx := B.exec
  have hb := B.bytes
  have hr := B.returns
  have hts := atoms_spec (ws := wm_X12_seek) B.pre
  have hown : s.vm.findClass RX12 = some m.cls := findClass_of_methodNamed B.named
  have hlocks := B.notSynchronized
  subst hsz
  have hD := hD0.self (sz := s.heap.size)
  generalize hAe : va_A (mW o a t i q c d) s.heap.size = A at hD ⊢
  have hA : ∀ q : Nat, s.heap.size ≤ q → A q := fun q h => by rw [← hAe]; exact Or.inr h
  have hS : va_S A s.heap s.heap [] := va_S.rf
  have hfi : ∀ k, k ∉ ([] : List Nat) → i k = i k := fun _ _ => rfl
  have hfc : ∀ k, k ∉ ([] : List Nat) → c k = c k := fun _ _ => rfl
  have hl := lv_entry ([.ref o, .int w1, .int w2, .int n1]) (n := 6) (Nat.le_of_ble_eq_true rfl)
  rw [lg_entry_eq]
  generalize (lg_sl ([.ref o, .int w1, .int w2, .int n1]) ++ List.replicate (6 - (lg_sl ([.ref o, .int w1, .int w2, .int n1])).length) Slot.unset).toArray = ls at hl ⊢
  have hl : lv_has ls 6 [(0, .ref o), (1, .int w1), (2, .int w2), (3, .int n1)] := hl
  have rb5_i : 0 ≤ (i 5).toInt ∧ (i 5).toInt ≤ 30 := hI.1 5
  have rb22_i : (i 22).toInt = -9 ∨ (0 ≤ (i 22).toInt ∧ (i 22).toInt ≤ 29) := hI.1 22
  have hI0s := hI
  refine lv_aload_n hx hb dX12_seek_0 rfl (lv_at hl 0 rfl) ?_
  refine lv_iload_n hx hb dX12_seek_1 rfl (lv_at hl 1 rfl) ?_
  refine ro_calli (va_runV (As := [.int w1]) (rest := []) ⟨hx, hb, hml, hown, hts⟩ (s_X12_isObject l D s.heap.size o a t i q c d w1 hI ) (cwV 1 hts gm_X12_seek_X12_isObject rfl rfl rfl (by decide +kernel) ⟨Nat.le_of_ble_eq_true rfl, Nat.le_of_ble_eq_true rfl⟩) (pA_V hK hP (ci := 12) (q0 := 0) rfl rfl) rfl rfl hl.1 rfl (lv_room (Nat.le_of_ble_eq_true rfl)) dX12_seek_2 ⟨Nat.le_of_ble_eq_true rfl, Nat.le_of_ble_eq_true rfl⟩) hS hA hP (fun r1 u1 H locs hw1 hP hS => ?_)
  have hw1 : r1 = if (0 ≤ w1.toInt ∧ w1.toInt ≤ (i 5).toInt - 1) then 1 else 0 := hw1
  refine lv_if_eq (tgt := 28) hx hb dX12_seek_5 (by decide +kernel) (fun c2 => ?_) (fun c2 => ?_)
  · have f2 := fl_f hw1 c2
    refine lv_iconst (v := (-1)) hx hb dX12_seek_28 (by decide +kernel) ?_
    exact rw_iret (i, q, c, d) hx hb hr hlocks hS (hK.sub (tys' := []) [] rfl) hP hD dX12_seek_29 ⟨trivial, hI, fr_w hfi (by decide +kernel), fr_w hfc (by decide +kernel), (show SJ (c 3) (c 6) (c 9) (c 10) (c 11) (c 13) ((i 2) : Int32).toInt ((i 5) : Int32).toInt ((i 8) : Int32).toInt from hs_S), (show TJ (c 3) (c 6) (c 23) (c 24) (c 29) (c 30) ((i 5) : Int32).toInt ((i 22) : Int32).toInt ((i 27) : Int32).toInt from hs_J), (show Sk4 (c 23) (c 24) (c 25) (c 26) (c 23) (c 24) (c 25) (c 26) (i 5).toInt from Sk4_r)⟩
  · have f2 := fl_t hw1 c2
    refine lv_aload_n hx hb dX12_seek_8 rfl (lv_at hl 0 rfl) ?_
    refine lv_iload_n hx hb dX12_seek_9 rfl (lv_at hl 2 rfl) ?_
    refine ro_calli (va_runV (As := [.int w2]) (rest := []) ⟨hx, hb, hml, hown, hts⟩ (s_X12_isObject l D H.size o a t i q c d w2 hI ) (cwV 1 hts gm_X12_seek_X12_isObject rfl rfl rfl (by decide +kernel) ⟨Nat.le_of_ble_eq_true rfl, Nat.le_of_ble_eq_true rfl⟩) (pA_V hK hP (ci := 12) (q0 := 0) rfl rfl) rfl rfl hl.1 rfl (lv_room (Nat.le_of_ble_eq_true rfl)) dX12_seek_10 ⟨Nat.le_of_ble_eq_true rfl, Nat.le_of_ble_eq_true rfl⟩) hS hA hP (fun r3 u3 H locs hw3 hP hS => ?_)
    have hw3 : r3 = if (0 ≤ w2.toInt ∧ w2.toInt ≤ (i 5).toInt - 1) then 1 else 0 := hw3
    refine lv_if_eq (tgt := 28) hx hb dX12_seek_13 (by decide +kernel) (fun c4 => ?_) (fun c4 => ?_)
    · have f4 := fl_f hw3 c4
      refine lv_iconst (v := (-1)) hx hb dX12_seek_28 (by decide +kernel) ?_
      exact rw_iret (i, q, c, d) hx hb hr hlocks hS (hK.sub (tys' := []) [] rfl) hP hD dX12_seek_29 ⟨trivial, hI, fr_w hfi (by decide +kernel), fr_w hfc (by decide +kernel), (show SJ (c 3) (c 6) (c 9) (c 10) (c 11) (c 13) ((i 2) : Int32).toInt ((i 5) : Int32).toInt ((i 8) : Int32).toInt from hs_S), (show TJ (c 3) (c 6) (c 23) (c 24) (c 29) (c 30) ((i 5) : Int32).toInt ((i 22) : Int32).toInt ((i 27) : Int32).toInt from hs_J), (show Sk4 (c 23) (c 24) (c 25) (c 26) (c 23) (c 24) (c 25) (c 26) (i 5).toInt from Sk4_r)⟩
    · have f4 := fl_t hw3 c4
      refine lv_iload_n hx hb dX12_seek_16 rfl (lv_at hl 3 rfl) ?_
      refine lv_i2l (v := n1.toInt64) hx hb dX12_seek_17 rfl ?_
      refine lv_lconst (v := 0) hx hb dX12_seek_18 (by decide +kernel) ?_
      refine lv_ldc2 (v := 300) hx hb hown (hts (.constantLong RX12 431 (300)) (List.mem_cons_of_mem _ (List.mem_append_left _ (List.mem_append_left _ (List.mem_of_getElem? (i := 9) rfl))))) dX12_seek_19 ?_
      have hPc := hP.sub (ws' := []) [] rfl
      have hKc := hK.sub (tys' := []) [] rfl
      refine ro_calli (va_runS (As := [.long n1.toInt64, .long 0, .long 300]) (rest := []) ⟨hx, hb, hml, hown, hts⟩ (c_X12_in l D H.size n1.toInt64 0 300 n1.toInt 0 300 ((Int32.toInt_toInt64 n1).trans rfl) (by decide +kernel) (by decide +kernel)) (va_cwS 3 hts gm_X12_seek_X12_in rfl rfl rfl (by decide +kernel) ⟨Nat.le_of_ble_eq_true rfl, Nat.le_of_ble_eq_true rfl⟩) (pA_S hKc hPc) rfl rfl hl.1 rfl (lv_room (Nat.le_of_ble_eq_true rfl)) dX12_seek_22 ⟨Nat.le_of_ble_eq_true rfl, Nat.le_of_ble_eq_true rfl⟩) hS hA hP (fun r5 u5 H locs hw5 hP hS => ?_)
      have hw5 : r5 = if (0 ≤ n1.toInt ∧ n1.toInt ≤ 300) then 1 else 0 := hw5
      refine lv_if_ne (tgt := 30) hx hb dX12_seek_25 (by decide +kernel) (fun c6 => ?_) (fun c6 => ?_)
      · have f6 := fl_t hw5 c6
        refine lv_aload_n hx hb dX12_seek_30 rfl (lv_at hl 0 rfl) ?_
        refine mget_22 (v := (i 22)) rfl hx hb hts (fun _ h => List.mem_cons_of_mem _ (List.mem_append_right _ h)) hown hK hP (hts (.fieldLink RX12 155 "TalePlayModel" "player" "I") (List.mem_cons_of_mem _ (List.mem_append_left _ (List.mem_append_left _ (List.mem_of_getElem? (i := 10) rfl))))) dX12_seek_31 ?_
        refine lv_bipush (v := (-9)) hx hb dX12_seek_34 (by decide +kernel) ?_
        refine lv_icmp_ne (tgt := 42) hx hb dX12_seek_36 (by decide +kernel) (fun c7 => ?_) (fun c7 => ?_)
        · have f7 := mt (ti_eq (a := (i 22).toInt) (b := (-9)) rfl (by decide +kernel)).mpr c7
          have hs_T : TI (i 5).toInt (fun z => Kd (c 3) (c 6) z 0) (i 22).toInt (c 23) (c 24) := (hs_J (by omega)).2.1
          have hs_P : Kd (c 3) (c 6) (i 22).toInt 5 := (hs_J (by omega)).1
          have hs_G : Acy (gF (c 9) (c 10) (c 11) (c 13) (c 23) (c 24) (i 8).toInt (i 5).toInt (i 22).toInt) := gF_acy hs_S hs_J
          refine lv_aload_n hx hb dX12_seek_42 rfl (lv_at hl 0 rfl) ?_
          refine al_callv (va_runV (As := []) (rest := []) ⟨hx, hb, hml, hown, hts⟩ (s_X12_lookAtKinds l D H.size o a t i q c d  hI ) (cwV 0 hts gm_X12_seek_X12_lookAtKinds rfl rfl rfl (by decide +kernel) ⟨Nat.le_of_ble_eq_true rfl, Nat.le_of_ble_eq_true rfl⟩) (pB_V hK hP hD (ci := 12) (q0 := 0) rfl rfl) rfl rfl hl.1 rfl (lv_room (Nat.le_of_ble_eq_true rfl)) dX12_seek_43 ⟨Nat.le_of_ble_eq_true rfl, Nat.le_of_ble_eq_true rfl⟩) hS hA hP hD (fun u8 H locs hw8 hP hD hS => ?_)
          obtain ⟨i8, q8, c8, d8⟩ := u8
          have hw8 : True ∧ mInv i8 c8 ∧ (∀ k, k ∉ ([] : List Nat) → i8 k = i k) ∧ (∀ k, k ∉ ([45, 46, 47, 48, 49] : List Nat) → c8 k = c k) ∧ (Cc (c 3) (c 6) (c8 47) (c8 48) (c8 49) (i 5).toInt) := hw8
          obtain ⟨hw8, hI, hei8, hec8, hxp8_0⟩ := hw8
          have hxp8_0 : Cc (c 3) (c 6) (c8 47) (c8 48) (c8 49) (i 5).toInt := hxp8_0
          have hfi : ∀ k, k ∉ ([] : List Nat) → i8 k = i k := fr_z hfi hei8 (by decide +kernel) (by decide +kernel)
          have hfc : ∀ k, k ∉ ([45, 46, 47, 48, 49] : List Nat) → c8 k = c k := fr_z hfc hec8 (by decide +kernel) (by decide +kernel)
          have hP : va_P D vwCl (mW o a t i8 q8 c8 d8) H := hP
          have hD : va_D A (mW o a t i8 q8 c8 d8) := hD
          have hs_C := hxp8_0
          refine lv_aload_n hx hb dX12_seek_46 rfl (lv_at hl 0 rfl) ?_
          refine lv_iload_n hx hb dX12_seek_47 rfl (lv_at hl 1 rfl) ?_
          refine mput_58 hx hb hts (fun _ h => List.mem_cons_of_mem _ (List.mem_append_right _ h)) hown hK hP hD hS (hts (.fieldLink RX12 419 "TalePlayModel" "goalX" "I") (List.mem_cons_of_mem _ (List.mem_append_left _ (List.mem_append_right _ (List.mem_append_right _ (List.mem_append_left _ (List.mem_of_getElem? (i := 9) rfl))))))) rfl rfl dX12_seek_48 (fun H locs hP hD hS => ?_)
          have hI := mInv_i hI (k := 58) (v := w1) (show 0 ≤ (w1 : Int32).toInt ∧ (w1 : Int32).toInt ≤ 29 from by omega)
          have hfi : ∀ k, k ∉ ([58] : List Nat) → (upd i8 58 w1) k = i k := fr_iz hfi (by decide +kernel) (by decide +kernel)
          refine lv_aload_n hx hb dX12_seek_51 rfl (lv_at hl 0 rfl) ?_
          refine lv_iload_n hx hb dX12_seek_52 rfl (lv_at hl 2 rfl) ?_
          refine mput_59 hx hb hts (fun _ h => List.mem_cons_of_mem _ (List.mem_append_right _ h)) hown hK hP hD hS (hts (.fieldLink RX12 422 "TalePlayModel" "goalY" "I") (List.mem_cons_of_mem _ (List.mem_append_left _ (List.mem_append_right _ (List.mem_append_right _ (List.mem_append_left _ (List.mem_of_getElem? (i := 10) rfl))))))) rfl rfl dX12_seek_53 (fun H locs hP hD hS => ?_)
          have hI := mInv_i hI (k := 59) (v := w2) (show 0 ≤ (w2 : Int32).toInt ∧ (w2 : Int32).toInt ≤ 29 from by omega)
          have hfi : ∀ k, k ∉ ([58, 59] : List Nat) → (upd (upd i8 58 w1) 59 w2) k = i k := fr_iz hfi (by decide +kernel) (by decide +kernel)
          refine lv_aload_n hx hb dX12_seek_56 rfl (lv_at hl 0 rfl) ?_
          refine lv_bipush (v := (-9)) hx hb dX12_seek_57 (by decide +kernel) ?_
          refine mput_57 hx hb hts (fun _ h => List.mem_cons_of_mem _ (List.mem_append_right _ h)) hown hK hP hD hS (hts (.fieldLink RX12 158 "TalePlayModel" "soughtMany" "I") (List.mem_cons_of_mem _ (List.mem_append_left _ (List.mem_append_right _ (List.mem_append_right _ (List.mem_append_left _ (List.mem_of_getElem? (i := 11) rfl))))))) rfl rfl dX12_seek_59 (fun H locs hP hD hS => ?_)
          have hI := mInv_i hI (k := 57) (v := (-9)) (show ((-9) : Int32).toInt = -9 ∨ (0 ≤ ((-9) : Int32).toInt ∧ ((-9) : Int32).toInt ≤ 300) from by decide +kernel)
          have hfi : ∀ k, k ∉ ([57, 58, 59] : List Nat) → (upd (upd (upd i8 58 w1) 59 w2) 57 (-9)) k = i k := fr_iz hfi (by decide +kernel) (by decide +kernel)
          refine lv_aload_n hx hb dX12_seek_62 rfl (lv_at hl 0 rfl) ?_
          refine lv_sipush (v := 300) hx hb dX12_seek_63 (by decide +kernel) ?_
          have rb5_i8 : 0 ≤ (i8 5).toInt ∧ (i8 5).toInt ≤ 30 := hI.1 5
          have re5_i8 : (i8 5).toInt = (i 5).toInt := congrArg Int32.toInt (hfi 5 (by decide +kernel))
          refine al_callv (va_runV (As := [.int 300]) (rest := []) ⟨hx, hb, hml, hown, hts⟩ (s_X12_keepState_t l D H.size o a t (upd (upd (upd i8 58 w1) 59 w2) 57 (-9)) q8 c8 d8 300 hI (show 0 ≤ 300 ∧ 300 ≤ 300 from by decide +kernel)) (cwV 1 hts gm_X12_seek_X12_keepState rfl rfl rfl (by decide +kernel) ⟨Nat.le_of_ble_eq_true rfl, Nat.le_of_ble_eq_true rfl⟩) (pB_V hK hP hD (ci := 12) (q0 := 0) rfl rfl) rfl rfl hl.1 rfl (lv_room (Nat.le_of_ble_eq_true rfl)) dX12_seek_66 ⟨Nat.le_of_ble_eq_true rfl, Nat.le_of_ble_eq_true rfl⟩) hS hA hP hD (fun u9 H locs hw9 hP hD hS => ?_)
          obtain ⟨i9, q9, c9, d9⟩ := u9
          have hw9 : True ∧ mInv i9 c9 ∧ (∀ k, k ∉ ([] : List Nat) → i9 k = (upd (upd (upd i8 58 w1) 59 w2) 57 (-9)) k) ∧ (∀ k, k ∉ ([51, 52, 53] : List Nat) → c9 k = c8 k) ∧ (RW (c9 51) (c9 52) (c8 51) (c8 52) (c8 23) (c8 24) (300 : Int).toNat ((upd (upd (upd i8 58 w1) 59 w2) 57 (-9)) 5).toInt) ∧ (RS (c9 53) (c8 53) (c8 25) (c8 26) (300 : Int).toNat ((upd (upd (upd i8 58 w1) 59 w2) 57 (-9)) 5).toInt) := hw9
          obtain ⟨hw9, hI, hei9, hec9, hxp9_0, hxp9_1⟩ := hw9
          have hxp9_0 : RW (c9 51) (c9 52) (c 51) (c 52) (c 23) (c 24) (300 : Int).toNat (i 5).toInt := by have h9 := hxp9_0; rw [show c8 23 = c 23 from hfc 23 (by decide +kernel), show c8 24 = c 24 from hfc 24 (by decide +kernel), show c8 51 = c 51 from hfc 51 (by decide +kernel), show c8 52 = c 52 from hfc 52 (by decide +kernel), show (upd (upd (upd i8 58 w1) 59 w2) 57 (-9)) 5 = i 5 from hfi 5 (by decide +kernel)] at h9; exact h9
          have hxp9_1 : RS (c9 53) (c 53) (c 25) (c 26) (300 : Int).toNat (i 5).toInt := by have h9 := hxp9_1; rw [show c8 25 = c 25 from hfc 25 (by decide +kernel), show c8 26 = c 26 from hfc 26 (by decide +kernel), show c8 53 = c 53 from hfc 53 (by decide +kernel), show (upd (upd (upd i8 58 w1) 59 w2) 57 (-9)) 5 = i 5 from hfi 5 (by decide +kernel)] at h9; exact h9
          have hfi : ∀ k, k ∉ ([57, 58, 59] : List Nat) → i9 k = i k := fr_z hfi hei9 (by decide +kernel) (by decide +kernel)
          have hfc : ∀ k, k ∉ ([45, 46, 47, 48, 49, 51, 52, 53] : List Nat) → c9 k = c k := fr_z hfc hec9 (by decide +kernel) (by decide +kernel)
          have hP : va_P D vwCl (mW o a t i9 q9 c9 d9) H := hP
          have hD : va_D A (mW o a t i9 q9 c9 d9) := hD
          have hs_C : Cc (c 3) (c 6) (c9 47) (c9 48) (c9 49) (i 5).toInt := by rw [show c9 47 = c8 47 from hec9 47 (by decide +kernel), show c9 48 = c8 48 from hec9 48 (by decide +kernel), show c9 49 = c8 49 from hec9 49 (by decide +kernel)]; exact hs_C
          refine lv_aload_n hx hb dX12_seek_69 rfl (lv_at hl 0 rfl) ?_
          refine lv_iconst (v := 0) hx hb dX12_seek_70 (by decide +kernel) ?_
          have rb5_i9 : 0 ≤ (i9 5).toInt ∧ (i9 5).toInt ≤ 30 := hI.1 5
          have re5_i9 : (i9 5).toInt = (i 5).toInt := congrArg Int32.toInt (hfi 5 (by decide +kernel))
          refine al_callv (va_runV (As := [.int 0]) (rest := []) ⟨hx, hb, hml, hown, hts⟩ (s_X12_keepState_t l D H.size o a t i9 q9 c9 d9 0 hI (show 0 ≤ 0 ∧ 0 ≤ 300 from by decide +kernel)) (cwV 1 hts gm_X12_seek_X12_keepState rfl rfl rfl (by decide +kernel) ⟨Nat.le_of_ble_eq_true rfl, Nat.le_of_ble_eq_true rfl⟩) (pB_V hK hP hD (ci := 12) (q0 := 0) rfl rfl) rfl rfl hl.1 rfl (lv_room (Nat.le_of_ble_eq_true rfl)) dX12_seek_71 ⟨Nat.le_of_ble_eq_true rfl, Nat.le_of_ble_eq_true rfl⟩) hS hA hP hD (fun u10 H locs hw10 hP hD hS => ?_)
          obtain ⟨i10, q10, c10, d10⟩ := u10
          have hw10 : True ∧ mInv i10 c10 ∧ (∀ k, k ∉ ([] : List Nat) → i10 k = i9 k) ∧ (∀ k, k ∉ ([51, 52, 53] : List Nat) → c10 k = c9 k) ∧ (RW (c10 51) (c10 52) (c9 51) (c9 52) (c9 23) (c9 24) (0 : Int).toNat (i9 5).toInt) ∧ (RS (c10 53) (c9 53) (c9 25) (c9 26) (0 : Int).toNat (i9 5).toInt) := hw10
          obtain ⟨hw10, hI, hei10, hec10, hxp10_0, hxp10_1⟩ := hw10
          have hxp10_0 : RW (c10 51) (c10 52) (c9 51) (c9 52) (c 23) (c 24) (0 : Int).toNat (i 5).toInt := by have h9 := hxp10_0; rw [show c9 23 = c 23 from hfc 23 (by decide +kernel), show c9 24 = c 24 from hfc 24 (by decide +kernel), show i9 5 = i 5 from hfi 5 (by decide +kernel)] at h9; exact h9
          have hxp10_1 : RS (c10 53) (c9 53) (c 25) (c 26) (0 : Int).toNat (i 5).toInt := by have h9 := hxp10_1; rw [show c9 25 = c 25 from hfc 25 (by decide +kernel), show c9 26 = c 26 from hfc 26 (by decide +kernel), show i9 5 = i 5 from hfi 5 (by decide +kernel)] at h9; exact h9
          have hfi : ∀ k, k ∉ ([57, 58, 59] : List Nat) → i10 k = i k := fr_z hfi hei10 (by decide +kernel) (by decide +kernel)
          have hfc : ∀ k, k ∉ ([45, 46, 47, 48, 49, 51, 52, 53] : List Nat) → c10 k = c k := fr_z hfc hec10 (by decide +kernel) (by decide +kernel)
          have hP : va_P D vwCl (mW o a t i10 q10 c10 d10) H := hP
          have hD : va_D A (mW o a t i10 q10 c10 d10) := hD
          have hs_C : Cc (c 3) (c 6) (c10 47) (c10 48) (c10 49) (i 5).toInt := by rw [show c10 47 = c9 47 from hec10 47 (by decide +kernel), show c10 48 = c9 48 from hec10 48 (by decide +kernel), show c10 49 = c9 49 from hec10 49 (by decide +kernel)]; exact hs_C
          have hs_Q : SQ (c 3) (c 6) (c10 51) (c10 52) (i 5).toInt (i 22).toInt 1 := SQ_1 hs_T hxp9_0 hxp10_0 (by decide +kernel) (by decide +kernel) (by omega)
          have hs_9 : K9 (c10 51) (c10 52) (c10 53) (c 23) (c 24) (c 25) (c 26) (i 5).toInt := K9_k (T := 300) hxp9_0 hxp9_1 hxp10_0 hxp10_1 (by decide +kernel)
          refine lv_aload_n hx hb dX12_seek_74 rfl (lv_at hl 0 rfl) ?_
          refine mget_54 hx hb hts (fun _ h => List.mem_cons_of_mem _ (List.mem_append_right _ h)) hown hK hP (hts (.fieldLink RX12 117 "TalePlayModel" "stateFrom" "[I") (List.mem_cons_of_mem _ (List.mem_append_left _ (List.mem_append_right _ (List.mem_append_right _ (List.mem_append_right _ (List.mem_append_left _ (List.mem_of_getElem? (i := 7) rfl)))))))) dX12_seek_75 ?_
          refine lv_iconst (v := 0) hx hb dX12_seek_78 (by decide +kernel) ?_
          refine lv_bipush (v := (-9)) hx hb dX12_seek_79 (by decide +kernel) ?_
          refine mst_54 hx hb hK hP hD hS (show vp_in 0 300 from by unfold vp_in; decide) dX12_seek_81 (fun H locs hP hD hS => ?_)
          have hI := mInv_c hI (k := 54) (j := (0 : Int32).toNatClampNeg) (x := (-9)) (show ((-9) : Int32).toInt = -9 ∨ (0 ≤ ((-9) : Int32).toInt ∧ ((-9) : Int32).toInt ≤ 299 ∧ (((-9) : Int32).toInt = 0 ∨ ((-9) : Int32).toInt < (((0 : Int32).toNatClampNeg : Nat) : Int))) from by have h9 : ((-9) : Int32).toInt = -9 := (by decide +kernel); omega)
          have hfc : ∀ k, k ∉ ([45, 46, 47, 48, 49, 51, 52, 53, 54] : List Nat) → (updA c10 54 (0 : Int32).toNatClampNeg (-9)) k = c k := fr_cz hfc (by decide +kernel) (by decide +kernel)
          refine lv_aload_n hx hb dX12_seek_82 rfl (lv_at hl 0 rfl) ?_
          refine lv_iconst (v := 1) hx hb dX12_seek_83 (by decide +kernel) ?_
          refine mput_50 hx hb hts (fun _ h => List.mem_cons_of_mem _ (List.mem_append_right _ h)) hown hK hP hD hS (hts (.fieldLink RX12 410 "TalePlayModel" "states" "I") (List.mem_cons_of_mem _ (List.mem_append_left _ (List.mem_append_right _ (List.mem_append_right _ (List.mem_append_right _ (List.mem_append_left _ (List.mem_of_getElem? (i := 8) rfl)))))))) rfl rfl dX12_seek_84 (fun H locs hP hD hS => ?_)
          have hI := mInv_i hI (k := 50) (v := 1) (show 0 ≤ (1 : Int32).toInt ∧ (1 : Int32).toInt ≤ 300 from by decide +kernel)
          have hfi : ∀ k, k ∉ ([50, 57, 58, 59] : List Nat) → (upd i10 50 1) k = i k := fr_iz hfi (by decide +kernel) (by decide +kernel)
          have hs_b : 1 ≤ (1 : Int32).toInt := by decide
          have hs_Q : SQ (c 3) (c 6) ((updA c10 54 (0 : Int32).toNatClampNeg (-9)) 51) ((updA c10 54 (0 : Int32).toNatClampNeg (-9)) 52) (i 5).toInt (i 22).toInt (1 : Int32).toInt := by rw [show (1 : Int32).toInt = 1 by decide]; exact hs_Q
          refine lv_bipush (v := (-9)) hx hb dX12_seek_87 (by decide +kernel) ?_
          refine lv_istore (lv' := [(4, .int (-9)), (0, .ref o), (1, .int w1), (2, .int w2), (3, .int n1)]) hx hb dX12_seek_89 hl (by decide +kernel) rfl (fun ls hl => ?_)
          refine lv_aload_n hx hb dX12_seek_91 rfl (lv_at hl 1 rfl) ?_
          refine mget_23 hx hb hts (fun _ h => List.mem_cons_of_mem _ (List.mem_append_right _ h)) hown hK hP (hts (.fieldLink RX12 50 "TalePlayModel" "nForm" "[I") (List.mem_cons_of_mem _ (List.mem_append_left _ (List.mem_append_right _ (List.mem_append_right _ (List.mem_append_right _ (List.mem_append_left _ (List.mem_of_getElem? (i := 1) rfl)))))))) dX12_seek_92 ?_
          refine lv_iload_n hx hb dX12_seek_95 rfl (lv_at hl 2 rfl) ?_
          refine mld_23 hx hb hK hP (vp_in_iff.mpr (by have h9 : w1.toInt = w1.toInt := rfl; omega)) dX12_seek_96 (fun x11 ex11 => ?_)
          have rx11 : x11.toInt = -9 ∨ (0 ≤ x11.toInt ∧ x11.toInt ≤ 4) := by rw [ex11]; exact hI.2 23 _
          refine lv_bipush (v := (-9)) hx hb dX12_seek_97 (by decide +kernel) ?_
          have jn12 : ∀ (i12 : Nat → Int32) (q12 : Int64) (c12 : Nat → Nat → Int32) (d12 : Nat → Nat → Int64) (y12_4 : Int32), mInv i12 c12 → (∀ k, k ∉ ([50, 57, 58, 59] : List Nat) → i12 k = i k) → (∀ k, k ∉ ([45, 46, 47, 48, 49, 51, 52, 53, 54, 56] : List Nat) → c12 k = c k) → (Cc (c 3) (c 6) (c12 47) (c12 48) (c12 49) (i 5).toInt) → (K9 (c12 51) (c12 52) (c12 53) (c 23) (c 24) (c 25) (c 26) (i 5).toInt) → (SQ (c 3) (c 6) (c12 51) (c12 52) (i 5).toInt (i 22).toInt ((i12 50) : Int32).toInt) → (1 ≤ ((i12 50) : Int32).toInt) → (y12_4.toInt = -9 ∨ (0 ≤ y12_4.toInt ∧ y12_4.toInt ≤ 300)) → ∀ (H : Heap) (locs : List Loc) (ls : Array Slot), va_P D vwCl (mW o a t i12 q12 c12 d12) H → va_D A (mW o a t i12 q12 c12 d12) → va_S A s.heap H locs → lv_has ls 6 [(0, .ref o), (1, .int w1), (2, .int w2), (3, .int n1), (4, .int y12_4)] → W p l e (headSpec wm_X12_seek ({ frames := 7, cells := 0, slots := 0, locals := 168 })).room s m ([.ref o, .int w1, .int w2, .int n1] : List Value).toArray below meth cd H locs 0 0 (MQ below (va_Qi (fun (r : Int32) (u : MS) => True ∧ mInv u.1 u.2.2.1 ∧ (∀ k, k ∉ ([16, 17, 18, 19, 36, 40, 41, 42, 50, 57, 58, 59] : List Nat) → u.1 k = i k) ∧ (∀ k, k ∉ ([23, 24, 25, 26, 38, 39, 43, 44, 45, 46, 47, 48, 49, 51, 52, 53, 54, 55, 56] : List Nat) → u.2.2.1 k = c k) ∧ (SJ (u.2.2.1 3) (u.2.2.1 6) (u.2.2.1 9) (u.2.2.1 10) (u.2.2.1 11) (u.2.2.1 13) (u.1 2).toInt (u.1 5).toInt (u.1 8).toInt) ∧ (TJ (u.2.2.1 3) (u.2.2.1 6) (u.2.2.1 23) (u.2.2.1 24) (u.2.2.1 29) (u.2.2.1 30) (u.1 5).toInt (u.1 22).toInt (u.1 27).toInt) ∧ (Sk4 (u.2.2.1 23) (u.2.2.1 24) (u.2.2.1 25) (u.2.2.1 26) (c 23) (c 24) (c 25) (c 26) (i 5).toInt)) (oC D A (fun u : MS => mW o a t u.1 u.2.1 u.2.2.1 u.2.2.2) (fun _ => [])) A) ([.ref o, .int w1, .int w2, .int n1] : List Value).toArray s 0 0 A) (F0 m 119 ls []) := by
            intro i12 q12 c12 d12 y12_4 hI hfi hfc hs_C hs_9 hs_Q hs_b hy12_4 H locs ls hP hD hS hl
            refine lv_iconst (v := 0) hx hb dX12_seek_119 (by decide +kernel) ?_
            refine lv_istore (lv' := [(5, .int 0), (0, .ref o), (1, .int w1), (2, .int w2), (3, .int n1), (4, .int y12_4)]) hx hb dX12_seek_120 hl (by decide +kernel) rfl (fun ls hl => ?_)
            have lp13 : ∀ (fu : Nat) (i13 : Nat → Int32) (q13 : Int64) (c13 : Nat → Nat → Int32) (d13 : Nat → Nat → Int64) (y13_5 : Int32) (y13_4 : Int32), mInv i13 c13 → (∀ k, k ∉ ([16, 17, 18, 19, 36, 40, 41, 42, 50, 57, 58, 59] : List Nat) → i13 k = i k) → (∀ k, k ∉ ([23, 24, 25, 26, 38, 39, 43, 44, 45, 46, 47, 48, 49, 51, 52, 53, 54, 55, 56] : List Nat) → c13 k = c k) → (Cc (c 3) (c 6) (c13 47) (c13 48) (c13 49) (i 5).toInt) → (K9 (c13 51) (c13 52) (c13 53) (c 23) (c 24) (c 25) (c 26) (i 5).toInt) → (SQ (c 3) (c 6) (c13 51) (c13 52) (i 5).toInt (i 22).toInt ((i13 50) : Int32).toInt) → (1 ≤ ((i13 50) : Int32).toInt) → (0 ≤ y13_5.toInt ∧ y13_5.toInt ≤ 300) → (y13_4.toInt = -9 ∨ (0 ≤ y13_4.toInt ∧ y13_4.toInt ≤ 300)) → (300 - y13_5.toInt).toNat < fu → ∀ (H : Heap) (locs : List Loc) (ls : Array Slot), va_P D vwCl (mW o a t i13 q13 c13 d13) H → va_D A (mW o a t i13 q13 c13 d13) → va_S A s.heap H locs → lv_has ls 6 [(5, .int y13_5), (0, .ref o), (1, .int w1), (2, .int w2), (3, .int n1), (4, .int y13_4)] → W p l e (headSpec wm_X12_seek ({ frames := 7, cells := 0, slots := 0, locals := 168 })).room s m ([.ref o, .int w1, .int w2, .int n1] : List Value).toArray below meth cd H locs 0 0 (MQ below (va_Qi (fun (r : Int32) (u : MS) => True ∧ mInv u.1 u.2.2.1 ∧ (∀ k, k ∉ ([16, 17, 18, 19, 36, 40, 41, 42, 50, 57, 58, 59] : List Nat) → u.1 k = i k) ∧ (∀ k, k ∉ ([23, 24, 25, 26, 38, 39, 43, 44, 45, 46, 47, 48, 49, 51, 52, 53, 54, 55, 56] : List Nat) → u.2.2.1 k = c k) ∧ (SJ (u.2.2.1 3) (u.2.2.1 6) (u.2.2.1 9) (u.2.2.1 10) (u.2.2.1 11) (u.2.2.1 13) (u.1 2).toInt (u.1 5).toInt (u.1 8).toInt) ∧ (TJ (u.2.2.1 3) (u.2.2.1 6) (u.2.2.1 23) (u.2.2.1 24) (u.2.2.1 29) (u.2.2.1 30) (u.1 5).toInt (u.1 22).toInt (u.1 27).toInt) ∧ (Sk4 (u.2.2.1 23) (u.2.2.1 24) (u.2.2.1 25) (u.2.2.1 26) (c 23) (c 24) (c 25) (c 26) (i 5).toInt)) (oC D A (fun u : MS => mW o a t u.1 u.2.1 u.2.2.1 u.2.2.2) (fun _ => [])) A) ([.ref o, .int w1, .int w2, .int n1] : List Value).toArray s 0 0 A) (F0 m 122 ls []) := by
              intro fu
              induction fu with
              | zero => intro i13 q13 c13 d13 y13_5 y13_4 hI hfi hfc hs_C hs_9 hs_Q hs_b hy13_5 hy13_4 hm; exact absurd hm (Nat.not_lt_zero _)
              | succ fu ih =>
                intro i13 q13 c13 d13 y13_5 y13_4 hI hfi hfc hs_C hs_9 hs_Q hs_b hy13_5 hy13_4 hm H locs ls hP hD hS hl
                have ih13 := ih
                refine lv_iload hx hb dX12_seek_122 (lv_at hl 0 rfl) ?_
                refine lv_iload_n hx hb dX12_seek_124 rfl (lv_at hl 4 rfl) ?_
                refine lv_icmp_ge (tgt := 181) hx hb dX12_seek_125 (by decide +kernel) (fun c14 => ?_) (fun c14 => ?_)
                · have f14 := (ti_le (a := n1.toInt) (b := y13_5.toInt) rfl rfl).mp c14
                  have hs_Q0 := hs_Q
                  have hs_9o := hs_9
                  refine lv_aload_n hx hb dX12_seek_181 rfl (lv_at hl 1 rfl) ?_
                  refine lv_sipush (v := 300) hx hb dX12_seek_182 (by decide +kernel) ?_
                  have rb5_i13 : 0 ≤ (i13 5).toInt ∧ (i13 5).toInt ≤ 30 := hI.1 5
                  have re5_i13 : (i13 5).toInt = (i 5).toInt := congrArg Int32.toInt (hfi 5 (by decide +kernel))
                  refine al_callv (va_runV (As := [.int 300]) (rest := []) ⟨hx, hb, hml, hown, hts⟩ (s_X12_giveState_t l D H.size o a t i13 q13 c13 d13 300 hI (show 0 ≤ 300 ∧ 300 ≤ 300 from by decide +kernel)) (cwV 1 hts gm_X12_seek_X12_giveState rfl rfl rfl (by decide +kernel) ⟨Nat.le_of_ble_eq_true rfl, Nat.le_of_ble_eq_true rfl⟩) (pB_V hK hP hD (ci := 12) (q0 := 0) rfl rfl) rfl rfl hl.1 rfl (lv_room (Nat.le_of_ble_eq_true rfl)) dX12_seek_185 ⟨Nat.le_of_ble_eq_true rfl, Nat.le_of_ble_eq_true rfl⟩) hS hA hP hD (fun u15 H locs hw15 hP hD hS => ?_)
                  obtain ⟨i15, q15, c15, d15⟩ := u15
                  have hw15 : True ∧ mInv i15 c15 ∧ (∀ k, k ∉ ([] : List Nat) → i15 k = i13 k) ∧ (∀ k, k ∉ ([23, 24, 25, 26] : List Nat) → c15 k = c13 k) ∧ (GB (c15 23) (c15 24) (c13 51) (c13 52) (300 : Int).toNat (i13 5).toInt) ∧ (GS (c15 25) (c15 26) (c13 53) (300 : Int).toNat (i13 5).toInt) := hw15
                  obtain ⟨hw15, hI, hei15, hec15, hxp15_0, hxp15_1⟩ := hw15
                  have hxp15_0 : GB (c15 23) (c15 24) (c13 51) (c13 52) (300 : Int).toNat (i 5).toInt := by have h9 := hxp15_0; rw [show i13 5 = i 5 from hfi 5 (by decide +kernel)] at h9; exact h9
                  have hxp15_1 : GS (c15 25) (c15 26) (c13 53) (300 : Int).toNat (i 5).toInt := by have h9 := hxp15_1; rw [show i13 5 = i 5 from hfi 5 (by decide +kernel)] at h9; exact h9
                  have hfi : ∀ k, k ∉ ([16, 17, 18, 19, 36, 40, 41, 42, 50, 57, 58, 59] : List Nat) → i15 k = i k := fr_z hfi hei15 (by decide +kernel) (by decide +kernel)
                  have hfc : ∀ k, k ∉ ([23, 24, 25, 26, 38, 39, 43, 44, 45, 46, 47, 48, 49, 51, 52, 53, 54, 55, 56] : List Nat) → c15 k = c k := fr_z hfc hec15 (by decide +kernel) (by decide +kernel)
                  have hP : va_P D vwCl (mW o a t i15 q15 c15 d15) H := hP
                  have hD : va_D A (mW o a t i15 q15 c15 d15) := hD
                  have hs_C : Cc (c 3) (c 6) (c15 47) (c15 48) (c15 49) (i 5).toInt := by rw [show c15 47 = c13 47 from hec15 47 (by decide +kernel), show c15 48 = c13 48 from hec15 48 (by decide +kernel), show c15 49 = c13 49 from hec15 49 (by decide +kernel)]; exact hs_C
                  have hs_9 : K9 (c15 51) (c15 52) (c15 53) (c 23) (c 24) (c 25) (c 26) (i 5).toInt := by rw [show c15 51 = c13 51 from hec15 51 (by decide +kernel), show c15 52 = c13 52 from hec15 52 (by decide +kernel), show c15 53 = c13 53 from hec15 53 (by decide +kernel)]; exact hs_9
                  have hs_Q : SQ (c 3) (c 6) (c15 51) (c15 52) (i 5).toInt (i 22).toInt ((i15 50) : Int32).toInt := by rw [show c15 51 = c13 51 from hec15 51 (by decide +kernel), show c15 52 = c13 52 from hec15 52 (by decide +kernel), show i15 50 = i13 50 from hei15 50 (by decide +kernel)]; exact hs_Q
                  have hs_b : 1 ≤ ((i15 50) : Int32).toInt := by rw [show i15 50 = i13 50 from hei15 50 (by decide +kernel)]; exact hs_b
                  have hTI : TI (i 5).toInt (fun z => Kd (c 3) (c 6) z 0) (i 22).toInt (c15 23) (c15 24) := TI_ext (hs_Q0 300 (Or.inr rfl)) hxp15_0
                  have hS4 : Sk4 (c15 23) (c15 24) (c15 25) (c15 26) (c 23) (c 24) (c 25) (c 26) (i 5).toInt := Sk4_g (T := 300) hs_9o hxp15_0 hxp15_1 (by decide +kernel) (fun j => hI0s.2 25 j) (fun j => hI0s.2 26 j)
                  refine lv_iload hx hb dX12_seek_188 (lv_at hl 5 rfl) ?_
                  exact rw_iret (i15, q15, c15, d15) hx hb hr hlocks hS (hK.sub (tys' := []) [] rfl) hP hD dX12_seek_190 ⟨trivial, hI, fr_w hfi (by decide +kernel), fr_w hfc (by decide +kernel), (show SJ (c15 3) (c15 6) (c15 9) (c15 10) (c15 11) (c15 13) ((i15 2) : Int32).toInt ((i15 5) : Int32).toInt ((i15 8) : Int32).toInt from by rw [show c15 3 = c 3 from hfc 3 (by decide +kernel), show c15 6 = c 6 from hfc 6 (by decide +kernel), show c15 9 = c 9 from hfc 9 (by decide +kernel), show c15 10 = c 10 from hfc 10 (by decide +kernel), show c15 11 = c 11 from hfc 11 (by decide +kernel), show c15 13 = c 13 from hfc 13 (by decide +kernel), show i15 2 = i 2 from hfi 2 (by decide +kernel), show i15 5 = i 5 from hfi 5 (by decide +kernel), show i15 8 = i 8 from hfi 8 (by decide +kernel)]; exact hs_S), (show TJ (c15 3) (c15 6) (c15 23) (c15 24) (c15 29) (c15 30) ((i15 5) : Int32).toInt ((i15 22) : Int32).toInt ((i15 27) : Int32).toInt from by rw [show c15 3 = c 3 from hfc 3 (by decide +kernel), show c15 6 = c 6 from hfc 6 (by decide +kernel), show c15 29 = c 29 from hfc 29 (by decide +kernel), show c15 30 = c 30 from hfc 30 (by decide +kernel), show i15 5 = i 5 from hfi 5 (by decide +kernel), show i15 22 = i 22 from hfi 22 (by decide +kernel), show i15 27 = i 27 from hfi 27 (by decide +kernel)]; exact fun q9 => ⟨(hs_J q9).1, hTI, (hs_J q9).2.2⟩), (show Sk4 (c15 23) (c15 24) (c15 25) (c15 26) (c 23) (c 24) (c 25) (c 26) (i 5).toInt from hS4)⟩
                · have f14 := mt (ti_le (a := n1.toInt) (b := y13_5.toInt) rfl rfl).mpr c14
                  refine lv_iload hx hb dX12_seek_128 (lv_at hl 0 rfl) ?_
                  refine lv_aload_n hx hb dX12_seek_130 rfl (lv_at hl 1 rfl) ?_
                  refine mget_50 (v := (i13 50)) rfl hx hb hts (fun _ h => List.mem_cons_of_mem _ (List.mem_append_right _ h)) hown hK hP (hts (.fieldLink RX12 410 "TalePlayModel" "states" "I") (List.mem_cons_of_mem _ (List.mem_append_left _ (List.mem_append_right _ (List.mem_append_right _ (List.mem_append_right _ (List.mem_append_left _ (List.mem_of_getElem? (i := 8) rfl)))))))) dX12_seek_131 ?_
                  have rb50_i13 : 0 ≤ (i13 50).toInt ∧ (i13 50).toInt ≤ 300 := hI.1 50
                  refine lv_icmp_ge (tgt := 181) hx hb dX12_seek_134 (by decide +kernel) (fun c16 => ?_) (fun c16 => ?_)
                  · have f16 := (ti_le (a := (i13 50).toInt) (b := y13_5.toInt) rfl rfl).mp c16
                    have hs_Q0 := hs_Q
                    have hs_9o := hs_9
                    refine lv_aload_n hx hb dX12_seek_181 rfl (lv_at hl 1 rfl) ?_
                    refine lv_sipush (v := 300) hx hb dX12_seek_182 (by decide +kernel) ?_
                    have rb5_i13 : 0 ≤ (i13 5).toInt ∧ (i13 5).toInt ≤ 30 := hI.1 5
                    have re5_i13 : (i13 5).toInt = (i 5).toInt := congrArg Int32.toInt (hfi 5 (by decide +kernel))
                    refine al_callv (va_runV (As := [.int 300]) (rest := []) ⟨hx, hb, hml, hown, hts⟩ (s_X12_giveState_t l D H.size o a t i13 q13 c13 d13 300 hI (show 0 ≤ 300 ∧ 300 ≤ 300 from by decide +kernel)) (cwV 1 hts gm_X12_seek_X12_giveState rfl rfl rfl (by decide +kernel) ⟨Nat.le_of_ble_eq_true rfl, Nat.le_of_ble_eq_true rfl⟩) (pB_V hK hP hD (ci := 12) (q0 := 0) rfl rfl) rfl rfl hl.1 rfl (lv_room (Nat.le_of_ble_eq_true rfl)) dX12_seek_185 ⟨Nat.le_of_ble_eq_true rfl, Nat.le_of_ble_eq_true rfl⟩) hS hA hP hD (fun u17 H locs hw17 hP hD hS => ?_)
                    obtain ⟨i17, q17, c17, d17⟩ := u17
                    have hw17 : True ∧ mInv i17 c17 ∧ (∀ k, k ∉ ([] : List Nat) → i17 k = i13 k) ∧ (∀ k, k ∉ ([23, 24, 25, 26] : List Nat) → c17 k = c13 k) ∧ (GB (c17 23) (c17 24) (c13 51) (c13 52) (300 : Int).toNat (i13 5).toInt) ∧ (GS (c17 25) (c17 26) (c13 53) (300 : Int).toNat (i13 5).toInt) := hw17
                    obtain ⟨hw17, hI, hei17, hec17, hxp17_0, hxp17_1⟩ := hw17
                    have hxp17_0 : GB (c17 23) (c17 24) (c13 51) (c13 52) (300 : Int).toNat (i 5).toInt := by have h9 := hxp17_0; rw [show i13 5 = i 5 from hfi 5 (by decide +kernel)] at h9; exact h9
                    have hxp17_1 : GS (c17 25) (c17 26) (c13 53) (300 : Int).toNat (i 5).toInt := by have h9 := hxp17_1; rw [show i13 5 = i 5 from hfi 5 (by decide +kernel)] at h9; exact h9
                    have hfi : ∀ k, k ∉ ([16, 17, 18, 19, 36, 40, 41, 42, 50, 57, 58, 59] : List Nat) → i17 k = i k := fr_z hfi hei17 (by decide +kernel) (by decide +kernel)
                    have hfc : ∀ k, k ∉ ([23, 24, 25, 26, 38, 39, 43, 44, 45, 46, 47, 48, 49, 51, 52, 53, 54, 55, 56] : List Nat) → c17 k = c k := fr_z hfc hec17 (by decide +kernel) (by decide +kernel)
                    have hP : va_P D vwCl (mW o a t i17 q17 c17 d17) H := hP
                    have hD : va_D A (mW o a t i17 q17 c17 d17) := hD
                    have hs_C : Cc (c 3) (c 6) (c17 47) (c17 48) (c17 49) (i 5).toInt := by rw [show c17 47 = c13 47 from hec17 47 (by decide +kernel), show c17 48 = c13 48 from hec17 48 (by decide +kernel), show c17 49 = c13 49 from hec17 49 (by decide +kernel)]; exact hs_C
                    have hs_9 : K9 (c17 51) (c17 52) (c17 53) (c 23) (c 24) (c 25) (c 26) (i 5).toInt := by rw [show c17 51 = c13 51 from hec17 51 (by decide +kernel), show c17 52 = c13 52 from hec17 52 (by decide +kernel), show c17 53 = c13 53 from hec17 53 (by decide +kernel)]; exact hs_9
                    have hs_Q : SQ (c 3) (c 6) (c17 51) (c17 52) (i 5).toInt (i 22).toInt ((i17 50) : Int32).toInt := by rw [show c17 51 = c13 51 from hec17 51 (by decide +kernel), show c17 52 = c13 52 from hec17 52 (by decide +kernel), show i17 50 = i13 50 from hei17 50 (by decide +kernel)]; exact hs_Q
                    have hs_b : 1 ≤ ((i17 50) : Int32).toInt := by rw [show i17 50 = i13 50 from hei17 50 (by decide +kernel)]; exact hs_b
                    have hTI : TI (i 5).toInt (fun z => Kd (c 3) (c 6) z 0) (i 22).toInt (c17 23) (c17 24) := TI_ext (hs_Q0 300 (Or.inr rfl)) hxp17_0
                    have hS4 : Sk4 (c17 23) (c17 24) (c17 25) (c17 26) (c 23) (c 24) (c 25) (c 26) (i 5).toInt := Sk4_g (T := 300) hs_9o hxp17_0 hxp17_1 (by decide +kernel) (fun j => hI0s.2 25 j) (fun j => hI0s.2 26 j)
                    refine lv_iload hx hb dX12_seek_188 (lv_at hl 5 rfl) ?_
                    exact rw_iret (i17, q17, c17, d17) hx hb hr hlocks hS (hK.sub (tys' := []) [] rfl) hP hD dX12_seek_190 ⟨trivial, hI, fr_w hfi (by decide +kernel), fr_w hfc (by decide +kernel), (show SJ (c17 3) (c17 6) (c17 9) (c17 10) (c17 11) (c17 13) ((i17 2) : Int32).toInt ((i17 5) : Int32).toInt ((i17 8) : Int32).toInt from by rw [show c17 3 = c 3 from hfc 3 (by decide +kernel), show c17 6 = c 6 from hfc 6 (by decide +kernel), show c17 9 = c 9 from hfc 9 (by decide +kernel), show c17 10 = c 10 from hfc 10 (by decide +kernel), show c17 11 = c 11 from hfc 11 (by decide +kernel), show c17 13 = c 13 from hfc 13 (by decide +kernel), show i17 2 = i 2 from hfi 2 (by decide +kernel), show i17 5 = i 5 from hfi 5 (by decide +kernel), show i17 8 = i 8 from hfi 8 (by decide +kernel)]; exact hs_S), (show TJ (c17 3) (c17 6) (c17 23) (c17 24) (c17 29) (c17 30) ((i17 5) : Int32).toInt ((i17 22) : Int32).toInt ((i17 27) : Int32).toInt from by rw [show c17 3 = c 3 from hfc 3 (by decide +kernel), show c17 6 = c 6 from hfc 6 (by decide +kernel), show c17 29 = c 29 from hfc 29 (by decide +kernel), show c17 30 = c 30 from hfc 30 (by decide +kernel), show i17 5 = i 5 from hfi 5 (by decide +kernel), show i17 22 = i 22 from hfi 22 (by decide +kernel), show i17 27 = i 27 from hfi 27 (by decide +kernel)]; exact fun q9 => ⟨(hs_J q9).1, hTI, (hs_J q9).2.2⟩), (show Sk4 (c17 23) (c17 24) (c17 25) (c17 26) (c 23) (c 24) (c 25) (c 26) (i 5).toInt from hS4)⟩
                  · have f16 := mt (ti_le (a := (i13 50).toInt) (b := y13_5.toInt) rfl rfl).mpr c16
                    refine lv_aload_n hx hb dX12_seek_137 rfl (lv_at hl 1 rfl) ?_
                    refine mget_50 (v := (i13 50)) rfl hx hb hts (fun _ h => List.mem_cons_of_mem _ (List.mem_append_right _ h)) hown hK hP (hts (.fieldLink RX12 410 "TalePlayModel" "states" "I") (List.mem_cons_of_mem _ (List.mem_append_left _ (List.mem_append_right _ (List.mem_append_right _ (List.mem_append_right _ (List.mem_append_left _ (List.mem_of_getElem? (i := 8) rfl)))))))) dX12_seek_138 ?_
                    refine lv_sipush (v := 300) hx hb dX12_seek_141 (by decide +kernel) ?_
                    refine lv_icmp_ge (tgt := 181) hx hb dX12_seek_144 (by decide +kernel) (fun c18 => ?_) (fun c18 => ?_)
                    · have f18 := (ti_le (a := 300) (b := (i13 50).toInt) (by decide +kernel) rfl).mp c18
                      have hs_Q0 := hs_Q
                      have hs_9o := hs_9
                      refine lv_aload_n hx hb dX12_seek_181 rfl (lv_at hl 1 rfl) ?_
                      refine lv_sipush (v := 300) hx hb dX12_seek_182 (by decide +kernel) ?_
                      have rb5_i13 : 0 ≤ (i13 5).toInt ∧ (i13 5).toInt ≤ 30 := hI.1 5
                      have re5_i13 : (i13 5).toInt = (i 5).toInt := congrArg Int32.toInt (hfi 5 (by decide +kernel))
                      refine al_callv (va_runV (As := [.int 300]) (rest := []) ⟨hx, hb, hml, hown, hts⟩ (s_X12_giveState_t l D H.size o a t i13 q13 c13 d13 300 hI (show 0 ≤ 300 ∧ 300 ≤ 300 from by decide +kernel)) (cwV 1 hts gm_X12_seek_X12_giveState rfl rfl rfl (by decide +kernel) ⟨Nat.le_of_ble_eq_true rfl, Nat.le_of_ble_eq_true rfl⟩) (pB_V hK hP hD (ci := 12) (q0 := 0) rfl rfl) rfl rfl hl.1 rfl (lv_room (Nat.le_of_ble_eq_true rfl)) dX12_seek_185 ⟨Nat.le_of_ble_eq_true rfl, Nat.le_of_ble_eq_true rfl⟩) hS hA hP hD (fun u19 H locs hw19 hP hD hS => ?_)
                      obtain ⟨i19, q19, c19, d19⟩ := u19
                      have hw19 : True ∧ mInv i19 c19 ∧ (∀ k, k ∉ ([] : List Nat) → i19 k = i13 k) ∧ (∀ k, k ∉ ([23, 24, 25, 26] : List Nat) → c19 k = c13 k) ∧ (GB (c19 23) (c19 24) (c13 51) (c13 52) (300 : Int).toNat (i13 5).toInt) ∧ (GS (c19 25) (c19 26) (c13 53) (300 : Int).toNat (i13 5).toInt) := hw19
                      obtain ⟨hw19, hI, hei19, hec19, hxp19_0, hxp19_1⟩ := hw19
                      have hxp19_0 : GB (c19 23) (c19 24) (c13 51) (c13 52) (300 : Int).toNat (i 5).toInt := by have h9 := hxp19_0; rw [show i13 5 = i 5 from hfi 5 (by decide +kernel)] at h9; exact h9
                      have hxp19_1 : GS (c19 25) (c19 26) (c13 53) (300 : Int).toNat (i 5).toInt := by have h9 := hxp19_1; rw [show i13 5 = i 5 from hfi 5 (by decide +kernel)] at h9; exact h9
                      have hfi : ∀ k, k ∉ ([16, 17, 18, 19, 36, 40, 41, 42, 50, 57, 58, 59] : List Nat) → i19 k = i k := fr_z hfi hei19 (by decide +kernel) (by decide +kernel)
                      have hfc : ∀ k, k ∉ ([23, 24, 25, 26, 38, 39, 43, 44, 45, 46, 47, 48, 49, 51, 52, 53, 54, 55, 56] : List Nat) → c19 k = c k := fr_z hfc hec19 (by decide +kernel) (by decide +kernel)
                      have hP : va_P D vwCl (mW o a t i19 q19 c19 d19) H := hP
                      have hD : va_D A (mW o a t i19 q19 c19 d19) := hD
                      have hs_C : Cc (c 3) (c 6) (c19 47) (c19 48) (c19 49) (i 5).toInt := by rw [show c19 47 = c13 47 from hec19 47 (by decide +kernel), show c19 48 = c13 48 from hec19 48 (by decide +kernel), show c19 49 = c13 49 from hec19 49 (by decide +kernel)]; exact hs_C
                      have hs_9 : K9 (c19 51) (c19 52) (c19 53) (c 23) (c 24) (c 25) (c 26) (i 5).toInt := by rw [show c19 51 = c13 51 from hec19 51 (by decide +kernel), show c19 52 = c13 52 from hec19 52 (by decide +kernel), show c19 53 = c13 53 from hec19 53 (by decide +kernel)]; exact hs_9
                      have hs_Q : SQ (c 3) (c 6) (c19 51) (c19 52) (i 5).toInt (i 22).toInt ((i19 50) : Int32).toInt := by rw [show c19 51 = c13 51 from hec19 51 (by decide +kernel), show c19 52 = c13 52 from hec19 52 (by decide +kernel), show i19 50 = i13 50 from hei19 50 (by decide +kernel)]; exact hs_Q
                      have hs_b : 1 ≤ ((i19 50) : Int32).toInt := by rw [show i19 50 = i13 50 from hei19 50 (by decide +kernel)]; exact hs_b
                      have hTI : TI (i 5).toInt (fun z => Kd (c 3) (c 6) z 0) (i 22).toInt (c19 23) (c19 24) := TI_ext (hs_Q0 300 (Or.inr rfl)) hxp19_0
                      have hS4 : Sk4 (c19 23) (c19 24) (c19 25) (c19 26) (c 23) (c 24) (c 25) (c 26) (i 5).toInt := Sk4_g (T := 300) hs_9o hxp19_0 hxp19_1 (by decide +kernel) (fun j => hI0s.2 25 j) (fun j => hI0s.2 26 j)
                      refine lv_iload hx hb dX12_seek_188 (lv_at hl 5 rfl) ?_
                      exact rw_iret (i19, q19, c19, d19) hx hb hr hlocks hS (hK.sub (tys' := []) [] rfl) hP hD dX12_seek_190 ⟨trivial, hI, fr_w hfi (by decide +kernel), fr_w hfc (by decide +kernel), (show SJ (c19 3) (c19 6) (c19 9) (c19 10) (c19 11) (c19 13) ((i19 2) : Int32).toInt ((i19 5) : Int32).toInt ((i19 8) : Int32).toInt from by rw [show c19 3 = c 3 from hfc 3 (by decide +kernel), show c19 6 = c 6 from hfc 6 (by decide +kernel), show c19 9 = c 9 from hfc 9 (by decide +kernel), show c19 10 = c 10 from hfc 10 (by decide +kernel), show c19 11 = c 11 from hfc 11 (by decide +kernel), show c19 13 = c 13 from hfc 13 (by decide +kernel), show i19 2 = i 2 from hfi 2 (by decide +kernel), show i19 5 = i 5 from hfi 5 (by decide +kernel), show i19 8 = i 8 from hfi 8 (by decide +kernel)]; exact hs_S), (show TJ (c19 3) (c19 6) (c19 23) (c19 24) (c19 29) (c19 30) ((i19 5) : Int32).toInt ((i19 22) : Int32).toInt ((i19 27) : Int32).toInt from by rw [show c19 3 = c 3 from hfc 3 (by decide +kernel), show c19 6 = c 6 from hfc 6 (by decide +kernel), show c19 29 = c 29 from hfc 29 (by decide +kernel), show c19 30 = c 30 from hfc 30 (by decide +kernel), show i19 5 = i 5 from hfi 5 (by decide +kernel), show i19 22 = i 22 from hfi 22 (by decide +kernel), show i19 27 = i 27 from hfi 27 (by decide +kernel)]; exact fun q9 => ⟨(hs_J q9).1, hTI, (hs_J q9).2.2⟩), (show Sk4 (c19 23) (c19 24) (c19 25) (c19 26) (c 23) (c 24) (c 25) (c 26) (i 5).toInt from hS4)⟩
                    · have f18 := mt (ti_le (a := 300) (b := (i13 50).toInt) (by decide +kernel) rfl).mpr c18
                      refine lv_iload hx hb dX12_seek_147 (lv_at hl 5 rfl) ?_
                      refine lv_bipush (v := (-9)) hx hb dX12_seek_149 (by decide +kernel) ?_
                      refine lv_icmp_ne (tgt := 181) hx hb dX12_seek_151 (by decide +kernel) (fun c20 => ?_) (fun c20 => ?_)
                      · have f20 := mt (ti_eq (a := y13_4.toInt) (b := (-9)) rfl (by decide +kernel)).mpr c20
                        have hs_Q0 := hs_Q
                        have hs_9o := hs_9
                        refine lv_aload_n hx hb dX12_seek_181 rfl (lv_at hl 1 rfl) ?_
                        refine lv_sipush (v := 300) hx hb dX12_seek_182 (by decide +kernel) ?_
                        have rb5_i13 : 0 ≤ (i13 5).toInt ∧ (i13 5).toInt ≤ 30 := hI.1 5
                        have re5_i13 : (i13 5).toInt = (i 5).toInt := congrArg Int32.toInt (hfi 5 (by decide +kernel))
                        refine al_callv (va_runV (As := [.int 300]) (rest := []) ⟨hx, hb, hml, hown, hts⟩ (s_X12_giveState_t l D H.size o a t i13 q13 c13 d13 300 hI (show 0 ≤ 300 ∧ 300 ≤ 300 from by decide +kernel)) (cwV 1 hts gm_X12_seek_X12_giveState rfl rfl rfl (by decide +kernel) ⟨Nat.le_of_ble_eq_true rfl, Nat.le_of_ble_eq_true rfl⟩) (pB_V hK hP hD (ci := 12) (q0 := 0) rfl rfl) rfl rfl hl.1 rfl (lv_room (Nat.le_of_ble_eq_true rfl)) dX12_seek_185 ⟨Nat.le_of_ble_eq_true rfl, Nat.le_of_ble_eq_true rfl⟩) hS hA hP hD (fun u21 H locs hw21 hP hD hS => ?_)
                        obtain ⟨i21, q21, c21, d21⟩ := u21
                        have hw21 : True ∧ mInv i21 c21 ∧ (∀ k, k ∉ ([] : List Nat) → i21 k = i13 k) ∧ (∀ k, k ∉ ([23, 24, 25, 26] : List Nat) → c21 k = c13 k) ∧ (GB (c21 23) (c21 24) (c13 51) (c13 52) (300 : Int).toNat (i13 5).toInt) ∧ (GS (c21 25) (c21 26) (c13 53) (300 : Int).toNat (i13 5).toInt) := hw21
                        obtain ⟨hw21, hI, hei21, hec21, hxp21_0, hxp21_1⟩ := hw21
                        have hxp21_0 : GB (c21 23) (c21 24) (c13 51) (c13 52) (300 : Int).toNat (i 5).toInt := by have h9 := hxp21_0; rw [show i13 5 = i 5 from hfi 5 (by decide +kernel)] at h9; exact h9
                        have hxp21_1 : GS (c21 25) (c21 26) (c13 53) (300 : Int).toNat (i 5).toInt := by have h9 := hxp21_1; rw [show i13 5 = i 5 from hfi 5 (by decide +kernel)] at h9; exact h9
                        have hfi : ∀ k, k ∉ ([16, 17, 18, 19, 36, 40, 41, 42, 50, 57, 58, 59] : List Nat) → i21 k = i k := fr_z hfi hei21 (by decide +kernel) (by decide +kernel)
                        have hfc : ∀ k, k ∉ ([23, 24, 25, 26, 38, 39, 43, 44, 45, 46, 47, 48, 49, 51, 52, 53, 54, 55, 56] : List Nat) → c21 k = c k := fr_z hfc hec21 (by decide +kernel) (by decide +kernel)
                        have hP : va_P D vwCl (mW o a t i21 q21 c21 d21) H := hP
                        have hD : va_D A (mW o a t i21 q21 c21 d21) := hD
                        have hs_C : Cc (c 3) (c 6) (c21 47) (c21 48) (c21 49) (i 5).toInt := by rw [show c21 47 = c13 47 from hec21 47 (by decide +kernel), show c21 48 = c13 48 from hec21 48 (by decide +kernel), show c21 49 = c13 49 from hec21 49 (by decide +kernel)]; exact hs_C
                        have hs_9 : K9 (c21 51) (c21 52) (c21 53) (c 23) (c 24) (c 25) (c 26) (i 5).toInt := by rw [show c21 51 = c13 51 from hec21 51 (by decide +kernel), show c21 52 = c13 52 from hec21 52 (by decide +kernel), show c21 53 = c13 53 from hec21 53 (by decide +kernel)]; exact hs_9
                        have hs_Q : SQ (c 3) (c 6) (c21 51) (c21 52) (i 5).toInt (i 22).toInt ((i21 50) : Int32).toInt := by rw [show c21 51 = c13 51 from hec21 51 (by decide +kernel), show c21 52 = c13 52 from hec21 52 (by decide +kernel), show i21 50 = i13 50 from hei21 50 (by decide +kernel)]; exact hs_Q
                        have hs_b : 1 ≤ ((i21 50) : Int32).toInt := by rw [show i21 50 = i13 50 from hei21 50 (by decide +kernel)]; exact hs_b
                        have hTI : TI (i 5).toInt (fun z => Kd (c 3) (c 6) z 0) (i 22).toInt (c21 23) (c21 24) := TI_ext (hs_Q0 300 (Or.inr rfl)) hxp21_0
                        have hS4 : Sk4 (c21 23) (c21 24) (c21 25) (c21 26) (c 23) (c 24) (c 25) (c 26) (i 5).toInt := Sk4_g (T := 300) hs_9o hxp21_0 hxp21_1 (by decide +kernel) (fun j => hI0s.2 25 j) (fun j => hI0s.2 26 j)
                        refine lv_iload hx hb dX12_seek_188 (lv_at hl 5 rfl) ?_
                        exact rw_iret (i21, q21, c21, d21) hx hb hr hlocks hS (hK.sub (tys' := []) [] rfl) hP hD dX12_seek_190 ⟨trivial, hI, fr_w hfi (by decide +kernel), fr_w hfc (by decide +kernel), (show SJ (c21 3) (c21 6) (c21 9) (c21 10) (c21 11) (c21 13) ((i21 2) : Int32).toInt ((i21 5) : Int32).toInt ((i21 8) : Int32).toInt from by rw [show c21 3 = c 3 from hfc 3 (by decide +kernel), show c21 6 = c 6 from hfc 6 (by decide +kernel), show c21 9 = c 9 from hfc 9 (by decide +kernel), show c21 10 = c 10 from hfc 10 (by decide +kernel), show c21 11 = c 11 from hfc 11 (by decide +kernel), show c21 13 = c 13 from hfc 13 (by decide +kernel), show i21 2 = i 2 from hfi 2 (by decide +kernel), show i21 5 = i 5 from hfi 5 (by decide +kernel), show i21 8 = i 8 from hfi 8 (by decide +kernel)]; exact hs_S), (show TJ (c21 3) (c21 6) (c21 23) (c21 24) (c21 29) (c21 30) ((i21 5) : Int32).toInt ((i21 22) : Int32).toInt ((i21 27) : Int32).toInt from by rw [show c21 3 = c 3 from hfc 3 (by decide +kernel), show c21 6 = c 6 from hfc 6 (by decide +kernel), show c21 29 = c 29 from hfc 29 (by decide +kernel), show c21 30 = c 30 from hfc 30 (by decide +kernel), show i21 5 = i 5 from hfi 5 (by decide +kernel), show i21 22 = i 22 from hfi 22 (by decide +kernel), show i21 27 = i 27 from hfi 27 (by decide +kernel)]; exact fun q9 => ⟨(hs_J q9).1, hTI, (hs_J q9).2.2⟩), (show Sk4 (c21 23) (c21 24) (c21 25) (c21 26) (c 23) (c 24) (c 25) (c 26) (i 5).toInt from hS4)⟩
                      · have f20 := (ti_eq (a := y13_4.toInt) (b := (-9)) rfl (by decide +kernel)).mp c20
                        refine lv_aload_n hx hb dX12_seek_154 rfl (lv_at hl 1 rfl) ?_
                        refine lv_iload hx hb dX12_seek_155 (lv_at hl 0 rfl) ?_
                        have rb2_i13 : 6 ≤ (i13 2).toInt ∧ (i13 2).toInt ≤ 24 := hI.1 2
                        have re2_i13 : (i13 2).toInt = (i 2).toInt := congrArg Int32.toInt (hfi 2 (by decide +kernel))
                        have rb5_i13 : 0 ≤ (i13 5).toInt ∧ (i13 5).toInt ≤ 30 := hI.1 5
                        have re5_i13 : (i13 5).toInt = (i 5).toInt := congrArg Int32.toInt (hfi 5 (by decide +kernel))
                        have rb8_i13 : 0 ≤ (i13 8).toInt ∧ (i13 8).toInt ≤ 200 := hI.1 8
                        have re8_i13 : (i13 8).toInt = (i 8).toInt := congrArg Int32.toInt (hfi 8 (by decide +kernel))
                        have rb22_i13 : (i13 22).toInt = -9 ∨ (0 ≤ (i13 22).toInt ∧ (i13 22).toInt ≤ 29) := hI.1 22
                        have re22_i13 : (i13 22).toInt = (i 22).toInt := congrArg Int32.toInt (hfi 22 (by decide +kernel))
                        have rb33_i13 : 0 ≤ (i13 33).toInt ∧ (i13 33).toInt ≤ 1 := hI.1 33
                        have re33_i13 : (i13 33).toInt = (i 33).toInt := congrArg Int32.toInt (hfi 33 (by decide +kernel))
                        refine al_calli (va_runV (As := [.int y13_5]) (rest := []) ⟨hx, hb, hml, hown, hts⟩ (s_X12_triedAll_t l D H.size o a t i13 q13 c13 d13 y13_5 hI (show 0 ≤ y13_5.toInt ∧ y13_5.toInt < ((i13 50) : Int32).toInt ∧ ((i13 50) : Int32).toInt < 300 from by omega) (show 0 ≤ ((i13 22) : Int32).toInt from by omega) (by rw [show c13 3 = c 3 from hfc 3 (by decide +kernel), show c13 6 = c 6 from hfc 6 (by decide +kernel), show i13 5 = i 5 from hfi 5 (by decide +kernel)]; exact hs_C) (by rw [show c13 3 = c 3 from hfc 3 (by decide +kernel), show c13 6 = c 6 from hfc 6 (by decide +kernel), show c13 9 = c 9 from hfc 9 (by decide +kernel), show c13 10 = c 10 from hfc 10 (by decide +kernel), show c13 11 = c 11 from hfc 11 (by decide +kernel), show c13 13 = c 13 from hfc 13 (by decide +kernel), show i13 2 = i 2 from hfi 2 (by decide +kernel), show i13 5 = i 5 from hfi 5 (by decide +kernel), show i13 8 = i 8 from hfi 8 (by decide +kernel)]; exact hs_S) (by rw [show c13 3 = c 3 from hfc 3 (by decide +kernel), show c13 6 = c 6 from hfc 6 (by decide +kernel), show i13 22 = i 22 from hfi 22 (by decide +kernel)]; exact hs_P) (by rw [show c13 3 = c 3 from hfc 3 (by decide +kernel), show c13 6 = c 6 from hfc 6 (by decide +kernel), show i13 5 = i 5 from hfi 5 (by decide +kernel), show i13 22 = i 22 from hfi 22 (by decide +kernel)]; exact hs_Q) (show ((i13 33) : Int32).toInt = 0 from by omega)) (cwV 1 hts gm_X12_seek_X12_triedAll rfl rfl rfl (by decide +kernel) ⟨Nat.le_of_ble_eq_true rfl, Nat.le_of_ble_eq_true rfl⟩) (pB_V hK hP hD (ci := 12) (q0 := 0) rfl rfl) rfl rfl hl.1 rfl (lv_room (Nat.le_of_ble_eq_true rfl)) dX12_seek_157 ⟨Nat.le_of_ble_eq_true rfl, Nat.le_of_ble_eq_true rfl⟩) hS hA hP hD (fun r22 u22 H locs hw22 hP hD hS => ?_)
                        obtain ⟨i22, q22, c22, d22⟩ := u22
                        have hw22 : (0 ≤ r22.toInt ∧ r22.toInt ≤ 1) ∧ mInv i22 c22 ∧ (∀ k, k ∉ ([16, 17, 18, 19, 36, 40, 41, 42, 50] : List Nat) → i22 k = i13 k) ∧ (∀ k, k ∉ ([23, 24, 25, 26, 38, 39, 43, 44, 51, 52, 53, 54, 55] : List Nat) → c22 k = c13 k) ∧ (SQ (c22 3) (c22 6) (c22 51) (c22 52) (i22 5).toInt (i22 22).toInt (i22 50).toInt) ∧ ((i13 50).toInt ≤ (i22 50).toInt) ∧ (U9 (c22 51) (c22 52) (c22 53) (c13 51) (c13 52) (c13 53)) := hw22
                        obtain ⟨hw22, hI, hei22, hec22, hxp22_0, hxp22_1, hxp22_2⟩ := hw22
                        have hxp22_0 : SQ (c22 3) (c22 6) (c22 51) (c22 52) (i22 5).toInt (i22 22).toInt (i22 50).toInt := hxp22_0
                        have hxp22_1 : (i13 50).toInt ≤ (i22 50).toInt := hxp22_1
                        have hxp22_2 : U9 (c22 51) (c22 52) (c22 53) (c13 51) (c13 52) (c13 53) := hxp22_2
                        have hfi : ∀ k, k ∉ ([16, 17, 18, 19, 36, 40, 41, 42, 50, 57, 58, 59] : List Nat) → i22 k = i k := fr_z hfi hei22 (by decide +kernel) (by decide +kernel)
                        have hfc : ∀ k, k ∉ ([23, 24, 25, 26, 38, 39, 43, 44, 45, 46, 47, 48, 49, 51, 52, 53, 54, 55, 56] : List Nat) → c22 k = c k := fr_z hfc hec22 (by decide +kernel) (by decide +kernel)
                        have hP : va_P D vwCl (mW o a t i22 q22 c22 d22) H := hP
                        have hD : va_D A (mW o a t i22 q22 c22 d22) := hD
                        have hs_C : Cc (c 3) (c 6) (c22 47) (c22 48) (c22 49) (i 5).toInt := by rw [show c22 47 = c13 47 from hec22 47 (by decide +kernel), show c22 48 = c13 48 from hec22 48 (by decide +kernel), show c22 49 = c13 49 from hec22 49 (by decide +kernel)]; exact hs_C
                        have hs_Q : SQ (c 3) (c 6) (c22 51) (c22 52) (i 5).toInt (i 22).toInt ((i22 50) : Int32).toInt := by have h9 := hxp22_0; rw [show c22 3 = c 3 from hfc 3 (by decide +kernel), show c22 6 = c 6 from hfc 6 (by decide +kernel), show i22 5 = i 5 from hfi 5 (by decide +kernel), show i22 22 = i 22 from hfi 22 (by decide +kernel)] at h9; exact h9
                        have hs_b : 1 ≤ ((i22 50) : Int32).toInt := by omega
                        have hs_9 : K9 (c22 51) (c22 52) (c22 53) (c 23) (c 24) (c 25) (c 26) (i 5).toInt := K9_u hs_9 hxp22_2
                        have jn23 : ∀ (i23 : Nat → Int32) (q23 : Int64) (c23 : Nat → Nat → Int32) (d23 : Nat → Nat → Int64) (y23_4 : Int32), mInv i23 c23 → (∀ k, k ∉ ([16, 17, 18, 19, 36, 40, 41, 42, 50, 57, 58, 59] : List Nat) → i23 k = i k) → (∀ k, k ∉ ([23, 24, 25, 26, 38, 39, 43, 44, 45, 46, 47, 48, 49, 51, 52, 53, 54, 55, 56] : List Nat) → c23 k = c k) → (Cc (c 3) (c 6) (c23 47) (c23 48) (c23 49) (i 5).toInt) → (SQ (c 3) (c 6) (c23 51) (c23 52) (i 5).toInt (i 22).toInt ((i23 50) : Int32).toInt) → (1 ≤ ((i23 50) : Int32).toInt) → (K9 (c23 51) (c23 52) (c23 53) (c 23) (c 24) (c 25) (c 26) (i 5).toInt) → (y23_4.toInt = -9 ∨ (0 ≤ y23_4.toInt ∧ y23_4.toInt ≤ 300)) → ∀ (H : Heap) (locs : List Loc) (ls : Array Slot), va_P D vwCl (mW o a t i23 q23 c23 d23) H → va_D A (mW o a t i23 q23 c23 d23) → va_S A s.heap H locs → lv_has ls 6 [(5, .int y13_5), (0, .ref o), (1, .int w1), (2, .int w2), (3, .int n1), (4, .int y23_4)] → W p l e (headSpec wm_X12_seek ({ frames := 7, cells := 0, slots := 0, locals := 168 })).room s m ([.ref o, .int w1, .int w2, .int n1] : List Value).toArray below meth cd H locs 0 0 (MQ below (va_Qi (fun (r : Int32) (u : MS) => True ∧ mInv u.1 u.2.2.1 ∧ (∀ k, k ∉ ([16, 17, 18, 19, 36, 40, 41, 42, 50, 57, 58, 59] : List Nat) → u.1 k = i k) ∧ (∀ k, k ∉ ([23, 24, 25, 26, 38, 39, 43, 44, 45, 46, 47, 48, 49, 51, 52, 53, 54, 55, 56] : List Nat) → u.2.2.1 k = c k) ∧ (SJ (u.2.2.1 3) (u.2.2.1 6) (u.2.2.1 9) (u.2.2.1 10) (u.2.2.1 11) (u.2.2.1 13) (u.1 2).toInt (u.1 5).toInt (u.1 8).toInt) ∧ (TJ (u.2.2.1 3) (u.2.2.1 6) (u.2.2.1 23) (u.2.2.1 24) (u.2.2.1 29) (u.2.2.1 30) (u.1 5).toInt (u.1 22).toInt (u.1 27).toInt) ∧ (Sk4 (u.2.2.1 23) (u.2.2.1 24) (u.2.2.1 25) (u.2.2.1 26) (c 23) (c 24) (c 25) (c 26) (i 5).toInt)) (oC D A (fun u : MS => mW o a t u.1 u.2.1 u.2.2.1 u.2.2.2) (fun _ => [])) A) ([.ref o, .int w1, .int w2, .int n1] : List Value).toArray s 0 0 A) (F0 m 175 ls []) := by
                          intro i23 q23 c23 d23 y23_4 hI hfi hfc hs_C hs_Q hs_b hs_9 hy23_4 H locs ls hP hD hS hl
                          obtain ⟨x24, ex24⟩ : ∃ y : Int32, y = y13_5 + 1 := ⟨_, rfl⟩
                          have tx24 := ti_add (a := y13_5.toInt) (b := 1) ex24 rfl (by decide +kernel) (by omega) (by omega)
                          refine lv_iinc (v := x24) (lv' := [(5, .int x24), (0, .ref o), (1, .int w1), (2, .int w2), (3, .int n1), (4, .int y23_4)]) hx hb dX12_seek_175 hl (k := 0) rfl (by rw [ex24]; rfl) (by decide +kernel) rfl (fun ls hl => ?_)
                          refine lv_goto (tgt := 122) hx hb dX12_seek_178 (by decide +kernel) ?_
                          exact ih13 i23 q23 c23 d23 x24 y23_4 hI (fr_w hfi (by decide +kernel)) (fr_w hfc (by decide +kernel)) hs_C hs_9 hs_Q hs_b (show 0 ≤ x24.toInt ∧ x24.toInt ≤ 300 from by have h50 : x24.toInt = (y13_5.toInt + 1) := tx24; omega) (show y23_4.toInt = -9 ∨ (0 ≤ y23_4.toInt ∧ y23_4.toInt ≤ 300) from by have h50 : x24.toInt = (y13_5.toInt + 1) := tx24; omega) (by have h50 : x24.toInt = (y13_5.toInt + 1) := tx24; omega) _ _ _ hP hD hS (lv_sub hl [0, 1, 2, 3, 4, 5] rfl)
                        refine lv_if_eq (tgt := 175) hx hb dX12_seek_160 (by decide +kernel) (fun c25 => ?_) (fun c25 => ?_)
                        · have f25 := (ti_eq (a := r22.toInt) (b := 0) rfl (by decide +kernel)).mp c25
                          exact jn23 i22 q22 c22 d22 y13_4  hI (fr_w hfi (by decide +kernel)) (fr_w hfc (by decide +kernel)) hs_C hs_Q hs_b hs_9 (show y13_4.toInt = -9 ∨ (0 ≤ y13_4.toInt ∧ y13_4.toInt ≤ 300) from by omega) _ _ _ hP hD hS (lv_sub hl [0, 1, 2, 3, 4, 5] rfl)
                        · have f25 := mt (ti_eq (a := r22.toInt) (b := 0) rfl (by decide +kernel)).mpr c25
                          refine lv_aload_n hx hb dX12_seek_163 rfl (lv_at hl 1 rfl) ?_
                          refine lv_aload_n hx hb dX12_seek_164 rfl (lv_at hl 1 rfl) ?_
                          refine mget_50 (v := (i22 50)) rfl hx hb hts (fun _ h => List.mem_cons_of_mem _ (List.mem_append_right _ h)) hown hK hP (hts (.fieldLink RX12 410 "TalePlayModel" "states" "I") (List.mem_cons_of_mem _ (List.mem_append_left _ (List.mem_append_right _ (List.mem_append_right _ (List.mem_append_right _ (List.mem_append_left _ (List.mem_of_getElem? (i := 8) rfl)))))))) dX12_seek_165 ?_
                          have rb50_i22 : 0 ≤ (i22 50).toInt ∧ (i22 50).toInt ≤ 300 := hI.1 50
                          refine lv_iconst (v := 1) hx hb dX12_seek_168 (by decide +kernel) ?_
                          refine lv_isub hx hb dX12_seek_169 ?_
                          refine lv_topi (fun x26 ex26 => ?_)
                          have tx26 := ti_sub (a := (i22 50).toInt) (b := 1) ex26 rfl (by decide +kernel) (by omega) (by omega)
                          refine al_calli (va_runV (As := [.int x26]) (rest := []) ⟨hx, hb, hml, hown, hts⟩ (s_X12_found l D H.size o a t i22 q22 c22 d22 x26 hI (show 0 ≤ x26.toInt ∧ x26.toInt ≤ 299 from by have h90 : x26.toInt = ((i22 50).toInt - 1) := tx26; omega)) (cwV 1 hts gm_X12_seek_X12_found rfl rfl rfl (by decide +kernel) ⟨Nat.le_of_ble_eq_true rfl, Nat.le_of_ble_eq_true rfl⟩) (pB_V hK hP hD (ci := 12) (q0 := 0) rfl rfl) rfl rfl hl.1 rfl (lv_room (Nat.le_of_ble_eq_true rfl)) dX12_seek_170 ⟨Nat.le_of_ble_eq_true rfl, Nat.le_of_ble_eq_true rfl⟩) hS hA hP hD (fun r27 u27 H locs hw27 hP hD hS => ?_)
                          obtain ⟨i27, q27, c27, d27⟩ := u27
                          have hw27 : (0 ≤ r27.toInt ∧ r27.toInt ≤ 300) ∧ mInv i27 c27 ∧ (∀ k, k ∉ ([57] : List Nat) → i27 k = i22 k) ∧ (∀ k, k ∉ ([56] : List Nat) → c27 k = c22 k) := hw27
                          obtain ⟨hw27, hI, hei27, hec27⟩ := hw27
                          have hfi : ∀ k, k ∉ ([16, 17, 18, 19, 36, 40, 41, 42, 50, 57, 58, 59] : List Nat) → i27 k = i k := fr_z hfi hei27 (by decide +kernel) (by decide +kernel)
                          have hfc : ∀ k, k ∉ ([23, 24, 25, 26, 38, 39, 43, 44, 45, 46, 47, 48, 49, 51, 52, 53, 54, 55, 56] : List Nat) → c27 k = c k := fr_z hfc hec27 (by decide +kernel) (by decide +kernel)
                          have hP : va_P D vwCl (mW o a t i27 q27 c27 d27) H := hP
                          have hD : va_D A (mW o a t i27 q27 c27 d27) := hD
                          have hs_C : Cc (c 3) (c 6) (c27 47) (c27 48) (c27 49) (i 5).toInt := by rw [show c27 47 = c22 47 from hec27 47 (by decide +kernel), show c27 48 = c22 48 from hec27 48 (by decide +kernel), show c27 49 = c22 49 from hec27 49 (by decide +kernel)]; exact hs_C
                          have hs_Q : SQ (c 3) (c 6) (c27 51) (c27 52) (i 5).toInt (i 22).toInt ((i27 50) : Int32).toInt := by rw [show c27 51 = c22 51 from hec27 51 (by decide +kernel), show c27 52 = c22 52 from hec27 52 (by decide +kernel), show i27 50 = i22 50 from hei27 50 (by decide +kernel)]; exact hs_Q
                          have hs_b : 1 ≤ ((i27 50) : Int32).toInt := by rw [show i27 50 = i22 50 from hei27 50 (by decide +kernel)]; exact hs_b
                          have hs_9 : K9 (c27 51) (c27 52) (c27 53) (c 23) (c 24) (c 25) (c 26) (i 5).toInt := by rw [show c27 51 = c22 51 from hec27 51 (by decide +kernel), show c27 52 = c22 52 from hec27 52 (by decide +kernel), show c27 53 = c22 53 from hec27 53 (by decide +kernel)]; exact hs_9
                          refine lv_istore (lv' := [(4, .int r27), (5, .int y13_5), (0, .ref o), (1, .int w1), (2, .int w2), (3, .int n1)]) hx hb dX12_seek_173 hl (by decide +kernel) rfl (fun ls hl => ?_)
                          exact jn23 i27 q27 c27 d27 r27  hI (fr_w hfi (by decide +kernel)) (fr_w hfc (by decide +kernel)) hs_C hs_Q hs_b hs_9 (show r27.toInt = -9 ∨ (0 ≤ r27.toInt ∧ r27.toInt ≤ 300) from by omega) _ _ _ hP hD hS (lv_sub hl [1, 2, 3, 4, 5, 0] rfl)
            exact lp13 _ i12 q12 c12 d12 (0 : Int32) y12_4 hI (fr_w hfi (by decide +kernel)) (fr_w hfc (by decide +kernel)) hs_C hs_9 hs_Q hs_b (show 0 ≤ (0 : Int32).toInt ∧ (0 : Int32).toInt ≤ 300 from by decide +kernel) (show y12_4.toInt = -9 ∨ (0 ≤ y12_4.toInt ∧ y12_4.toInt ≤ 300) from by have h50 : (0 : Int32).toInt = 0 := (by decide +kernel); omega) (Nat.lt_succ_self _) _ _ _ hP hD hS (lv_sub hl [0, 1, 2, 3, 4, 5] rfl)
          refine lv_icmp_eq (tgt := 119) hx hb dX12_seek_99 (by decide +kernel) (fun c28 => ?_) (fun c28 => ?_)
          · have f28 := (ti_eq (a := x11.toInt) (b := (-9)) rfl (by decide +kernel)).mp c28
            exact jn12 (upd i10 50 1) q10 (updA c10 54 (0 : Int32).toNatClampNeg (-9)) d10 ((-9) : Int32)  hI (fr_w hfi (by decide +kernel)) (fr_w hfc (by decide +kernel)) hs_C hs_9 hs_Q hs_b (show ((-9) : Int32).toInt = -9 ∨ (0 ≤ ((-9) : Int32).toInt ∧ ((-9) : Int32).toInt ≤ 300) from by decide +kernel) _ _ _ hP hD hS (lv_sub hl [1, 2, 3, 4, 0] rfl)
          · have f28 := mt (ti_eq (a := x11.toInt) (b := (-9)) rfl (by decide +kernel)).mpr c28
            refine lv_aload_n hx hb dX12_seek_102 rfl (lv_at hl 1 rfl) ?_
            refine mget_24 hx hb hts (fun _ h => List.mem_cons_of_mem _ (List.mem_append_right _ h)) hown hK hP (hts (.fieldLink RX12 53 "TalePlayModel" "nAt" "[I") (List.mem_cons_of_mem _ (List.mem_append_left _ (List.mem_append_right _ (List.mem_append_right _ (List.mem_append_right _ (List.mem_append_left _ (List.mem_of_getElem? (i := 3) rfl)))))))) dX12_seek_103 ?_
            refine lv_iload_n hx hb dX12_seek_106 rfl (lv_at hl 2 rfl) ?_
            refine mld_24 hx hb hK hP (vp_in_iff.mpr (by have h9 : w1.toInt = w1.toInt := rfl; omega)) dX12_seek_107 (fun x29 ex29 => ?_)
            have rx29 : x29.toInt = -9 ∨ (0 ≤ x29.toInt ∧ x29.toInt ≤ 29) := by rw [ex29]; exact hI.2 24 _
            refine lv_iload_n hx hb dX12_seek_108 rfl (lv_at hl 3 rfl) ?_
            refine lv_icmp_ne (tgt := 119) hx hb dX12_seek_109 (by decide +kernel) (fun c30 => ?_) (fun c30 => ?_)
            · have f30 := mt (ti_eq (a := x29.toInt) (b := w2.toInt) rfl rfl).mpr c30
              exact jn12 (upd i10 50 1) q10 (updA c10 54 (0 : Int32).toNatClampNeg (-9)) d10 ((-9) : Int32)  hI (fr_w hfi (by decide +kernel)) (fr_w hfc (by decide +kernel)) hs_C hs_9 hs_Q hs_b (show ((-9) : Int32).toInt = -9 ∨ (0 ≤ ((-9) : Int32).toInt ∧ ((-9) : Int32).toInt ≤ 300) from by decide +kernel) _ _ _ hP hD hS (lv_sub hl [1, 2, 3, 4, 0] rfl)
            · have f30 := (ti_eq (a := x29.toInt) (b := w2.toInt) rfl rfl).mp c30
              refine lv_aload_n hx hb dX12_seek_112 rfl (lv_at hl 1 rfl) ?_
              refine lv_iconst (v := 0) hx hb dX12_seek_113 (by decide +kernel) ?_
              refine al_calli (va_runV (As := [.int 0]) (rest := []) ⟨hx, hb, hml, hown, hts⟩ (s_X12_found l D H.size o a t (upd i10 50 1) q10 (updA c10 54 (0 : Int32).toNatClampNeg (-9)) d10 0 hI (show 0 ≤ 0 ∧ 0 ≤ 299 from by decide +kernel)) (cwV 1 hts gm_X12_seek_X12_found rfl rfl rfl (by decide +kernel) ⟨Nat.le_of_ble_eq_true rfl, Nat.le_of_ble_eq_true rfl⟩) (pB_V hK hP hD (ci := 12) (q0 := 0) rfl rfl) rfl rfl hl.1 rfl (lv_room (Nat.le_of_ble_eq_true rfl)) dX12_seek_114 ⟨Nat.le_of_ble_eq_true rfl, Nat.le_of_ble_eq_true rfl⟩) hS hA hP hD (fun r31 u31 H locs hw31 hP hD hS => ?_)
              obtain ⟨i31, q31, c31, d31⟩ := u31
              have hw31 : (0 ≤ r31.toInt ∧ r31.toInt ≤ 300) ∧ mInv i31 c31 ∧ (∀ k, k ∉ ([57] : List Nat) → i31 k = (upd i10 50 1) k) ∧ (∀ k, k ∉ ([56] : List Nat) → c31 k = (updA c10 54 (0 : Int32).toNatClampNeg (-9)) k) := hw31
              obtain ⟨hw31, hI, hei31, hec31⟩ := hw31
              have hfi : ∀ k, k ∉ ([50, 57, 58, 59] : List Nat) → i31 k = i k := fr_z hfi hei31 (by decide +kernel) (by decide +kernel)
              have hfc : ∀ k, k ∉ ([45, 46, 47, 48, 49, 51, 52, 53, 54, 56] : List Nat) → c31 k = c k := fr_z hfc hec31 (by decide +kernel) (by decide +kernel)
              have hP : va_P D vwCl (mW o a t i31 q31 c31 d31) H := hP
              have hD : va_D A (mW o a t i31 q31 c31 d31) := hD
              have hs_C : Cc (c 3) (c 6) (c31 47) (c31 48) (c31 49) (i 5).toInt := by rw [show c31 47 = (updA c10 54 (0 : Int32).toNatClampNeg (-9)) 47 from hec31 47 (by decide +kernel), show c31 48 = (updA c10 54 (0 : Int32).toNatClampNeg (-9)) 48 from hec31 48 (by decide +kernel), show c31 49 = (updA c10 54 (0 : Int32).toNatClampNeg (-9)) 49 from hec31 49 (by decide +kernel)]; exact hs_C
              have hs_9 : K9 (c31 51) (c31 52) (c31 53) (c 23) (c 24) (c 25) (c 26) (i 5).toInt := by rw [show c31 51 = (updA c10 54 (0 : Int32).toNatClampNeg (-9)) 51 from hec31 51 (by decide +kernel), show c31 52 = (updA c10 54 (0 : Int32).toNatClampNeg (-9)) 52 from hec31 52 (by decide +kernel), show c31 53 = (updA c10 54 (0 : Int32).toNatClampNeg (-9)) 53 from hec31 53 (by decide +kernel)]; exact hs_9
              have hs_Q : SQ (c 3) (c 6) (c31 51) (c31 52) (i 5).toInt (i 22).toInt ((i31 50) : Int32).toInt := by rw [show c31 51 = (updA c10 54 (0 : Int32).toNatClampNeg (-9)) 51 from hec31 51 (by decide +kernel), show c31 52 = (updA c10 54 (0 : Int32).toNatClampNeg (-9)) 52 from hec31 52 (by decide +kernel), show i31 50 = (upd i10 50 1) 50 from hei31 50 (by decide +kernel)]; exact hs_Q
              have hs_b : 1 ≤ ((i31 50) : Int32).toInt := by rw [show i31 50 = (upd i10 50 1) 50 from hei31 50 (by decide +kernel)]; exact hs_b
              refine lv_istore (lv' := [(4, .int r31), (0, .ref o), (1, .int w1), (2, .int w2), (3, .int n1)]) hx hb dX12_seek_117 hl (by decide +kernel) rfl (fun ls hl => ?_)
              exact jn12 i31 q31 c31 d31 r31  hI (fr_w hfi (by decide +kernel)) (fr_w hfc (by decide +kernel)) hs_C hs_9 hs_Q hs_b (show r31.toInt = -9 ∨ (0 ≤ r31.toInt ∧ r31.toInt ≤ 300) from by omega) _ _ _ hP hD hS (lv_sub hl [1, 2, 3, 4, 0] rfl)
        · have f7 := (ti_eq (a := (i 22).toInt) (b := (-9)) rfl (by decide +kernel)).mp c7
          refine lv_bipush (v := (-5)) hx hb dX12_seek_39 (by decide +kernel) ?_
          exact rw_iret (i, q, c, d) hx hb hr hlocks hS (hK.sub (tys' := []) [] rfl) hP hD dX12_seek_41 ⟨trivial, hI, fr_w hfi (by decide +kernel), fr_w hfc (by decide +kernel), (show SJ (c 3) (c 6) (c 9) (c 10) (c 11) (c 13) ((i 2) : Int32).toInt ((i 5) : Int32).toInt ((i 8) : Int32).toInt from hs_S), (show TJ (c 3) (c 6) (c 23) (c 24) (c 29) (c 30) ((i 5) : Int32).toInt ((i 22) : Int32).toInt ((i 27) : Int32).toInt from hs_J), (show Sk4 (c 23) (c 24) (c 25) (c 26) (c 23) (c 24) (c 25) (c 26) (i 5).toInt from Sk4_r)⟩
      · have f6 := fl_f hw5 c6
        refine lv_iconst (v := (-1)) hx hb dX12_seek_28 (by decide +kernel) ?_
        exact rw_iret (i, q, c, d) hx hb hr hlocks hS (hK.sub (tys' := []) [] rfl) hP hD dX12_seek_29 ⟨trivial, hI, fr_w hfi (by decide +kernel), fr_w hfc (by decide +kernel), (show SJ (c 3) (c 6) (c 9) (c 10) (c 11) (c 13) ((i 2) : Int32).toInt ((i 5) : Int32).toInt ((i 8) : Int32).toInt from hs_S), (show TJ (c 3) (c 6) (c 23) (c 24) (c 29) (c 30) ((i 5) : Int32).toInt ((i 22) : Int32).toInt ((i 27) : Int32).toInt from hs_J), (show Sk4 (c 23) (c 24) (c 25) (c 26) (c 23) (c 24) (c 25) (c 26) (i 5).toInt from Sk4_r)⟩

