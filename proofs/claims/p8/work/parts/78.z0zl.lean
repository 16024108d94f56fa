set_option maxHeartbeats 4000000 in
set_option maxRecDepth 100000 in
theorem s_X12_share_0 (l : Launch) (D : va_G) (sz : Nat) (o : Nat) (a : Nat → Nat) (t : Nat → ClassId) (i : Nat → Int32) (q : Int64) (c : Nat → Nat → Int32) (d : Nat → Nat → Int64) (w1 : Int32) (w2 : Int32) (hI : mInv i c) (hs_G : Acy (gF (c 9) (c 10) (c 11) (c 13) (c 23) (c 24) (i 8).toInt (i 5).toInt (i 22).toInt)) (h33 : (i 33).toInt = 0) : Met l yX12_share wm_X12_share ({ frames := 3, cells := 0, slots := 0, locals := 70 }) (va_Pc [.ref o, .int w1, .int w2] (pB D sz (mW o a t i q c d) (mT t))) (va_Qi (fun (r : Int32) (u : MS) => True ∧ mInv u.1 u.2.2.1 ∧ (∀ k, k ∉ ([0, 36] : List Nat) → u.1 k = i k) ∧ (∀ k, k ∉ ([1, 38, 39] : List Nat) → u.2.2.1 k = c k)) (oC D (va_A (mW o a t i q c d) sz) (fun u : MS => mW o a t u.1 u.2.1 u.2.2.1 u.2.2.2) (fun _ => [])) (va_A (mW o a t i q c d) sz)) 0 0 (va_A (mW o a t i q c d) sz) := by
  refine Met.ofW (cc := cX12_share) (maxL := 8) (ret := (some .int)) (by decide +kernel) rfl ?_
  intro p e s m args below meth cd s₁ B hml hv
  obtain ⟨rfl, hsz, hP, hK, hD0⟩ := hv
  have hx := B.exec
  have hb := B.bytes
  have hr := B.returns
  have hts := atoms_spec (ws := wm_X12_share) B.pre
  have hown : s.vm.findClass RX12 = some m.cls := findClass_of_methodNamed B.named
  have hlocks := B.notSynchronized
  subst hsz
  have hD := hD0.self (sz := s.heap.size)
  generalize hAe : va_A (mW o a t i q c d) s.heap.size = A at hD ⊢
  have hA : ∀ q : Nat, s.heap.size ≤ q → A q := fun q h => by rw [← hAe]; exact Or.inr h
  have hS : va_S A s.heap s.heap [] := va_S.rf
  have hfi : ∀ k, k ∉ ([] : List Nat) → i k = i k := fun _ _ => rfl
  have hfc : ∀ k, k ∉ ([] : List Nat) → c k = c k := fun _ _ => rfl
  have hl := lv_entry ([.ref o, .int w1, .int w2]) (n := 8) (Nat.le_of_ble_eq_true rfl)
  rw [lg_entry_eq]
  generalize (lg_sl ([.ref o, .int w1, .int w2]) ++ List.replicate (8 - (lg_sl ([.ref o, .int w1, .int w2])).length) Slot.unset).toArray = ls at hl ⊢
  have hl : lv_has ls 8 [(0, .ref o), (1, .int w1), (2, .int w2)] := hl
  refine lv_aload_n hx hb dX12_share_0 rfl (lv_at hl 0 rfl) ?_
  refine lv_iload_n hx hb dX12_share_1 rfl (lv_at hl 1 rfl) ?_
  have rb5_i : 0 ≤ (i 5).toInt ∧ (i 5).toInt ≤ 30 := hI.1 5
  refine ro_calli (va_runV (As := [.int w1]) (rest := []) ⟨hx, hb, hml, hown, hts⟩ (s_X12_isObject l D s.heap.size o a t i q c d w1 hI ) (cwV 1 hts gm_X12_share_X12_isObject rfl rfl rfl (by decide +kernel) ⟨Nat.le_of_ble_eq_true rfl, Nat.le_of_ble_eq_true rfl⟩) (pA_V hK hP (ci := 12) (q0 := 0) rfl rfl) rfl rfl hl.1 rfl (lv_room (Nat.le_of_ble_eq_true rfl)) dX12_share_2 ⟨Nat.le_of_ble_eq_true rfl, Nat.le_of_ble_eq_true rfl⟩) hS hA hP (fun r1 u1 H locs hw1 hP hS => ?_)
  have hw1 : r1 = if (0 ≤ w1.toInt ∧ w1.toInt ≤ (i 5).toInt - 1) then 1 else 0 := hw1
  refine lv_if_eq (tgt := 16) hx hb dX12_share_5 (by decide +kernel) (fun c2 => ?_) (fun c2 => ?_)
  · have f2 := fl_f hw1 c2
    refine lv_iconst (v := (-1)) hx hb dX12_share_16 (by decide +kernel) ?_
    exact rw_iret (i, q, c, d) hx hb hr hlocks hS (hK.sub (tys' := []) [] rfl) hP hD dX12_share_17 ⟨trivial, hI, fr_w hfi (by decide +kernel), fr_w hfc (by decide +kernel)⟩
  · have f2 := fl_t hw1 c2
    refine lv_aload_n hx hb dX12_share_8 rfl (lv_at hl 0 rfl) ?_
    refine lv_iload_n hx hb dX12_share_9 rfl (lv_at hl 2 rfl) ?_
    refine ro_calli (va_runV (As := [.int w2]) (rest := []) ⟨hx, hb, hml, hown, hts⟩ (s_X12_isObject l D H.size o a t i q c d w2 hI ) (cwV 1 hts gm_X12_share_X12_isObject rfl rfl rfl (by decide +kernel) ⟨Nat.le_of_ble_eq_true rfl, Nat.le_of_ble_eq_true rfl⟩) (pA_V hK hP (ci := 12) (q0 := 0) rfl rfl) rfl rfl hl.1 rfl (lv_room (Nat.le_of_ble_eq_true rfl)) dX12_share_10 ⟨Nat.le_of_ble_eq_true rfl, Nat.le_of_ble_eq_true rfl⟩) hS hA hP (fun r3 u3 H locs hw3 hP hS => ?_)
    have hw3 : r3 = if (0 ≤ w2.toInt ∧ w2.toInt ≤ (i 5).toInt - 1) then 1 else 0 := hw3
    refine lv_if_ne (tgt := 18) hx hb dX12_share_13 (by decide +kernel) (fun c4 => ?_) (fun c4 => ?_)
    · have f4 := fl_t hw3 c4
      refine lv_aload_n hx hb dX12_share_18 rfl (lv_at hl 0 rfl) ?_
      refine lv_iload_n hx hb dX12_share_19 rfl (lv_at hl 1 rfl) ?_
      refine lv_iconst (v := 0) hx hb dX12_share_20 (by decide +kernel) ?_
      refine ro_calli (va_runV (As := [.int w1, .int 0]) (rest := []) ⟨hx, hb, hml, hown, hts⟩ (s_X12_isOf l D H.size o a t i q c d w1 0 hI (show 0 ≤ w1.toInt ∧ w1.toInt ≤ 29 from by have h91 : (0 : Int32).toInt = 0 := (by decide +kernel); omega) (show 0 ≤ 0 from by decide +kernel)) (cwV 2 hts gm_X12_share_X12_isOf rfl rfl rfl (by decide +kernel) ⟨Nat.le_of_ble_eq_true rfl, Nat.le_of_ble_eq_true rfl⟩) (pA_V hK hP (ci := 12) (q0 := 0) rfl rfl) rfl rfl hl.1 rfl (lv_room (Nat.le_of_ble_eq_true rfl)) dX12_share_21 ⟨Nat.le_of_ble_eq_true rfl, Nat.le_of_ble_eq_true rfl⟩) hS hA hP (fun r5 u5 H locs hw5 hP hS => ?_)
      have hw5 : ((0 ≤ r5.toInt ∧ r5.toInt ≤ 1) ∧ (Sm r5 (Kd (c 3) (c 6) w1.toInt 0))) := hw5
      obtain ⟨hw5, hr5_0⟩ := hw5
      have hr5_0 : Sm r5 (Kd (c 3) (c 6) w1.toInt 0) := hr5_0
      refine lv_if_eq (tgt := 33) hx hb dX12_share_24 (by decide +kernel) (fun c6 => ?_) (fun c6 => ?_)
      · have f6 := (ti_eq (a := r5.toInt) (b := 0) rfl (by decide +kernel)).mp c6
        have s6 := sm_f hr5_0 c6
        refine lv_aload_n hx hb dX12_share_33 rfl (lv_at hl 0 rfl) ?_
        refine lv_iconst (v := 0) hx hb dX12_share_34 (by decide +kernel) ?_
        refine mput_36 hx hb hts (fun _ h => List.mem_cons_of_mem _ (List.mem_append_right _ h)) hown hK hP hD hS (hts (.fieldLink RX12 303 "TalePlayModel" "isNought" "Z") (List.mem_cons_of_mem _ (List.mem_append_left _ (List.mem_append_left _ (List.mem_of_getElem? (i := 15) rfl))))) rfl rfl dX12_share_35 (fun H locs hP hD hS => ?_)
        have hI := mInv_i hI (k := 36) (v := 0) (show 0 ≤ (0 : Int32).toInt ∧ (0 : Int32).toInt ≤ 1 from by decide +kernel)
        have hfi : ∀ k, k ∉ ([36] : List Nat) → (upd i 36 0) k = i k := fr_iz hfi (by decide +kernel) (by decide +kernel)
        refine lv_aload_n hx hb dX12_share_38 rfl (lv_at hl 0 rfl) ?_
        refine lv_iload_n hx hb dX12_share_39 rfl (lv_at hl 1 rfl) ?_
        have rb8_i : 0 ≤ (i 8).toInt ∧ (i 8).toInt ≤ 200 := hI.1 8
        have rb22_i : (i 22).toInt = -9 ∨ (0 ≤ (i 22).toInt ∧ (i 22).toInt ≤ 29) := hI.1 22
        have rb33_i : 0 ≤ (i 33).toInt ∧ (i 33).toInt ≤ 1 := hI.1 33
        refine al_calli (va_runV (As := [.int w1]) (rest := []) ⟨hx, hb, hml, hown, hts⟩ (s_X12_bulkOf_0 l D H.size o a t (upd i 36 0) q c d w1 hI (show 0 ≤ w1.toInt ∧ w1.toInt ≤ 29 from by have h60 : (0 : Int32).toInt = 0 := (by decide +kernel); omega) (by rw [show (upd i 36 0) 5 = i 5 from hfi 5 (by decide +kernel), show (upd i 36 0) 8 = i 8 from hfi 8 (by decide +kernel), show (upd i 36 0) 22 = i 22 from hfi 22 (by decide +kernel)]; exact hs_G) (show ((i 33) : Int32).toInt = 0 from by have h60 : (0 : Int32).toInt = 0 := (by decide +kernel); omega)) (cwV 1 hts gm_X12_share_X12_bulkOf rfl rfl rfl (by decide +kernel) ⟨Nat.le_of_ble_eq_true rfl, Nat.le_of_ble_eq_true rfl⟩) (pB_V hK hP hD (ci := 12) (q0 := 0) rfl rfl) rfl rfl hl.1 rfl (lv_room (Nat.le_of_ble_eq_true rfl)) dX12_share_40 ⟨Nat.le_of_ble_eq_true rfl, Nat.le_of_ble_eq_true rfl⟩) hS hA hP hD (fun r7 u7 H locs hw7 hP hD hS => ?_)
        obtain ⟨i7, q7, c7, d7⟩ := u7
        have hw7 : True ∧ mInv i7 c7 ∧ (∀ k, k ∉ ([36] : List Nat) → i7 k = (upd i 36 0) k) ∧ (∀ k, k ∉ ([38, 39] : List Nat) → c7 k = c k) := hw7
        obtain ⟨hw7, hI, hei7, hec7⟩ := hw7
        have hfi : ∀ k, k ∉ ([36] : List Nat) → i7 k = i k := fr_z hfi hei7 (by decide +kernel) (by decide +kernel)
        have hfc : ∀ k, k ∉ ([38, 39] : List Nat) → c7 k = c k := fr_z hfc hec7 (by decide +kernel) (by decide +kernel)
        have hP : va_P D vwCl (mW o a t i7 q7 c7 d7) H := hP
        have hD : va_D A (mW o a t i7 q7 c7 d7) := hD
        refine lv_i2l (v := r7.toInt64) hx hb dX12_share_43 rfl ?_
        refine lv_lstore_n (lv' := [(3, .long r7.toInt64), (0, .ref o), (1, .int w1), (2, .int w2)]) hx hb dX12_share_44 rfl hl (by decide +kernel) rfl (fun ls hl => ?_)
        refine lv_lconst (v := 0) hx hb dX12_share_45 (by decide +kernel) ?_
        refine lv_lstore (lv' := [(5, .long 0), (3, .long r7.toInt64), (0, .ref o), (1, .int w1), (2, .int w2)]) hx hb dX12_share_46 hl (by decide +kernel) rfl (fun ls hl => ?_)
        refine lv_iconst (v := 0) hx hb dX12_share_48 (by decide +kernel) ?_
        refine lv_istore (lv' := [(7, .int 0), (5, .long 0), (3, .long r7.toInt64), (0, .ref o), (1, .int w1), (2, .int w2)]) hx hb dX12_share_49 hl (by decide +kernel) rfl (fun ls hl => ?_)
        have lp8 : ∀ (fu : Nat) (i8 : Nat → Int32) (q8 : Int64) (c8 : Nat → Nat → Int32) (d8 : Nat → Nat → Int64) (y8_7 : Int32) (y8_5 : Int64), mInv i8 c8 → (∀ k, k ∉ ([36] : List Nat) → i8 k = i k) → (∀ k, k ∉ ([38, 39] : List Nat) → c8 k = c k) → (0 ≤ y8_7.toInt ∧ y8_7.toInt ≤ 30) → (30 - y8_7.toInt).toNat < fu → ∀ (H : Heap) (locs : List Loc) (ls : Array Slot), va_P D vwCl (mW o a t i8 q8 c8 d8) H → va_D A (mW o a t i8 q8 c8 d8) → va_S A s.heap H locs → lv_has ls 8 [(7, .int y8_7), (5, .long y8_5), (3, .long r7.toInt64), (0, .ref o), (1, .int w1), (2, .int w2)] → W p l e (headSpec wm_X12_share ({ frames := 3, cells := 0, slots := 0, locals := 70 })).room s m ([.ref o, .int w1, .int w2] : List Value).toArray below meth cd H locs 0 0 (MQ below (va_Qi (fun (r : Int32) (u : MS) => True ∧ mInv u.1 u.2.2.1 ∧ (∀ k, k ∉ ([0, 36] : List Nat) → u.1 k = i k) ∧ (∀ k, k ∉ ([1, 38, 39] : List Nat) → u.2.2.1 k = c k)) (oC D A (fun u : MS => mW o a t u.1 u.2.1 u.2.2.1 u.2.2.2) (fun _ => [])) A) ([.ref o, .int w1, .int w2] : List Value).toArray s 0 0 A) (F0 m 51 ls []) := by
          intro fu
          induction fu with
          | zero => intro i8 q8 c8 d8 y8_7 y8_5 hI hfi hfc hy8_7 hm; exact absurd hm (Nat.not_lt_zero _)
          | succ fu ih =>
            intro i8 q8 c8 d8 y8_7 y8_5 hI hfi hfc hy8_7 hm H locs ls hP hD hS hl
            have ih8 := ih
            refine lv_iload hx hb dX12_share_51 (lv_at hl 0 rfl) ?_
            refine lv_aload_n hx hb dX12_share_53 rfl (lv_at hl 3 rfl) ?_
            refine mget_5 (v := (i8 5)) rfl hx hb hts (fun _ h => List.mem_cons_of_mem _ (List.mem_append_right _ h)) hown hK hP (hts (.fieldLink RX12 177 "TalePlayModel" "objects" "I") (List.mem_cons_of_mem _ (List.mem_append_left _ (List.mem_append_left _ (List.mem_of_getElem? (i := 5) rfl))))) dX12_share_54 ?_
            have rb5_i8 : 0 ≤ (i8 5).toInt ∧ (i8 5).toInt ≤ 30 := hI.1 5
            have re5_i8 : (i8 5).toInt = (i 5).toInt := congrArg Int32.toInt (hfi 5 (by decide +kernel))
            refine lv_icmp_ge (tgt := 103) hx hb dX12_share_57 (by decide +kernel) (fun c9 => ?_) (fun c9 => ?_)
            · have f9 := (ti_le (a := (i8 5).toInt) (b := y8_7.toInt) rfl rfl).mp c9
              refine lv_aload_n hx hb dX12_share_103 rfl (lv_at hl 3 rfl) ?_
              refine mget_36 (v := (i8 36)) rfl hx hb hts (fun _ h => List.mem_cons_of_mem _ (List.mem_append_right _ h)) hown hK hP (hts (.fieldLink RX12 303 "TalePlayModel" "isNought" "Z") (List.mem_cons_of_mem _ (List.mem_append_left _ (List.mem_append_left _ (List.mem_of_getElem? (i := 15) rfl))))) dX12_share_104 ?_
              have rb36_i8 : 0 ≤ (i8 36).toInt ∧ (i8 36).toInt ≤ 1 := hI.1 36
              refine lv_if_ne (tgt := 117) hx hb dX12_share_107 (by decide +kernel) (fun c10 => ?_) (fun c10 => ?_)
              · have f10 := mt (ti_eq (a := (i8 36).toInt) (b := 0) rfl (by decide +kernel)).mpr c10
                refine lv_aload_n hx hb dX12_share_117 rfl (lv_at hl 3 rfl) ?_
                refine lv_iconst (v := 4) hx hb dX12_share_118 (by decide +kernel) ?_
                refine al_calli (va_runV (As := [.int 4]) (rest := []) ⟨hx, hb, hml, hown, hts⟩ (s_X12_meets l D H.size o a t i8 q8 c8 d8 4 hI (show 1 ≤ 4 ∧ 4 ≤ 6 from by decide +kernel)) (cwV 1 hts gm_X12_share_X12_meets rfl rfl rfl (by decide +kernel) ⟨Nat.le_of_ble_eq_true rfl, Nat.le_of_ble_eq_true rfl⟩) (pB_V hK hP hD (ci := 12) (q0 := 0) rfl rfl) rfl rfl hl.1 rfl (lv_room (Nat.le_of_ble_eq_true rfl)) dX12_share_119 ⟨Nat.le_of_ble_eq_true rfl, Nat.le_of_ble_eq_true rfl⟩) hS hA hP hD (fun r11 u11 H locs hw11 hP hD hS => ?_)
                obtain ⟨i11, q11, c11, d11⟩ := u11
                have hw11 : r11 = (-3) ∧ mInv i11 c11 ∧ (∀ k, k ∉ ([0] : List Nat) → i11 k = i8 k) ∧ (∀ k, k ∉ ([1] : List Nat) → c11 k = c8 k) := hw11
                obtain ⟨hw11, hI, hei11, hec11⟩ := hw11
                have hfi : ∀ k, k ∉ ([0, 36] : List Nat) → i11 k = i k := fr_z hfi hei11 (by decide +kernel) (by decide +kernel)
                have hfc : ∀ k, k ∉ ([1, 38, 39] : List Nat) → c11 k = c k := fr_z hfc hec11 (by decide +kernel) (by decide +kernel)
                have hP : va_P D vwCl (mW o a t i11 q11 c11 d11) H := hP
                have hD : va_D A (mW o a t i11 q11 c11 d11) := hD
                have hw11 : r11 = (-3) := hw11
                subst hw11
                exact rw_iret (i11, q11, c11, d11) hx hb hr hlocks hS (hK.sub (tys' := []) [] rfl) hP hD dX12_share_122 ⟨trivial, hI, fr_w hfi (by decide +kernel), fr_w hfc (by decide +kernel)⟩
              · have f10 := (ti_eq (a := (i8 36).toInt) (b := 0) rfl (by decide +kernel)).mp c10
                refine lv_lload hx hb dX12_share_110 (lv_at hl 1 rfl) ?_
                refine lv_lconst (v := 0) hx hb dX12_share_112 (by decide +kernel) ?_
                refine W.lcmp hx hb dX12_share_113 ?_
                refine lv_if_ne (tgt := 123) hx hb dX12_share_114 (by decide +kernel) (fun c12 => ?_) (fun c12 => ?_)
                · have f12 := mt (lc_eq (a := y8_5.toInt) (b := 0) rfl (by decide +kernel)).mpr c12
                  refine lv_aload_n hx hb dX12_share_123 rfl (lv_at hl 3 rfl) ?_
                  refine lv_ldc2 (v := 1000) hx hb hown (hts (.constantLong RX12 322 (1000)) (List.mem_cons_of_mem _ (List.mem_append_left _ (List.mem_append_right _ (List.mem_append_right _ (List.mem_append_right _ (List.mem_of_getElem? (i := 12) rfl))))))) dX12_share_124 ?_
                  refine lv_lload_n hx hb dX12_share_127 rfl (lv_at hl 2 rfl) ?_
                  refine lv_lmul hx hb dX12_share_128 ?_
                  refine lv_topl (fun x13 ex13 => ?_)
                  refine lv_lload hx hb dX12_share_129 (lv_at hl 1 rfl) ?_
                  refine lv_ldiv hx hb dX12_share_131 (fun e9 => by have e8 : y8_5.toInt = (0 : Int64).toInt := congrArg Int64.toInt e9; rw [show (0 : Int64).toInt = 0 from by decide] at e8; omega) ?_
                  refine lv_topl (fun x14 ex14 => ?_)
                  refine mput_37 hx hb hts (fun _ h => List.mem_cons_of_mem _ (List.mem_append_right _ h)) hown hK hP hD hS (hts (.fieldLink RX12 318 "TalePlayModel" "asked" "J") (List.mem_cons_of_mem _ (List.mem_append_left _ (List.mem_append_right _ (List.mem_append_right _ (List.mem_append_right _ (List.mem_of_getElem? (i := 13) rfl))))))) rfl rfl dX12_share_132 (fun H locs hP hD hS => ?_)
                  refine lv_iconst (v := 1) hx hb dX12_share_135 (by decide +kernel) ?_
                  exact rw_iret (i8, x14, c8, d8) hx hb hr hlocks hS (hK.sub (tys' := []) [] rfl) hP hD dX12_share_136 ⟨trivial, hI, fr_w hfi (by decide +kernel), fr_w hfc (by decide +kernel)⟩
                · have f12 := (lc_eq (a := y8_5.toInt) (b := 0) rfl (by decide +kernel)).mp c12
                  refine lv_aload_n hx hb dX12_share_117 rfl (lv_at hl 3 rfl) ?_
                  refine lv_iconst (v := 4) hx hb dX12_share_118 (by decide +kernel) ?_
                  refine al_calli (va_runV (As := [.int 4]) (rest := []) ⟨hx, hb, hml, hown, hts⟩ (s_X12_meets l D H.size o a t i8 q8 c8 d8 4 hI (show 1 ≤ 4 ∧ 4 ≤ 6 from by decide +kernel)) (cwV 1 hts gm_X12_share_X12_meets rfl rfl rfl (by decide +kernel) ⟨Nat.le_of_ble_eq_true rfl, Nat.le_of_ble_eq_true rfl⟩) (pB_V hK hP hD (ci := 12) (q0 := 0) rfl rfl) rfl rfl hl.1 rfl (lv_room (Nat.le_of_ble_eq_true rfl)) dX12_share_119 ⟨Nat.le_of_ble_eq_true rfl, Nat.le_of_ble_eq_true rfl⟩) hS hA hP hD (fun r15 u15 H locs hw15 hP hD hS => ?_)
                  obtain ⟨i15, q15, c15, d15⟩ := u15
                  have hw15 : r15 = (-3) ∧ mInv i15 c15 ∧ (∀ k, k ∉ ([0] : List Nat) → i15 k = i8 k) ∧ (∀ k, k ∉ ([1] : List Nat) → c15 k = c8 k) := hw15
                  obtain ⟨hw15, hI, hei15, hec15⟩ := hw15
                  have hfi : ∀ k, k ∉ ([0, 36] : List Nat) → i15 k = i k := fr_z hfi hei15 (by decide +kernel) (by decide +kernel)
                  have hfc : ∀ k, k ∉ ([1, 38, 39] : List Nat) → c15 k = c k := fr_z hfc hec15 (by decide +kernel) (by decide +kernel)
                  have hP : va_P D vwCl (mW o a t i15 q15 c15 d15) H := hP
                  have hD : va_D A (mW o a t i15 q15 c15 d15) := hD
                  have hw15 : r15 = (-3) := hw15
                  subst hw15
                  exact rw_iret (i15, q15, c15, d15) hx hb hr hlocks hS (hK.sub (tys' := []) [] rfl) hP hD dX12_share_122 ⟨trivial, hI, fr_w hfi (by decide +kernel), fr_w hfc (by decide +kernel)⟩
            · have f9 := mt (ti_le (a := (i8 5).toInt) (b := y8_7.toInt) rfl rfl).mpr c9
              refine lv_lload hx hb dX12_share_60 (lv_at hl 1 rfl) ?_
              refine lv_aload_n hx hb dX12_share_62 rfl (lv_at hl 3 rfl) ?_
              refine lv_iload hx hb dX12_share_63 (lv_at hl 0 rfl) ?_
              have rb8_i8 : 0 ≤ (i8 8).toInt ∧ (i8 8).toInt ≤ 200 := hI.1 8
              have re8_i8 : (i8 8).toInt = (i 8).toInt := congrArg Int32.toInt (hfi 8 (by decide +kernel))
              have rb22_i8 : (i8 22).toInt = -9 ∨ (0 ≤ (i8 22).toInt ∧ (i8 22).toInt ≤ 29) := hI.1 22
              have re22_i8 : (i8 22).toInt = (i 22).toInt := congrArg Int32.toInt (hfi 22 (by decide +kernel))
              refine ro_calli (va_runV (As := [.int y8_7]) (rest := [.long y8_5]) ⟨hx, hb, hml, hown, hts⟩ (s_X12_formNow l D H.size o a t i8 q8 c8 d8 y8_7 hI (show 0 ≤ y8_7.toInt ∧ y8_7.toInt ≤ 29 from by omega)) (cwV 1 hts gm_X12_share_X12_formNow rfl rfl rfl (by decide +kernel) ⟨Nat.le_of_ble_eq_true rfl, Nat.le_of_ble_eq_true rfl⟩) (pA_V hK hP (ci := 12) (q0 := 0) rfl rfl) rfl rfl hl.1 rfl (lv_room (Nat.le_of_ble_eq_true rfl)) dX12_share_65 ⟨Nat.le_of_ble_eq_true rfl, Nat.le_of_ble_eq_true rfl⟩) hS hA hP (fun r16 u16 H locs hw16 hP hS => ?_)
              have hw16 : ((r16.toInt = -9 ∨ (0 ≤ r16.toInt ∧ r16.toInt ≤ 7)) ∧ (r16.toInt = gM (c8 9) (c8 10) (c8 13) (c8 23) (i8 8).toInt (i8 22).toInt y8_7.toInt)) := hw16
              obtain ⟨hw16, hr16_0⟩ := hw16
              have hr16_0 : r16.toInt = gM (c 9) (c 10) (c 13) (c 23) (i 8).toInt (i 22).toInt y8_7.toInt := by have h9 := hr16_0; rw [show c8 9 = c 9 from hfc 9 (by decide +kernel), show c8 10 = c 10 from hfc 10 (by decide +kernel), show c8 13 = c 13 from hfc 13 (by decide +kernel), show c8 23 = c 23 from hfc 23 (by decide +kernel), show i8 8 = i 8 from hfi 8 (by decide +kernel), show i8 22 = i 22 from hfi 22 (by decide +kernel)] at h9; exact h9
              refine lv_bipush (v := (-9)) hx hb dX12_share_68 (by decide +kernel) ?_
              have jn17 : ∀ (i17 : Nat → Int32) (q17 : Int64) (c17 : Nat → Nat → Int32) (d17 : Nat → Nat → Int64) (z17_0 : Int64), mInv i17 c17 → (∀ k, k ∉ ([36] : List Nat) → i17 k = i k) → (∀ k, k ∉ ([38, 39] : List Nat) → c17 k = c k) → ∀ (H : Heap) (locs : List Loc) (ls : Array Slot), va_P D vwCl (mW o a t i17 q17 c17 d17) H → va_D A (mW o a t i17 q17 c17 d17) → va_S A s.heap H locs → lv_has ls 8 [(7, .int y8_7), (5, .long y8_5), (3, .long r7.toInt64), (0, .ref o), (1, .int w1), (2, .int w2)] → W p l e (headSpec wm_X12_share ({ frames := 3, cells := 0, slots := 0, locals := 70 })).room s m ([.ref o, .int w1, .int w2] : List Value).toArray below meth cd H locs 0 0 (MQ below (va_Qi (fun (r : Int32) (u : MS) => True ∧ mInv u.1 u.2.2.1 ∧ (∀ k, k ∉ ([0, 36] : List Nat) → u.1 k = i k) ∧ (∀ k, k ∉ ([1, 38, 39] : List Nat) → u.2.2.1 k = c k)) (oC D A (fun u : MS => mW o a t u.1 u.2.1 u.2.2.1 u.2.2.2) (fun _ => [])) A) ([.ref o, .int w1, .int w2] : List Value).toArray s 0 0 A) (F0 m 94 ls [.long z17_0, .long y8_5]) := by
                intro i17 q17 c17 d17 z17_0 hI hfi hfc H locs ls hP hD hS hl
                refine lv_ladd hx hb dX12_share_94 ?_
                refine lv_topl (fun x18 ex18 => ?_)
                refine lv_lstore (lv' := [(5, .long x18), (7, .int y8_7), (3, .long r7.toInt64), (0, .ref o), (1, .int w1), (2, .int w2)]) hx hb dX12_share_95 hl (by decide +kernel) rfl (fun ls hl => ?_)
                obtain ⟨x19, ex19⟩ : ∃ y : Int32, y = y8_7 + 1 := ⟨_, rfl⟩
                have tx19 := ti_add (a := y8_7.toInt) (b := 1) ex19 rfl (by decide +kernel) (by omega) (by omega)
                refine lv_iinc (v := x19) (lv' := [(7, .int x19), (5, .long x18), (3, .long r7.toInt64), (0, .ref o), (1, .int w1), (2, .int w2)]) hx hb dX12_share_97 hl (k := 1) rfl (by rw [ex19]; rfl) (by decide +kernel) rfl (fun ls hl => ?_)
                refine lv_goto (tgt := 51) hx hb dX12_share_100 (by decide +kernel) ?_
                exact ih8 i17 q17 c17 d17 x19 x18 hI (fr_w hfi (by decide +kernel)) (fr_w hfc (by decide +kernel)) (show 0 ≤ x19.toInt ∧ x19.toInt ≤ 30 from by have h50 : x19.toInt = (y8_7.toInt + 1) := tx19; omega) (by have h50 : x19.toInt = (y8_7.toInt + 1) := tx19; omega) _ _ _ hP hD hS (lv_sub hl [0, 1, 2, 3, 4, 5] rfl)
              have jn20 : ∀ (H : Heap) (locs : List Loc) (ls : Array Slot), va_P D vwCl (mW o a t i8 q8 c8 d8) H → va_D A (mW o a t i8 q8 c8 d8) → va_S A s.heap H locs → lv_has ls 8 [(7, .int y8_7), (5, .long y8_5), (3, .long r7.toInt64), (0, .ref o), (1, .int w1), (2, .int w2)] → W p l e (headSpec wm_X12_share ({ frames := 3, cells := 0, slots := 0, locals := 70 })).room s m ([.ref o, .int w1, .int w2] : List Value).toArray below meth cd H locs 0 0 (MQ below (va_Qi (fun (r : Int32) (u : MS) => True ∧ mInv u.1 u.2.2.1 ∧ (∀ k, k ∉ ([0, 36] : List Nat) → u.1 k = i k) ∧ (∀ k, k ∉ ([1, 38, 39] : List Nat) → u.2.2.1 k = c k)) (oC D A (fun u : MS => mW o a t u.1 u.2.1 u.2.2.1 u.2.2.2) (fun _ => [])) A) ([.ref o, .int w1, .int w2] : List Value).toArray s 0 0 A) (F0 m 93 ls [.long y8_5]) := by
                intro H locs ls hP hD hS hl
                refine lv_lconst (v := 0) hx hb dX12_share_93 (by decide +kernel) ?_
                exact jn17 i8 q8 c8 d8  (0 : Int64) hI (fr_w hfi (by decide +kernel)) (fr_w hfc (by decide +kernel)) _ _ _ hP hD hS (lv_sub hl [0, 1, 2, 3, 4, 5] rfl)
              refine lv_icmp_eq (tgt := 93) hx hb dX12_share_70 (by decide +kernel) (fun c21 => ?_) (fun c21 => ?_)
              · have f21 := (ti_eq (a := r16.toInt) (b := (-9)) rfl (by decide +kernel)).mp c21
                exact jn20    _ _ _ hP hD hS (lv_sub hl [0, 1, 2, 3, 4, 5] rfl)
              · have f21 := mt (ti_eq (a := r16.toInt) (b := (-9)) rfl (by decide +kernel)).mpr c21
                refine lv_aload_n hx hb dX12_share_73 rfl (lv_at hl 3 rfl) ?_
                refine lv_iload hx hb dX12_share_74 (lv_at hl 0 rfl) ?_
                refine ro_calli (va_runV (As := [.int y8_7]) (rest := [.long y8_5]) ⟨hx, hb, hml, hown, hts⟩ (s_X12_atNow l D H.size o a t i8 q8 c8 d8 y8_7 hI (show 0 ≤ y8_7.toInt ∧ y8_7.toInt ≤ 29 from by omega)) (cwV 1 hts gm_X12_share_X12_atNow rfl rfl rfl (by decide +kernel) ⟨Nat.le_of_ble_eq_true rfl, Nat.le_of_ble_eq_true rfl⟩) (pA_V hK hP (ci := 12) (q0 := 0) rfl rfl) rfl rfl hl.1 rfl (lv_room (Nat.le_of_ble_eq_true rfl)) dX12_share_76 ⟨Nat.le_of_ble_eq_true rfl, Nat.le_of_ble_eq_true rfl⟩) hS hA hP (fun r22 u22 H locs hw22 hP hS => ?_)
                have hw22 : ((r22.toInt = -9 ∨ (0 ≤ r22.toInt ∧ r22.toInt ≤ 29)) ∧ (r22.toInt = gA (c8 9) (c8 10) (c8 11) (c8 13) (c8 24) (i8 8).toInt (i8 22).toInt y8_7.toInt)) := hw22
                obtain ⟨hw22, hr22_0⟩ := hw22
                have hr22_0 : r22.toInt = gA (c 9) (c 10) (c 11) (c 13) (c 24) (i 8).toInt (i 22).toInt y8_7.toInt := by have h9 := hr22_0; rw [show c8 9 = c 9 from hfc 9 (by decide +kernel), show c8 10 = c 10 from hfc 10 (by decide +kernel), show c8 11 = c 11 from hfc 11 (by decide +kernel), show c8 13 = c 13 from hfc 13 (by decide +kernel), show c8 24 = c 24 from hfc 24 (by decide +kernel), show i8 8 = i 8 from hfi 8 (by decide +kernel), show i8 22 = i 22 from hfi 22 (by decide +kernel)] at h9; exact h9
                refine lv_iload_n hx hb dX12_share_79 rfl (lv_at hl 5 rfl) ?_
                refine lv_icmp_ne (tgt := 93) hx hb dX12_share_80 (by decide +kernel) (fun c23 => ?_) (fun c23 => ?_)
                · have f23 := mt (ti_eq (a := r22.toInt) (b := w2.toInt) rfl rfl).mpr c23
                  exact jn20    _ _ _ hP hD hS (lv_sub hl [0, 1, 2, 3, 4, 5] rfl)
                · have f23 := (ti_eq (a := r22.toInt) (b := w2.toInt) rfl rfl).mp c23
                  refine lv_aload_n hx hb dX12_share_83 rfl (lv_at hl 3 rfl) ?_
                  refine lv_iload hx hb dX12_share_84 (lv_at hl 0 rfl) ?_
                  have rb33_i8 : 0 ≤ (i8 33).toInt ∧ (i8 33).toInt ≤ 1 := hI.1 33
                  have re33_i8 : (i8 33).toInt = (i 33).toInt := congrArg Int32.toInt (hfi 33 (by decide +kernel))
                  refine al_calli (va_runV (As := [.int y8_7]) (rest := [.long y8_5]) ⟨hx, hb, hml, hown, hts⟩ (s_X12_bulkOf_0 l D H.size o a t i8 q8 c8 d8 y8_7 hI (show 0 ≤ y8_7.toInt ∧ y8_7.toInt ≤ 29 from by omega) (by rw [show c8 9 = c 9 from hfc 9 (by decide +kernel), show c8 10 = c 10 from hfc 10 (by decide +kernel), show c8 11 = c 11 from hfc 11 (by decide +kernel), show c8 13 = c 13 from hfc 13 (by decide +kernel), show c8 23 = c 23 from hfc 23 (by decide +kernel), show c8 24 = c 24 from hfc 24 (by decide +kernel), show i8 5 = i 5 from hfi 5 (by decide +kernel), show i8 8 = i 8 from hfi 8 (by decide +kernel), show i8 22 = i 22 from hfi 22 (by decide +kernel)]; exact hs_G) (show ((i8 33) : Int32).toInt = 0 from by omega)) (cwV 1 hts gm_X12_share_X12_bulkOf rfl rfl rfl (by decide +kernel) ⟨Nat.le_of_ble_eq_true rfl, Nat.le_of_ble_eq_true rfl⟩) (pB_V hK hP hD (ci := 12) (q0 := 0) rfl rfl) rfl rfl hl.1 rfl (lv_room (Nat.le_of_ble_eq_true rfl)) dX12_share_86 ⟨Nat.le_of_ble_eq_true rfl, Nat.le_of_ble_eq_true rfl⟩) hS hA hP hD (fun r24 u24 H locs hw24 hP hD hS => ?_)
                  obtain ⟨i24, q24, c24, d24⟩ := u24
                  have hw24 : True ∧ mInv i24 c24 ∧ (∀ k, k ∉ ([36] : List Nat) → i24 k = i8 k) ∧ (∀ k, k ∉ ([38, 39] : List Nat) → c24 k = c8 k) := hw24
                  obtain ⟨hw24, hI, hei24, hec24⟩ := hw24
                  have hfi : ∀ k, k ∉ ([36] : List Nat) → i24 k = i k := fr_z hfi hei24 (by decide +kernel) (by decide +kernel)
                  have hfc : ∀ k, k ∉ ([38, 39] : List Nat) → c24 k = c k := fr_z hfc hec24 (by decide +kernel) (by decide +kernel)
                  have hP : va_P D vwCl (mW o a t i24 q24 c24 d24) H := hP
                  have hD : va_D A (mW o a t i24 q24 c24 d24) := hD
                  refine lv_i2l (v := r24.toInt64) hx hb dX12_share_89 rfl ?_
                  refine lv_goto (tgt := 94) hx hb dX12_share_90 (by decide +kernel) ?_
                  exact jn17 i24 q24 c24 d24  r24.toInt64 hI (fr_w hfi (by decide +kernel)) (fr_w hfc (by decide +kernel)) _ _ _ hP hD hS (lv_sub hl [0, 1, 2, 3, 4, 5] rfl)
        exact lp8 _ i7 q7 c7 d7 (0 : Int32) (0 : Int64) hI (fr_w hfi (by decide +kernel)) (fr_w hfc (by decide +kernel)) (show 0 ≤ (0 : Int32).toInt ∧ (0 : Int32).toInt ≤ 30 from by decide +kernel) (Nat.lt_succ_self _) _ _ _ hP hD hS (lv_sub hl [0, 1, 2, 3, 4, 5] rfl)
      · have f6 := mt (ti_eq (a := r5.toInt) (b := 0) rfl (by decide +kernel)).mpr c6
        have s6 := sm_t hr5_0 c6
        refine lv_aload_n hx hb dX12_share_27 rfl (lv_at hl 0 rfl) ?_
        refine lv_iconst (v := 3) hx hb dX12_share_28 (by decide +kernel) ?_
        refine al_calli (va_runV (As := [.int 3]) (rest := []) ⟨hx, hb, hml, hown, hts⟩ (s_X12_meets l D H.size o a t i q c d 3 hI (show 1 ≤ 3 ∧ 3 ≤ 6 from by decide +kernel)) (cwV 1 hts gm_X12_share_X12_meets rfl rfl rfl (by decide +kernel) ⟨Nat.le_of_ble_eq_true rfl, Nat.le_of_ble_eq_true rfl⟩) (pB_V hK hP hD (ci := 12) (q0 := 0) rfl rfl) rfl rfl hl.1 rfl (lv_room (Nat.le_of_ble_eq_true rfl)) dX12_share_29 ⟨Nat.le_of_ble_eq_true rfl, Nat.le_of_ble_eq_true rfl⟩) hS hA hP hD (fun r25 u25 H locs hw25 hP hD hS => ?_)
        obtain ⟨i25, q25, c25, d25⟩ := u25
        have hw25 : r25 = (-3) ∧ mInv i25 c25 ∧ (∀ k, k ∉ ([0] : List Nat) → i25 k = i k) ∧ (∀ k, k ∉ ([1] : List Nat) → c25 k = c k) := hw25
        obtain ⟨hw25, hI, hei25, hec25⟩ := hw25
        have hfi : ∀ k, k ∉ ([0] : List Nat) → i25 k = i k := fr_z hfi hei25 (by decide +kernel) (by decide +kernel)
        have hfc : ∀ k, k ∉ ([1] : List Nat) → c25 k = c k := fr_z hfc hec25 (by decide +kernel) (by decide +kernel)
        have hP : va_P D vwCl (mW o a t i25 q25 c25 d25) H := hP
        have hD : va_D A (mW o a t i25 q25 c25 d25) := hD
        have hw25 : r25 = (-3) := hw25
        subst hw25
        exact rw_iret (i25, q25, c25, d25) hx hb hr hlocks hS (hK.sub (tys' := []) [] rfl) hP hD dX12_share_32 ⟨trivial, hI, fr_w hfi (by decide +kernel), fr_w hfc (by decide +kernel)⟩
    · have f4 := fl_f hw3 c4
      refine lv_iconst (v := (-1)) hx hb dX12_share_16 (by decide +kernel) ?_
      exact rw_iret (i, q, c, d) hx hb hr hlocks hS (hK.sub (tys' := []) [] rfl) hP hD dX12_share_17 ⟨trivial, hI, fr_w hfi (by decide +kernel), fr_w hfc (by decide +kernel)⟩

