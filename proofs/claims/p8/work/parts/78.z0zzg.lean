set_option maxHeartbeats 4000000 in
set_option maxRecDepth 100000 in
theorem s_X12_bulk_t (l : Launch) (D : va_G) (sz : Nat) (o : Nat) (a : Nat → Nat) (t : Nat → ClassId) (i : Nat → Int32) (q : Int64) (c : Nat → Nat → Int32) (d : Nat → Nat → Int64) (w : Int32) (hI : mInv i c) (hs_G : Acy (gF (c 9) (c 10) (c 11) (c 13) (c 23) (c 24) (i 8).toInt (i 5).toInt (i 22).toInt)) (hs_N : NoD (zM (c 3) (c 6) (i 5).toInt) (gM (c 9) (c 10) (c 13) (c 23) (i 8).toInt (i 22).toInt) (i 5).toInt) (h33 : (i 33).toInt = 0) : Met l yX12_bulk wm_X12_bulk ({ frames := 3, cells := 0, slots := 0, locals := 70 }) (va_Pc [.ref o, .int w] (pB D sz (mW o a t i q c d) (mT t))) (va_Qi (fun (r : Int32) (u : MS) => True ∧ mInv u.1 u.2.2.1 ∧ (∀ k, k ∉ ([0, 33, 35, 36] : List Nat) → u.1 k = i k) ∧ (∀ k, k ∉ ([1, 34, 38, 39] : List Nat) → u.2.2.1 k = c k) ∧ (TrW (0 ≤ w.toInt ∧ w.toInt < (i 5).toInt) ((zM (c 3) (c 6) (i 5).toInt) w.toInt = 0) ((i 35), (c 34)) (0, (c 34)) ((trB (zM (c 3) (c 6) (i 5).toInt) (lsG (c 9) (c 10) (c 11) (c 13) (c 23) (c 24) (i 8).toInt (i 22).toInt) (i 5).toInt.toNat 31) w.toInt.toNat (0, (c 34))) ((u.1 35), (u.2.2.1 34))) ∧ ((u.1 33).toInt = 0)) (oC D (va_A (mW o a t i q c d) sz) (fun u : MS => mW o a t u.1 u.2.1 u.2.2.1 u.2.2.2) (fun _ => [])) (va_A (mW o a t i q c d) sz)) 0 0 (va_A (mW o a t i q c d) sz) := by
  refine Met.ofW (cc := cX12_bulk) (maxL := 3) (ret := (some .int)) (by decide +kernel) rfl ?_
  intro p e s m args below meth cd s₁ B hml hv
  obtain ⟨rfl, hsz, hP, hK, hD0⟩ := hv
  have hx := B.exec
  have hb := B.bytes
  have hr := B.returns
  have hts := atoms_spec (ws := wm_X12_bulk) B.pre
  have hown : s.vm.findClass RX12 = some m.cls := findClass_of_methodNamed B.named
  have hlocks := B.notSynchronized
  subst hsz
  have hD := hD0.self (sz := s.heap.size)
  generalize hAe : va_A (mW o a t i q c d) s.heap.size = A at hD ⊢
  have hA : ∀ q : Nat, s.heap.size ≤ q → A q := fun q h => by rw [← hAe]; exact Or.inr h
  have hS : va_S A s.heap s.heap [] := va_S.rf
  have hfi : ∀ k, k ∉ ([] : List Nat) → i k = i k := fun _ _ => rfl
  have hfc : ∀ k, k ∉ ([] : List Nat) → c k = c k := fun _ _ => rfl
  have hl := lv_entry ([.ref o, .int w]) (n := 3) (Nat.le_of_ble_eq_true rfl)
  rw [lg_entry_eq]
  generalize (lg_sl ([.ref o, .int w]) ++ List.replicate (3 - (lg_sl ([.ref o, .int w])).length) Slot.unset).toArray = ls at hl ⊢
  have hl : lv_has ls 3 [(0, .ref o), (1, .int w)] := hl
  have rb5_i : 0 ≤ (i 5).toInt ∧ (i 5).toInt ≤ 30 := hI.1 5
  have rb33_i : 0 ≤ (i 33).toInt ∧ (i 33).toInt ≤ 1 := hI.1 33
  refine lv_aload_n hx hb dX12_bulk_0 rfl (lv_at hl 0 rfl) ?_
  refine lv_iload_n hx hb dX12_bulk_1 rfl (lv_at hl 1 rfl) ?_
  refine ro_calli (va_runV (As := [.int w]) (rest := []) ⟨hx, hb, hml, hown, hts⟩ (s_X12_isObject l D s.heap.size o a t i q c d w hI ) (cwV 1 hts gm_X12_bulk_X12_isObject rfl rfl rfl (by decide +kernel) ⟨Nat.le_of_ble_eq_true rfl, Nat.le_of_ble_eq_true rfl⟩) (pA_V hK hP (ci := 12) (q0 := 0) rfl rfl) rfl rfl hl.1 rfl (lv_room (Nat.le_of_ble_eq_true rfl)) dX12_bulk_2 ⟨Nat.le_of_ble_eq_true rfl, Nat.le_of_ble_eq_true rfl⟩) hS hA hP (fun r1 u1 H locs hw1 hP hS => ?_)
  have hw1 : r1 = if (0 ≤ w.toInt ∧ w.toInt ≤ (i 5).toInt - 1) then 1 else 0 := hw1
  refine lv_if_ne (tgt := 10) hx hb dX12_bulk_5 (by decide +kernel) (fun c2 => ?_) (fun c2 => ?_)
  · have f2 := fl_t hw1 c2
    refine lv_aload_n hx hb dX12_bulk_10 rfl (lv_at hl 0 rfl) ?_
    refine lv_iconst (v := 0) hx hb dX12_bulk_11 (by decide +kernel) ?_
    refine mput_35 hx hb hts (fun _ h => List.mem_cons_of_mem _ (List.mem_append_right _ h)) hown hK hP hD hS (hts (.fieldLink RX12 297 "TalePlayModel" "traced" "I") (List.mem_cons_of_mem _ (List.mem_append_left _ (List.mem_append_left _ (List.mem_of_getElem? (i := 9) rfl))))) rfl rfl dX12_bulk_12 (fun H locs hP hD hS => ?_)
    have hI := mInv_i hI (k := 35) (v := 0) (show 0 ≤ (0 : Int32).toInt ∧ (0 : Int32).toInt ≤ 100 from by decide +kernel)
    have hfi : ∀ k, k ∉ ([35] : List Nat) → (upd i 35 0) k = i k := fr_iz hfi (by decide +kernel) (by decide +kernel)
    refine lv_aload_n hx hb dX12_bulk_15 rfl (lv_at hl 0 rfl) ?_
    refine lv_iload_n hx hb dX12_bulk_16 rfl (lv_at hl 1 rfl) ?_
    refine lv_iconst (v := 0) hx hb dX12_bulk_17 (by decide +kernel) ?_
    refine ro_calli (va_runV (As := [.int w, .int 0]) (rest := []) ⟨hx, hb, hml, hown, hts⟩ (s_X12_isOf_e l D H.size o a t (upd i 35 0) q c d w 0 hI (show 0 ≤ w.toInt ∧ w.toInt ≤ 29 from by have h91 : (0 : Int32).toInt = 0 := (by decide +kernel); have h60 : (0 : Int32).toInt = 0 := (by decide +kernel); omega) (show 0 ≤ 0 ∧ 0 ≤ 5 from by decide +kernel)) (cwV 2 hts gm_X12_bulk_X12_isOf rfl rfl rfl (by decide +kernel) ⟨Nat.le_of_ble_eq_true rfl, Nat.le_of_ble_eq_true rfl⟩) (pA_V hK hP (ci := 12) (q0 := 0) rfl rfl) rfl rfl hl.1 rfl (lv_room (Nat.le_of_ble_eq_true rfl)) dX12_bulk_18 ⟨Nat.le_of_ble_eq_true rfl, Nat.le_of_ble_eq_true rfl⟩) hS hA hP (fun r3 u3 H locs hw3 hP hS => ?_)
    have hw3 : ((0 ≤ r3.toInt ∧ r3.toInt ≤ 1) ∧ (0 ≤ kS (c 3) (c 6) w.toInt ∧ kS (c 3) (c 6) w.toInt ≤ 5 ∧ ((r3.toInt = 1 ∧ (kS (c 3) (c 6) w.toInt = 0 ∨ ((1 : Int) = 0 ∧ 1 < kS (c 3) (c 6) w.toInt))) ∨ (r3.toInt = 0 ∧ ¬ (kS (c 3) (c 6) w.toInt = 0 ∨ ((1 : Int) = 0 ∧ 1 < kS (c 3) (c 6) w.toInt)))))) := hw3
    obtain ⟨hw3, hr3_0⟩ := hw3
    have hr3_0 : 0 ≤ kS (c 3) (c 6) w.toInt ∧ kS (c 3) (c 6) w.toInt ≤ 5 ∧ ((r3.toInt = 1 ∧ (kS (c 3) (c 6) w.toInt = 0 ∨ ((1 : Int) = 0 ∧ 1 < kS (c 3) (c 6) w.toInt))) ∨ (r3.toInt = 0 ∧ ¬ (kS (c 3) (c 6) w.toInt = 0 ∨ ((1 : Int) = 0 ∧ 1 < kS (c 3) (c 6) w.toInt)))) := hr3_0
    refine lv_if_eq (tgt := 30) hx hb dX12_bulk_21 (by decide +kernel) (fun c4 => ?_) (fun c4 => ?_)
    · have f4 := (ti_eq (a := r3.toInt) (b := 0) rfl (by decide +kernel)).mp c4
      refine lv_aload_n hx hb dX12_bulk_30 rfl (lv_at hl 0 rfl) ?_
      refine lv_iconst (v := 1) hx hb dX12_bulk_31 (by decide +kernel) ?_
      refine mput_33 hx hb hts (fun _ h => List.mem_cons_of_mem _ (List.mem_append_right _ h)) hown hK hP hD hS (hts (.fieldLink RX12 294 "TalePlayModel" "traces" "Z") (List.mem_cons_of_mem _ (List.mem_append_left _ (List.mem_append_right _ (List.mem_append_left _ (List.mem_of_getElem? (i := 0) rfl)))))) rfl rfl dX12_bulk_32 (fun H locs hP hD hS => ?_)
      have hI := mInv_i hI (k := 33) (v := 1) (show 0 ≤ (1 : Int32).toInt ∧ (1 : Int32).toInt ≤ 1 from by decide +kernel)
      have hfi : ∀ k, k ∉ ([33, 35] : List Nat) → (upd (upd i 35 0) 33 1) k = i k := fr_iz hfi (by decide +kernel) (by decide +kernel)
      refine lv_aload_n hx hb dX12_bulk_35 rfl (lv_at hl 0 rfl) ?_
      refine lv_iconst (v := 0) hx hb dX12_bulk_36 (by decide +kernel) ?_
      refine mput_36 hx hb hts (fun _ h => List.mem_cons_of_mem _ (List.mem_append_right _ h)) hown hK hP hD hS (hts (.fieldLink RX12 303 "TalePlayModel" "isNought" "Z") (List.mem_cons_of_mem _ (List.mem_append_left _ (List.mem_append_right _ (List.mem_append_left _ (List.mem_of_getElem? (i := 1) rfl)))))) rfl rfl dX12_bulk_37 (fun H locs hP hD hS => ?_)
      have hI := mInv_i hI (k := 36) (v := 0) (show 0 ≤ (0 : Int32).toInt ∧ (0 : Int32).toInt ≤ 1 from by decide +kernel)
      have hfi : ∀ k, k ∉ ([33, 35, 36] : List Nat) → (upd (upd (upd i 35 0) 33 1) 36 0) k = i k := fr_iz hfi (by decide +kernel) (by decide +kernel)
      refine lv_aload_n hx hb dX12_bulk_40 rfl (lv_at hl 0 rfl) ?_
      refine lv_iload_n hx hb dX12_bulk_41 rfl (lv_at hl 1 rfl) ?_
      have rb8_i : 0 ≤ (i 8).toInt ∧ (i 8).toInt ≤ 200 := hI.1 8
      have rb22_i : (i 22).toInt = -9 ∨ (0 ≤ (i 22).toInt ∧ (i 22).toInt ≤ 29) := hI.1 22
      refine al_calli (va_runV (As := [.int w]) (rest := []) ⟨hx, hb, hml, hown, hts⟩ (s_X12_bulkOf_u l D H.size o a t (upd (upd (upd i 35 0) 33 1) 36 0) q c d w hI (show 0 ≤ w.toInt ∧ w.toInt < ((i 5) : Int32).toInt from by have h60 : (0 : Int32).toInt = 0 := (by decide +kernel); have h61 : (1 : Int32).toInt = 1 := (by decide +kernel); have h62 : (0 : Int32).toInt = 0 := (by decide +kernel); omega) (by rw [show (upd (upd (upd i 35 0) 33 1) 36 0) 5 = i 5 from hfi 5 (by decide +kernel), show (upd (upd (upd i 35 0) 33 1) 36 0) 8 = i 8 from hfi 8 (by decide +kernel), show (upd (upd (upd i 35 0) 33 1) 36 0) 22 = i 22 from hfi 22 (by decide +kernel)]; exact hs_G) (by rw [show (upd (upd (upd i 35 0) 33 1) 36 0) 5 = i 5 from hfi 5 (by decide +kernel), show (upd (upd (upd i 35 0) 33 1) 36 0) 8 = i 8 from hfi 8 (by decide +kernel), show (upd (upd (upd i 35 0) 33 1) 36 0) 22 = i 22 from hfi 22 (by decide +kernel)]; exact hs_N) (show (1 : Int32).toInt = 1 from by decide +kernel)) (cwV 1 hts gm_X12_bulk_X12_bulkOf rfl rfl rfl (by decide +kernel) ⟨Nat.le_of_ble_eq_true rfl, Nat.le_of_ble_eq_true rfl⟩) (pB_V hK hP hD (ci := 12) (q0 := 0) rfl rfl) rfl rfl hl.1 rfl (lv_room (Nat.le_of_ble_eq_true rfl)) dX12_bulk_42 ⟨Nat.le_of_ble_eq_true rfl, Nat.le_of_ble_eq_true rfl⟩) hS hA hP hD (fun r5 u5 H locs hw5 hP hD hS => ?_)
      obtain ⟨i5, q5, c5, d5⟩ := u5
      have hw5 : (True ∧ (Im (¬ (zM (c 3) (c 6) ((upd (upd (upd i 35 0) 33 1) 36 0) 5).toInt) w.toInt = 2) (r5 = (wtB (zM (c 3) (c 6) ((upd (upd (upd i 35 0) 33 1) 36 0) 5).toInt) (c 7) (lsG (c 9) (c 10) (c 11) (c 13) (c 23) (c 24) ((upd (upd (upd i 35 0) 33 1) 36 0) 8).toInt ((upd (upd (upd i 35 0) 33 1) 36 0) 22).toInt) ((upd (upd (upd i 35 0) 33 1) 36 0) 5).toInt.toNat 31) w.toInt.toNat)) ∧ (Im ((zM (c 3) (c 6) ((upd (upd (upd i 35 0) 33 1) 36 0) 5).toInt) w.toInt = 2) (r5 = drV (c 7 w.toInt.toNat)))) ∧ mInv i5 c5 ∧ (∀ k, k ∉ ([35, 36] : List Nat) → i5 k = (upd (upd (upd i 35 0) 33 1) 36 0) k) ∧ (∀ k, k ∉ ([34, 38, 39] : List Nat) → c5 k = c k) ∧ (ntP ((zM (c 3) (c 6) ((upd (upd (upd i 35 0) 33 1) 36 0) 5).toInt) w.toInt = 2 ∧ (c 7 w.toInt.toNat).toInt = 0) ((upd (upd (upd i 35 0) 33 1) 36 0) 36) (i5 36)) ∧ (((i5 35), (c5 34)) = (trB (zM (c 3) (c 6) ((upd (upd (upd i 35 0) 33 1) 36 0) 5).toInt) (lsG (c 9) (c 10) (c 11) (c 13) (c 23) (c 24) ((upd (upd (upd i 35 0) 33 1) 36 0) 8).toInt ((upd (upd (upd i 35 0) 33 1) 36 0) 22).toInt) ((upd (upd (upd i 35 0) 33 1) 36 0) 5).toInt.toNat 31) w.toInt.toNat (((upd (upd (upd i 35 0) 33 1) 36 0) 35), (c 34))) := hw5
      obtain ⟨hw5, hI, hei5, hec5, hxp5_0, hxp5_1⟩ := hw5
      obtain ⟨hw5, hr5_0, hr5_1⟩ := hw5
      have hr5_0 : Im (¬ (zM (c 3) (c 6) (i 5).toInt) w.toInt = 2) (r5 = (wtB (zM (c 3) (c 6) (i 5).toInt) (c 7) (lsG (c 9) (c 10) (c 11) (c 13) (c 23) (c 24) (i 8).toInt (i 22).toInt) (i 5).toInt.toNat 31) w.toInt.toNat) := by have h9 := hr5_0; rw [show (upd (upd (upd i 35 0) 33 1) 36 0) 5 = i 5 from hfi 5 (by decide +kernel), show (upd (upd (upd i 35 0) 33 1) 36 0) 8 = i 8 from hfi 8 (by decide +kernel), show (upd (upd (upd i 35 0) 33 1) 36 0) 22 = i 22 from hfi 22 (by decide +kernel)] at h9; exact h9
      have hr5_1 : Im ((zM (c 3) (c 6) (i 5).toInt) w.toInt = 2) (r5 = drV (c 7 w.toInt.toNat)) := by have h9 := hr5_1; rw [show (upd (upd (upd i 35 0) 33 1) 36 0) 5 = i 5 from hfi 5 (by decide +kernel)] at h9; exact h9
      have hxp5_0 : ntP ((zM (c 3) (c 6) (i 5).toInt) w.toInt = 2 ∧ (c 7 w.toInt.toNat).toInt = 0) ((upd (upd (upd i 35 0) 33 1) 36 0) 36) (i5 36) := by have h9 := hxp5_0; rw [show (upd (upd (upd i 35 0) 33 1) 36 0) 5 = i 5 from hfi 5 (by decide +kernel)] at h9; exact h9
      have hxp5_1 : ((i5 35), (c5 34)) = (trB (zM (c 3) (c 6) (i 5).toInt) (lsG (c 9) (c 10) (c 11) (c 13) (c 23) (c 24) (i 8).toInt (i 22).toInt) (i 5).toInt.toNat 31) w.toInt.toNat (((upd (upd (upd i 35 0) 33 1) 36 0) 35), (c 34)) := by have h9 := hxp5_1; rw [show (upd (upd (upd i 35 0) 33 1) 36 0) 5 = i 5 from hfi 5 (by decide +kernel), show (upd (upd (upd i 35 0) 33 1) 36 0) 8 = i 8 from hfi 8 (by decide +kernel), show (upd (upd (upd i 35 0) 33 1) 36 0) 22 = i 22 from hfi 22 (by decide +kernel)] at h9; exact h9
      have hfi : ∀ k, k ∉ ([33, 35, 36] : List Nat) → i5 k = i k := fr_z hfi hei5 (by decide +kernel) (by decide +kernel)
      have hfc : ∀ k, k ∉ ([34, 38, 39] : List Nat) → c5 k = c k := fr_z hfc hec5 (by decide +kernel) (by decide +kernel)
      have hP : va_P D vwCl (mW o a t i5 q5 c5 d5) H := hP
      have hD : va_D A (mW o a t i5 q5 c5 d5) := hD
      refine lv_istore_n (lv' := [(2, .int r5), (0, .ref o), (1, .int w)]) hx hb dX12_bulk_45 rfl hl (by decide +kernel) rfl (fun ls hl => ?_)
      refine lv_aload_n hx hb dX12_bulk_46 rfl (lv_at hl 1 rfl) ?_
      refine lv_iconst (v := 0) hx hb dX12_bulk_47 (by decide +kernel) ?_
      refine mput_33 hx hb hts (fun _ h => List.mem_cons_of_mem _ (List.mem_append_right _ h)) hown hK hP hD hS (hts (.fieldLink RX12 294 "TalePlayModel" "traces" "Z") (List.mem_cons_of_mem _ (List.mem_append_left _ (List.mem_append_right _ (List.mem_append_left _ (List.mem_of_getElem? (i := 0) rfl)))))) rfl rfl dX12_bulk_48 (fun H locs hP hD hS => ?_)
      have hI := mInv_i hI (k := 33) (v := 0) (show 0 ≤ (0 : Int32).toInt ∧ (0 : Int32).toInt ≤ 1 from by decide +kernel)
      have hfi := fr_i hfi (k := 33) (v := 0) (by decide +kernel)
      refine lv_aload_n hx hb dX12_bulk_51 rfl (lv_at hl 1 rfl) ?_
      refine mget_36 (i := (upd i5 33 0)) (v := (i5 36)) rfl hx hb hts (fun _ h => List.mem_cons_of_mem _ (List.mem_append_right _ h)) hown hK hP (hts (.fieldLink RX12 303 "TalePlayModel" "isNought" "Z") (List.mem_cons_of_mem _ (List.mem_append_left _ (List.mem_append_right _ (List.mem_append_left _ (List.mem_of_getElem? (i := 1) rfl)))))) dX12_bulk_52 ?_
      have rb36_i5 : 0 ≤ (i5 36).toInt ∧ (i5 36).toInt ≤ 1 := hI.1 36
      refine lv_if_eq (tgt := 64) hx hb dX12_bulk_55 (by decide +kernel) (fun c6 => ?_) (fun c6 => ?_)
      · have f6 := (ti_eq (a := (i5 36).toInt) (b := 0) rfl (by decide +kernel)).mp c6
        refine lv_aload_n hx hb dX12_bulk_64 rfl (lv_at hl 1 rfl) ?_
        refine lv_iload_n hx hb dX12_bulk_65 rfl (lv_at hl 0 rfl) ?_
        refine lv_i2l (v := r5.toInt64) hx hb dX12_bulk_66 rfl ?_
        refine mput_37 hx hb hts (fun _ h => List.mem_cons_of_mem _ (List.mem_append_right _ h)) hown hK hP hD hS (hts (.fieldLink RX12 318 "TalePlayModel" "asked" "J") (List.mem_cons_of_mem _ (List.mem_append_left _ (List.mem_append_right _ (List.mem_append_right _ (List.mem_append_right _ (List.mem_of_getElem? (i := 6) rfl))))))) rfl rfl dX12_bulk_67 (fun H locs hP hD hS => ?_)
        refine lv_iconst (v := 1) hx hb dX12_bulk_70 (by decide +kernel) ?_
        exact rw_iret ((upd i5 33 0), r5.toInt64, c5, d5) hx hb hr hlocks hS (hK.sub (tys' := []) [] rfl) hP hD dX12_bulk_71 ⟨trivial, hI, fr_w hfi (by decide +kernel), fr_w hfc (by decide +kernel), (show TrW (0 ≤ w.toInt ∧ w.toInt < (i 5).toInt) ((zM (c 3) (c 6) (i 5).toInt) w.toInt = 0) ((i 35), (c 34)) (0, (c 34)) ((trB (zM (c 3) (c 6) (i 5).toInt) (lsG (c 9) (c 10) (c 11) (c 13) (c 23) (c 24) (i 8).toInt (i 22).toInt) (i 5).toInt.toNat 31) w.toInt.toNat (0, (c 34))) (((i5 35) : Int32), (c5 34)) from Or.inr (Or.inr ⟨by omega, (by rw [zM_i (by omega)]; omega), by exact hxp5_1⟩)), (show (0 : Int32).toInt = 0 from by decide)⟩
      · have f6 := mt (ti_eq (a := (i5 36).toInt) (b := 0) rfl (by decide +kernel)).mpr c6
        refine lv_aload_n hx hb dX12_bulk_58 rfl (lv_at hl 1 rfl) ?_
        refine lv_iconst (v := 4) hx hb dX12_bulk_59 (by decide +kernel) ?_
        refine al_calli (va_runV (As := [.int 4]) (rest := []) ⟨hx, hb, hml, hown, hts⟩ (s_X12_meets l D H.size o a t (upd i5 33 0) q5 c5 d5 4 hI (show 1 ≤ 4 ∧ 4 ≤ 6 from by decide +kernel)) (cwV 1 hts gm_X12_bulk_X12_meets rfl rfl rfl (by decide +kernel) ⟨Nat.le_of_ble_eq_true rfl, Nat.le_of_ble_eq_true rfl⟩) (pB_V hK hP hD (ci := 12) (q0 := 0) rfl rfl) rfl rfl hl.1 rfl (lv_room (Nat.le_of_ble_eq_true rfl)) dX12_bulk_60 ⟨Nat.le_of_ble_eq_true rfl, Nat.le_of_ble_eq_true rfl⟩) hS hA hP hD (fun r7 u7 H locs hw7 hP hD hS => ?_)
        obtain ⟨i7, q7, c7, d7⟩ := u7
        have hw7 : r7 = (-3) ∧ mInv i7 c7 ∧ (∀ k, k ∉ ([0] : List Nat) → i7 k = (upd i5 33 0) k) ∧ (∀ k, k ∉ ([1] : List Nat) → c7 k = c5 k) := hw7
        obtain ⟨hw7, hI, hei7, hec7⟩ := hw7
        have hfi : ∀ k, k ∉ ([0, 33, 35, 36] : List Nat) → i7 k = i k := fr_z hfi hei7 (by decide +kernel) (by decide +kernel)
        have hfc : ∀ k, k ∉ ([1, 34, 38, 39] : List Nat) → c7 k = c k := fr_z hfc hec7 (by decide +kernel) (by decide +kernel)
        have hP : va_P D vwCl (mW o a t i7 q7 c7 d7) H := hP
        have hD : va_D A (mW o a t i7 q7 c7 d7) := hD
        have hw7 : r7 = (-3) := hw7
        subst hw7
        exact rw_iret (i7, q7, c7, d7) hx hb hr hlocks hS (hK.sub (tys' := []) [] rfl) hP hD dX12_bulk_63 ⟨trivial, hI, fr_w hfi (by decide +kernel), fr_w hfc (by decide +kernel), (show TrW (0 ≤ w.toInt ∧ w.toInt < (i 5).toInt) ((zM (c 3) (c 6) (i 5).toInt) w.toInt = 0) ((i 35), (c 34)) (0, (c 34)) ((trB (zM (c 3) (c 6) (i 5).toInt) (lsG (c 9) (c 10) (c 11) (c 13) (c 23) (c 24) (i 8).toInt (i 22).toInt) (i 5).toInt.toNat 31) w.toInt.toNat (0, (c 34))) (((i7 35) : Int32), (c7 34)) from Or.inr (Or.inr ⟨by omega, (by rw [zM_i (by omega)]; omega), by rw [show i7 35 = i5 35 from hei7 35 (by decide +kernel), show c7 34 = c5 34 from hec7 34 (by decide +kernel)]; exact hxp5_1⟩)), (show ((i7 33) : Int32).toInt = 0 from by rw [show i7 33 = (0 : Int32) from hei7 33 (by decide +kernel)]; decide)⟩
    · have f4 := mt (ti_eq (a := r3.toInt) (b := 0) rfl (by decide +kernel)).mpr c4
      refine lv_aload_n hx hb dX12_bulk_24 rfl (lv_at hl 0 rfl) ?_
      refine lv_iconst (v := 3) hx hb dX12_bulk_25 (by decide +kernel) ?_
      refine al_calli (va_runV (As := [.int 3]) (rest := []) ⟨hx, hb, hml, hown, hts⟩ (s_X12_meets l D H.size o a t (upd i 35 0) q c d 3 hI (show 1 ≤ 3 ∧ 3 ≤ 6 from by decide +kernel)) (cwV 1 hts gm_X12_bulk_X12_meets rfl rfl rfl (by decide +kernel) ⟨Nat.le_of_ble_eq_true rfl, Nat.le_of_ble_eq_true rfl⟩) (pB_V hK hP hD (ci := 12) (q0 := 0) rfl rfl) rfl rfl hl.1 rfl (lv_room (Nat.le_of_ble_eq_true rfl)) dX12_bulk_26 ⟨Nat.le_of_ble_eq_true rfl, Nat.le_of_ble_eq_true rfl⟩) hS hA hP hD (fun r8 u8 H locs hw8 hP hD hS => ?_)
      obtain ⟨i8, q8, c8, d8⟩ := u8
      have hw8 : r8 = (-3) ∧ mInv i8 c8 ∧ (∀ k, k ∉ ([0] : List Nat) → i8 k = (upd i 35 0) k) ∧ (∀ k, k ∉ ([1] : List Nat) → c8 k = c k) := hw8
      obtain ⟨hw8, hI, hei8, hec8⟩ := hw8
      have hfi : ∀ k, k ∉ ([0, 35] : List Nat) → i8 k = i k := fr_z hfi hei8 (by decide +kernel) (by decide +kernel)
      have hfc : ∀ k, k ∉ ([1] : List Nat) → c8 k = c k := fr_z hfc hec8 (by decide +kernel) (by decide +kernel)
      have hP : va_P D vwCl (mW o a t i8 q8 c8 d8) H := hP
      have hD : va_D A (mW o a t i8 q8 c8 d8) := hD
      have hw8 : r8 = (-3) := hw8
      subst hw8
      exact rw_iret (i8, q8, c8, d8) hx hb hr hlocks hS (hK.sub (tys' := []) [] rfl) hP hD dX12_bulk_29 ⟨trivial, hI, fr_w hfi (by decide +kernel), fr_w hfc (by decide +kernel), (show TrW (0 ≤ w.toInt ∧ w.toInt < (i 5).toInt) ((zM (c 3) (c 6) (i 5).toInt) w.toInt = 0) ((i 35), (c 34)) (0, (c 34)) ((trB (zM (c 3) (c 6) (i 5).toInt) (lsG (c 9) (c 10) (c 11) (c 13) (c 23) (c 24) (i 8).toInt (i 22).toInt) (i 5).toInt.toNat 31) w.toInt.toNat (0, (c 34))) (((i8 35) : Int32), (c8 34)) from Or.inr (Or.inl ⟨by omega, by rw [zM_i (by omega)]; omega, by rw [show i8 35 = (0 : Int32) from hei8 35 (by decide +kernel), show c8 34 = c 34 from hfc 34 (by decide +kernel)]⟩)), (show ((i8 33) : Int32).toInt = 0 from by rw [show i8 33 = i 33 from hfi 33 (by decide +kernel)]; exact h33)⟩
  · have f2 := fl_f hw1 c2
    refine lv_iconst (v := (-1)) hx hb dX12_bulk_8 (by decide +kernel) ?_
    exact rw_iret (i, q, c, d) hx hb hr hlocks hS (hK.sub (tys' := []) [] rfl) hP hD dX12_bulk_9 ⟨trivial, hI, fr_w hfi (by decide +kernel), fr_w hfc (by decide +kernel), (show TrW (0 ≤ w.toInt ∧ w.toInt < (i 5).toInt) ((zM (c 3) (c 6) (i 5).toInt) w.toInt = 0) ((i 35), (c 34)) (0, (c 34)) ((trB (zM (c 3) (c 6) (i 5).toInt) (lsG (c 9) (c 10) (c 11) (c 13) (c 23) (c 24) (i 8).toInt (i 22).toInt) (i 5).toInt.toNat 31) w.toInt.toNat (0, (c 34))) (((i 35) : Int32), (c 34)) from Or.inl ⟨by omega, rfl⟩), (show ((i 33) : Int32).toInt = 0 from h33)⟩

def wm_X11_trace_eTX : List Cond := .code yX11_trace cX11_trace 2 (some .int) :: (([.fieldLink RX11 37 "TalePlay" "bulks" "LTalePlay$Bulks;", .fieldLink RX11 139 "TalePlay$Bulks" "traced" "I", .methodLink RX11 91 yX11_isBelow, .static yX11_isBelow, .initialized RX11, .code yX11_isBelow cX11_isBelow 2 (some .boolean), .fieldLink RX11 142 "TalePlay$Bulks" "trace" "[I"] : List Cond) ++ wsX110 ++ wsX20)
set_option maxRecDepth 20000 in
theorem gm_X11_trace_eTX_X11_isBelow_91 : GoodIn wm_X11_trace_eTX (va_wsS RX11 91 yX11_isBelow wm_X11_isBelow) := goodIn_w (List.forall_mem_append.mpr ⟨List.forall_mem_cons.mpr ⟨List.mem_cons_of_mem _ (List.mem_append_left _ (List.mem_append_left _ (List.mem_of_getElem? (i := 2) rfl))), List.forall_mem_cons.mpr ⟨List.mem_cons_of_mem _ (List.mem_append_left _ (List.mem_append_left _ (List.mem_of_getElem? (i := 3) rfl))), List.forall_mem_cons.mpr ⟨List.mem_cons_of_mem _ (List.mem_append_left _ (List.mem_append_left _ (List.mem_of_getElem? (i := 4) rfl))), (fun _ h => absurd h List.not_mem_nil)⟩⟩⟩, List.forall_mem_cons.mpr ⟨List.mem_cons_of_mem _ (List.mem_append_left _ (List.mem_append_left _ (List.mem_of_getElem? (i := 5) rfl))), (fun _ h => absurd h List.not_mem_nil)⟩⟩) (by decide +kernel)
set_option maxHeartbeats 4000000 in
set_option maxRecDepth 100000 in
theorem x_X11_trace_eTX (l : Launch) (D : va_G) (sz : Nat) (sk : Value) (a : Nat → Nat) (t : Nat → ClassId) (i : Nat → Int32) (q : Int64) (c : Nat → Nat → Int32) (d : Nat → Nat → Int64) (w : Int32) (hI : xInv i c) : Met l yX11_trace wm_X11_trace_eTX ({ frames := 1, cells := 0, slots := 0, locals := 21 }) (va_Pc [.ref (a 100), .int w] (yA (a 186) D sz (xwT sk a t i q c d) (xtT t))) (va_Qi (fun (r : Int32) (_ : Unit) => (True ∧ ((0 ≤ w.toInt ∧ w.toInt < (i 140).toInt ∧ r.toInt = (c 139 w.toInt.toNat).toInt) ∨ (¬ (0 ≤ w.toInt ∧ w.toInt < (i 140).toInt) ∧ r.toInt = -9)))) oA (ro sz)) 0 0 (ro sz) := by
  refine Met.ofW (cc := cX11_trace) (maxL := 2) (ret := (some .int)) (by decide +kernel) rfl ?_
  intro p e s m args below meth cd s₁ B hml hv
  obtain ⟨rfl, ⟨hsz, hP, hK⟩, hN, hZ⟩ := hv
  have hx := B.exec
  have hb := B.bytes
  have hr := B.returns
  have hts := atoms_spec (ws := wm_X11_trace_eTX) B.pre
  have hown : s.vm.findClass RX11 = some m.cls := findClass_of_methodNamed B.named
  have hlocks := B.notSynchronized
  subst hsz
  have hA : ∀ q : Nat, s.heap.size ≤ q → ro s.heap.size q := fun _ h => h
  have hS : va_S (ro s.heap.size) s.heap s.heap [] := va_S.rf
  have hl := lv_entry ([.ref (a 100), .int w]) (n := 2) (Nat.le_of_ble_eq_true rfl)
  rw [lg_entry_eq]
  generalize (lg_sl ([.ref (a 100), .int w]) ++ List.replicate (2 - (lg_sl ([.ref (a 100), .int w])).length) Slot.unset).toArray = ls at hl ⊢
  have hl : lv_has ls 2 [(0, .ref (a 100)), (1, .int w)] := hl
  have rb140_i : 0 ≤ (i 140).toInt ∧ (i 140).toInt ≤ 100 := hI.1 140
  refine lv_iload_n hx hb dX11_trace_0 rfl (lv_at hl 1 rfl) ?_
  refine lv_aload_n hx hb dX11_trace_1 rfl (lv_at hl 0 rfl) ?_
  refine xgT_X_bulks hx hb hts (fun _ h => List.mem_cons_of_mem _ (List.mem_append_left _ (List.mem_append_right _ h))) hown hK hP (hts (.fieldLink RX11 37 "TalePlay" "bulks" "LTalePlay$Bulks;") (List.mem_cons_of_mem _ (List.mem_append_left _ (List.mem_append_left _ (List.mem_of_getElem? (i := 0) rfl))))) dX11_trace_2 ?_
  refine xgT_K_traced (v := (i 140)) rfl hx hb hts (fun _ h => List.mem_cons_of_mem _ (List.mem_append_right _ h)) hown hK hP (hts (.fieldLink RX11 139 "TalePlay$Bulks" "traced" "I") (List.mem_cons_of_mem _ (List.mem_append_left _ (List.mem_append_left _ (List.mem_of_getElem? (i := 1) rfl))))) dX11_trace_5 ?_
  have hPc := hP.sub (ws' := []) [] rfl
  have hKc := hK.sub (tys' := []) [] rfl
  refine ro_calli (va_runS (As := [.int w, .int (i 140)]) (rest := []) ⟨hx, hb, hml, hown, hts⟩ (c_X11_isBelow l D s.heap.size w (i 140) w.toInt ((i 140).toInt) rfl rfl) (va_cwS 2 hts gm_X11_trace_eTX_X11_isBelow_91 rfl rfl rfl (by decide +kernel) ⟨Nat.le_of_ble_eq_true rfl, Nat.le_of_ble_eq_true rfl⟩) (pA_S hKc hPc) rfl rfl hl.1 rfl (lv_room (Nat.le_of_ble_eq_true rfl)) dX11_trace_8 ⟨Nat.le_of_ble_eq_true rfl, Nat.le_of_ble_eq_true rfl⟩) hS hA hP (fun r2 u2 H locs hw2 hP hS => ?_)
  have hw2 : r2 = if (0 ≤ w.toInt ∧ w.toInt < ((i 140).toInt)) then 1 else 0 := hw2
  refine lv_if_eq (tgt := 26) hx hb dX11_trace_11 (by decide +kernel) (fun c3 => ?_) (fun c3 => ?_)
  · have f3 := fl_f hw2 c3
    refine lv_bipush (v := (-9)) hx hb dX11_trace_26 (by decide +kernel) ?_
    exact ro_iret hx hb hr hlocks hS dX11_trace_28 ⟨trivial, (show (0 ≤ w.toInt ∧ w.toInt < (i 140).toInt ∧ ((-9) : Int32).toInt = (c 139 w.toInt.toNat).toInt) ∨ (¬ (0 ≤ w.toInt ∧ w.toInt < (i 140).toInt) ∧ ((-9) : Int32).toInt = -9) from Or.inr ⟨by omega, by decide⟩)⟩
  · have f3 := fl_t hw2 c3
    refine lv_aload_n hx hb dX11_trace_14 rfl (lv_at hl 0 rfl) ?_
    refine xgT_X_bulks hx hb hts (fun _ h => List.mem_cons_of_mem _ (List.mem_append_left _ (List.mem_append_right _ h))) hown hK hP (hts (.fieldLink RX11 37 "TalePlay" "bulks" "LTalePlay$Bulks;") (List.mem_cons_of_mem _ (List.mem_append_left _ (List.mem_append_left _ (List.mem_of_getElem? (i := 0) rfl))))) dX11_trace_15 ?_
    refine xgT_K_trace hx hb hts (fun _ h => List.mem_cons_of_mem _ (List.mem_append_right _ h)) hown hK hP (hts (.fieldLink RX11 142 "TalePlay$Bulks" "trace" "[I") (List.mem_cons_of_mem _ (List.mem_append_left _ (List.mem_append_left _ (List.mem_of_getElem? (i := 6) rfl))))) dX11_trace_18 ?_
    refine lv_iload_n hx hb dX11_trace_21 rfl (lv_at hl 1 rfl) ?_
    refine xlT_139 hx hb hK hP (vp_in_iff.mpr (by have h9 : w.toInt = w.toInt := rfl; omega)) dX11_trace_22 (fun x4 ex4 => ?_)
    have gx4 : (c 139 (w : Int32).toNatClampNeg).toInt = x4.toInt := (congrArg Int32.toInt ex4).symm
    refine lv_goto (tgt := 28) hx hb dX11_trace_23 (by decide +kernel) ?_
    exact ro_iret hx hb hr hlocks hS dX11_trace_28 ⟨trivial, (show (0 ≤ w.toInt ∧ w.toInt < (i 140).toInt ∧ x4.toInt = (c 139 w.toInt.toNat).toInt) ∨ (¬ (0 ≤ w.toInt ∧ w.toInt < (i 140).toInt) ∧ x4.toInt = -9) from Or.inl ⟨by omega, by omega, gx4.symm⟩)⟩

set_option maxHeartbeats 4000000 in
set_option maxRecDepth 100000 in
theorem s_X12_trace_t (l : Launch) (D : va_G) (sz : Nat) (o : Nat) (a : Nat → Nat) (t : Nat → ClassId) (i : Nat → Int32) (q : Int64) (c : Nat → Nat → Int32) (d : Nat → Nat → Int64) (w : Int32) (hI : mInv i c) : Met l yX12_trace wm_X12_trace ({ frames := 1, cells := 0, slots := 0, locals := 25 }) (va_Pc [.ref o, .int w] (pA D sz (mW o a t i q c d) (mT t))) (va_Qi (fun (r : Int32) (_ : Unit) => (True ∧ ((0 ≤ w.toInt ∧ w.toInt < (i 35).toInt ∧ r.toInt = (c 34 w.toInt.toNat).toInt) ∨ (¬ (0 ≤ w.toInt ∧ w.toInt < (i 35).toInt) ∧ r.toInt = -9)))) oA (ro sz)) 0 0 (ro sz) := by
  refine Met.ofW (cc := cX12_trace) (maxL := 2) (ret := (some .int)) (by decide +kernel) rfl ?_
  intro p e s m args below meth cd s₁ B hml hv
  obtain ⟨rfl, hsz, hP, hK⟩ := hv
  have hx := B.exec
  have hb := B.bytes
  have hr := B.returns
  have hts := atoms_spec (ws := wm_X12_trace) B.pre
  have hown : s.vm.findClass RX12 = some m.cls := findClass_of_methodNamed B.named
  have hlocks := B.notSynchronized
  subst hsz
  have hA : ∀ q : Nat, s.heap.size ≤ q → ro s.heap.size q := fun _ h => h
  have hS : va_S (ro s.heap.size) s.heap s.heap [] := va_S.rf
  have hl := lv_entry ([.ref o, .int w]) (n := 2) (Nat.le_of_ble_eq_true rfl)
  rw [lg_entry_eq]
  generalize (lg_sl ([.ref o, .int w]) ++ List.replicate (2 - (lg_sl ([.ref o, .int w])).length) Slot.unset).toArray = ls at hl ⊢
  have hl : lv_has ls 2 [(0, .ref o), (1, .int w)] := hl
  have rb35_i : 0 ≤ (i 35).toInt ∧ (i 35).toInt ≤ 100 := hI.1 35
  refine lv_iload_n hx hb dX12_trace_0 rfl (lv_at hl 1 rfl) ?_
  refine lv_i2l (v := w.toInt64) hx hb dX12_trace_1 rfl ?_
  refine lv_lconst (v := 0) hx hb dX12_trace_2 (by decide +kernel) ?_
  refine lv_aload_n hx hb dX12_trace_3 rfl (lv_at hl 0 rfl) ?_
  refine mget_35 (v := (i 35)) rfl hx hb hts (fun _ h => List.mem_cons_of_mem _ (List.mem_append_right _ h)) hown hK hP (hts (.fieldLink RX12 297 "TalePlayModel" "traced" "I") (List.mem_cons_of_mem _ (List.mem_append_left _ (List.mem_of_getElem? (i := 0) rfl)))) dX12_trace_4 ?_
  refine lv_iconst (v := 1) hx hb dX12_trace_7 (by decide +kernel) ?_
  refine lv_isub hx hb dX12_trace_8 ?_
  refine lv_topi (fun x1 ex1 => ?_)
  have tx1 := ti_sub (a := (i 35).toInt) (b := 1) ex1 rfl (by decide +kernel) (by omega) (by omega)
  refine lv_i2l (v := x1.toInt64) hx hb dX12_trace_9 rfl ?_
  have hPc := hP.sub (ws' := []) [] rfl
  have hKc := hK.sub (tys' := []) [] rfl
  refine ro_calli (va_runS (As := [.long w.toInt64, .long 0, .long x1.toInt64]) (rest := []) ⟨hx, hb, hml, hown, hts⟩ (c_X12_in l D s.heap.size w.toInt64 0 x1.toInt64 w.toInt 0 ((i 35).toInt - 1) ((Int32.toInt_toInt64 w).trans rfl) (by decide +kernel) ((Int32.toInt_toInt64 x1).trans tx1)) (va_cwS 3 hts gm_X12_trace_X12_in rfl rfl rfl (by decide +kernel) ⟨Nat.le_of_ble_eq_true rfl, Nat.le_of_ble_eq_true rfl⟩) (pA_S hKc hPc) rfl rfl hl.1 rfl (lv_room (Nat.le_of_ble_eq_true rfl)) dX12_trace_10 ⟨Nat.le_of_ble_eq_true rfl, Nat.le_of_ble_eq_true rfl⟩) hS hA hP (fun r2 u2 H locs hw2 hP hS => ?_)
  have hw2 : r2 = if (0 ≤ w.toInt ∧ w.toInt ≤ ((i 35).toInt - 1)) then 1 else 0 := hw2
  refine lv_if_eq (tgt := 25) hx hb dX12_trace_13 (by decide +kernel) (fun c3 => ?_) (fun c3 => ?_)
  · have f3 := fl_f hw2 c3
    refine lv_bipush (v := (-9)) hx hb dX12_trace_25 (by decide +kernel) ?_
    exact ro_iret hx hb hr hlocks hS dX12_trace_27 ⟨trivial, (show (0 ≤ w.toInt ∧ w.toInt < (i 35).toInt ∧ ((-9) : Int32).toInt = (c 34 w.toInt.toNat).toInt) ∨ (¬ (0 ≤ w.toInt ∧ w.toInt < (i 35).toInt) ∧ ((-9) : Int32).toInt = -9) from Or.inr ⟨by omega, by decide⟩)⟩
  · have f3 := fl_t hw2 c3
    refine lv_aload_n hx hb dX12_trace_16 rfl (lv_at hl 0 rfl) ?_
    refine mget_34 hx hb hts (fun _ h => List.mem_cons_of_mem _ (List.mem_append_right _ h)) hown hK hP (hts (.fieldLink RX12 77 "TalePlayModel" "trace" "[I") (List.mem_cons_of_mem _ (List.mem_append_left _ (List.mem_of_getElem? (i := 5) rfl)))) dX12_trace_17 ?_
    refine lv_iload_n hx hb dX12_trace_20 rfl (lv_at hl 1 rfl) ?_
    refine mld_34 hx hb hK hP (vp_in_iff.mpr (by have h9 : w.toInt = w.toInt := rfl; omega)) dX12_trace_21 (fun x4 ex4 => ?_)
    have rx4 : 0 ≤ x4.toInt ∧ x4.toInt ≤ 5 := by rw [ex4]; exact hI.2 34 _
    have gx4 : (c 34 (w : Int32).toNatClampNeg).toInt = x4.toInt := by rw [ex4]
    refine lv_goto (tgt := 27) hx hb dX12_trace_22 (by decide +kernel) ?_
    exact ro_iret hx hb hr hlocks hS dX12_trace_27 ⟨trivial, (show (0 ≤ w.toInt ∧ w.toInt < (i 35).toInt ∧ x4.toInt = (c 34 w.toInt.toNat).toInt) ∨ (¬ (0 ≤ w.toInt ∧ w.toInt < (i 35).toInt) ∧ x4.toInt = -9) from Or.inl ⟨by omega, by omega, gx4.symm⟩)⟩

