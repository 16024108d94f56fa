set_option maxHeartbeats 4000000 in
set_option maxRecDepth 100000 in
theorem s_X12_bulkOf_t (l : Launch) (D : va_G) (sz : Nat) (o : Nat) (a : Nat → Nat) (t : Nat → ClassId) (i : Nat → Int32) (q : Int64) (c : Nat → Nat → Int32) (d : Nat → Nat → Int64) (w : Int32) (hI : mInv i c) (hw : 0 ≤ w.toInt ∧ w.toInt < (i 5).toInt) (hs_G : Acy (gF (c 9) (c 10) (c 11) (c 13) (c 23) (c 24) (i 8).toInt (i 5).toInt (i 22).toInt)) (hs_N : NoD (zM (c 3) (c 6) (i 5).toInt) (gM (c 9) (c 10) (c 13) (c 23) (i 8).toInt (i 22).toInt) (i 5).toInt) (h33 : (i 33).toInt = 0) : Met l yX12_bulkOf wm_X12_bulkOf ({ frames := 2, cells := 0, slots := 0, locals := 45 }) (va_Pc [.ref o, .int w] (pB D sz (mW o a t i q c d) (mT t))) (va_Qi (fun (r : Int32) (u : MS) => (True ∧ (Im (¬ (zM (c 3) (c 6) (i 5).toInt) w.toInt = 2) (r = (wtB (zM (c 3) (c 6) (i 5).toInt) (c 7) (lsG (c 9) (c 10) (c 11) (c 13) (c 23) (c 24) (i 8).toInt (i 22).toInt) (i 5).toInt.toNat 31) w.toInt.toNat)) ∧ (Im ((zM (c 3) (c 6) (i 5).toInt) w.toInt = 2) (r = drV (c 7 w.toInt.toNat)))) ∧ mInv u.1 u.2.2.1 ∧ (∀ k, k ∉ ([36] : List Nat) → u.1 k = i k) ∧ (∀ k, k ∉ ([38, 39] : List Nat) → u.2.2.1 k = c k) ∧ (ntP ((zM (c 3) (c 6) (i 5).toInt) w.toInt = 2 ∧ (c 7 w.toInt.toNat).toInt = 0) (i 36) (u.1 36))) (oC D (va_A (mW o a t i q c d) sz) (fun u : MS => mW o a t u.1 u.2.1 u.2.2.1 u.2.2.2) (fun _ => [])) (va_A (mW o a t i q c d) sz)) 0 0 (va_A (mW o a t i q c d) sz) := by
  refine Met.ofW (cc := cX12_bulkOf) (maxL := 6) (ret := (some .int)) (by decide +kernel) rfl ?_
  intro p e s m args below meth cd s₁ B hml hv
  obtain ⟨rfl, hsz, hP, hK, hD0⟩ := hv
  have hx := B.exec
  have hb := B.bytes
  have hr := B.returns
  have hts := atoms_spec (ws := wm_X12_bulkOf) B.pre
  have hown : s.vm.findClass RX12 = some m.cls := findClass_of_methodNamed B.named
  have hlocks := B.notSynchronized
  subst hsz
  have hD := hD0.self (sz := s.heap.size)
  generalize hAe : va_A (mW o a t i q c d) s.heap.size = A at hD ⊢
  have hA : ∀ q : Nat, s.heap.size ≤ q → A q := fun q h => by rw [← hAe]; exact Or.inr h
  have hS : va_S A s.heap s.heap [] := va_S.rf
  have hfi : ∀ k, k ∉ ([] : List Nat) → i k = i k := fun _ _ => rfl
  have hfc : ∀ k, k ∉ ([] : List Nat) → c k = c k := fun _ _ => rfl
  have hl := lv_entry ([.ref o, .int w]) (n := 6) (Nat.le_of_ble_eq_true rfl)
  rw [lg_entry_eq]
  generalize (lg_sl ([.ref o, .int w]) ++ List.replicate (6 - (lg_sl ([.ref o, .int w])).length) Slot.unset).toArray = ls at hl ⊢
  have hl : lv_has ls 6 [(0, .ref o), (1, .int w)] := hl
  obtain ⟨rk, hrk⟩ := hs_G
  have rb5_i : 0 ≤ (i 5).toInt ∧ (i 5).toInt ≤ 30 := hI.1 5
  have hRK : ∀ (g o : Int) (x : Nat), (g = 0 ∨ g = 1) → 0 ≤ o → x < (i 5).toInt.toNat → (lsG (c 9) (c 10) (c 11) (c 13) (c 23) (c 24) (i 8).toInt (i 22).toInt) g o x = true → rk o < rk (x : Int) := fun g9 o9 x9 h9 h8 h7 h6 => lsG_rk hrk (by omega) h9 h8 (by omega) h6
  refine lv_aload_n hx hb dX12_bulkOf_0 rfl (lv_at hl 0 rfl) ?_
  refine lv_iload_n hx hb dX12_bulkOf_1 rfl (lv_at hl 1 rfl) ?_
  refine lv_iconst (v := 2) hx hb dX12_bulkOf_2 (by decide +kernel) ?_
  refine ro_calli (va_runV (As := [.int w, .int 2]) (rest := []) ⟨hx, hb, hml, hown, hts⟩ (s_X12_isOf_e l D s.heap.size o a t i q c d w 2 hI (show 0 ≤ w.toInt ∧ w.toInt ≤ 29 from by have h91 : (2 : Int32).toInt = 2 := (by decide +kernel); omega) (show 0 ≤ 2 ∧ 2 ≤ 5 from by decide +kernel)) (cwV 2 hts gm_X12_bulkOf_X12_isOf rfl rfl rfl (by decide +kernel) ⟨Nat.le_of_ble_eq_true rfl, Nat.le_of_ble_eq_true rfl⟩) (pA_V hK hP (ci := 12) (q0 := 0) rfl rfl) rfl rfl hl.1 rfl (lv_room (Nat.le_of_ble_eq_true rfl)) dX12_bulkOf_3 ⟨Nat.le_of_ble_eq_true rfl, Nat.le_of_ble_eq_true rfl⟩) hS hA hP (fun r1 u1 H locs hw1 hP hS => ?_)
  have hw1 : ((0 ≤ r1.toInt ∧ r1.toInt ≤ 1) ∧ (0 ≤ kS (c 3) (c 6) w.toInt ∧ kS (c 3) (c 6) w.toInt ≤ 5 ∧ ((r1.toInt = 1 ∧ (kS (c 3) (c 6) w.toInt = 2 ∨ ((1 : Int) = 2 ∧ 1 < kS (c 3) (c 6) w.toInt))) ∨ (r1.toInt = 0 ∧ ¬ (kS (c 3) (c 6) w.toInt = 2 ∨ ((1 : Int) = 2 ∧ 1 < kS (c 3) (c 6) w.toInt)))))) := hw1
  obtain ⟨hw1, hr1_0⟩ := hw1
  have hr1_0 : 0 ≤ kS (c 3) (c 6) w.toInt ∧ kS (c 3) (c 6) w.toInt ≤ 5 ∧ ((r1.toInt = 1 ∧ (kS (c 3) (c 6) w.toInt = 2 ∨ ((1 : Int) = 2 ∧ 1 < kS (c 3) (c 6) w.toInt))) ∨ (r1.toInt = 0 ∧ ¬ (kS (c 3) (c 6) w.toInt = 2 ∨ ((1 : Int) = 2 ∧ 1 < kS (c 3) (c 6) w.toInt)))) := hr1_0
  refine lv_if_eq (tgt := 65) hx hb dX12_bulkOf_6 (by decide +kernel) (fun c2 => ?_) (fun c2 => ?_)
  · have f2 := (ti_eq (a := r1.toInt) (b := 0) rfl (by decide +kernel)).mp c2
    have hzw : ¬ zM (c 3) (c 6) (i 5).toInt w.toInt = 2 := by rw [zM_i (by omega)]; omega
    refine lv_aload_n hx hb dX12_bulkOf_65 rfl (lv_at hl 0 rfl) ?_
    refine lv_iconst (v := 0) hx hb dX12_bulkOf_66 (by decide +kernel) ?_
    refine lv_iload_n hx hb dX12_bulkOf_67 rfl (lv_at hl 1 rfl) ?_
    have rb33_i : 0 ≤ (i 33).toInt ∧ (i 33).toInt ≤ 1 := hI.1 33
    refine al_calli (va_runV (As := [.int 0, .int w]) (rest := []) ⟨hx, hb, hml, hown, hts⟩ (s_X12_beginBulk_t l D H.size o a t i q c d 0 w hI (show 0 ≤ 0 ∧ 0 ≤ 29 from by decide +kernel) (show 0 ≤ w.toInt ∧ w.toInt < ((i 5) : Int32).toInt from by have h90 : (0 : Int32).toInt = 0 := (by decide +kernel); omega) (show ((i 33) : Int32).toInt = 0 from by have h90 : (0 : Int32).toInt = 0 := (by decide +kernel); omega)) (cwV 2 hts gm_X12_bulkOf_X12_beginBulk rfl rfl rfl (by decide +kernel) ⟨Nat.le_of_ble_eq_true rfl, Nat.le_of_ble_eq_true rfl⟩) (pB_V hK hP hD (ci := 12) (q0 := 0) rfl rfl) rfl rfl hl.1 rfl (lv_room (Nat.le_of_ble_eq_true rfl)) dX12_bulkOf_68 ⟨Nat.le_of_ble_eq_true rfl, Nat.le_of_ble_eq_true rfl⟩) hS hA hP hD (fun r3 u3 H locs hw3 hP hD hS => ?_)
    obtain ⟨i3, q3, c3, d3⟩ := u3
    have hw3 : ((0 ≤ r3.toInt ∧ r3.toInt ≤ 198) ∧ (r3 = bsV (zM (c 3) (c 6) (i 5).toInt) (c 7) w.toInt.toNat)) ∧ mInv i3 c3 ∧ (∀ k, k ∉ ([] : List Nat) → i3 k = i k) ∧ (∀ k, k ∉ ([38, 39] : List Nat) → c3 k = c k) ∧ ((c3 38) = upd (c 38) (0 : Int32).toNatClampNeg w) ∧ ((c3 39) = upd (c 39) (0 : Int32).toNatClampNeg 0) := hw3
    obtain ⟨hw3, hI, hei3, hec3, hxp3_0, hxp3_1⟩ := hw3
    obtain ⟨hw3, hr3_0⟩ := hw3
    have hr3_0 : r3 = bsV (zM (c 3) (c 6) (i 5).toInt) (c 7) w.toInt.toNat := hr3_0
    have hxp3_0 : (c3 38) = upd (c 38) (0 : Int32).toNatClampNeg w := hxp3_0
    have hxp3_1 : (c3 39) = upd (c 39) (0 : Int32).toNatClampNeg 0 := hxp3_1
    have hfi : ∀ k, k ∉ ([] : List Nat) → i3 k = i k := fr_z hfi hei3 (by decide +kernel) (by decide +kernel)
    have hfc : ∀ k, k ∉ ([38, 39] : List Nat) → c3 k = c k := fr_z hfc hec3 (by decide +kernel) (by decide +kernel)
    have hP : va_P D vwCl (mW o a t i3 q3 c3 d3) H := hP
    have hD : va_D A (mW o a t i3 q3 c3 d3) := hD
    refine lv_istore_n (lv' := [(2, .int r3), (0, .ref o), (1, .int w)]) hx hb dX12_bulkOf_71 rfl hl (by decide +kernel) rfl (fun ls hl => ?_)
    refine lv_iconst (v := 0) hx hb dX12_bulkOf_72 (by decide +kernel) ?_
    refine lv_istore_n (lv' := [(3, .int 0), (2, .int r3), (0, .ref o), (1, .int w)]) hx hb dX12_bulkOf_73 rfl hl (by decide +kernel) rfl (fun ls hl => ?_)
    have lp4 : ∀ (fu : Nat) (i4 : Nat → Int32) (q4 : Int64) (c4 : Nat → Nat → Int32) (d4 : Nat → Nat → Int64) (y4_3 : Int32) (y4_2 : Int32), mInv i4 c4 → (∀ k, k ∉ ([] : List Nat) → i4 k = i k) → (∀ k, k ∉ ([38, 39] : List Nat) → c4 k = c k) → (-1 ≤ y4_3.toInt ∧ y4_3.toInt ≤ 29) → (PQ rk (c4 38) y4_3.toInt) → (NQ (c4 39) (i 5).toInt y4_3.toInt) → (y4_2 + sRem (zM (c 3) (c 6) (i 5).toInt) (lsG (c 9) (c 10) (c 11) (c 13) (c 23) (c 24) (i 8).toInt (i 22).toInt) (wtB (zM (c 3) (c 6) (i 5).toInt) (c 7) (lsG (c 9) (c 10) (c 11) (c 13) (c 23) (c 24) (i 8).toInt (i 22).toInt) (i 5).toInt.toNat 31) (i 5).toInt.toNat (c4 38) (c4 39) y4_3.toInt = (wtB (zM (c 3) (c 6) (i 5).toInt) (c 7) (lsG (c 9) (c 10) (c 11) (c 13) (c 23) (c 24) (i 8).toInt (i 22).toInt) (i 5).toInt.toNat 31) w.toInt.toNat) → (PiN (c4 38) (i 5).toInt y4_3.toInt) → Ms (c4 39) y4_3.toInt < fu → ∀ (H : Heap) (locs : List Loc) (ls : Array Slot), va_P D vwCl (mW o a t i4 q4 c4 d4) H → va_D A (mW o a t i4 q4 c4 d4) → va_S A s.heap H locs → lv_has ls 6 [(3, .int y4_3), (2, .int y4_2), (0, .ref o), (1, .int w)] → W p l e (headSpec wm_X12_bulkOf ({ frames := 2, cells := 0, slots := 0, locals := 45 })).room s m ([.ref o, .int w] : List Value).toArray below meth cd H locs 0 0 (MQ below (va_Qi (fun (r : Int32) (u : MS) => (True ∧ (Im (¬ (zM (c 3) (c 6) (i 5).toInt) w.toInt = 2) (r = (wtB (zM (c 3) (c 6) (i 5).toInt) (c 7) (lsG (c 9) (c 10) (c 11) (c 13) (c 23) (c 24) (i 8).toInt (i 22).toInt) (i 5).toInt.toNat 31) w.toInt.toNat)) ∧ (Im ((zM (c 3) (c 6) (i 5).toInt) w.toInt = 2) (r = drV (c 7 w.toInt.toNat)))) ∧ mInv u.1 u.2.2.1 ∧ (∀ k, k ∉ ([36] : List Nat) → u.1 k = i k) ∧ (∀ k, k ∉ ([38, 39] : List Nat) → u.2.2.1 k = c k) ∧ (ntP ((zM (c 3) (c 6) (i 5).toInt) w.toInt = 2 ∧ (c 7 w.toInt.toNat).toInt = 0) (i 36) (u.1 36))) (oC D A (fun u : MS => mW o a t u.1 u.2.1 u.2.2.1 u.2.2.2) (fun _ => [])) A) ([.ref o, .int w] : List Value).toArray s 0 0 A) (F0 m 74 ls []) := by
      intro fu
      induction fu with
      | zero => intro i4 q4 c4 d4 y4_3 y4_2 hI hfi hfc hy4_3 hz4_0 hz4_1 hz4_2 hz4_3 hm; exact absurd hm (Nat.not_lt_zero _)
      | succ fu ih =>
        intro i4 q4 c4 d4 y4_3 y4_2 hI hfi hfc hy4_3 hz4_0 hz4_1 hz4_2 hz4_3 hm H locs ls hP hD hS hl
        have ih4 := ih
        have hm4 := hm
        refine lv_iload_n hx hb dX12_bulkOf_74 rfl (lv_at hl 0 rfl) ?_
        refine lv_if_lt (tgt := 212) hx hb dX12_bulkOf_75 (by decide +kernel) (fun c5 => ?_) (fun c5 => ?_)
        · have f5 := (ti_lt (a := y4_3.toInt) (b := 0) rfl (by decide +kernel)).mp c5
          refine lv_iload_n hx hb dX12_bulkOf_212 rfl (lv_at hl 1 rfl) ?_
          exact rw_iret (i4, q4, c4, d4) hx hb hr hlocks hS (hK.sub (tys' := []) [] rfl) hP hD dX12_bulkOf_213 ⟨⟨trivial, (show Im (¬ (zM (c 3) (c 6) (i 5).toInt) w.toInt = 2) (y4_2 = (wtB (zM (c 3) (c 6) (i 5).toInt) (c 7) (lsG (c 9) (c 10) (c 11) (c 13) (c 23) (c 24) (i 8).toInt (i 22).toInt) (i 5).toInt.toNat 31) w.toInt.toNat) from fun _ => Bk_end hz4_2 (by omega)), (show Im ((zM (c 3) (c 6) (i 5).toInt) w.toInt = 2) (y4_2 = drV (c 7 w.toInt.toNat)) from fun h9 => absurd h9 hzw)⟩, hI, fr_w hfi (by decide +kernel), fr_w hfc (by decide +kernel), (show ntP ((zM (c 3) (c 6) (i 5).toInt) w.toInt = 2 ∧ (c 7 w.toInt.toNat).toInt = 0) (i 36) ((i4 36) : Int32) from Or.inr ⟨fun h9 => hzw h9.1, hfi 36 (by decide +kernel)⟩)⟩
        · have f5 := mt (ti_lt (a := y4_3.toInt) (b := 0) rfl (by decide +kernel)).mpr c5
          refine lv_aload_n hx hb dX12_bulkOf_78 rfl (lv_at hl 2 rfl) ?_
          refine lv_aload_n hx hb dX12_bulkOf_79 rfl (lv_at hl 2 rfl) ?_
          refine mget_38 hx hb hts (fun _ h => List.mem_cons_of_mem _ (List.mem_append_right _ h)) hown hK hP (hts (.fieldLink RX12 80 "TalePlayModel" "pile" "[I") (List.mem_cons_of_mem _ (List.mem_append_left _ (List.mem_append_left _ (List.mem_of_getElem? (i := 11) rfl))))) dX12_bulkOf_80 ?_
          refine lv_iload_n hx hb dX12_bulkOf_83 rfl (lv_at hl 0 rfl) ?_
          refine mld_38 hx hb hK hP (vp_in_iff.mpr (by have h9 : y4_3.toInt = y4_3.toInt := rfl; omega)) dX12_bulkOf_84 (fun x6 ex6 => ?_)
          have rx6 : 0 ≤ x6.toInt ∧ x6.toInt ≤ 29 := by rw [ex6]; exact hI.2 38 _
          have gx6 : (c4 38 (y4_3 : Int32).toNatClampNeg).toInt = x6.toInt := by rw [ex6]
          have hpd : (c4 38 y4_3.toNatClampNeg).toInt = x6.toInt := by rw [ex6]
          have hpnhzp := hz4_3 y4_3.toNatClampNeg (by rw [cl_nn (by omega)]; exact Int.le_refl _)
          have hzp : (zM (c 3) (c 6) (i 5).toInt) (c4 38 y4_3.toNatClampNeg).toInt = kS (c 3) (c 6) x6.toInt := by rw [hpd]; exact zM_i (by omega)
          refine lv_iconst (v := 3) hx hb dX12_bulkOf_85 (by decide +kernel) ?_
          refine ro_calli (va_runV (As := [.int x6, .int 3]) (rest := []) ⟨hx, hb, hml, hown, hts⟩ (s_X12_isOf_e l D H.size o a t i4 q4 c4 d4 x6 3 hI (show 0 ≤ x6.toInt ∧ x6.toInt ≤ 29 from by have h91 : (3 : Int32).toInt = 3 := (by decide +kernel); omega) (show 0 ≤ 3 ∧ 3 ≤ 5 from by decide +kernel)) (cwV 2 hts gm_X12_bulkOf_X12_isOf rfl rfl rfl (by decide +kernel) ⟨Nat.le_of_ble_eq_true rfl, Nat.le_of_ble_eq_true rfl⟩) (pA_V hK hP (ci := 12) (q0 := 0) rfl rfl) rfl rfl hl.1 rfl (lv_room (Nat.le_of_ble_eq_true rfl)) dX12_bulkOf_86 ⟨Nat.le_of_ble_eq_true rfl, Nat.le_of_ble_eq_true rfl⟩) hS hA hP (fun r7 u7 H locs hw7 hP hS => ?_)
          have hw7 : ((0 ≤ r7.toInt ∧ r7.toInt ≤ 1) ∧ (0 ≤ kS (c4 3) (c4 6) x6.toInt ∧ kS (c4 3) (c4 6) x6.toInt ≤ 5 ∧ ((r7.toInt = 1 ∧ (kS (c4 3) (c4 6) x6.toInt = 3 ∨ ((1 : Int) = 3 ∧ 1 < kS (c4 3) (c4 6) x6.toInt))) ∨ (r7.toInt = 0 ∧ ¬ (kS (c4 3) (c4 6) x6.toInt = 3 ∨ ((1 : Int) = 3 ∧ 1 < kS (c4 3) (c4 6) x6.toInt)))))) := hw7
          obtain ⟨hw7, hr7_0⟩ := hw7
          have hr7_0 : 0 ≤ kS (c 3) (c 6) x6.toInt ∧ kS (c 3) (c 6) x6.toInt ≤ 5 ∧ ((r7.toInt = 1 ∧ (kS (c 3) (c 6) x6.toInt = 3 ∨ ((1 : Int) = 3 ∧ 1 < kS (c 3) (c 6) x6.toInt))) ∨ (r7.toInt = 0 ∧ ¬ (kS (c 3) (c 6) x6.toInt = 3 ∨ ((1 : Int) = 3 ∧ 1 < kS (c 3) (c 6) x6.toInt)))) := by have h9 := hr7_0; rw [show c4 3 = c 3 from hfc 3 (by decide +kernel), show c4 6 = c 6 from hfc 6 (by decide +kernel)] at h9; exact h9
          have jn8 : ∀ (z8_0 : Int32), (z8_0.toInt = -9 ∨ (0 ≤ z8_0.toInt ∧ z8_0.toInt ≤ 1)) → (((zM (c 3) (c 6) (i 5).toInt) (c4 38 y4_3.toNatClampNeg).toInt = 3 ∧ z8_0.toInt = 0) ∨ ((zM (c 3) (c 6) (i 5).toInt) (c4 38 y4_3.toNatClampNeg).toInt = 4 ∧ z8_0.toInt = 1) ∨ (¬ (zM (c 3) (c 6) (i 5).toInt) (c4 38 y4_3.toNatClampNeg).toInt = 3 ∧ ¬ (zM (c 3) (c 6) (i 5).toInt) (c4 38 y4_3.toNatClampNeg).toInt = 4 ∧ z8_0.toInt = -9)) → ∀ (H : Heap) (locs : List Loc) (ls : Array Slot), va_P D vwCl (mW o a t i4 q4 c4 d4) H → va_D A (mW o a t i4 q4 c4 d4) → va_S A s.heap H locs → lv_has ls 6 [(3, .int y4_3), (2, .int y4_2), (0, .ref o), (1, .int w)] → W p l e (headSpec wm_X12_bulkOf ({ frames := 2, cells := 0, slots := 0, locals := 45 })).room s m ([.ref o, .int w] : List Value).toArray below meth cd H locs 0 0 (MQ below (va_Qi (fun (r : Int32) (u : MS) => (True ∧ (Im (¬ (zM (c 3) (c 6) (i 5).toInt) w.toInt = 2) (r = (wtB (zM (c 3) (c 6) (i 5).toInt) (c 7) (lsG (c 9) (c 10) (c 11) (c 13) (c 23) (c 24) (i 8).toInt (i 22).toInt) (i 5).toInt.toNat 31) w.toInt.toNat)) ∧ (Im ((zM (c 3) (c 6) (i 5).toInt) w.toInt = 2) (r = drV (c 7 w.toInt.toNat)))) ∧ mInv u.1 u.2.2.1 ∧ (∀ k, k ∉ ([36] : List Nat) → u.1 k = i k) ∧ (∀ k, k ∉ ([38, 39] : List Nat) → u.2.2.1 k = c k) ∧ (ntP ((zM (c 3) (c 6) (i 5).toInt) w.toInt = 2 ∧ (c 7 w.toInt.toNat).toInt = 0) (i 36) (u.1 36))) (oC D A (fun u : MS => mW o a t u.1 u.2.1 u.2.2.1 u.2.2.2) (fun _ => [])) A) ([.ref o, .int w] : List Value).toArray s 0 0 A) (F0 m 116 ls [.int z8_0]) := by
            intro z8_0 hs8_0 hz8_0 H locs ls hP hD hS hl
            refine lv_istore (lv' := [(4, .int z8_0), (3, .int y4_3), (2, .int y4_2), (0, .ref o), (1, .int w)]) hx hb dX12_bulkOf_116 hl (by decide +kernel) rfl (fun ls hl => ?_)
            refine lv_aload_n hx hb dX12_bulkOf_118 rfl (lv_at hl 3 rfl) ?_
            refine mget_39 hx hb hts (fun _ h => List.mem_cons_of_mem _ (List.mem_append_right _ h)) hown hK hP (hts (.fieldLink RX12 83 "TalePlayModel" "nextIn" "[I") (List.mem_cons_of_mem _ (List.mem_append_left _ (List.mem_append_left _ (List.mem_of_getElem? (i := 12) rfl))))) dX12_bulkOf_119 ?_
            refine lv_iload_n hx hb dX12_bulkOf_122 rfl (lv_at hl 1 rfl) ?_
            refine mld_39 hx hb hK hP (vp_in_iff.mpr (by have h9 : y4_3.toInt = y4_3.toInt := rfl; omega)) dX12_bulkOf_123 (fun x9 ex9 => ?_)
            have rx9 : 0 ≤ x9.toInt ∧ x9.toInt ≤ 31 := by rw [ex9]; exact hI.2 39 _
            have gx9 : (c4 39 (y4_3 : Int32).toNatClampNeg).toInt = x9.toInt := by rw [ex9]
            have hnq := hz4_1 y4_3.toNatClampNeg (by rw [cl_nn (by omega)]; exact Int.le_refl _)
            refine lv_istore (lv' := [(5, .int x9), (4, .int z8_0), (3, .int y4_3), (2, .int y4_2), (0, .ref o), (1, .int w)]) hx hb dX12_bulkOf_124 hl (by decide +kernel) rfl (fun ls hl => ?_)
            have lp10 : ∀ (fu : Nat) (y10_5 : Int32), (0 ≤ y10_5.toInt ∧ y10_5.toInt ≤ 30 ∧ y10_5.toInt ≤ (i 5).toInt) → ((c4 39 y4_3.toNatClampNeg).toInt ≤ y10_5.toInt) → (remJ (zM (c 3) (c 6) (i 5).toInt) (lsG (c 9) (c 10) (c 11) (c 13) (c 23) (c 24) (i 8).toInt (i 22).toInt) (wtB (zM (c 3) (c 6) (i 5).toInt) (c 7) (lsG (c 9) (c 10) (c 11) (c 13) (c 23) (c 24) (i 8).toInt (i 22).toInt) (i 5).toInt.toNat 31) (i 5).toInt.toNat (c4 38 y4_3.toNatClampNeg).toInt (c4 39 y4_3.toNatClampNeg).toInt = remJ (zM (c 3) (c 6) (i 5).toInt) (lsG (c 9) (c 10) (c 11) (c 13) (c 23) (c 24) (i 8).toInt (i 22).toInt) (wtB (zM (c 3) (c 6) (i 5).toInt) (c 7) (lsG (c 9) (c 10) (c 11) (c 13) (c 23) (c 24) (i 8).toInt (i 22).toInt) (i 5).toInt.toNat 31) (i 5).toInt.toNat (c4 38 y4_3.toNatClampNeg).toInt y10_5.toInt) → (30 - y10_5.toInt).toNat < fu → ∀ (H : Heap) (locs : List Loc) (ls : Array Slot), va_P D vwCl (mW o a t i4 q4 c4 d4) H → va_D A (mW o a t i4 q4 c4 d4) → va_S A s.heap H locs → lv_has ls 6 [(5, .int y10_5), (4, .int z8_0), (3, .int y4_3), (2, .int y4_2), (0, .ref o), (1, .int w)] → W p l e (headSpec wm_X12_bulkOf ({ frames := 2, cells := 0, slots := 0, locals := 45 })).room s m ([.ref o, .int w] : List Value).toArray below meth cd H locs 0 0 (MQ below (va_Qi (fun (r : Int32) (u : MS) => (True ∧ (Im (¬ (zM (c 3) (c 6) (i 5).toInt) w.toInt = 2) (r = (wtB (zM (c 3) (c 6) (i 5).toInt) (c 7) (lsG (c 9) (c 10) (c 11) (c 13) (c 23) (c 24) (i 8).toInt (i 22).toInt) (i 5).toInt.toNat 31) w.toInt.toNat)) ∧ (Im ((zM (c 3) (c 6) (i 5).toInt) w.toInt = 2) (r = drV (c 7 w.toInt.toNat)))) ∧ mInv u.1 u.2.2.1 ∧ (∀ k, k ∉ ([36] : List Nat) → u.1 k = i k) ∧ (∀ k, k ∉ ([38, 39] : List Nat) → u.2.2.1 k = c k) ∧ (ntP ((zM (c 3) (c 6) (i 5).toInt) w.toInt = 2 ∧ (c 7 w.toInt.toNat).toInt = 0) (i 36) (u.1 36))) (oC D A (fun u : MS => mW o a t u.1 u.2.1 u.2.2.1 u.2.2.2) (fun _ => [])) A) ([.ref o, .int w] : List Value).toArray s 0 0 A) (F0 m 126 ls []) := by
              intro fu
              induction fu with
              | zero => intro y10_5 hy10_5 hz10_0 hz10_1 hm; exact absurd hm (Nat.not_lt_zero _)
              | succ fu ih =>
                intro y10_5 hy10_5 hz10_0 hz10_1 hm H locs ls hP hD hS hl
                have ih10 := ih
                refine lv_iload hx hb dX12_bulkOf_126 (lv_at hl 0 rfl) ?_
                refine lv_aload_n hx hb dX12_bulkOf_128 rfl (lv_at hl 4 rfl) ?_
                refine mget_5 (v := (i4 5)) rfl hx hb hts (fun _ h => List.mem_cons_of_mem _ (List.mem_append_right _ h)) hown hK hP (hts (.fieldLink RX12 177 "TalePlayModel" "objects" "I") (List.mem_cons_of_mem _ (List.mem_append_left _ (List.mem_append_right _ (List.mem_append_left _ (List.mem_of_getElem? (i := 5) rfl)))))) dX12_bulkOf_129 ?_
                have rb5_i4 : 0 ≤ (i4 5).toInt ∧ (i4 5).toInt ≤ 30 := hI.1 5
                have re5_i4 : (i4 5).toInt = (i 5).toInt := congrArg Int32.toInt (hfi 5 (by decide +kernel))
                have jn11 : ((i 5).toInt ≤ y10_5.toInt ∨ gF (c 9) (c 10) (c 11) (c 13) (c 23) (c 24) (i 8).toInt (i 5).toInt (i 22).toInt y10_5.toInt = (c4 38 y4_3.toNatClampNeg).toInt) → ((i 5).toInt ≤ y10_5.toInt ∨ chB (zM (c 3) (c 6) (i 5).toInt) (lsG (c 9) (c 10) (c 11) (c 13) (c 23) (c 24) (i 8).toInt (i 22).toInt) (c4 38 y4_3.toNatClampNeg).toInt y10_5.toInt.toNat = true) → ∀ (H : Heap) (locs : List Loc) (ls : Array Slot), va_P D vwCl (mW o a t i4 q4 c4 d4) H → va_D A (mW o a t i4 q4 c4 d4) → va_S A s.heap H locs → lv_has ls 6 [(5, .int y10_5), (4, .int z8_0), (3, .int y4_3), (2, .int y4_2), (0, .ref o), (1, .int w)] → W p l e (headSpec wm_X12_bulkOf ({ frames := 2, cells := 0, slots := 0, locals := 45 })).room s m ([.ref o, .int w] : List Value).toArray below meth cd H locs 0 0 (MQ below (va_Qi (fun (r : Int32) (u : MS) => (True ∧ (Im (¬ (zM (c 3) (c 6) (i 5).toInt) w.toInt = 2) (r = (wtB (zM (c 3) (c 6) (i 5).toInt) (c 7) (lsG (c 9) (c 10) (c 11) (c 13) (c 23) (c 24) (i 8).toInt (i 22).toInt) (i 5).toInt.toNat 31) w.toInt.toNat)) ∧ (Im ((zM (c 3) (c 6) (i 5).toInt) w.toInt = 2) (r = drV (c 7 w.toInt.toNat)))) ∧ mInv u.1 u.2.2.1 ∧ (∀ k, k ∉ ([36] : List Nat) → u.1 k = i k) ∧ (∀ k, k ∉ ([38, 39] : List Nat) → u.2.2.1 k = c k) ∧ (ntP ((zM (c 3) (c 6) (i 5).toInt) w.toInt = 2 ∧ (c 7 w.toInt.toNat).toInt = 0) (i 36) (u.1 36))) (oC D A (fun u : MS => mW o a t u.1 u.2.1 u.2.2.1 u.2.2.2) (fun _ => [])) A) ([.ref o, .int w] : List Value).toArray s 0 0 A) (F0 m 174 ls []) := by
                  intro hz11_0 hz11_1 H locs ls hP hD hS hl
                  refine lv_aload_n hx hb dX12_bulkOf_174 rfl (lv_at hl 4 rfl) ?_
                  refine mget_39 hx hb hts (fun _ h => List.mem_cons_of_mem _ (List.mem_append_right _ h)) hown hK hP (hts (.fieldLink RX12 83 "TalePlayModel" "nextIn" "[I") (List.mem_cons_of_mem _ (List.mem_append_left _ (List.mem_append_left _ (List.mem_of_getElem? (i := 12) rfl))))) dX12_bulkOf_175 ?_
                  refine lv_iload_n hx hb dX12_bulkOf_178 rfl (lv_at hl 2 rfl) ?_
                  refine lv_iload hx hb dX12_bulkOf_179 (lv_at hl 0 rfl) ?_
                  refine lv_iconst (v := 1) hx hb dX12_bulkOf_181 (by decide +kernel) ?_
                  refine lv_iadd hx hb dX12_bulkOf_182 ?_
                  refine lv_topi (fun x12 ex12 => ?_)
                  have tx12 := ti_add (a := y10_5.toInt) (b := 1) ex12 rfl (by decide +kernel) (by omega) (by omega)
                  refine mst_39 hx hb hK hP hD hS (vp_in_iff.mpr (by have h9 : y4_3.toInt = y4_3.toInt := rfl; omega)) dX12_bulkOf_183 (fun H locs hP hD hS => ?_)
                  have hI := mInv_c hI (k := 39) (j := (y4_3 : Int32).toNatClampNeg) (x := x12) (show 0 ≤ (x12 : Int32).toInt ∧ (x12 : Int32).toInt ≤ 31 from by have h9 : x12.toInt = (y10_5.toInt + 1) := tx12; omega)
                  have hfc := fr_c hfc (k := 39) (j := (y4_3 : Int32).toNatClampNeg) (x := x12) (by decide +kernel)
                  obtain ⟨x13, ex13⟩ : ∃ y : Int32, y = y4_3 + (-1) := ⟨_, rfl⟩
                  have tx13 := ti_add (a := y4_3.toInt) (b := (-1)) ex13 rfl (by decide +kernel) (by omega) (by omega)
                  refine lv_iinc (v := x13) (lv' := [(3, .int x13), (5, .int y10_5), (4, .int z8_0), (2, .int y4_2), (0, .ref o), (1, .int w)]) hx hb dX12_bulkOf_184 hl (k := 2) rfl (by rw [ex13]; rfl) (by decide +kernel) rfl (fun ls hl => ?_)
                  refine lv_iload hx hb dX12_bulkOf_187 (lv_at hl 1 rfl) ?_
                  refine lv_aload_n hx hb dX12_bulkOf_189 rfl (lv_at hl 4 rfl) ?_
                  refine mget_5 (v := (i4 5)) rfl hx hb hts (fun _ h => List.mem_cons_of_mem _ (List.mem_append_right _ h)) hown hK hP (hts (.fieldLink RX12 177 "TalePlayModel" "objects" "I") (List.mem_cons_of_mem _ (List.mem_append_left _ (List.mem_append_right _ (List.mem_append_left _ (List.mem_of_getElem? (i := 5) rfl)))))) dX12_bulkOf_190 ?_
                  refine lv_icmp_ge (tgt := 209) hx hb dX12_bulkOf_193 (by decide +kernel) (fun c14 => ?_) (fun c14 => ?_)
                  · have f14 := (ti_le (a := (i4 5).toInt) (b := y10_5.toInt) rfl rfl).mp c14
                    refine lv_goto (tgt := 74) hx hb dX12_bulkOf_209 (by decide +kernel) ?_
                    exact ih4 i4 q4 (updA c4 39 (y4_3 : Int32).toNatClampNeg x12) d4 x13 y4_2 hI (fr_w hfi (by decide +kernel)) (fr_w hfc (by decide +kernel)) (show -1 ≤ x13.toInt ∧ x13.toInt ≤ 29 from by have h50 : x13.toInt = (y4_3.toInt + (-1)) := tx13; omega) (show PQ rk ((updA c4 39 (y4_3 : Int32).toNatClampNeg x12) 38) x13.toInt from PQ_out hz4_0 (by have h9 := tx13; omega)) (show NQ ((updA c4 39 (y4_3 : Int32).toNatClampNeg x12) 39) (i 5).toInt x13.toInt from NQ_out hz4_1 (by omega) (by have h9 := tx13; omega)) (show y4_2 + sRem (zM (c 3) (c 6) (i 5).toInt) (lsG (c 9) (c 10) (c 11) (c 13) (c 23) (c 24) (i 8).toInt (i 22).toInt) (wtB (zM (c 3) (c 6) (i 5).toInt) (c 7) (lsG (c 9) (c 10) (c 11) (c 13) (c 23) (c 24) (i 8).toInt (i 22).toInt) (i 5).toInt.toNat 31) (i 5).toInt.toNat ((updA c4 39 (y4_3 : Int32).toNatClampNeg x12) 38) ((updA c4 39 (y4_3 : Int32).toNatClampNeg x12) 39) x13.toInt = (wtB (zM (c 3) (c 6) (i 5).toInt) (c 7) (lsG (c 9) (c 10) (c 11) (c 13) (c 23) (c 24) (i 8).toInt (i 22).toInt) (i 5).toInt.toNat 31) w.toInt.toNat from Bk_out (x := y10_5) hz4_2 (by omega) (by have h9 := tx13; omega) (by omega) hz10_1) (show PiN ((updA c4 39 (y4_3 : Int32).toNatClampNeg x12) 38) (i 5).toInt x13.toInt from PiN_o hz4_3 (by have h9 := tx13; omega)) (Nat.lt_of_lt_of_le (Ms_o hz4_1 (by omega) (by omega) (by omega) (by have h9 := tx13; omega)) (Nat.le_of_lt_succ hm4)) _ _ _ hP hD hS (lv_sub hl [0, 3, 4, 5] rfl)
                  · have f14 := mt (ti_le (a := (i4 5).toInt) (b := y10_5.toInt) rfl rfl).mpr c14
                    have hg : gF (c 9) (c 10) (c 11) (c 13) (c 23) (c 24) (i 8).toInt (i 5).toInt (i 22).toInt y10_5.toInt = (c4 38 y4_3.toNatClampNeg).toInt := hz11_0.resolve_left (by omega)
                    have hg0 : 0 ≤ (c4 38 y4_3.toNatClampNeg).toInt ∧ (c4 38 y4_3.toNatClampNeg).toInt ≤ 29 := hI.2 38 _
                    have hk1 := hrk.2 y10_5.toInt (by omega) (by omega) (by rw [hg]; omega)
                    rw [hg] at hk1
                    have hk2 := hz4_0 y4_3.toNatClampNeg (by rw [cl_nn (by omega)]; omega)
                    rw [cl_nn (by omega)] at hk2
                    have hk3 := hrk.1 y10_5.toInt
                    obtain ⟨x15, ex15⟩ : ∃ y : Int32, y = x13 + 2 := ⟨_, rfl⟩
                    have tx15 := ti_add (a := (y4_3.toInt + (-1))) (b := 2) ex15 tx13 (by decide +kernel) (by omega) (by omega)
                    refine lv_iinc (v := x15) (lv' := [(3, .int x15), (5, .int y10_5), (4, .int z8_0), (2, .int y4_2), (0, .ref o), (1, .int w)]) hx hb dX12_bulkOf_196 hl (k := 0) rfl (by rw [ex15]; rfl) (by decide +kernel) rfl (fun ls hl => ?_)
                    refine lv_iload_n hx hb dX12_bulkOf_199 rfl (lv_at hl 3 rfl) ?_
                    refine lv_aload_n hx hb dX12_bulkOf_200 rfl (lv_at hl 4 rfl) ?_
                    refine lv_iload_n hx hb dX12_bulkOf_201 rfl (lv_at hl 0 rfl) ?_
                    refine lv_iload hx hb dX12_bulkOf_202 (lv_at hl 1 rfl) ?_
                    have rb33_i4 : 0 ≤ (i4 33).toInt ∧ (i4 33).toInt ≤ 1 := hI.1 33
                    have re33_i4 : (i4 33).toInt = (i 33).toInt := congrArg Int32.toInt (hfi 33 (by decide +kernel))
                    refine al_calli (va_runV (As := [.int x15, .int y10_5]) (rest := [.int y4_2]) ⟨hx, hb, hml, hown, hts⟩ (s_X12_beginBulk_t l D H.size o a t i4 q4 (updA c4 39 (y4_3 : Int32).toNatClampNeg x12) d4 x15 y10_5 hI (show 0 ≤ x15.toInt ∧ x15.toInt ≤ 29 from by have h90 : x15.toInt = ((y4_3.toInt + (-1)) + 2) := tx15; omega) (show 0 ≤ y10_5.toInt ∧ y10_5.toInt < ((i4 5) : Int32).toInt from by have h90 : x15.toInt = ((y4_3.toInt + (-1)) + 2) := tx15; omega) (show ((i4 33) : Int32).toInt = 0 from by have h90 : x15.toInt = ((y4_3.toInt + (-1)) + 2) := tx15; omega)) (cwV 2 hts gm_X12_bulkOf_X12_beginBulk rfl rfl rfl (by decide +kernel) ⟨Nat.le_of_ble_eq_true rfl, Nat.le_of_ble_eq_true rfl⟩) (pB_V hK hP hD (ci := 12) (q0 := 0) rfl rfl) rfl rfl hl.1 rfl (lv_room (Nat.le_of_ble_eq_true rfl)) dX12_bulkOf_204 ⟨Nat.le_of_ble_eq_true rfl, Nat.le_of_ble_eq_true rfl⟩) hS hA hP hD (fun r16 u16 H locs hw16 hP hD hS => ?_)
                    obtain ⟨i16, q16, c16, d16⟩ := u16
                    have hw16 : ((0 ≤ r16.toInt ∧ r16.toInt ≤ 198) ∧ (r16 = bsV (zM ((updA c4 39 (y4_3 : Int32).toNatClampNeg x12) 3) ((updA c4 39 (y4_3 : Int32).toNatClampNeg x12) 6) (i4 5).toInt) ((updA c4 39 (y4_3 : Int32).toNatClampNeg x12) 7) y10_5.toInt.toNat)) ∧ mInv i16 c16 ∧ (∀ k, k ∉ ([] : List Nat) → i16 k = i4 k) ∧ (∀ k, k ∉ ([38, 39] : List Nat) → c16 k = (updA c4 39 (y4_3 : Int32).toNatClampNeg x12) k) ∧ ((c16 38) = upd ((updA c4 39 (y4_3 : Int32).toNatClampNeg x12) 38) x15.toNatClampNeg y10_5) ∧ ((c16 39) = upd ((updA c4 39 (y4_3 : Int32).toNatClampNeg x12) 39) x15.toNatClampNeg 0) := hw16
                    obtain ⟨hw16, hI, hei16, hec16, hxp16_0, hxp16_1⟩ := hw16
                    obtain ⟨hw16, hr16_0⟩ := hw16
                    have hr16_0 : r16 = bsV (zM (c 3) (c 6) (i 5).toInt) (c 7) y10_5.toInt.toNat := by have h9 := hr16_0; rw [show (updA c4 39 (y4_3 : Int32).toNatClampNeg x12) 3 = c 3 from hfc 3 (by decide +kernel), show (updA c4 39 (y4_3 : Int32).toNatClampNeg x12) 6 = c 6 from hfc 6 (by decide +kernel), show (updA c4 39 (y4_3 : Int32).toNatClampNeg x12) 7 = c 7 from hfc 7 (by decide +kernel), show i4 5 = i 5 from hfi 5 (by decide +kernel)] at h9; exact h9
                    have hxp16_0 : (c16 38) = upd ((updA c4 39 (y4_3 : Int32).toNatClampNeg x12) 38) x15.toNatClampNeg y10_5 := hxp16_0
                    have hxp16_1 : (c16 39) = upd ((updA c4 39 (y4_3 : Int32).toNatClampNeg x12) 39) x15.toNatClampNeg 0 := hxp16_1
                    have hfi : ∀ k, k ∉ ([] : List Nat) → i16 k = i k := fr_z hfi hei16 (by decide +kernel) (by decide +kernel)
                    have hfc : ∀ k, k ∉ ([38, 39] : List Nat) → c16 k = c k := fr_z hfc hec16 (by decide +kernel) (by decide +kernel)
                    have hP : va_P D vwCl (mW o a t i16 q16 c16 d16) H := hP
                    have hD : va_D A (mW o a t i16 q16 c16 d16) := hD
                    refine lv_iadd hx hb dX12_bulkOf_207 ?_
                    refine lv_topi (fun x17 ex17 => ?_)
                    refine lv_istore_n (lv' := [(2, .int x17), (3, .int x15), (5, .int y10_5), (4, .int z8_0), (0, .ref o), (1, .int w)]) hx hb dX12_bulkOf_208 rfl hl (by decide +kernel) rfl (fun ls hl => ?_)
                    refine lv_goto (tgt := 74) hx hb dX12_bulkOf_209 (by decide +kernel) ?_
                    exact ih4 i16 q16 c16 d16 x15 x17 hI (fr_w hfi (by decide +kernel)) (fr_w hfc (by decide +kernel)) (show -1 ≤ x15.toInt ∧ x15.toInt ≤ 29 from by have h51 : x15.toInt = ((y4_3.toInt + (-1)) + 2) := tx15; omega) (show PQ rk (c16 38) x15.toInt from by rw [hxp16_0]; exact PQ_in hz4_0 (by omega) (by have h9 := tx15; omega) (by have h9 := tx15; omega)) (show NQ (c16 39) (i 5).toInt x15.toInt from by rw [hxp16_1]; exact NQ_in hz4_1 (by omega) (by have h9 := tx15; omega) (by have h9 := tx12; omega)) (show x17 + sRem (zM (c 3) (c 6) (i 5).toInt) (lsG (c 9) (c 10) (c 11) (c 13) (c 23) (c 24) (i 8).toInt (i 22).toInt) (wtB (zM (c 3) (c 6) (i 5).toInt) (c 7) (lsG (c 9) (c 10) (c 11) (c 13) (c 23) (c 24) (i 8).toInt (i 22).toInt) (i 5).toInt.toNat 31) (i 5).toInt.toNat (c16 38) (c16 39) x15.toInt = (wtB (zM (c 3) (c 6) (i 5).toInt) (c 7) (lsG (c 9) (c 10) (c 11) (c 13) (c 23) (c 24) (i 8).toInt (i 22).toInt) (i 5).toInt.toNat 31) w.toInt.toNat from by rw [hxp16_0, hxp16_1]; exact Bk_in (x := y10_5) (b := r16) hz4_2 (by omega) (by have h9 := tx15; omega) (by decide +kernel) (by omega) (by omega) (by have h9 := tx12; omega) hz10_1 (hz11_1.resolve_left (by omega)) (by rw [hr16_0]; exact wtB_v hrk.1 hRK (by omega) (hs_N _ (by omega) (by omega) (chG (by omega) (hz11_1.resolve_left (by omega))))) ex17) (show PiN (c16 38) (i 5).toInt x15.toInt from by rw [hxp16_0]; exact PiN_s hz4_3 (by omega) (by have h9 := tx15; omega) (by omega)) (by rw [hxp16_1]; exact Nat.lt_of_lt_of_le (Ms_i (v := x9) hz4_1 (by omega) (by have h9 := tx15; omega) (by have h9 := tx15; omega) ex9 (by have h9 := tx12; omega) (by have h9 := tx12; omega)) (Nat.le_of_lt_succ hm4)) _ _ _ hP hD hS (lv_sub hl [1, 0, 4, 5] rfl)
                refine lv_icmp_ge (tgt := 174) hx hb dX12_bulkOf_132 (by decide +kernel) (fun c18 => ?_) (fun c18 => ?_)
                · have f18 := (ti_le (a := (i4 5).toInt) (b := y10_5.toInt) rfl rfl).mp c18
                  exact jn11   (show (i 5).toInt ≤ y10_5.toInt ∨ gF (c 9) (c 10) (c 11) (c 13) (c 23) (c 24) (i 8).toInt (i 5).toInt (i 22).toInt y10_5.toInt = (c4 38 y4_3.toNatClampNeg).toInt from by first | exact Or.inl (by omega) | exact Or.inr ((gF_of (by omega) (by omega)).trans (by omega))) (show (i 5).toInt ≤ y10_5.toInt ∨ chB (zM (c 3) (c 6) (i 5).toInt) (lsG (c 9) (c 10) (c 11) (c 13) (c 23) (c 24) (i 8).toInt (i 22).toInt) (c4 38 y4_3.toNatClampNeg).toInt y10_5.toInt.toNat = true from Or.inl (by omega)) _ _ _ hP hD hS (lv_sub hl [0, 1, 2, 3, 4, 5] rfl)
                · have f18 := mt (ti_le (a := (i4 5).toInt) (b := y10_5.toInt) rfl rfl).mpr c18
                  refine lv_iload hx hb dX12_bulkOf_135 (lv_at hl 1 rfl) ?_
                  refine lv_bipush (v := (-9)) hx hb dX12_bulkOf_137 (by decide +kernel) ?_
                  have jn19 : (z8_0.toInt = -9 ∨ ¬ (lsG (c 9) (c 10) (c 11) (c 13) (c 23) (c 24) (i 8).toInt (i 22).toInt) z8_0.toInt (c4 38 y4_3.toNatClampNeg).toInt y10_5.toInt.toNat = true) → ∀ (H : Heap) (locs : List Loc) (ls : Array Slot), va_P D vwCl (mW o a t i4 q4 c4 d4) H → va_D A (mW o a t i4 q4 c4 d4) → va_S A s.heap H locs → lv_has ls 6 [(5, .int y10_5), (4, .int z8_0), (3, .int y4_3), (2, .int y4_2), (0, .ref o), (1, .int w)] → W p l e (headSpec wm_X12_bulkOf ({ frames := 2, cells := 0, slots := 0, locals := 45 })).room s m ([.ref o, .int w] : List Value).toArray below meth cd H locs 0 0 (MQ below (va_Qi (fun (r : Int32) (u : MS) => (True ∧ (Im (¬ (zM (c 3) (c 6) (i 5).toInt) w.toInt = 2) (r = (wtB (zM (c 3) (c 6) (i 5).toInt) (c 7) (lsG (c 9) (c 10) (c 11) (c 13) (c 23) (c 24) (i 8).toInt (i 22).toInt) (i 5).toInt.toNat 31) w.toInt.toNat)) ∧ (Im ((zM (c 3) (c 6) (i 5).toInt) w.toInt = 2) (r = drV (c 7 w.toInt.toNat)))) ∧ mInv u.1 u.2.2.1 ∧ (∀ k, k ∉ ([36] : List Nat) → u.1 k = i k) ∧ (∀ k, k ∉ ([38, 39] : List Nat) → u.2.2.1 k = c k) ∧ (ntP ((zM (c 3) (c 6) (i 5).toInt) w.toInt = 2 ∧ (c 7 w.toInt.toNat).toInt = 0) (i 36) (u.1 36))) (oC D A (fun u : MS => mW o a t u.1 u.2.1 u.2.2.1 u.2.2.2) (fun _ => [])) A) ([.ref o, .int w] : List Value).toArray s 0 0 A) (F0 m 168 ls []) := by
                    intro hz19_0 H locs ls hP hD hS hl
                    obtain ⟨x20, ex20⟩ : ∃ y : Int32, y = y10_5 + 1 := ⟨_, rfl⟩
                    have tx20 := ti_add (a := y10_5.toInt) (b := 1) ex20 rfl (by decide +kernel) (by omega) (by omega)
                    refine lv_iinc (v := x20) (lv' := [(5, .int x20), (4, .int z8_0), (3, .int y4_3), (2, .int y4_2), (0, .ref o), (1, .int w)]) hx hb dX12_bulkOf_168 hl (k := 0) rfl (by rw [ex20]; rfl) (by decide +kernel) rfl (fun ls hl => ?_)
                    refine lv_goto (tgt := 126) hx hb dX12_bulkOf_171 (by decide +kernel) ?_
                    exact ih10 x20 (show 0 ≤ x20.toInt ∧ x20.toInt ≤ 30 ∧ x20.toInt ≤ (i 5).toInt from by have h50 : x20.toInt = (y10_5.toInt + 1) := tx20; omega) (show (c4 39 y4_3.toNatClampNeg).toInt ≤ x20.toInt from by have h50 : x20.toInt = (y10_5.toInt + 1) := tx20; omega) (show remJ (zM (c 3) (c 6) (i 5).toInt) (lsG (c 9) (c 10) (c 11) (c 13) (c 23) (c 24) (i 8).toInt (i 22).toInt) (wtB (zM (c 3) (c 6) (i 5).toInt) (c 7) (lsG (c 9) (c 10) (c 11) (c 13) (c 23) (c 24) (i 8).toInt (i 22).toInt) (i 5).toInt.toNat 31) (i 5).toInt.toNat (c4 38 y4_3.toNatClampNeg).toInt (c4 39 y4_3.toNatClampNeg).toInt = remJ (zM (c 3) (c 6) (i 5).toInt) (lsG (c 9) (c 10) (c 11) (c 13) (c 23) (c 24) (i 8).toInt (i 22).toInt) (wtB (zM (c 3) (c 6) (i 5).toInt) (c 7) (lsG (c 9) (c 10) (c 11) (c 13) (c 23) (c 24) (i 8).toInt (i 22).toInt) (i 5).toInt.toNat 31) (i 5).toInt.toNat (c4 38 y4_3.toNatClampNeg).toInt x20.toInt from hz10_1.trans (remJ_n (by omega) tx20 (chB_n hz8_0 (fun h9 => hz19_0.resolve_left h9)))) (by have h50 : x20.toInt = (y10_5.toInt + 1) := tx20; omega) _ _ _ hP hD hS (lv_sub hl [0, 1, 2, 3, 4, 5] rfl)
                  refine lv_icmp_eq (tgt := 168) hx hb dX12_bulkOf_139 (by decide +kernel) (fun c21 => ?_) (fun c21 => ?_)
                  · have f21 := (ti_eq (a := z8_0.toInt) (b := (-9)) rfl (by decide +kernel)).mp c21
                    exact jn19   (show z8_0.toInt = -9 ∨ ¬ (lsG (c 9) (c 10) (c 11) (c 13) (c 23) (c 24) (i 8).toInt (i 22).toInt) z8_0.toInt (c4 38 y4_3.toNatClampNeg).toInt y10_5.toInt.toNat = true from Or.inl (by omega)) _ _ _ hP hD hS (lv_sub hl [0, 1, 2, 3, 4, 5] rfl)
                  · have f21 := mt (ti_eq (a := z8_0.toInt) (b := (-9)) rfl (by decide +kernel)).mpr c21
                    refine lv_aload_n hx hb dX12_bulkOf_142 rfl (lv_at hl 4 rfl) ?_
                    refine lv_iload hx hb dX12_bulkOf_143 (lv_at hl 0 rfl) ?_
                    have rb8_i4 : 0 ≤ (i4 8).toInt ∧ (i4 8).toInt ≤ 200 := hI.1 8
                    have re8_i4 : (i4 8).toInt = (i 8).toInt := congrArg Int32.toInt (hfi 8 (by decide +kernel))
                    have rb22_i4 : (i4 22).toInt = -9 ∨ (0 ≤ (i4 22).toInt ∧ (i4 22).toInt ≤ 29) := hI.1 22
                    have re22_i4 : (i4 22).toInt = (i 22).toInt := congrArg Int32.toInt (hfi 22 (by decide +kernel))
                    refine ro_calli (va_runV (As := [.int y10_5]) (rest := []) ⟨hx, hb, hml, hown, hts⟩ (s_X12_formNow l D H.size o a t i4 q4 c4 d4 y10_5 hI (show 0 ≤ y10_5.toInt ∧ y10_5.toInt ≤ 29 from by omega)) (cwV 1 hts gm_X12_bulkOf_X12_formNow rfl rfl rfl (by decide +kernel) ⟨Nat.le_of_ble_eq_true rfl, Nat.le_of_ble_eq_true rfl⟩) (pA_V hK hP (ci := 12) (q0 := 0) rfl rfl) rfl rfl hl.1 rfl (lv_room (Nat.le_of_ble_eq_true rfl)) dX12_bulkOf_145 ⟨Nat.le_of_ble_eq_true rfl, Nat.le_of_ble_eq_true rfl⟩) hS hA hP (fun r22 u22 H locs hw22 hP hS => ?_)
                    have hw22 : ((r22.toInt = -9 ∨ (0 ≤ r22.toInt ∧ r22.toInt ≤ 7)) ∧ (r22.toInt = gM (c4 9) (c4 10) (c4 13) (c4 23) (i4 8).toInt (i4 22).toInt y10_5.toInt)) := hw22
                    obtain ⟨hw22, hr22_0⟩ := hw22
                    have hr22_0 : r22.toInt = gM (c 9) (c 10) (c 13) (c 23) (i 8).toInt (i 22).toInt y10_5.toInt := by have h9 := hr22_0; rw [show c4 9 = c 9 from hfc 9 (by decide +kernel), show c4 10 = c 10 from hfc 10 (by decide +kernel), show c4 13 = c 13 from hfc 13 (by decide +kernel), show c4 23 = c 23 from hfc 23 (by decide +kernel), show i4 8 = i 8 from hfi 8 (by decide +kernel), show i4 22 = i 22 from hfi 22 (by decide +kernel)] at h9; exact h9
                    refine lv_iload hx hb dX12_bulkOf_148 (lv_at hl 1 rfl) ?_
                    refine lv_icmp_ne (tgt := 168) hx hb dX12_bulkOf_150 (by decide +kernel) (fun c23 => ?_) (fun c23 => ?_)
                    · have f23 := mt (ti_eq (a := r22.toInt) (b := z8_0.toInt) rfl rfl).mpr c23
                      exact jn19   (show z8_0.toInt = -9 ∨ ¬ (lsG (c 9) (c 10) (c 11) (c 13) (c 23) (c 24) (i 8).toInt (i 22).toInt) z8_0.toInt (c4 38 y4_3.toNatClampNeg).toInt y10_5.toInt.toNat = true from Or.inr (lsG_n (by omega) (fun h9 => by have h8 := h9.1; rw [← hr22_0] at h8; omega))) _ _ _ hP hD hS (lv_sub hl [0, 1, 2, 3, 4, 5] rfl)
                    · have f23 := (ti_eq (a := r22.toInt) (b := z8_0.toInt) rfl rfl).mp c23
                      refine lv_aload_n hx hb dX12_bulkOf_153 rfl (lv_at hl 4 rfl) ?_
                      refine lv_iload hx hb dX12_bulkOf_154 (lv_at hl 0 rfl) ?_
                      refine ro_calli (va_runV (As := [.int y10_5]) (rest := []) ⟨hx, hb, hml, hown, hts⟩ (s_X12_atNow l D H.size o a t i4 q4 c4 d4 y10_5 hI (show 0 ≤ y10_5.toInt ∧ y10_5.toInt ≤ 29 from by omega)) (cwV 1 hts gm_X12_bulkOf_X12_atNow rfl rfl rfl (by decide +kernel) ⟨Nat.le_of_ble_eq_true rfl, Nat.le_of_ble_eq_true rfl⟩) (pA_V hK hP (ci := 12) (q0 := 0) rfl rfl) rfl rfl hl.1 rfl (lv_room (Nat.le_of_ble_eq_true rfl)) dX12_bulkOf_156 ⟨Nat.le_of_ble_eq_true rfl, Nat.le_of_ble_eq_true rfl⟩) hS hA hP (fun r24 u24 H locs hw24 hP hS => ?_)
                      have hw24 : ((r24.toInt = -9 ∨ (0 ≤ r24.toInt ∧ r24.toInt ≤ 29)) ∧ (r24.toInt = gA (c4 9) (c4 10) (c4 11) (c4 13) (c4 24) (i4 8).toInt (i4 22).toInt y10_5.toInt)) := hw24
                      obtain ⟨hw24, hr24_0⟩ := hw24
                      have hr24_0 : r24.toInt = gA (c 9) (c 10) (c 11) (c 13) (c 24) (i 8).toInt (i 22).toInt y10_5.toInt := by have h9 := hr24_0; rw [show c4 9 = c 9 from hfc 9 (by decide +kernel), show c4 10 = c 10 from hfc 10 (by decide +kernel), show c4 11 = c 11 from hfc 11 (by decide +kernel), show c4 13 = c 13 from hfc 13 (by decide +kernel), show c4 24 = c 24 from hfc 24 (by decide +kernel), show i4 8 = i 8 from hfi 8 (by decide +kernel), show i4 22 = i 22 from hfi 22 (by decide +kernel)] at h9; exact h9
                      refine lv_aload_n hx hb dX12_bulkOf_159 rfl (lv_at hl 4 rfl) ?_
                      refine mget_38 hx hb hts (fun _ h => List.mem_cons_of_mem _ (List.mem_append_right _ h)) hown hK hP (hts (.fieldLink RX12 80 "TalePlayModel" "pile" "[I") (List.mem_cons_of_mem _ (List.mem_append_left _ (List.mem_append_left _ (List.mem_of_getElem? (i := 11) rfl))))) dX12_bulkOf_160 ?_
                      refine lv_iload_n hx hb dX12_bulkOf_163 rfl (lv_at hl 2 rfl) ?_
                      refine mld_38 hx hb hK hP (vp_in_iff.mpr (by have h9 : y4_3.toInt = y4_3.toInt := rfl; omega)) dX12_bulkOf_164 (fun x25 ex25 => ?_)
                      have rx25 : 0 ≤ x25.toInt ∧ x25.toInt ≤ 29 := by rw [ex25]; exact hI.2 38 _
                      have gx25 : (c4 38 (y4_3 : Int32).toNatClampNeg).toInt = x25.toInt := by rw [ex25]
                      have hpe : (c4 38 y4_3.toNatClampNeg).toInt = x25.toInt := by rw [ex25]
                      refine lv_icmp_eq (tgt := 174) hx hb dX12_bulkOf_165 (by decide +kernel) (fun c26 => ?_) (fun c26 => ?_)
                      · have f26 := (ti_eq (a := r24.toInt) (b := x25.toInt) rfl rfl).mp c26
                        exact jn11   (show (i 5).toInt ≤ y10_5.toInt ∨ gF (c 9) (c 10) (c 11) (c 13) (c 23) (c 24) (i 8).toInt (i 5).toInt (i 22).toInt y10_5.toInt = (c4 38 y4_3.toNatClampNeg).toInt from by first | exact Or.inl (by omega) | exact Or.inr ((gF_of (by omega) (by omega)).trans (by omega))) (show (i 5).toInt ≤ y10_5.toInt ∨ chB (zM (c 3) (c 6) (i 5).toInt) (lsG (c 9) (c 10) (c 11) (c 13) (c 23) (c 24) (i 8).toInt (i 22).toInt) (c4 38 y4_3.toNatClampNeg).toInt y10_5.toInt.toNat = true from Or.inr (chB_y hz8_0 (by omega) (lsG_w (by omega) ⟨by rw [← hr22_0]; omega, by rw [← hr24_0]; omega⟩))) _ _ _ hP hD hS (lv_sub hl [0, 1, 2, 3, 4, 5] rfl)
                      · have f26 := mt (ti_eq (a := r24.toInt) (b := x25.toInt) rfl rfl).mpr c26
                        exact jn19   (show z8_0.toInt = -9 ∨ ¬ (lsG (c 9) (c 10) (c 11) (c 13) (c 23) (c 24) (i 8).toInt (i 22).toInt) z8_0.toInt (c4 38 y4_3.toNatClampNeg).toInt y10_5.toInt.toNat = true from Or.inr (lsG_n (by omega) (fun h9 => by have h8 := h9.2; rw [← hr24_0] at h8; omega))) _ _ _ hP hD hS (lv_sub hl [0, 1, 2, 3, 4, 5] rfl)
            exact lp10 _ x9 (show 0 ≤ x9.toInt ∧ x9.toInt ≤ 30 ∧ x9.toInt ≤ (i 5).toInt from by omega) (show (c4 39 y4_3.toNatClampNeg).toInt ≤ x9.toInt from by omega) (show remJ (zM (c 3) (c 6) (i 5).toInt) (lsG (c 9) (c 10) (c 11) (c 13) (c 23) (c 24) (i 8).toInt (i 22).toInt) (wtB (zM (c 3) (c 6) (i 5).toInt) (c 7) (lsG (c 9) (c 10) (c 11) (c 13) (c 23) (c 24) (i 8).toInt (i 22).toInt) (i 5).toInt.toNat 31) (i 5).toInt.toNat (c4 38 y4_3.toNatClampNeg).toInt (c4 39 y4_3.toNatClampNeg).toInt = remJ (zM (c 3) (c 6) (i 5).toInt) (lsG (c 9) (c 10) (c 11) (c 13) (c 23) (c 24) (i 8).toInt (i 22).toInt) (wtB (zM (c 3) (c 6) (i 5).toInt) (c 7) (lsG (c 9) (c 10) (c 11) (c 13) (c 23) (c 24) (i 8).toInt (i 22).toInt) (i 5).toInt.toNat 31) (i 5).toInt.toNat (c4 38 y4_3.toNatClampNeg).toInt x9.toInt from by rw [show (c4 39 y4_3.toNatClampNeg).toInt = x9.toInt from by rw [ex9]]) (Nat.lt_succ_self _) _ _ _ hP hD hS (lv_sub hl [0, 1, 2, 3, 4, 5] rfl)
          refine lv_if_eq (tgt := 96) hx hb dX12_bulkOf_89 (by decide +kernel) (fun c27 => ?_) (fun c27 => ?_)
          · have f27 := (ti_eq (a := r7.toInt) (b := 0) rfl (by decide +kernel)).mp c27
            refine lv_aload_n hx hb dX12_bulkOf_96 rfl (lv_at hl 2 rfl) ?_
            refine lv_aload_n hx hb dX12_bulkOf_97 rfl (lv_at hl 2 rfl) ?_
            refine mget_38 hx hb hts (fun _ h => List.mem_cons_of_mem _ (List.mem_append_right _ h)) hown hK hP (hts (.fieldLink RX12 80 "TalePlayModel" "pile" "[I") (List.mem_cons_of_mem _ (List.mem_append_left _ (List.mem_append_left _ (List.mem_of_getElem? (i := 11) rfl))))) dX12_bulkOf_98 ?_
            refine lv_iload_n hx hb dX12_bulkOf_101 rfl (lv_at hl 0 rfl) ?_
            refine mld_38 hx hb hK hP (vp_in_iff.mpr (by have h9 : y4_3.toInt = y4_3.toInt := rfl; omega)) dX12_bulkOf_102 (fun x28 ex28 => ?_)
            have rx28 : 0 ≤ x28.toInt ∧ x28.toInt ≤ 29 := by rw [ex28]; exact hI.2 38 _
            have gx28 : (c4 38 (y4_3 : Int32).toNatClampNeg).toInt = x28.toInt := by rw [ex28]
            have hpd2 : (c4 38 y4_3.toNatClampNeg).toInt = x28.toInt := by rw [ex28]
            have hpnhzq := hz4_3 y4_3.toNatClampNeg (by rw [cl_nn (by omega)]; exact Int.le_refl _)
            have hzq : (zM (c 3) (c 6) (i 5).toInt) (c4 38 y4_3.toNatClampNeg).toInt = kS (c 3) (c 6) x28.toInt := by rw [hpd2]; exact zM_i (by omega)
            refine lv_iconst (v := 4) hx hb dX12_bulkOf_103 (by decide +kernel) ?_
            refine ro_calli (va_runV (As := [.int x28, .int 4]) (rest := []) ⟨hx, hb, hml, hown, hts⟩ (s_X12_isOf_e l D H.size o a t i4 q4 c4 d4 x28 4 hI (show 0 ≤ x28.toInt ∧ x28.toInt ≤ 29 from by have h91 : (4 : Int32).toInt = 4 := (by decide +kernel); omega) (show 0 ≤ 4 ∧ 4 ≤ 5 from by decide +kernel)) (cwV 2 hts gm_X12_bulkOf_X12_isOf rfl rfl rfl (by decide +kernel) ⟨Nat.le_of_ble_eq_true rfl, Nat.le_of_ble_eq_true rfl⟩) (pA_V hK hP (ci := 12) (q0 := 0) rfl rfl) rfl rfl hl.1 rfl (lv_room (Nat.le_of_ble_eq_true rfl)) dX12_bulkOf_104 ⟨Nat.le_of_ble_eq_true rfl, Nat.le_of_ble_eq_true rfl⟩) hS hA hP (fun r29 u29 H locs hw29 hP hS => ?_)
            have hw29 : ((0 ≤ r29.toInt ∧ r29.toInt ≤ 1) ∧ (0 ≤ kS (c4 3) (c4 6) x28.toInt ∧ kS (c4 3) (c4 6) x28.toInt ≤ 5 ∧ ((r29.toInt = 1 ∧ (kS (c4 3) (c4 6) x28.toInt = 4 ∨ ((1 : Int) = 4 ∧ 1 < kS (c4 3) (c4 6) x28.toInt))) ∨ (r29.toInt = 0 ∧ ¬ (kS (c4 3) (c4 6) x28.toInt = 4 ∨ ((1 : Int) = 4 ∧ 1 < kS (c4 3) (c4 6) x28.toInt)))))) := hw29
            obtain ⟨hw29, hr29_0⟩ := hw29
            have hr29_0 : 0 ≤ kS (c 3) (c 6) x28.toInt ∧ kS (c 3) (c 6) x28.toInt ≤ 5 ∧ ((r29.toInt = 1 ∧ (kS (c 3) (c 6) x28.toInt = 4 ∨ ((1 : Int) = 4 ∧ 1 < kS (c 3) (c 6) x28.toInt))) ∨ (r29.toInt = 0 ∧ ¬ (kS (c 3) (c 6) x28.toInt = 4 ∨ ((1 : Int) = 4 ∧ 1 < kS (c 3) (c 6) x28.toInt)))) := by have h9 := hr29_0; rw [show c4 3 = c 3 from hfc 3 (by decide +kernel), show c4 6 = c 6 from hfc 6 (by decide +kernel)] at h9; exact h9
            refine lv_if_eq (tgt := 114) hx hb dX12_bulkOf_107 (by decide +kernel) (fun c30 => ?_) (fun c30 => ?_)
            · have f30 := (ti_eq (a := r29.toInt) (b := 0) rfl (by decide +kernel)).mp c30
              refine lv_bipush (v := (-9)) hx hb dX12_bulkOf_114 (by decide +kernel) ?_
              exact jn8  ((-9) : Int32) (show ((-9) : Int32).toInt = -9 ∨ (0 ≤ ((-9) : Int32).toInt ∧ ((-9) : Int32).toInt ≤ 1) from by decide +kernel) (show ((zM (c 3) (c 6) (i 5).toInt) (c4 38 y4_3.toNatClampNeg).toInt = 3 ∧ ((-9) : Int32).toInt = 0) ∨ ((zM (c 3) (c 6) (i 5).toInt) (c4 38 y4_3.toNatClampNeg).toInt = 4 ∧ ((-9) : Int32).toInt = 1) ∨ (¬ (zM (c 3) (c 6) (i 5).toInt) (c4 38 y4_3.toNatClampNeg).toInt = 3 ∧ ¬ (zM (c 3) (c 6) (i 5).toInt) (c4 38 y4_3.toNatClampNeg).toInt = 4 ∧ ((-9) : Int32).toInt = -9) from Or.inr (Or.inr ⟨by rw [hzp]; omega, by rw [hzq]; omega, by decide⟩)) _ _ _ hP hD hS (lv_sub hl [0, 1, 2, 3] rfl)
            · have f30 := mt (ti_eq (a := r29.toInt) (b := 0) rfl (by decide +kernel)).mpr c30
              refine lv_iconst (v := 1) hx hb dX12_bulkOf_110 (by decide +kernel) ?_
              refine lv_goto (tgt := 116) hx hb dX12_bulkOf_111 (by decide +kernel) ?_
              exact jn8  (1 : Int32) (show (1 : Int32).toInt = -9 ∨ (0 ≤ (1 : Int32).toInt ∧ (1 : Int32).toInt ≤ 1) from by decide +kernel) (show ((zM (c 3) (c 6) (i 5).toInt) (c4 38 y4_3.toNatClampNeg).toInt = 3 ∧ (1 : Int32).toInt = 0) ∨ ((zM (c 3) (c 6) (i 5).toInt) (c4 38 y4_3.toNatClampNeg).toInt = 4 ∧ (1 : Int32).toInt = 1) ∨ (¬ (zM (c 3) (c 6) (i 5).toInt) (c4 38 y4_3.toNatClampNeg).toInt = 3 ∧ ¬ (zM (c 3) (c 6) (i 5).toInt) (c4 38 y4_3.toNatClampNeg).toInt = 4 ∧ (1 : Int32).toInt = -9) from Or.inr (Or.inl ⟨by rw [hzq]; omega, by decide⟩)) _ _ _ hP hD hS (lv_sub hl [0, 1, 2, 3] rfl)
          · have f27 := mt (ti_eq (a := r7.toInt) (b := 0) rfl (by decide +kernel)).mpr c27
            refine lv_iconst (v := 0) hx hb dX12_bulkOf_92 (by decide +kernel) ?_
            refine lv_goto (tgt := 116) hx hb dX12_bulkOf_93 (by decide +kernel) ?_
            exact jn8  (0 : Int32) (show (0 : Int32).toInt = -9 ∨ (0 ≤ (0 : Int32).toInt ∧ (0 : Int32).toInt ≤ 1) from by decide +kernel) (show ((zM (c 3) (c 6) (i 5).toInt) (c4 38 y4_3.toNatClampNeg).toInt = 3 ∧ (0 : Int32).toInt = 0) ∨ ((zM (c 3) (c 6) (i 5).toInt) (c4 38 y4_3.toNatClampNeg).toInt = 4 ∧ (0 : Int32).toInt = 1) ∨ (¬ (zM (c 3) (c 6) (i 5).toInt) (c4 38 y4_3.toNatClampNeg).toInt = 3 ∧ ¬ (zM (c 3) (c 6) (i 5).toInt) (c4 38 y4_3.toNatClampNeg).toInt = 4 ∧ (0 : Int32).toInt = -9) from Or.inl ⟨by rw [hzp]; omega, by decide⟩) _ _ _ hP hD hS (lv_sub hl [0, 1, 2, 3] rfl)
    exact lp4 _ i3 q3 c3 d3 (0 : Int32) r3 hI (fr_w hfi (by decide +kernel)) (fr_w hfc (by decide +kernel)) (show -1 ≤ (0 : Int32).toInt ∧ (0 : Int32).toInt ≤ 29 from by decide +kernel) (show PQ rk (c3 38) (0 : Int32).toInt from fun j hj => by have h9 : (0 : Int32).toInt = 0 := (by decide +kernel); omega) (show NQ (c3 39) (i 5).toInt (0 : Int32).toInt from by rw [hxp3_1]; exact NQ_0 (by omega)) (show r3 + sRem (zM (c 3) (c 6) (i 5).toInt) (lsG (c 9) (c 10) (c 11) (c 13) (c 23) (c 24) (i 8).toInt (i 22).toInt) (wtB (zM (c 3) (c 6) (i 5).toInt) (c 7) (lsG (c 9) (c 10) (c 11) (c 13) (c 23) (c 24) (i 8).toInt (i 22).toInt) (i 5).toInt.toNat 31) (i 5).toInt.toNat (c3 38) (c3 39) (0 : Int32).toInt = (wtB (zM (c 3) (c 6) (i 5).toInt) (c 7) (lsG (c 9) (c 10) (c 11) (c 13) (c 23) (c 24) (i 8).toInt (i 22).toInt) (i 5).toInt.toNat 31) w.toInt.toNat from by rw [hr3_0, sRem_0 (o := w.toInt) (by decide +kernel) (by rw [hxp3_0]; show (upd (c 38) 0 w 0).toInt = _; rw [pk_us]) (by rw [hxp3_1]; show (upd (c 39) 0 (0 : Int32) 0).toInt = _; rw [pk_us]; decide)]; exact (wtB_v hrk.1 hRK (by omega) hzw).symm) (show PiN (c3 38) (i 5).toInt (0 : Int32).toInt from by rw [hxp3_0]; exact PiN_0 (by decide +kernel) (by omega)) (Nat.lt_succ_self _) _ _ _ hP hD hS (lv_sub hl [0, 1, 2, 3] rfl)
  · have f2 := mt (ti_eq (a := r1.toInt) (b := 0) rfl (by decide +kernel)).mpr c2
    refine lv_aload_n hx hb dX12_bulkOf_9 rfl (lv_at hl 0 rfl) ?_
    refine lv_iconst (v := 4) hx hb dX12_bulkOf_10 (by decide +kernel) ?_
    have rb33_i : 0 ≤ (i 33).toInt ∧ (i 33).toInt ≤ 1 := hI.1 33
    refine al_callv (va_runV (As := [.int 4]) (rest := []) ⟨hx, hb, hml, hown, hts⟩ (s_X12_body_t l D H.size o a t i q c d 4 hI (show 0 ≤ 4 ∧ 4 ≤ 5 from by decide +kernel) (show ((i 33) : Int32).toInt = 0 from by have h90 : (4 : Int32).toInt = 4 := (by decide +kernel); omega)) (cwV 1 hts gm_X12_bulkOf_X12_body rfl rfl rfl (by decide +kernel) ⟨Nat.le_of_ble_eq_true rfl, Nat.le_of_ble_eq_true rfl⟩) (pB_V hK hP hD (ci := 12) (q0 := 0) rfl rfl) rfl rfl hl.1 rfl (lv_room (Nat.le_of_ble_eq_true rfl)) dX12_bulkOf_11 ⟨Nat.le_of_ble_eq_true rfl, Nat.le_of_ble_eq_true rfl⟩) hS hA hP hD (fun u31 H locs hw31 hP hD hS => ?_)
    obtain ⟨i31, q31, c31, d31⟩ := u31
    have hw31 : True ∧ mInv i31 c31 ∧ (∀ k, k ∉ ([] : List Nat) → i31 k = i k) ∧ (∀ k, k ∉ ([] : List Nat) → c31 k = c k) := hw31
    obtain ⟨hw31, hI, hei31, hec31⟩ := hw31
    have hfi : ∀ k, k ∉ ([] : List Nat) → i31 k = i k := fr_z hfi hei31 (by decide +kernel) (by decide +kernel)
    have hfc : ∀ k, k ∉ ([] : List Nat) → c31 k = c k := fr_z hfc hec31 (by decide +kernel) (by decide +kernel)
    have hP : va_P D vwCl (mW o a t i31 q31 c31 d31) H := hP
    have hD : va_D A (mW o a t i31 q31 c31 d31) := hD
    refine lv_aload_n hx hb dX12_bulkOf_14 rfl (lv_at hl 0 rfl) ?_
    refine lv_iconst (v := 1) hx hb dX12_bulkOf_15 (by decide +kernel) ?_
    have rb33_i31 : 0 ≤ (i31 33).toInt ∧ (i31 33).toInt ≤ 1 := hI.1 33
    have re33_i31 : (i31 33).toInt = (i 33).toInt := congrArg Int32.toInt (hfi 33 (by decide +kernel))
    refine al_callv (va_runV (As := [.int 1]) (rest := []) ⟨hx, hb, hml, hown, hts⟩ (s_X12_body_t l D H.size o a t i31 q31 c31 d31 1 hI (show 0 ≤ 1 ∧ 1 ≤ 5 from by decide +kernel) (show ((i31 33) : Int32).toInt = 0 from by have h90 : (1 : Int32).toInt = 1 := (by decide +kernel); omega)) (cwV 1 hts gm_X12_bulkOf_X12_body rfl rfl rfl (by decide +kernel) ⟨Nat.le_of_ble_eq_true rfl, Nat.le_of_ble_eq_true rfl⟩) (pB_V hK hP hD (ci := 12) (q0 := 0) rfl rfl) rfl rfl hl.1 rfl (lv_room (Nat.le_of_ble_eq_true rfl)) dX12_bulkOf_16 ⟨Nat.le_of_ble_eq_true rfl, Nat.le_of_ble_eq_true rfl⟩) hS hA hP hD (fun u32 H locs hw32 hP hD hS => ?_)
    obtain ⟨i32, q32, c32, d32⟩ := u32
    have hw32 : True ∧ mInv i32 c32 ∧ (∀ k, k ∉ ([] : List Nat) → i32 k = i31 k) ∧ (∀ k, k ∉ ([] : List Nat) → c32 k = c31 k) := hw32
    obtain ⟨hw32, hI, hei32, hec32⟩ := hw32
    have hfi : ∀ k, k ∉ ([] : List Nat) → i32 k = i k := fr_z hfi hei32 (by decide +kernel) (by decide +kernel)
    have hfc : ∀ k, k ∉ ([] : List Nat) → c32 k = c k := fr_z hfc hec32 (by decide +kernel) (by decide +kernel)
    have hP : va_P D vwCl (mW o a t i32 q32 c32 d32) H := hP
    have hD : va_D A (mW o a t i32 q32 c32 d32) := hD
    refine lv_aload_n hx hb dX12_bulkOf_19 rfl (lv_at hl 0 rfl) ?_
    refine lv_dup hx hb dX12_bulkOf_20 rfl ?_
    refine mget_36 (v := (i32 36)) rfl hx hb hts (fun _ h => List.mem_cons_of_mem _ (List.mem_append_right _ h)) hown hK hP (hts (.fieldLink RX12 303 "TalePlayModel" "isNought" "Z") (List.mem_cons_of_mem _ (List.mem_append_left _ (List.mem_append_right _ (List.mem_append_right _ (List.mem_of_getElem? (i := 10) rfl)))))) dX12_bulkOf_21 ?_
    have rb36_i32 : 0 ≤ (i32 36).toInt ∧ (i32 36).toInt ≤ 1 := hI.1 36
    have re36_i32 : (i32 36).toInt = (i 36).toInt := congrArg Int32.toInt (hfi 36 (by decide +kernel))
    refine lv_aload_n hx hb dX12_bulkOf_24 rfl (lv_at hl 0 rfl) ?_
    refine mget_7 hx hb hts (fun _ h => List.mem_cons_of_mem _ (List.mem_append_right _ h)) hown hK hP (hts (.fieldLink RX12 22 "TalePlayModel" "sizeOf" "[I") (List.mem_cons_of_mem _ (List.mem_append_left _ (List.mem_append_right _ (List.mem_append_left _ (List.mem_of_getElem? (i := 4) rfl)))))) dX12_bulkOf_25 ?_
    refine lv_iload_n hx hb dX12_bulkOf_28 rfl (lv_at hl 1 rfl) ?_
    refine mld_7 hx hb hK hP (vp_in_iff.mpr (by have h9 : w.toInt = w.toInt := rfl; omega)) dX12_bulkOf_29 (fun x33 ex33 => ?_)
    have rx33 : 0 ≤ x33.toInt ∧ x33.toInt ≤ 99 := by rw [ex33]; exact hI.2 7 _
    have gx33 : (c 7 (w : Int32).toNatClampNeg).toInt = x33.toInt := by rw [ex33, show c32 7 = c 7 from hfc 7 (by decide +kernel)]
    have jn34 : ∀ (z34_0 : Int32), (z34_0.toInt = 0 ∨ z34_0.toInt = 1) → ((z34_0.toInt = 1 ∧ (c 7 w.toInt.toNat).toInt = 0) ∨ (z34_0.toInt = 0 ∧ ¬ (c 7 w.toInt.toNat).toInt = 0)) → ∀ (H : Heap) (locs : List Loc) (ls : Array Slot), va_P D vwCl (mW o a t i32 q32 c32 d32) H → va_D A (mW o a t i32 q32 c32 d32) → va_S A s.heap H locs → lv_has ls 6 [(0, .ref o), (1, .int w)] → W p l e (headSpec wm_X12_bulkOf ({ frames := 2, cells := 0, slots := 0, locals := 45 })).room s m ([.ref o, .int w] : List Value).toArray below meth cd H locs 0 0 (MQ below (va_Qi (fun (r : Int32) (u : MS) => (True ∧ (Im (¬ (zM (c 3) (c 6) (i 5).toInt) w.toInt = 2) (r = (wtB (zM (c 3) (c 6) (i 5).toInt) (c 7) (lsG (c 9) (c 10) (c 11) (c 13) (c 23) (c 24) (i 8).toInt (i 22).toInt) (i 5).toInt.toNat 31) w.toInt.toNat)) ∧ (Im ((zM (c 3) (c 6) (i 5).toInt) w.toInt = 2) (r = drV (c 7 w.toInt.toNat)))) ∧ mInv u.1 u.2.2.1 ∧ (∀ k, k ∉ ([36] : List Nat) → u.1 k = i k) ∧ (∀ k, k ∉ ([38, 39] : List Nat) → u.2.2.1 k = c k) ∧ (ntP ((zM (c 3) (c 6) (i 5).toInt) w.toInt = 2 ∧ (c 7 w.toInt.toNat).toInt = 0) (i 36) (u.1 36))) (oC D A (fun u : MS => mW o a t u.1 u.2.1 u.2.2.1 u.2.2.2) (fun _ => [])) A) ([.ref o, .int w] : List Value).toArray s 0 0 A) (F0 m 38 ls [.int z34_0, .int (i32 36), .ref o]) := by
      intro z34_0 hs34_0 hz34_0 H locs ls hP hD hS hl
      refine lv_ior hx hb dX12_bulkOf_38 ?_
      refine lv_topi (fun x35 ex35 => ?_)
      have ox35 : 0 ≤ x35.toInt ∧ x35.toInt ≤ 1 := or_b ex35 (by omega) (by omega)
      have hNT : ntP ((zM (c 3) (c 6) (i 5).toInt) w.toInt = 2 ∧ (c 7 w.toInt.toNat).toInt = 0) (i 36) x35 := by rcases hz34_0 with ⟨h1, h2⟩ | ⟨h1, h2⟩; (· exact Or.inl ⟨⟨by rw [zM_i (by omega)]; omega, h2⟩, or_1 ex35 (show 0 ≤ (i32 36).toInt ∧ (i32 36).toInt ≤ 1 from hI.1 36) h1⟩); (· exact Or.inr ⟨fun h9 => h2 h9.2, (or_0 ex35 (show 0 ≤ (i32 36).toInt ∧ (i32 36).toInt ≤ 1 from hI.1 36) h1).trans (hfi 36 (by decide +kernel))⟩)
      refine mput_36 hx hb hts (fun _ h => List.mem_cons_of_mem _ (List.mem_append_right _ h)) hown hK hP hD hS (hts (.fieldLink RX12 303 "TalePlayModel" "isNought" "Z") (List.mem_cons_of_mem _ (List.mem_append_left _ (List.mem_append_right _ (List.mem_append_right _ (List.mem_of_getElem? (i := 10) rfl)))))) (nb_n (show 0 ≤ x35.toInt ∧ x35.toInt ≤ 1 from by omega)) (nb_f (show 0 ≤ x35.toInt ∧ x35.toInt ≤ 1 from by omega)) dX12_bulkOf_39 (fun H locs hP hD hS => ?_)
      have hI := mInv_i hI (k := 36) (v := x35) (show 0 ≤ (x35 : Int32).toInt ∧ (x35 : Int32).toInt ≤ 1 from by omega)
      have hfi : ∀ k, k ∉ ([36] : List Nat) → (upd i32 36 x35) k = i k := fr_iz hfi (by decide +kernel) (by decide +kernel)
      refine lv_aload_n hx hb dX12_bulkOf_42 rfl (lv_at hl 0 rfl) ?_
      refine mget_7 hx hb hts (fun _ h => List.mem_cons_of_mem _ (List.mem_append_right _ h)) hown hK hP (hts (.fieldLink RX12 22 "TalePlayModel" "sizeOf" "[I") (List.mem_cons_of_mem _ (List.mem_append_left _ (List.mem_append_right _ (List.mem_append_left _ (List.mem_of_getElem? (i := 4) rfl)))))) dX12_bulkOf_43 ?_
      refine lv_iload_n hx hb dX12_bulkOf_46 rfl (lv_at hl 1 rfl) ?_
      refine mld_7 hx hb hK hP (vp_in_iff.mpr (by have h9 : w.toInt = w.toInt := rfl; omega)) dX12_bulkOf_47 (fun x36 ex36 => ?_)
      have rx36 : 0 ≤ x36.toInt ∧ x36.toInt ≤ 99 := by rw [ex36]; exact hI.2 7 _
      have gx36 : (c 7 (w : Int32).toNatClampNeg).toInt = x36.toInt := by rw [ex36, show c32 7 = c 7 from hfc 7 (by decide +kernel)]
      refine lv_if_ne (tgt := 55) hx hb dX12_bulkOf_48 (by decide +kernel) (fun c37 => ?_) (fun c37 => ?_)
      · have f37 := mt (ti_eq (a := x36.toInt) (b := 0) rfl (by decide +kernel)).mpr c37
        refine lv_bipush (v := 100) hx hb dX12_bulkOf_55 (by decide +kernel) ?_
        refine lv_aload_n hx hb dX12_bulkOf_57 rfl (lv_at hl 0 rfl) ?_
        refine mget_7 hx hb hts (fun _ h => List.mem_cons_of_mem _ (List.mem_append_right _ h)) hown hK hP (hts (.fieldLink RX12 22 "TalePlayModel" "sizeOf" "[I") (List.mem_cons_of_mem _ (List.mem_append_left _ (List.mem_append_right _ (List.mem_append_left _ (List.mem_of_getElem? (i := 4) rfl)))))) dX12_bulkOf_58 ?_
        refine lv_iload_n hx hb dX12_bulkOf_61 rfl (lv_at hl 1 rfl) ?_
        refine mld_7 hx hb hK hP (vp_in_iff.mpr (by have h9 : w.toInt = w.toInt := rfl; omega)) dX12_bulkOf_62 (fun x38 ex38 => ?_)
        have rx38 : 0 ≤ x38.toInt ∧ x38.toInt ≤ 99 := by rw [ex38]; exact hI.2 7 _
        have gx38 : (c 7 (w : Int32).toNatClampNeg).toInt = x38.toInt := by rw [ex38, show c32 7 = c 7 from hfc 7 (by decide +kernel)]
        refine lv_idiv hx hb dX12_bulkOf_63 (mt (ti_eq (a := x38.toInt) (b := 0) rfl (by decide +kernel)).mp (by omega)) ?_
        refine lv_topi (fun x39 ex39 => ?_)
        exact rw_iret ((upd i32 36 x35), q32, c32, d32) hx hb hr hlocks hS (hK.sub (tys' := []) [] rfl) hP hD dX12_bulkOf_64 ⟨⟨trivial, (show Im (¬ (zM (c 3) (c 6) (i 5).toInt) w.toInt = 2) (x39 = (wtB (zM (c 3) (c 6) (i 5).toInt) (c 7) (lsG (c 9) (c 10) (c 11) (c 13) (c 23) (c 24) (i 8).toInt (i 22).toInt) (i 5).toInt.toNat 31) w.toInt.toNat) from fun h9 => absurd (by rw [zM_i (by omega)]; omega) h9), (show Im ((zM (c 3) (c 6) (i 5).toInt) w.toInt = 2) (x39 = drV (c 7 w.toInt.toNat)) from fun _ => by unfold drV; rw [if_neg (by have h9 : (c 7 w.toInt.toNat).toInt = x36.toInt := gx36; omega), show c 7 w.toInt.toNat = x38 from Int32.toInt_inj.mp gx38]; exact ex39)⟩, hI, fr_w hfi (by decide +kernel), fr_w hfc (by decide +kernel), (show ntP ((zM (c 3) (c 6) (i 5).toInt) w.toInt = 2 ∧ (c 7 w.toInt.toNat).toInt = 0) (i 36) (x35 : Int32) from hNT)⟩
      · have f37 := (ti_eq (a := x36.toInt) (b := 0) rfl (by decide +kernel)).mp c37
        refine lv_iconst (v := 0) hx hb dX12_bulkOf_51 (by decide +kernel) ?_
        refine lv_goto (tgt := 64) hx hb dX12_bulkOf_52 (by decide +kernel) ?_
        exact rw_iret ((upd i32 36 x35), q32, c32, d32) hx hb hr hlocks hS (hK.sub (tys' := []) [] rfl) hP hD dX12_bulkOf_64 ⟨⟨trivial, (show Im (¬ (zM (c 3) (c 6) (i 5).toInt) w.toInt = 2) ((0 : Int32) = (wtB (zM (c 3) (c 6) (i 5).toInt) (c 7) (lsG (c 9) (c 10) (c 11) (c 13) (c 23) (c 24) (i 8).toInt (i 22).toInt) (i 5).toInt.toNat 31) w.toInt.toNat) from fun h9 => absurd (by rw [zM_i (by omega)]; omega) h9), (show Im ((zM (c 3) (c 6) (i 5).toInt) w.toInt = 2) ((0 : Int32) = drV (c 7 w.toInt.toNat)) from fun _ => by unfold drV; rw [if_pos (by have h9 : (c 7 w.toInt.toNat).toInt = x36.toInt := gx36; omega)])⟩, hI, fr_w hfi (by decide +kernel), fr_w hfc (by decide +kernel), (show ntP ((zM (c 3) (c 6) (i 5).toInt) w.toInt = 2 ∧ (c 7 w.toInt.toNat).toInt = 0) (i 36) (x35 : Int32) from hNT)⟩
    refine lv_if_ne (tgt := 37) hx hb dX12_bulkOf_30 (by decide +kernel) (fun c40 => ?_) (fun c40 => ?_)
    · have f40 := mt (ti_eq (a := x33.toInt) (b := 0) rfl (by decide +kernel)).mpr c40
      refine lv_iconst (v := 0) hx hb dX12_bulkOf_37 (by decide +kernel) ?_
      exact jn34  (0 : Int32) (show (0 : Int32).toInt = 0 ∨ (0 : Int32).toInt = 1 from by decide +kernel) (show ((0 : Int32).toInt = 1 ∧ (c 7 w.toInt.toNat).toInt = 0) ∨ ((0 : Int32).toInt = 0 ∧ ¬ (c 7 w.toInt.toNat).toInt = 0) from by have h9 : (c 7 w.toInt.toNat).toInt = x33.toInt := gx33; have h8 : (0 : Int32).toInt = 0 := (by decide +kernel); omega) _ _ _ hP hD hS (lv_sub hl [0, 1] rfl)
    · have f40 := (ti_eq (a := x33.toInt) (b := 0) rfl (by decide +kernel)).mp c40
      refine lv_iconst (v := 1) hx hb dX12_bulkOf_33 (by decide +kernel) ?_
      refine lv_goto (tgt := 38) hx hb dX12_bulkOf_34 (by decide +kernel) ?_
      exact jn34  (1 : Int32) (show (1 : Int32).toInt = 0 ∨ (1 : Int32).toInt = 1 from by decide +kernel) (show ((1 : Int32).toInt = 1 ∧ (c 7 w.toInt.toNat).toInt = 0) ∨ ((1 : Int32).toInt = 0 ∧ ¬ (c 7 w.toInt.toNat).toInt = 0) from by have h9 : (c 7 w.toInt.toNat).toInt = x33.toInt := gx33; have h8 : (1 : Int32).toInt = 1 := (by decide +kernel); omega) _ _ _ hP hD hS (lv_sub hl [0, 1] rfl)

