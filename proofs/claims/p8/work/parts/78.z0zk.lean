set_option maxHeartbeats 4000000 in
set_option maxRecDepth 100000 in
theorem s_X12_whyNot_0 (l : Launch) (D : va_G) (sz : Nat) (o : Nat) (a : Nat → Nat) (t : Nat → ClassId) (i : Nat → Int32) (q : Int64) (c : Nat → Nat → Int32) (d : Nat → Nat → Int64) (v1 : Int32) (w1 : Int32) (w2 : Int32) (hI : mInv i c) (hv1 : 0 ≤ v1.toInt ∧ v1.toInt ≤ 12) (hx0 : v1.toInt = 0 → 0 ≤ w1.toInt ∧ w1.toInt ≤ 9) (hx1 : 1 ≤ v1.toInt ∧ v1.toInt ≤ 10 → 0 ≤ w1.toInt ∧ w1.toInt < (i 5).toInt) (hy : v1.toInt = 3 ∨ v1.toInt = 4 ∨ v1.toInt = 7 ∨ v1.toInt = 8 → 0 ≤ w2.toInt ∧ w2.toInt < (i 5).toInt) (hs_T : TI (i 5).toInt (fun z => Kd (c 3) (c 6) z 0) (i 22).toInt (c 23) (c 24)) (hs_C : Cc (c 3) (c 6) (c 47) (c 48) (c 49) (i 5).toInt) (hs_G : Acy (gF (c 9) (c 10) (c 11) (c 13) (c 23) (c 24) (i 8).toInt (i 5).toInt (i 22).toInt)) (h33 : (i 33).toInt = 0) : Met l yX12_whyNot wm_X12_whyNot ({ frames := 4, cells := 0, slots := 0, locals := 93 }) (va_Pc [.ref o, .int v1, .int w1, .int w2] (pB D sz (mW o a t i q c d) (mT t))) (va_Qi (fun (r : Int32) (u : MS) => ((0 ≤ r.toInt ∧ r.toInt ≤ 21) ∧ (Im (r.toInt = 0) (AC (c 3) (c 6) (c 9) (c 10) (c 11) (c 12) (c 13) (c 23) (c 24) (c 44) (i 8).toInt (i 5).toInt (i 22).toInt v1.toInt w1.toInt w2.toInt))) ∧ mInv u.1 u.2.2.1 ∧ (∀ k, k ∉ ([16, 17, 18, 19, 36] : List Nat) → u.1 k = i k) ∧ (∀ k, k ∉ ([38, 39] : List Nat) → u.2.2.1 k = c k)) (oC D (va_A (mW o a t i q c d) sz) (fun u : MS => mW o a t u.1 u.2.1 u.2.2.1 u.2.2.2) (fun _ => [])) (va_A (mW o a t i q c d) sz)) 0 0 (va_A (mW o a t i q c d) sz) := by
  refine Met.ofW (cc := cX12_whyNot) (maxL := 4) (ret := (some .int)) (by decide +kernel) rfl ?_
  intro p e s m args below meth cd s₁ B hml hv
  obtain ⟨rfl, hsz, hP, hK, hD0⟩ := hv
  have hx := B.exec
  have hb := B.bytes
  have hr := B.returns
  have hts := atoms_spec (ws := wm_X12_whyNot) B.pre
  have hown : s.vm.findClass RX12 = some m.cls := findClass_of_methodNamed B.named
  have hlocks := B.notSynchronized
  subst hsz
  have hD := hD0.self (sz := s.heap.size)
  generalize hAe : va_A (mW o a t i q c d) s.heap.size = A at hD ⊢
  have hA : ∀ q : Nat, s.heap.size ≤ q → A q := fun q h => by rw [← hAe]; exact Or.inr h
  have hS : va_S A s.heap s.heap [] := va_S.rf
  have hfi : ∀ k, k ∉ ([] : List Nat) → i k = i k := fun _ _ => rfl
  have hfc : ∀ k, k ∉ ([] : List Nat) → c k = c k := fun _ _ => rfl
  have hl := lv_entry ([.ref o, .int v1, .int w1, .int w2]) (n := 4) (Nat.le_of_ble_eq_true rfl)
  rw [lg_entry_eq]
  generalize (lg_sl ([.ref o, .int v1, .int w1, .int w2]) ++ List.replicate (4 - (lg_sl ([.ref o, .int v1, .int w1, .int w2])).length) Slot.unset).toArray = ls at hl ⊢
  have hl : lv_has ls 4 [(0, .ref o), (1, .int v1), (2, .int w1), (3, .int w2)] := hl
  have rb5_i : 0 ≤ (i 5).toInt ∧ (i 5).toInt ≤ 30 := hI.1 5
  refine lv_iload_n hx hb dX12_whyNot_0 rfl (lv_at hl 1 rfl) ?_
  rcases (show (v1.toInt < 0 ∨ 11 < v1.toInt) ∨ v1.toInt = 0 ∨ v1.toInt = 1 ∨ v1.toInt = 2 ∨ v1.toInt = 3 ∨ v1.toInt = 4 ∨ v1.toInt = 5 ∨ v1.toInt = 6 ∨ v1.toInt = 7 ∨ v1.toInt = 8 ∨ v1.toInt = 9 ∨ v1.toInt = 10 ∨ v1.toInt = 11 by omega) with f1 | f1 | f1 | f1 | f1 | f1 | f1 | f1 | f1 | f1 | f1 | f1 | f1
  · refine lv_tableOut (tgt := 157) hx hb dX12_whyNot_1 f1 (by decide +kernel) ?_
    refine lv_iconst (v := 0) hx hb dX12_whyNot_157 (by decide +kernel) ?_
    exact rw_iret (i, q, c, d) hx hb hr hlocks hS (hK.sub (tys' := []) [] rfl) hP hD dX12_whyNot_158 ⟨⟨(show 0 ≤ (0 : Int32).toInt ∧ (0 : Int32).toInt ≤ 21 from by decide +kernel), (show Im ((0 : Int32).toInt = 0) (AC (c 3) (c 6) (c 9) (c 10) (c 11) (c 12) (c 13) (c 23) (c 24) (c 44) (i 8).toInt (i 5).toInt (i 22).toInt v1.toInt w1.toInt w2.toInt) from fun h9 => ⟨fun e9 => by first | (exfalso; omega) | exact hI h9, fun e9 => by first | (exfalso; omega) | exact hI h9, fun e9 => by first | (exfalso; omega) | exact hI (by omega) | exact ⟨(hI h9).1, (hI h9).2.1⟩, fun e9 => by first | (exfalso; omega) | exact ⟨(hI h9).2.2.1, (hI h9).2.2.2⟩, fun e9 => by first | (exfalso; omega) | exact hI h9, fun e9 => by first | (exfalso; omega) | exact hI h9⟩)⟩, hI, fr_w hfi (by decide +kernel), fr_w hfc (by decide +kernel)⟩
  · refine lv_tableIn (off := 63) (tgt := 64) hx hb dX12_whyNot_1 (by omega) (by omega) (by rw [f1]; rfl) (by decide +kernel) ?_
    refine lv_aload_n hx hb dX12_whyNot_64 rfl (lv_at hl 0 rfl) ?_
    refine lv_iload_n hx hb dX12_whyNot_65 rfl (lv_at hl 2 rfl) ?_
    have rb8_i : 0 ≤ (i 8).toInt ∧ (i 8).toInt ≤ 200 := hI.1 8
    have rb22_i : (i 22).toInt = -9 ∨ (0 ≤ (i 22).toInt ∧ (i 22).toInt ≤ 29) := hI.1 22
    refine al_calli (va_runV (As := [.int w1]) (rest := []) ⟨hx, hb, hml, hown, hts⟩ (s_X12_whyNotGo l D s.heap.size o a t i q c d w1 hI (show 0 ≤ w1.toInt ∧ w1.toInt ≤ 9 from by omega) hs_T) (cwV 1 hts gm_X12_whyNot_X12_whyNotGo rfl rfl rfl (by decide +kernel) ⟨Nat.le_of_ble_eq_true rfl, Nat.le_of_ble_eq_true rfl⟩) (pB_V hK hP hD (ci := 12) (q0 := 0) rfl rfl) rfl rfl hl.1 rfl (lv_room (Nat.le_of_ble_eq_true rfl)) dX12_whyNot_66 ⟨Nat.le_of_ble_eq_true rfl, Nat.le_of_ble_eq_true rfl⟩) hS hA hP hD (fun r2 u2 H locs hw2 hP hD hS => ?_)
    obtain ⟨i2, q2, c2, d2⟩ := u2
    have hw2 : ((0 ≤ r2.toInt ∧ r2.toInt ≤ 3) ∧ (Im (r2.toInt = 0) (∃ v, LdR (c 3) (c 6) (c 9) (c 10) (c 11) (c 12) (c 13) (i 8).toInt (c 24 (i 22).toInt.toNat).toInt w1.toInt v ∧ ¬ v = -9))) ∧ mInv i2 c2 ∧ (∀ k, k ∉ ([16, 17, 18, 19] : List Nat) → i2 k = i k) ∧ (∀ k, k ∉ ([] : List Nat) → c2 k = c k) := hw2
    obtain ⟨hw2, hI, hei2, hec2⟩ := hw2
    obtain ⟨hw2, hr2_0⟩ := hw2
    have hr2_0 : Im (r2.toInt = 0) (∃ v, LdR (c 3) (c 6) (c 9) (c 10) (c 11) (c 12) (c 13) (i 8).toInt (c 24 (i 22).toInt.toNat).toInt w1.toInt v ∧ ¬ v = -9) := hr2_0
    have hfi : ∀ k, k ∉ ([16, 17, 18, 19] : List Nat) → i2 k = i k := fr_z hfi hei2 (by decide +kernel) (by decide +kernel)
    have hfc : ∀ k, k ∉ ([] : List Nat) → c2 k = c k := fr_z hfc hec2 (by decide +kernel) (by decide +kernel)
    have hP : va_P D vwCl (mW o a t i2 q2 c2 d2) H := hP
    have hD : va_D A (mW o a t i2 q2 c2 d2) := hD
    exact rw_iret (i2, q2, c2, d2) hx hb hr hlocks hS (hK.sub (tys' := []) [] rfl) hP hD dX12_whyNot_69 ⟨⟨(show 0 ≤ r2.toInt ∧ r2.toInt ≤ 21 from by omega), (show Im (r2.toInt = 0) (AC (c 3) (c 6) (c 9) (c 10) (c 11) (c 12) (c 13) (c 23) (c 24) (c 44) (i 8).toInt (i 5).toInt (i 22).toInt v1.toInt w1.toInt w2.toInt) from fun h9 => ⟨fun e9 => by first | (exfalso; omega) | exact hr2_0 h9, fun e9 => by first | (exfalso; omega) | exact hr2_0 h9, fun e9 => by first | (exfalso; omega) | exact hr2_0 (by omega) | exact ⟨(hr2_0 h9).1, (hr2_0 h9).2.1⟩, fun e9 => by first | (exfalso; omega) | exact ⟨(hr2_0 h9).2.2.1, (hr2_0 h9).2.2.2⟩, fun e9 => by first | (exfalso; omega) | exact hr2_0 h9, fun e9 => by first | (exfalso; omega) | exact hr2_0 h9⟩)⟩, hI, fr_w hfi (by decide +kernel), fr_w hfc (by decide +kernel)⟩
  · refine lv_tableIn (off := 69) (tgt := 70) hx hb dX12_whyNot_1 (by omega) (by omega) (by rw [f1]; rfl) (by decide +kernel) ?_
    refine lv_aload_n hx hb dX12_whyNot_70 rfl (lv_at hl 0 rfl) ?_
    refine lv_iload_n hx hb dX12_whyNot_71 rfl (lv_at hl 2 rfl) ?_
    have rb8_i : 0 ≤ (i 8).toInt ∧ (i 8).toInt ≤ 200 := hI.1 8
    have rb22_i : (i 22).toInt = -9 ∨ (0 ≤ (i 22).toInt ∧ (i 22).toInt ≤ 29) := hI.1 22
    have rb33_i : 0 ≤ (i 33).toInt ∧ (i 33).toInt ≤ 1 := hI.1 33
    refine al_calli (va_runV (As := [.int w1]) (rest := []) ⟨hx, hb, hml, hown, hts⟩ (s_X12_whyNotTake_0 l D s.heap.size o a t i q c d w1 hI (show 0 ≤ w1.toInt ∧ w1.toInt < ((i 5) : Int32).toInt from by omega) hs_T hs_G (show ((i 33) : Int32).toInt = 0 from by omega)) (cwV 1 hts gm_X12_whyNot_X12_whyNotTake rfl rfl rfl (by decide +kernel) ⟨Nat.le_of_ble_eq_true rfl, Nat.le_of_ble_eq_true rfl⟩) (pB_V hK hP hD (ci := 12) (q0 := 0) rfl rfl) rfl rfl hl.1 rfl (lv_room (Nat.le_of_ble_eq_true rfl)) dX12_whyNot_72 ⟨Nat.le_of_ble_eq_true rfl, Nat.le_of_ble_eq_true rfl⟩) hS hA hP hD (fun r3 u3 H locs hw3 hP hD hS => ?_)
    obtain ⟨i3, q3, c3, d3⟩ := u3
    have hw3 : ((0 ≤ r3.toInt ∧ r3.toInt ≤ 10) ∧ (Im (r3.toInt = 0) (¬ w1.toInt = (i 22).toInt ∧ ¬ Ch (nF (i 5).toInt (c 23) (c 24)) (nF (i 5).toInt (c 23) (c 24) (i 22).toInt) w1.toInt ∧ Kd (c 3) (c 6) w1.toInt 1))) ∧ mInv i3 c3 ∧ (∀ k, k ∉ ([36] : List Nat) → i3 k = i k) ∧ (∀ k, k ∉ ([38, 39] : List Nat) → c3 k = c k) := hw3
    obtain ⟨hw3, hI, hei3, hec3⟩ := hw3
    obtain ⟨hw3, hr3_0⟩ := hw3
    have hr3_0 : Im (r3.toInt = 0) (¬ w1.toInt = (i 22).toInt ∧ ¬ Ch (nF (i 5).toInt (c 23) (c 24)) (nF (i 5).toInt (c 23) (c 24) (i 22).toInt) w1.toInt ∧ Kd (c 3) (c 6) w1.toInt 1) := hr3_0
    have hfi : ∀ k, k ∉ ([36] : List Nat) → i3 k = i k := fr_z hfi hei3 (by decide +kernel) (by decide +kernel)
    have hfc : ∀ k, k ∉ ([38, 39] : List Nat) → c3 k = c k := fr_z hfc hec3 (by decide +kernel) (by decide +kernel)
    have hP : va_P D vwCl (mW o a t i3 q3 c3 d3) H := hP
    have hD : va_D A (mW o a t i3 q3 c3 d3) := hD
    exact rw_iret (i3, q3, c3, d3) hx hb hr hlocks hS (hK.sub (tys' := []) [] rfl) hP hD dX12_whyNot_75 ⟨⟨(show 0 ≤ r3.toInt ∧ r3.toInt ≤ 21 from by omega), (show Im (r3.toInt = 0) (AC (c 3) (c 6) (c 9) (c 10) (c 11) (c 12) (c 13) (c 23) (c 24) (c 44) (i 8).toInt (i 5).toInt (i 22).toInt v1.toInt w1.toInt w2.toInt) from fun h9 => ⟨fun e9 => by first | (exfalso; omega) | exact hr3_0 h9, fun e9 => by first | (exfalso; omega) | exact hr3_0 h9, fun e9 => by first | (exfalso; omega) | exact hr3_0 (by omega) | exact ⟨(hr3_0 h9).1, (hr3_0 h9).2.1⟩, fun e9 => by first | (exfalso; omega) | exact ⟨(hr3_0 h9).2.2.1, (hr3_0 h9).2.2.2⟩, fun e9 => by first | (exfalso; omega) | exact hr3_0 h9, fun e9 => by first | (exfalso; omega) | exact hr3_0 h9⟩)⟩, hI, fr_w hfi (by decide +kernel), fr_w hfc (by decide +kernel)⟩
  · refine lv_tableIn (off := 75) (tgt := 76) hx hb dX12_whyNot_1 (by omega) (by omega) (by rw [f1]; rfl) (by decide +kernel) ?_
    refine lv_aload_n hx hb dX12_whyNot_76 rfl (lv_at hl 0 rfl) ?_
    refine lv_iload_n hx hb dX12_whyNot_77 rfl (lv_at hl 2 rfl) ?_
    have rb22_i : (i 22).toInt = -9 ∨ (0 ≤ (i 22).toInt ∧ (i 22).toInt ≤ 29) := hI.1 22
    refine ro_calli (va_runV (As := [.int w1]) (rest := []) ⟨hx, hb, hml, hown, hts⟩ (s_X12_holds l D s.heap.size o a t i q c d w1 hI (show 0 ≤ w1.toInt ∧ w1.toInt ≤ 29 from by omega)) (cwV 1 hts gm_X12_whyNot_X12_holds rfl rfl rfl (by decide +kernel) ⟨Nat.le_of_ble_eq_true rfl, Nat.le_of_ble_eq_true rfl⟩) (pA_V hK hP (ci := 12) (q0 := 0) rfl rfl) rfl rfl hl.1 rfl (lv_room (Nat.le_of_ble_eq_true rfl)) dX12_whyNot_78 ⟨Nat.le_of_ble_eq_true rfl, Nat.le_of_ble_eq_true rfl⟩) hS hA hP (fun r4 u4 H locs hw4 hP hS => ?_)
    have hw4 : ((0 ≤ r4.toInt ∧ r4.toInt ≤ 1) ∧ (Im (r4.toInt = 1) ((c 23 w1.toNatClampNeg).toInt = 2 ∧ (c 24 w1.toNatClampNeg).toInt = (i 22).toInt))) := hw4
    obtain ⟨hw4, hr4_0⟩ := hw4
    have hr4_0 : Im (r4.toInt = 1) ((c 23 w1.toNatClampNeg).toInt = 2 ∧ (c 24 w1.toNatClampNeg).toInt = (i 22).toInt) := hr4_0
    refine lv_if_eq (tgt := 88) hx hb dX12_whyNot_81 (by decide +kernel) (fun c5 => ?_) (fun c5 => ?_)
    · have f5 := (ti_eq (a := r4.toInt) (b := 0) rfl (by decide +kernel)).mp c5
      refine lv_bipush (v := 11) hx hb dX12_whyNot_88 (by decide +kernel) ?_
      exact rw_iret (i, q, c, d) hx hb hr hlocks hS (hK.sub (tys' := []) [] rfl) hP hD dX12_whyNot_90 ⟨⟨(show 0 ≤ (11 : Int32).toInt ∧ (11 : Int32).toInt ≤ 21 from by decide +kernel), (show Im ((11 : Int32).toInt = 0) (AC (c 3) (c 6) (c 9) (c 10) (c 11) (c 12) (c 13) (c 23) (c 24) (c 44) (i 8).toInt (i 5).toInt (i 22).toInt v1.toInt w1.toInt w2.toInt) from fun h9 => absurd h9 (by decide +kernel))⟩, hI, fr_w hfi (by decide +kernel), fr_w hfc (by decide +kernel)⟩
    · have f5 := mt (ti_eq (a := r4.toInt) (b := 0) rfl (by decide +kernel)).mpr c5
      refine lv_iconst (v := 0) hx hb dX12_whyNot_84 (by decide +kernel) ?_
      refine lv_goto (tgt := 90) hx hb dX12_whyNot_85 (by decide +kernel) ?_
      exact rw_iret (i, q, c, d) hx hb hr hlocks hS (hK.sub (tys' := []) [] rfl) hP hD dX12_whyNot_90 ⟨⟨(show 0 ≤ (0 : Int32).toInt ∧ (0 : Int32).toInt ≤ 21 from by decide +kernel), (show Im ((0 : Int32).toInt = 0) (AC (c 3) (c 6) (c 9) (c 10) (c 11) (c 12) (c 13) (c 23) (c 24) (c 44) (i 8).toInt (i 5).toInt (i 22).toInt v1.toInt w1.toInt w2.toInt) from fun h9 => ⟨fun e9 => by first | (exfalso; omega) | exact hr4_0 h9, fun e9 => by first | (exfalso; omega) | exact hr4_0 h9, fun e9 => by first | (exfalso; omega) | exact hr4_0 (by omega) | exact ⟨(hr4_0 h9).1, (hr4_0 h9).2.1⟩, fun e9 => by first | (exfalso; omega) | exact ⟨(hr4_0 h9).2.2.1, (hr4_0 h9).2.2.2⟩, fun e9 => by first | (exfalso; omega) | exact hr4_0 h9, fun e9 => by first | (exfalso; omega) | exact hr4_0 h9⟩)⟩, hI, fr_w hfi (by decide +kernel), fr_w hfc (by decide +kernel)⟩
  · refine lv_tableIn (off := 90) (tgt := 91) hx hb dX12_whyNot_1 (by omega) (by omega) (by rw [f1]; rfl) (by decide +kernel) ?_
    refine lv_aload_n hx hb dX12_whyNot_91 rfl (lv_at hl 0 rfl) ?_
    refine lv_iload_n hx hb dX12_whyNot_92 rfl (lv_at hl 2 rfl) ?_
    refine lv_iload_n hx hb dX12_whyNot_93 rfl (lv_at hl 3 rfl) ?_
    refine lv_iload_n hx hb dX12_whyNot_94 rfl (lv_at hl 1 rfl) ?_
    refine lv_iconst (v := 3) hx hb dX12_whyNot_95 (by decide +kernel) ?_
    refine lv_icmp_ne (tgt := 103) hx hb dX12_whyNot_96 (by decide +kernel) (fun c6 => ?_) (fun c6 => ?_)
    · have f6 := mt (ti_eq (a := v1.toInt) (b := 3) rfl (by decide +kernel)).mpr c6
      refine lv_iconst (v := 0) hx hb dX12_whyNot_103 (by decide +kernel) ?_
      have rb22_i : (i 22).toInt = -9 ∨ (0 ≤ (i 22).toInt ∧ (i 22).toInt ≤ 29) := hI.1 22
      refine ro_calli (va_runV (As := [.int w1, .int w2, .int 0]) (rest := []) ⟨hx, hb, hml, hown, hts⟩ (s_X12_whyNotPut l D s.heap.size o a t i q c d w1 w2 0 hI (show 0 ≤ w1.toInt ∧ w1.toInt < ((i 5) : Int32).toInt from by have h92 : (0 : Int32).toInt = 0 := (by decide +kernel); omega) (show 0 ≤ w2.toInt ∧ w2.toInt < ((i 5) : Int32).toInt from by have h92 : (0 : Int32).toInt = 0 := (by decide +kernel); omega) hs_T) (cwV 3 hts gm_X12_whyNot_X12_whyNotPut rfl rfl rfl (by decide +kernel) ⟨Nat.le_of_ble_eq_true rfl, Nat.le_of_ble_eq_true rfl⟩) (pA_V hK hP (ci := 12) (q0 := 0) rfl rfl) rfl rfl hl.1 rfl (lv_room (Nat.le_of_ble_eq_true rfl)) dX12_whyNot_104 ⟨Nat.le_of_ble_eq_true rfl, Nat.le_of_ble_eq_true rfl⟩) hS hA hP (fun r7 u7 H locs hw7 hP hS => ?_)
      have hw7 : ((0 ≤ r7.toInt ∧ r7.toInt ≤ 14) ∧ (Im (r7.toInt = 0) ((c 23 w1.toNatClampNeg).toInt = 2 ∧ (c 24 w1.toNatClampNeg).toInt = (i 22).toInt ∧ ¬ w1.toInt = w2.toInt ∧ ¬ Ch (nF (i 5).toInt (c 23) (c 24)) (nF (i 5).toInt (c 23) (c 24) w2.toInt) w1.toInt))) := hw7
      obtain ⟨hw7, hr7_0⟩ := hw7
      have hr7_0 : Im (r7.toInt = 0) ((c 23 w1.toNatClampNeg).toInt = 2 ∧ (c 24 w1.toNatClampNeg).toInt = (i 22).toInt ∧ ¬ w1.toInt = w2.toInt ∧ ¬ Ch (nF (i 5).toInt (c 23) (c 24)) (nF (i 5).toInt (c 23) (c 24) w2.toInt) w1.toInt) := hr7_0
      exact rw_iret (i, q, c, d) hx hb hr hlocks hS (hK.sub (tys' := []) [] rfl) hP hD dX12_whyNot_107 ⟨⟨(show 0 ≤ r7.toInt ∧ r7.toInt ≤ 21 from by omega), (show Im (r7.toInt = 0) (AC (c 3) (c 6) (c 9) (c 10) (c 11) (c 12) (c 13) (c 23) (c 24) (c 44) (i 8).toInt (i 5).toInt (i 22).toInt v1.toInt w1.toInt w2.toInt) from fun h9 => ⟨fun e9 => by first | (exfalso; omega) | exact hr7_0 h9, fun e9 => by first | (exfalso; omega) | exact hr7_0 h9, fun e9 => by first | (exfalso; omega) | exact hr7_0 (by omega) | exact ⟨(hr7_0 h9).1, (hr7_0 h9).2.1⟩, fun e9 => by first | (exfalso; omega) | exact ⟨(hr7_0 h9).2.2.1, (hr7_0 h9).2.2.2⟩, fun e9 => by first | (exfalso; omega) | exact hr7_0 h9, fun e9 => by first | (exfalso; omega) | exact hr7_0 h9⟩)⟩, hI, fr_w hfi (by decide +kernel), fr_w hfc (by decide +kernel)⟩
    · have f6 := (ti_eq (a := v1.toInt) (b := 3) rfl (by decide +kernel)).mp c6
      refine lv_iconst (v := 1) hx hb dX12_whyNot_99 (by decide +kernel) ?_
      refine lv_goto (tgt := 104) hx hb dX12_whyNot_100 (by decide +kernel) ?_
      have rb22_i : (i 22).toInt = -9 ∨ (0 ≤ (i 22).toInt ∧ (i 22).toInt ≤ 29) := hI.1 22
      refine ro_calli (va_runV (As := [.int w1, .int w2, .int 1]) (rest := []) ⟨hx, hb, hml, hown, hts⟩ (s_X12_whyNotPut l D s.heap.size o a t i q c d w1 w2 1 hI (show 0 ≤ w1.toInt ∧ w1.toInt < ((i 5) : Int32).toInt from by have h92 : (1 : Int32).toInt = 1 := (by decide +kernel); omega) (show 0 ≤ w2.toInt ∧ w2.toInt < ((i 5) : Int32).toInt from by have h92 : (1 : Int32).toInt = 1 := (by decide +kernel); omega) hs_T) (cwV 3 hts gm_X12_whyNot_X12_whyNotPut rfl rfl rfl (by decide +kernel) ⟨Nat.le_of_ble_eq_true rfl, Nat.le_of_ble_eq_true rfl⟩) (pA_V hK hP (ci := 12) (q0 := 0) rfl rfl) rfl rfl hl.1 rfl (lv_room (Nat.le_of_ble_eq_true rfl)) dX12_whyNot_104 ⟨Nat.le_of_ble_eq_true rfl, Nat.le_of_ble_eq_true rfl⟩) hS hA hP (fun r8 u8 H locs hw8 hP hS => ?_)
      have hw8 : ((0 ≤ r8.toInt ∧ r8.toInt ≤ 14) ∧ (Im (r8.toInt = 0) ((c 23 w1.toNatClampNeg).toInt = 2 ∧ (c 24 w1.toNatClampNeg).toInt = (i 22).toInt ∧ ¬ w1.toInt = w2.toInt ∧ ¬ Ch (nF (i 5).toInt (c 23) (c 24)) (nF (i 5).toInt (c 23) (c 24) w2.toInt) w1.toInt))) := hw8
      obtain ⟨hw8, hr8_0⟩ := hw8
      have hr8_0 : Im (r8.toInt = 0) ((c 23 w1.toNatClampNeg).toInt = 2 ∧ (c 24 w1.toNatClampNeg).toInt = (i 22).toInt ∧ ¬ w1.toInt = w2.toInt ∧ ¬ Ch (nF (i 5).toInt (c 23) (c 24)) (nF (i 5).toInt (c 23) (c 24) w2.toInt) w1.toInt) := hr8_0
      exact rw_iret (i, q, c, d) hx hb hr hlocks hS (hK.sub (tys' := []) [] rfl) hP hD dX12_whyNot_107 ⟨⟨(show 0 ≤ r8.toInt ∧ r8.toInt ≤ 21 from by omega), (show Im (r8.toInt = 0) (AC (c 3) (c 6) (c 9) (c 10) (c 11) (c 12) (c 13) (c 23) (c 24) (c 44) (i 8).toInt (i 5).toInt (i 22).toInt v1.toInt w1.toInt w2.toInt) from fun h9 => ⟨fun e9 => by first | (exfalso; omega) | exact hr8_0 h9, fun e9 => by first | (exfalso; omega) | exact hr8_0 h9, fun e9 => by first | (exfalso; omega) | exact hr8_0 (by omega) | exact ⟨(hr8_0 h9).1, (hr8_0 h9).2.1⟩, fun e9 => by first | (exfalso; omega) | exact ⟨(hr8_0 h9).2.2.1, (hr8_0 h9).2.2.2⟩, fun e9 => by first | (exfalso; omega) | exact hr8_0 h9, fun e9 => by first | (exfalso; omega) | exact hr8_0 h9⟩)⟩, hI, fr_w hfi (by decide +kernel), fr_w hfc (by decide +kernel)⟩
  · refine lv_tableIn (off := 90) (tgt := 91) hx hb dX12_whyNot_1 (by omega) (by omega) (by rw [f1]; rfl) (by decide +kernel) ?_
    refine lv_aload_n hx hb dX12_whyNot_91 rfl (lv_at hl 0 rfl) ?_
    refine lv_iload_n hx hb dX12_whyNot_92 rfl (lv_at hl 2 rfl) ?_
    refine lv_iload_n hx hb dX12_whyNot_93 rfl (lv_at hl 3 rfl) ?_
    refine lv_iload_n hx hb dX12_whyNot_94 rfl (lv_at hl 1 rfl) ?_
    refine lv_iconst (v := 3) hx hb dX12_whyNot_95 (by decide +kernel) ?_
    refine lv_icmp_ne (tgt := 103) hx hb dX12_whyNot_96 (by decide +kernel) (fun c9 => ?_) (fun c9 => ?_)
    · have f9 := mt (ti_eq (a := v1.toInt) (b := 3) rfl (by decide +kernel)).mpr c9
      refine lv_iconst (v := 0) hx hb dX12_whyNot_103 (by decide +kernel) ?_
      have rb22_i : (i 22).toInt = -9 ∨ (0 ≤ (i 22).toInt ∧ (i 22).toInt ≤ 29) := hI.1 22
      refine ro_calli (va_runV (As := [.int w1, .int w2, .int 0]) (rest := []) ⟨hx, hb, hml, hown, hts⟩ (s_X12_whyNotPut l D s.heap.size o a t i q c d w1 w2 0 hI (show 0 ≤ w1.toInt ∧ w1.toInt < ((i 5) : Int32).toInt from by have h92 : (0 : Int32).toInt = 0 := (by decide +kernel); omega) (show 0 ≤ w2.toInt ∧ w2.toInt < ((i 5) : Int32).toInt from by have h92 : (0 : Int32).toInt = 0 := (by decide +kernel); omega) hs_T) (cwV 3 hts gm_X12_whyNot_X12_whyNotPut rfl rfl rfl (by decide +kernel) ⟨Nat.le_of_ble_eq_true rfl, Nat.le_of_ble_eq_true rfl⟩) (pA_V hK hP (ci := 12) (q0 := 0) rfl rfl) rfl rfl hl.1 rfl (lv_room (Nat.le_of_ble_eq_true rfl)) dX12_whyNot_104 ⟨Nat.le_of_ble_eq_true rfl, Nat.le_of_ble_eq_true rfl⟩) hS hA hP (fun r10 u10 H locs hw10 hP hS => ?_)
      have hw10 : ((0 ≤ r10.toInt ∧ r10.toInt ≤ 14) ∧ (Im (r10.toInt = 0) ((c 23 w1.toNatClampNeg).toInt = 2 ∧ (c 24 w1.toNatClampNeg).toInt = (i 22).toInt ∧ ¬ w1.toInt = w2.toInt ∧ ¬ Ch (nF (i 5).toInt (c 23) (c 24)) (nF (i 5).toInt (c 23) (c 24) w2.toInt) w1.toInt))) := hw10
      obtain ⟨hw10, hr10_0⟩ := hw10
      have hr10_0 : Im (r10.toInt = 0) ((c 23 w1.toNatClampNeg).toInt = 2 ∧ (c 24 w1.toNatClampNeg).toInt = (i 22).toInt ∧ ¬ w1.toInt = w2.toInt ∧ ¬ Ch (nF (i 5).toInt (c 23) (c 24)) (nF (i 5).toInt (c 23) (c 24) w2.toInt) w1.toInt) := hr10_0
      exact rw_iret (i, q, c, d) hx hb hr hlocks hS (hK.sub (tys' := []) [] rfl) hP hD dX12_whyNot_107 ⟨⟨(show 0 ≤ r10.toInt ∧ r10.toInt ≤ 21 from by omega), (show Im (r10.toInt = 0) (AC (c 3) (c 6) (c 9) (c 10) (c 11) (c 12) (c 13) (c 23) (c 24) (c 44) (i 8).toInt (i 5).toInt (i 22).toInt v1.toInt w1.toInt w2.toInt) from fun h9 => ⟨fun e9 => by first | (exfalso; omega) | exact hr10_0 h9, fun e9 => by first | (exfalso; omega) | exact hr10_0 h9, fun e9 => by first | (exfalso; omega) | exact hr10_0 (by omega) | exact ⟨(hr10_0 h9).1, (hr10_0 h9).2.1⟩, fun e9 => by first | (exfalso; omega) | exact ⟨(hr10_0 h9).2.2.1, (hr10_0 h9).2.2.2⟩, fun e9 => by first | (exfalso; omega) | exact hr10_0 h9, fun e9 => by first | (exfalso; omega) | exact hr10_0 h9⟩)⟩, hI, fr_w hfi (by decide +kernel), fr_w hfc (by decide +kernel)⟩
    · have f9 := (ti_eq (a := v1.toInt) (b := 3) rfl (by decide +kernel)).mp c9
      refine lv_iconst (v := 1) hx hb dX12_whyNot_99 (by decide +kernel) ?_
      refine lv_goto (tgt := 104) hx hb dX12_whyNot_100 (by decide +kernel) ?_
      have rb22_i : (i 22).toInt = -9 ∨ (0 ≤ (i 22).toInt ∧ (i 22).toInt ≤ 29) := hI.1 22
      refine ro_calli (va_runV (As := [.int w1, .int w2, .int 1]) (rest := []) ⟨hx, hb, hml, hown, hts⟩ (s_X12_whyNotPut l D s.heap.size o a t i q c d w1 w2 1 hI (show 0 ≤ w1.toInt ∧ w1.toInt < ((i 5) : Int32).toInt from by have h92 : (1 : Int32).toInt = 1 := (by decide +kernel); omega) (show 0 ≤ w2.toInt ∧ w2.toInt < ((i 5) : Int32).toInt from by have h92 : (1 : Int32).toInt = 1 := (by decide +kernel); omega) hs_T) (cwV 3 hts gm_X12_whyNot_X12_whyNotPut rfl rfl rfl (by decide +kernel) ⟨Nat.le_of_ble_eq_true rfl, Nat.le_of_ble_eq_true rfl⟩) (pA_V hK hP (ci := 12) (q0 := 0) rfl rfl) rfl rfl hl.1 rfl (lv_room (Nat.le_of_ble_eq_true rfl)) dX12_whyNot_104 ⟨Nat.le_of_ble_eq_true rfl, Nat.le_of_ble_eq_true rfl⟩) hS hA hP (fun r11 u11 H locs hw11 hP hS => ?_)
      have hw11 : ((0 ≤ r11.toInt ∧ r11.toInt ≤ 14) ∧ (Im (r11.toInt = 0) ((c 23 w1.toNatClampNeg).toInt = 2 ∧ (c 24 w1.toNatClampNeg).toInt = (i 22).toInt ∧ ¬ w1.toInt = w2.toInt ∧ ¬ Ch (nF (i 5).toInt (c 23) (c 24)) (nF (i 5).toInt (c 23) (c 24) w2.toInt) w1.toInt))) := hw11
      obtain ⟨hw11, hr11_0⟩ := hw11
      have hr11_0 : Im (r11.toInt = 0) ((c 23 w1.toNatClampNeg).toInt = 2 ∧ (c 24 w1.toNatClampNeg).toInt = (i 22).toInt ∧ ¬ w1.toInt = w2.toInt ∧ ¬ Ch (nF (i 5).toInt (c 23) (c 24)) (nF (i 5).toInt (c 23) (c 24) w2.toInt) w1.toInt) := hr11_0
      exact rw_iret (i, q, c, d) hx hb hr hlocks hS (hK.sub (tys' := []) [] rfl) hP hD dX12_whyNot_107 ⟨⟨(show 0 ≤ r11.toInt ∧ r11.toInt ≤ 21 from by omega), (show Im (r11.toInt = 0) (AC (c 3) (c 6) (c 9) (c 10) (c 11) (c 12) (c 13) (c 23) (c 24) (c 44) (i 8).toInt (i 5).toInt (i 22).toInt v1.toInt w1.toInt w2.toInt) from fun h9 => ⟨fun e9 => by first | (exfalso; omega) | exact hr11_0 h9, fun e9 => by first | (exfalso; omega) | exact hr11_0 h9, fun e9 => by first | (exfalso; omega) | exact hr11_0 (by omega) | exact ⟨(hr11_0 h9).1, (hr11_0 h9).2.1⟩, fun e9 => by first | (exfalso; omega) | exact ⟨(hr11_0 h9).2.2.1, (hr11_0 h9).2.2.2⟩, fun e9 => by first | (exfalso; omega) | exact hr11_0 h9, fun e9 => by first | (exfalso; omega) | exact hr11_0 h9⟩)⟩, hI, fr_w hfi (by decide +kernel), fr_w hfc (by decide +kernel)⟩
  · refine lv_tableIn (off := 107) (tgt := 108) hx hb dX12_whyNot_1 (by omega) (by omega) (by rw [f1]; rfl) (by decide +kernel) ?_
    refine lv_aload_n hx hb dX12_whyNot_108 rfl (lv_at hl 0 rfl) ?_
    refine lv_iload_n hx hb dX12_whyNot_109 rfl (lv_at hl 1 rfl) ?_
    refine lv_iload_n hx hb dX12_whyNot_110 rfl (lv_at hl 2 rfl) ?_
    refine lv_iload_n hx hb dX12_whyNot_111 rfl (lv_at hl 3 rfl) ?_
    refine ro_calli (va_runV (As := [.int v1, .int w1, .int w2]) (rest := []) ⟨hx, hb, hml, hown, hts⟩ (s_X12_whyNotTurn l D s.heap.size o a t i q c d v1 w1 w2 hI (show 0 ≤ w1.toInt ∧ w1.toInt ≤ 29 from by omega) (show v1.toInt = 7 ∨ v1.toInt = 8 → 0 ≤ w2.toInt ∧ w2.toInt ≤ 29 from by omega) (show 5 ≤ v1.toInt ∧ v1.toInt ≤ 8 from by omega)) (cwV 3 hts gm_X12_whyNot_X12_whyNotTurn rfl rfl rfl (by decide +kernel) ⟨Nat.le_of_ble_eq_true rfl, Nat.le_of_ble_eq_true rfl⟩) (pA_V hK hP (ci := 12) (q0 := 0) rfl rfl) rfl rfl hl.1 rfl (lv_room (Nat.le_of_ble_eq_true rfl)) dX12_whyNot_112 ⟨Nat.le_of_ble_eq_true rfl, Nat.le_of_ble_eq_true rfl⟩) hS hA hP (fun r12 u12 H locs hw12 hP hS => ?_)
    have hw12 : (0 ≤ r12.toInt ∧ r12.toInt ≤ 18) := hw12
    exact rw_iret (i, q, c, d) hx hb hr hlocks hS (hK.sub (tys' := []) [] rfl) hP hD dX12_whyNot_115 ⟨⟨(show 0 ≤ r12.toInt ∧ r12.toInt ≤ 21 from by omega), (show Im (r12.toInt = 0) (AC (c 3) (c 6) (c 9) (c 10) (c 11) (c 12) (c 13) (c 23) (c 24) (c 44) (i 8).toInt (i 5).toInt (i 22).toInt v1.toInt w1.toInt w2.toInt) from fun h9 => ⟨fun e9 => by first | (exfalso; omega) | exact hr12_0 h9, fun e9 => by first | (exfalso; omega) | exact hr12_0 h9, fun e9 => by first | (exfalso; omega) | exact hr12_0 (by omega) | exact ⟨(hr12_0 h9).1, (hr12_0 h9).2.1⟩, fun e9 => by first | (exfalso; omega) | exact ⟨(hr12_0 h9).2.2.1, (hr12_0 h9).2.2.2⟩, fun e9 => by first | (exfalso; omega) | exact hr12_0 h9, fun e9 => by first | (exfalso; omega) | exact hr12_0 h9⟩)⟩, hI, fr_w hfi (by decide +kernel), fr_w hfc (by decide +kernel)⟩
  · refine lv_tableIn (off := 107) (tgt := 108) hx hb dX12_whyNot_1 (by omega) (by omega) (by rw [f1]; rfl) (by decide +kernel) ?_
    refine lv_aload_n hx hb dX12_whyNot_108 rfl (lv_at hl 0 rfl) ?_
    refine lv_iload_n hx hb dX12_whyNot_109 rfl (lv_at hl 1 rfl) ?_
    refine lv_iload_n hx hb dX12_whyNot_110 rfl (lv_at hl 2 rfl) ?_
    refine lv_iload_n hx hb dX12_whyNot_111 rfl (lv_at hl 3 rfl) ?_
    refine ro_calli (va_runV (As := [.int v1, .int w1, .int w2]) (rest := []) ⟨hx, hb, hml, hown, hts⟩ (s_X12_whyNotTurn l D s.heap.size o a t i q c d v1 w1 w2 hI (show 0 ≤ w1.toInt ∧ w1.toInt ≤ 29 from by omega) (show v1.toInt = 7 ∨ v1.toInt = 8 → 0 ≤ w2.toInt ∧ w2.toInt ≤ 29 from by omega) (show 5 ≤ v1.toInt ∧ v1.toInt ≤ 8 from by omega)) (cwV 3 hts gm_X12_whyNot_X12_whyNotTurn rfl rfl rfl (by decide +kernel) ⟨Nat.le_of_ble_eq_true rfl, Nat.le_of_ble_eq_true rfl⟩) (pA_V hK hP (ci := 12) (q0 := 0) rfl rfl) rfl rfl hl.1 rfl (lv_room (Nat.le_of_ble_eq_true rfl)) dX12_whyNot_112 ⟨Nat.le_of_ble_eq_true rfl, Nat.le_of_ble_eq_true rfl⟩) hS hA hP (fun r13 u13 H locs hw13 hP hS => ?_)
    have hw13 : (0 ≤ r13.toInt ∧ r13.toInt ≤ 18) := hw13
    exact rw_iret (i, q, c, d) hx hb hr hlocks hS (hK.sub (tys' := []) [] rfl) hP hD dX12_whyNot_115 ⟨⟨(show 0 ≤ r13.toInt ∧ r13.toInt ≤ 21 from by omega), (show Im (r13.toInt = 0) (AC (c 3) (c 6) (c 9) (c 10) (c 11) (c 12) (c 13) (c 23) (c 24) (c 44) (i 8).toInt (i 5).toInt (i 22).toInt v1.toInt w1.toInt w2.toInt) from fun h9 => ⟨fun e9 => by first | (exfalso; omega) | exact hr13_0 h9, fun e9 => by first | (exfalso; omega) | exact hr13_0 h9, fun e9 => by first | (exfalso; omega) | exact hr13_0 (by omega) | exact ⟨(hr13_0 h9).1, (hr13_0 h9).2.1⟩, fun e9 => by first | (exfalso; omega) | exact ⟨(hr13_0 h9).2.2.1, (hr13_0 h9).2.2.2⟩, fun e9 => by first | (exfalso; omega) | exact hr13_0 h9, fun e9 => by first | (exfalso; omega) | exact hr13_0 h9⟩)⟩, hI, fr_w hfi (by decide +kernel), fr_w hfc (by decide +kernel)⟩
  · refine lv_tableIn (off := 107) (tgt := 108) hx hb dX12_whyNot_1 (by omega) (by omega) (by rw [f1]; rfl) (by decide +kernel) ?_
    refine lv_aload_n hx hb dX12_whyNot_108 rfl (lv_at hl 0 rfl) ?_
    refine lv_iload_n hx hb dX12_whyNot_109 rfl (lv_at hl 1 rfl) ?_
    refine lv_iload_n hx hb dX12_whyNot_110 rfl (lv_at hl 2 rfl) ?_
    refine lv_iload_n hx hb dX12_whyNot_111 rfl (lv_at hl 3 rfl) ?_
    refine ro_calli (va_runV (As := [.int v1, .int w1, .int w2]) (rest := []) ⟨hx, hb, hml, hown, hts⟩ (s_X12_whyNotTurn l D s.heap.size o a t i q c d v1 w1 w2 hI (show 0 ≤ w1.toInt ∧ w1.toInt ≤ 29 from by omega) (show v1.toInt = 7 ∨ v1.toInt = 8 → 0 ≤ w2.toInt ∧ w2.toInt ≤ 29 from by omega) (show 5 ≤ v1.toInt ∧ v1.toInt ≤ 8 from by omega)) (cwV 3 hts gm_X12_whyNot_X12_whyNotTurn rfl rfl rfl (by decide +kernel) ⟨Nat.le_of_ble_eq_true rfl, Nat.le_of_ble_eq_true rfl⟩) (pA_V hK hP (ci := 12) (q0 := 0) rfl rfl) rfl rfl hl.1 rfl (lv_room (Nat.le_of_ble_eq_true rfl)) dX12_whyNot_112 ⟨Nat.le_of_ble_eq_true rfl, Nat.le_of_ble_eq_true rfl⟩) hS hA hP (fun r14 u14 H locs hw14 hP hS => ?_)
    have hw14 : (0 ≤ r14.toInt ∧ r14.toInt ≤ 18) := hw14
    exact rw_iret (i, q, c, d) hx hb hr hlocks hS (hK.sub (tys' := []) [] rfl) hP hD dX12_whyNot_115 ⟨⟨(show 0 ≤ r14.toInt ∧ r14.toInt ≤ 21 from by omega), (show Im (r14.toInt = 0) (AC (c 3) (c 6) (c 9) (c 10) (c 11) (c 12) (c 13) (c 23) (c 24) (c 44) (i 8).toInt (i 5).toInt (i 22).toInt v1.toInt w1.toInt w2.toInt) from fun h9 => ⟨fun e9 => by first | (exfalso; omega) | exact hr14_0 h9, fun e9 => by first | (exfalso; omega) | exact hr14_0 h9, fun e9 => by first | (exfalso; omega) | exact hr14_0 (by omega) | exact ⟨(hr14_0 h9).1, (hr14_0 h9).2.1⟩, fun e9 => by first | (exfalso; omega) | exact ⟨(hr14_0 h9).2.2.1, (hr14_0 h9).2.2.2⟩, fun e9 => by first | (exfalso; omega) | exact hr14_0 h9, fun e9 => by first | (exfalso; omega) | exact hr14_0 h9⟩)⟩, hI, fr_w hfi (by decide +kernel), fr_w hfc (by decide +kernel)⟩
  · refine lv_tableIn (off := 107) (tgt := 108) hx hb dX12_whyNot_1 (by omega) (by omega) (by rw [f1]; rfl) (by decide +kernel) ?_
    refine lv_aload_n hx hb dX12_whyNot_108 rfl (lv_at hl 0 rfl) ?_
    refine lv_iload_n hx hb dX12_whyNot_109 rfl (lv_at hl 1 rfl) ?_
    refine lv_iload_n hx hb dX12_whyNot_110 rfl (lv_at hl 2 rfl) ?_
    refine lv_iload_n hx hb dX12_whyNot_111 rfl (lv_at hl 3 rfl) ?_
    refine ro_calli (va_runV (As := [.int v1, .int w1, .int w2]) (rest := []) ⟨hx, hb, hml, hown, hts⟩ (s_X12_whyNotTurn l D s.heap.size o a t i q c d v1 w1 w2 hI (show 0 ≤ w1.toInt ∧ w1.toInt ≤ 29 from by omega) (show v1.toInt = 7 ∨ v1.toInt = 8 → 0 ≤ w2.toInt ∧ w2.toInt ≤ 29 from by omega) (show 5 ≤ v1.toInt ∧ v1.toInt ≤ 8 from by omega)) (cwV 3 hts gm_X12_whyNot_X12_whyNotTurn rfl rfl rfl (by decide +kernel) ⟨Nat.le_of_ble_eq_true rfl, Nat.le_of_ble_eq_true rfl⟩) (pA_V hK hP (ci := 12) (q0 := 0) rfl rfl) rfl rfl hl.1 rfl (lv_room (Nat.le_of_ble_eq_true rfl)) dX12_whyNot_112 ⟨Nat.le_of_ble_eq_true rfl, Nat.le_of_ble_eq_true rfl⟩) hS hA hP (fun r15 u15 H locs hw15 hP hS => ?_)
    have hw15 : (0 ≤ r15.toInt ∧ r15.toInt ≤ 18) := hw15
    exact rw_iret (i, q, c, d) hx hb hr hlocks hS (hK.sub (tys' := []) [] rfl) hP hD dX12_whyNot_115 ⟨⟨(show 0 ≤ r15.toInt ∧ r15.toInt ≤ 21 from by omega), (show Im (r15.toInt = 0) (AC (c 3) (c 6) (c 9) (c 10) (c 11) (c 12) (c 13) (c 23) (c 24) (c 44) (i 8).toInt (i 5).toInt (i 22).toInt v1.toInt w1.toInt w2.toInt) from fun h9 => ⟨fun e9 => by first | (exfalso; omega) | exact hr15_0 h9, fun e9 => by first | (exfalso; omega) | exact hr15_0 h9, fun e9 => by first | (exfalso; omega) | exact hr15_0 (by omega) | exact ⟨(hr15_0 h9).1, (hr15_0 h9).2.1⟩, fun e9 => by first | (exfalso; omega) | exact ⟨(hr15_0 h9).2.2.1, (hr15_0 h9).2.2.2⟩, fun e9 => by first | (exfalso; omega) | exact hr15_0 h9, fun e9 => by first | (exfalso; omega) | exact hr15_0 h9⟩)⟩, hI, fr_w hfi (by decide +kernel), fr_w hfc (by decide +kernel)⟩
  · refine lv_tableIn (off := 115) (tgt := 116) hx hb dX12_whyNot_1 (by omega) (by omega) (by rw [f1]; rfl) (by decide +kernel) ?_
    refine lv_aload_n hx hb dX12_whyNot_116 rfl (lv_at hl 0 rfl) ?_
    refine lv_iload_n hx hb dX12_whyNot_117 rfl (lv_at hl 2 rfl) ?_
    have rb22_i : (i 22).toInt = -9 ∨ (0 ≤ (i 22).toInt ∧ (i 22).toInt ≤ 29) := hI.1 22
    refine ro_calli (va_runV (As := [.int w1]) (rest := []) ⟨hx, hb, hml, hown, hts⟩ (s_X12_holds l D s.heap.size o a t i q c d w1 hI (show 0 ≤ w1.toInt ∧ w1.toInt ≤ 29 from by omega)) (cwV 1 hts gm_X12_whyNot_X12_holds rfl rfl rfl (by decide +kernel) ⟨Nat.le_of_ble_eq_true rfl, Nat.le_of_ble_eq_true rfl⟩) (pA_V hK hP (ci := 12) (q0 := 0) rfl rfl) rfl rfl hl.1 rfl (lv_room (Nat.le_of_ble_eq_true rfl)) dX12_whyNot_118 ⟨Nat.le_of_ble_eq_true rfl, Nat.le_of_ble_eq_true rfl⟩) hS hA hP (fun r16 u16 H locs hw16 hP hS => ?_)
    have hw16 : ((0 ≤ r16.toInt ∧ r16.toInt ≤ 1) ∧ (Im (r16.toInt = 1) ((c 23 w1.toNatClampNeg).toInt = 2 ∧ (c 24 w1.toNatClampNeg).toInt = (i 22).toInt))) := hw16
    obtain ⟨hw16, hr16_0⟩ := hw16
    have hr16_0 : Im (r16.toInt = 1) ((c 23 w1.toNatClampNeg).toInt = 2 ∧ (c 24 w1.toNatClampNeg).toInt = (i 22).toInt) := hr16_0
    refine lv_if_ne (tgt := 129) hx hb dX12_whyNot_121 (by decide +kernel) (fun c17 => ?_) (fun c17 => ?_)
    · have f17 := mt (ti_eq (a := r16.toInt) (b := 0) rfl (by decide +kernel)).mpr c17
      refine lv_aload_n hx hb dX12_whyNot_129 rfl (lv_at hl 0 rfl) ?_
      refine lv_iload_n hx hb dX12_whyNot_130 rfl (lv_at hl 2 rfl) ?_
      refine lv_iconst (v := 4) hx hb dX12_whyNot_131 (by decide +kernel) ?_
      refine ro_calli (va_runV (As := [.int w1, .int 4]) (rest := []) ⟨hx, hb, hml, hown, hts⟩ (s_X12_saidFlag l D H.size o a t i q c d w1 4 hI (show 0 ≤ w1.toInt ∧ w1.toInt ≤ 29 from by have h91 : (4 : Int32).toInt = 4 := (by decide +kernel); omega) (show 0 ≤ 4 ∧ 4 ≤ 5 from by decide +kernel)) (cwV 2 hts gm_X12_whyNot_X12_saidFlag rfl rfl rfl (by decide +kernel) ⟨Nat.le_of_ble_eq_true rfl, Nat.le_of_ble_eq_true rfl⟩) (pA_V hK hP (ci := 12) (q0 := 0) rfl rfl) rfl rfl hl.1 rfl (lv_room (Nat.le_of_ble_eq_true rfl)) dX12_whyNot_132 ⟨Nat.le_of_ble_eq_true rfl, Nat.le_of_ble_eq_true rfl⟩) hS hA hP (fun r18 u18 H locs hw18 hP hS => ?_)
      have hw18 : (r18.toInt = -9 ∨ (0 ≤ r18.toInt ∧ r18.toInt ≤ 1)) := hw18
      refine lv_iconst (v := 1) hx hb dX12_whyNot_135 (by decide +kernel) ?_
      refine lv_icmp_ne (tgt := 143) hx hb dX12_whyNot_136 (by decide +kernel) (fun c19 => ?_) (fun c19 => ?_)
      · have f19 := mt (ti_eq (a := r18.toInt) (b := 1) rfl (by decide +kernel)).mpr c19
        refine lv_bipush (v := 19) hx hb dX12_whyNot_143 (by decide +kernel) ?_
        exact rw_iret (i, q, c, d) hx hb hr hlocks hS (hK.sub (tys' := []) [] rfl) hP hD dX12_whyNot_145 ⟨⟨(show 0 ≤ (19 : Int32).toInt ∧ (19 : Int32).toInt ≤ 21 from by decide +kernel), (show Im ((19 : Int32).toInt = 0) (AC (c 3) (c 6) (c 9) (c 10) (c 11) (c 12) (c 13) (c 23) (c 24) (c 44) (i 8).toInt (i 5).toInt (i 22).toInt v1.toInt w1.toInt w2.toInt) from fun h9 => absurd h9 (by decide +kernel))⟩, hI, fr_w hfi (by decide +kernel), fr_w hfc (by decide +kernel)⟩
      · have f19 := (ti_eq (a := r18.toInt) (b := 1) rfl (by decide +kernel)).mp c19
        refine lv_iconst (v := 0) hx hb dX12_whyNot_139 (by decide +kernel) ?_
        refine lv_goto (tgt := 145) hx hb dX12_whyNot_140 (by decide +kernel) ?_
        exact rw_iret (i, q, c, d) hx hb hr hlocks hS (hK.sub (tys' := []) [] rfl) hP hD dX12_whyNot_145 ⟨⟨(show 0 ≤ (0 : Int32).toInt ∧ (0 : Int32).toInt ≤ 21 from by decide +kernel), (show Im ((0 : Int32).toInt = 0) (AC (c 3) (c 6) (c 9) (c 10) (c 11) (c 12) (c 13) (c 23) (c 24) (c 44) (i 8).toInt (i 5).toInt (i 22).toInt v1.toInt w1.toInt w2.toInt) from fun h9 => ⟨fun e9 => by first | (exfalso; omega) | exact hr16_0 h9, fun e9 => by first | (exfalso; omega) | exact hr16_0 h9, fun e9 => by first | (exfalso; omega) | exact hr16_0 (by omega) | exact ⟨(hr16_0 h9).1, (hr16_0 h9).2.1⟩, fun e9 => by first | (exfalso; omega) | exact ⟨(hr16_0 h9).2.2.1, (hr16_0 h9).2.2.2⟩, fun e9 => by first | (exfalso; omega) | exact hr16_0 h9, fun e9 => by first | (exfalso; omega) | exact hr16_0 h9⟩)⟩, hI, fr_w hfi (by decide +kernel), fr_w hfc (by decide +kernel)⟩
    · have f17 := (ti_eq (a := r16.toInt) (b := 0) rfl (by decide +kernel)).mp c17
      refine lv_bipush (v := 11) hx hb dX12_whyNot_124 (by decide +kernel) ?_
      refine lv_goto (tgt := 145) hx hb dX12_whyNot_126 (by decide +kernel) ?_
      exact rw_iret (i, q, c, d) hx hb hr hlocks hS (hK.sub (tys' := []) [] rfl) hP hD dX12_whyNot_145 ⟨⟨(show 0 ≤ (11 : Int32).toInt ∧ (11 : Int32).toInt ≤ 21 from by decide +kernel), (show Im ((11 : Int32).toInt = 0) (AC (c 3) (c 6) (c 9) (c 10) (c 11) (c 12) (c 13) (c 23) (c 24) (c 44) (i 8).toInt (i 5).toInt (i 22).toInt v1.toInt w1.toInt w2.toInt) from fun h9 => absurd h9 (by decide +kernel))⟩, hI, fr_w hfi (by decide +kernel), fr_w hfc (by decide +kernel)⟩
  · refine lv_tableIn (off := 145) (tgt := 146) hx hb dX12_whyNot_1 (by omega) (by omega) (by rw [f1]; rfl) (by decide +kernel) ?_
    refine lv_aload_n hx hb dX12_whyNot_146 rfl (lv_at hl 0 rfl) ?_
    refine lv_iload_n hx hb dX12_whyNot_147 rfl (lv_at hl 2 rfl) ?_
    have rb22_i : (i 22).toInt = -9 ∨ (0 ≤ (i 22).toInt ∧ (i 22).toInt ≤ 29) := hI.1 22
    refine ro_calli (va_runV (As := [.int w1]) (rest := []) ⟨hx, hb, hml, hown, hts⟩ (s_X12_whyNotEnter l D s.heap.size o a t i q c d w1 hI (show 0 ≤ w1.toInt ∧ w1.toInt < ((i 5) : Int32).toInt from by omega) hs_T hs_C) (cwV 1 hts gm_X12_whyNot_X12_whyNotEnter rfl rfl rfl (by decide +kernel) ⟨Nat.le_of_ble_eq_true rfl, Nat.le_of_ble_eq_true rfl⟩) (pA_V hK hP (ci := 12) (q0 := 0) rfl rfl) rfl rfl hl.1 rfl (lv_room (Nat.le_of_ble_eq_true rfl)) dX12_whyNot_148 ⟨Nat.le_of_ble_eq_true rfl, Nat.le_of_ble_eq_true rfl⟩) hS hA hP (fun r20 u20 H locs hw20 hP hS => ?_)
    have hw20 : ((0 ≤ r20.toInt ∧ r20.toInt ≤ 20) ∧ (Im (r20.toInt = 0) ((Kd (c 3) (c 6) w1.toInt 3 ∨ Kd (c 3) (c 6) w1.toInt 4) ∧ ¬ Ch (nF (i 5).toInt (c 23) (c 24)) (nF (i 5).toInt (c 23) (c 24) w1.toInt) (i 22).toInt ∧ (c 44 w1.toNatClampNeg).toInt = 1))) := hw20
    obtain ⟨hw20, hr20_0⟩ := hw20
    have hr20_0 : Im (r20.toInt = 0) ((Kd (c 3) (c 6) w1.toInt 3 ∨ Kd (c 3) (c 6) w1.toInt 4) ∧ ¬ Ch (nF (i 5).toInt (c 23) (c 24)) (nF (i 5).toInt (c 23) (c 24) w1.toInt) (i 22).toInt ∧ (c 44 w1.toNatClampNeg).toInt = 1) := hr20_0
    exact rw_iret (i, q, c, d) hx hb hr hlocks hS (hK.sub (tys' := []) [] rfl) hP hD dX12_whyNot_151 ⟨⟨(show 0 ≤ r20.toInt ∧ r20.toInt ≤ 21 from by omega), (show Im (r20.toInt = 0) (AC (c 3) (c 6) (c 9) (c 10) (c 11) (c 12) (c 13) (c 23) (c 24) (c 44) (i 8).toInt (i 5).toInt (i 22).toInt v1.toInt w1.toInt w2.toInt) from fun h9 => ⟨fun e9 => by first | (exfalso; omega) | exact hr20_0 h9, fun e9 => by first | (exfalso; omega) | exact hr20_0 h9, fun e9 => by first | (exfalso; omega) | exact hr20_0 (by omega) | exact ⟨(hr20_0 h9).1, (hr20_0 h9).2.1⟩, fun e9 => by first | (exfalso; omega) | exact ⟨(hr20_0 h9).2.2.1, (hr20_0 h9).2.2.2⟩, fun e9 => by first | (exfalso; omega) | exact hr20_0 h9, fun e9 => by first | (exfalso; omega) | exact hr20_0 h9⟩)⟩, hI, fr_w hfi (by decide +kernel), fr_w hfc (by decide +kernel)⟩
  · refine lv_tableIn (off := 151) (tgt := 152) hx hb dX12_whyNot_1 (by omega) (by omega) (by rw [f1]; rfl) (by decide +kernel) ?_
    refine lv_aload_n hx hb dX12_whyNot_152 rfl (lv_at hl 0 rfl) ?_
    have rb22_i : (i 22).toInt = -9 ∨ (0 ≤ (i 22).toInt ∧ (i 22).toInt ≤ 29) := hI.1 22
    refine ro_calli (va_runV (As := []) (rest := []) ⟨hx, hb, hml, hown, hts⟩ (s_X12_whyNotLeave l D s.heap.size o a t i q c d  hI hs_T) (cwV 0 hts gm_X12_whyNot_X12_whyNotLeave rfl rfl rfl (by decide +kernel) ⟨Nat.le_of_ble_eq_true rfl, Nat.le_of_ble_eq_true rfl⟩) (pA_V hK hP (ci := 12) (q0 := 0) rfl rfl) rfl rfl hl.1 rfl (lv_room (Nat.le_of_ble_eq_true rfl)) dX12_whyNot_153 ⟨Nat.le_of_ble_eq_true rfl, Nat.le_of_ble_eq_true rfl⟩) hS hA hP (fun r21 u21 H locs hw21 hP hS => ?_)
    have hw21 : ((0 ≤ r21.toInt ∧ r21.toInt ≤ 21) ∧ (Im (r21.toInt = 0) (¬ (c 23 (c 24 (i 22).toInt.toNat).toInt.toNat).toInt = -9))) := hw21
    obtain ⟨hw21, hr21_0⟩ := hw21
    have hr21_0 : Im (r21.toInt = 0) (¬ (c 23 (c 24 (i 22).toInt.toNat).toInt.toNat).toInt = -9) := hr21_0
    exact rw_iret (i, q, c, d) hx hb hr hlocks hS (hK.sub (tys' := []) [] rfl) hP hD dX12_whyNot_156 ⟨⟨(show 0 ≤ r21.toInt ∧ r21.toInt ≤ 21 from by omega), (show Im (r21.toInt = 0) (AC (c 3) (c 6) (c 9) (c 10) (c 11) (c 12) (c 13) (c 23) (c 24) (c 44) (i 8).toInt (i 5).toInt (i 22).toInt v1.toInt w1.toInt w2.toInt) from fun h9 => ⟨fun e9 => by first | (exfalso; omega) | exact hr21_0 h9, fun e9 => by first | (exfalso; omega) | exact hr21_0 h9, fun e9 => by first | (exfalso; omega) | exact hr21_0 (by omega) | exact ⟨(hr21_0 h9).1, (hr21_0 h9).2.1⟩, fun e9 => by first | (exfalso; omega) | exact ⟨(hr21_0 h9).2.2.1, (hr21_0 h9).2.2.2⟩, fun e9 => by first | (exfalso; omega) | exact hr21_0 h9, fun e9 => by first | (exfalso; omega) | exact hr21_0 h9⟩)⟩, hI, fr_w hfi (by decide +kernel), fr_w hfc (by decide +kernel)⟩

