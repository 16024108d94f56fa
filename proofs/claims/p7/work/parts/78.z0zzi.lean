set_option maxHeartbeats 4000000 in
set_option maxRecDepth 100000 in
theorem s_X12_copy_q (l : Launch) (D : va_G) (sz : Nat) (o : Nat) (a : Nat → Nat) (t : Nat → ClassId) (i : Nat → Int32) (q : Int64) (c : Nat → Nat → Int32) (d : Nat → Nat → Int64) (w1 : Int32) (s1 : Int32) (n1 : Int32) (w2 : Int32) (n2 : Int32) (n3 : Int32) (hI : mInv i c) : Met l yX12_copy wm_X12_copy ({ frames := 2, cells := 0, slots := 0, locals := 46 }) (va_Pc [.ref o, .int w1, .int s1, .int n1, .int w2, .int n2, .int n3] (pB D sz (mW o a t i q c d) (mT t))) (va_Qi (fun (r : Int32) (u : MS) => True ∧ mInv u.1 u.2.2.1 ∧ (∀ k, k ∉ ([0] : List Nat) → u.1 k = i k) ∧ (∀ k, k ∉ ([1] : List Nat) → u.2.2.1 k = c k) ∧ ((¬ (0 ≤ w1.toInt ∧ w1.toInt < (i 5).toInt ∧ 0 ≤ w2.toInt ∧ w2.toInt < (i 5).toInt ∧ 0 ≤ s1.toInt ∧ s1.toInt ≤ 3) ∧ r.toInt = -1) ∨ (0 ≤ w1.toInt ∧ w1.toInt < (i 5).toInt ∧ 0 ≤ w2.toInt ∧ w2.toInt < (i 5).toInt ∧ 0 ≤ s1.toInt ∧ s1.toInt ≤ 3 ∧ ¬ (¬ (c 63 w1.toNatClampNeg).toInt = 0 ∧ ¬ (c 63 w2.toNatClampNeg).toInt = 0 ∧ (c 60 w1.toNatClampNeg).toInt = s1.toInt ∧ (c 60 w2.toNatClampNeg).toInt = s1.toInt ∧ 0 ≤ n1.toInt ∧ 0 ≤ n2.toInt ∧ 0 ≤ n3.toInt ∧ n1.toInt + n3.toInt ≤ (c 61 w1.toNatClampNeg).toInt ∧ n2.toInt + n3.toInt ≤ (c 61 w2.toNatClampNeg).toInt) ∧ r.toInt = -3) ∨ (0 ≤ w1.toInt ∧ w1.toInt < (i 5).toInt ∧ 0 ≤ w2.toInt ∧ w2.toInt < (i 5).toInt ∧ 0 ≤ s1.toInt ∧ s1.toInt ≤ 3 ∧ ¬ (c 63 w1.toNatClampNeg).toInt = 0 ∧ ¬ (c 63 w2.toNatClampNeg).toInt = 0 ∧ (c 60 w1.toNatClampNeg).toInt = s1.toInt ∧ (c 60 w2.toNatClampNeg).toInt = s1.toInt ∧ 0 ≤ n1.toInt ∧ 0 ≤ n2.toInt ∧ 0 ≤ n3.toInt ∧ n1.toInt + n3.toInt ≤ (c 61 w1.toNatClampNeg).toInt ∧ n2.toInt + n3.toInt ≤ (c 61 w2.toNatClampNeg).toInt ∧ r.toInt = 1)) ∧ (CpR r.toInt (u.2.2.2 62) (d 62) (w1.toInt * 12 + n1.toInt).toNat (w2.toInt * 12 + n2.toInt).toNat n3.toInt.toNat) ∧ (q = u.2.1)) (oC D (va_A (mW o a t i q c d) sz) (fun u : MS => mW o a t u.1 u.2.1 u.2.2.1 u.2.2.2) (fun _ => [])) (va_A (mW o a t i q c d) sz)) 0 0 (va_A (mW o a t i q c d) sz) := by
  refine Met.ofW (cc := cX12_copy) (maxL := 8) (ret := (some .int)) (by decide +kernel) rfl ?_
  intro p e s m args below meth cd s₁ B hml hv
  obtain ⟨rfl, hsz, hP, hK, hD0⟩ := hv
  have hx := B.exec
  have hb := B.bytes
  have hr := B.returns
  have hts := atoms_spec (ws := wm_X12_copy) B.pre
  have hown : s.vm.findClass RX12 = some m.cls := findClass_of_methodNamed B.named
  have hlocks := B.notSynchronized
  subst hsz
  have hD := hD0.self (sz := s.heap.size)
  generalize hAe : va_A (mW o a t i q c d) s.heap.size = A at hD ⊢
  have hA : ∀ q : Nat, s.heap.size ≤ q → A q := fun q h => by rw [← hAe]; exact Or.inr h
  have hS : va_S A s.heap s.heap [] := va_S.rf
  have hfi : ∀ k, k ∉ ([] : List Nat) → i k = i k := fun _ _ => rfl
  have hfc : ∀ k, k ∉ ([] : List Nat) → c k = c k := fun _ _ => rfl
  have hl := lv_entry ([.ref o, .int w1, .int s1, .int n1, .int w2, .int n2, .int n3]) (n := 8) (Nat.le_of_ble_eq_true rfl)
  rw [lg_entry_eq]
  generalize (lg_sl ([.ref o, .int w1, .int s1, .int n1, .int w2, .int n2, .int n3]) ++ List.replicate (8 - (lg_sl ([.ref o, .int w1, .int s1, .int n1, .int w2, .int n2, .int n3])).length) Slot.unset).toArray = ls at hl ⊢
  have hl : lv_has ls 8 [(0, .ref o), (1, .int w1), (2, .int s1), (3, .int n1), (4, .int w2), (5, .int n2), (6, .int n3)] := hl
  have rb5_i : 0 ≤ (i 5).toInt ∧ (i 5).toInt ≤ 30 := hI.1 5
  refine lv_aload_n hx hb dX12_copy_0 rfl (lv_at hl 0 rfl) ?_
  refine lv_iload_n hx hb dX12_copy_1 rfl (lv_at hl 1 rfl) ?_
  refine ro_calli (va_runV (As := [.int w1]) (rest := []) ⟨hx, hb, hml, hown, hts⟩ (s_X12_isObject l D s.heap.size o a t i q c d w1 hI ) (cwV 1 hts gm_X12_copy_X12_isObject rfl rfl rfl (by decide +kernel) ⟨Nat.le_of_ble_eq_true rfl, Nat.le_of_ble_eq_true rfl⟩) (pA_V hK hP (ci := 12) (q0 := 0) rfl rfl) rfl rfl hl.1 rfl (lv_room (Nat.le_of_ble_eq_true rfl)) dX12_copy_2 ⟨Nat.le_of_ble_eq_true rfl, Nat.le_of_ble_eq_true rfl⟩) hS hA hP (fun r1 u1 H locs hw1 hP hS => ?_)
  have hw1 : r1 = if (0 ≤ w1.toInt ∧ w1.toInt ≤ (i 5).toInt - 1) then 1 else 0 := hw1
  refine lv_if_eq (tgt := 29) hx hb dX12_copy_5 (by decide +kernel) (fun c2 => ?_) (fun c2 => ?_)
  · have f2 := fl_f hw1 c2
    refine lv_iconst (v := (-1)) hx hb dX12_copy_29 (by decide +kernel) ?_
    exact rw_iret (i, q, c, d) hx hb hr hlocks hS (hK.sub (tys' := []) [] rfl) hP hD dX12_copy_30 ⟨trivial, hI, fr_w hfi (by decide +kernel), fr_w hfc (by decide +kernel), (show (¬ (0 ≤ w1.toInt ∧ w1.toInt < (i 5).toInt ∧ 0 ≤ w2.toInt ∧ w2.toInt < (i 5).toInt ∧ 0 ≤ s1.toInt ∧ s1.toInt ≤ 3) ∧ ((-1) : Int32).toInt = -1) ∨ (0 ≤ w1.toInt ∧ w1.toInt < (i 5).toInt ∧ 0 ≤ w2.toInt ∧ w2.toInt < (i 5).toInt ∧ 0 ≤ s1.toInt ∧ s1.toInt ≤ 3 ∧ ¬ (¬ (c 63 w1.toNatClampNeg).toInt = 0 ∧ ¬ (c 63 w2.toNatClampNeg).toInt = 0 ∧ (c 60 w1.toNatClampNeg).toInt = s1.toInt ∧ (c 60 w2.toNatClampNeg).toInt = s1.toInt ∧ 0 ≤ n1.toInt ∧ 0 ≤ n2.toInt ∧ 0 ≤ n3.toInt ∧ n1.toInt + n3.toInt ≤ (c 61 w1.toNatClampNeg).toInt ∧ n2.toInt + n3.toInt ≤ (c 61 w2.toNatClampNeg).toInt) ∧ ((-1) : Int32).toInt = -3) ∨ (0 ≤ w1.toInt ∧ w1.toInt < (i 5).toInt ∧ 0 ≤ w2.toInt ∧ w2.toInt < (i 5).toInt ∧ 0 ≤ s1.toInt ∧ s1.toInt ≤ 3 ∧ ¬ (c 63 w1.toNatClampNeg).toInt = 0 ∧ ¬ (c 63 w2.toNatClampNeg).toInt = 0 ∧ (c 60 w1.toNatClampNeg).toInt = s1.toInt ∧ (c 60 w2.toNatClampNeg).toInt = s1.toInt ∧ 0 ≤ n1.toInt ∧ 0 ≤ n2.toInt ∧ 0 ≤ n3.toInt ∧ n1.toInt + n3.toInt ≤ (c 61 w1.toNatClampNeg).toInt ∧ n2.toInt + n3.toInt ≤ (c 61 w2.toNatClampNeg).toInt ∧ ((-1) : Int32).toInt = 1) from by have h50 : ((-1) : Int32).toInt = -1 := (by decide +kernel); omega), (show CpR ((-1) : Int32).toInt (d 62) (d 62) (w1.toInt * 12 + n1.toInt).toNat (w2.toInt * 12 + n2.toInt).toNat n3.toInt.toNat from Or.inr ⟨by decide, rfl⟩), rfl⟩
  · have f2 := fl_t hw1 c2
    refine lv_aload_n hx hb dX12_copy_8 rfl (lv_at hl 0 rfl) ?_
    refine lv_iload hx hb dX12_copy_9 (lv_at hl 4 rfl) ?_
    refine ro_calli (va_runV (As := [.int w2]) (rest := []) ⟨hx, hb, hml, hown, hts⟩ (s_X12_isObject l D H.size o a t i q c d w2 hI ) (cwV 1 hts gm_X12_copy_X12_isObject rfl rfl rfl (by decide +kernel) ⟨Nat.le_of_ble_eq_true rfl, Nat.le_of_ble_eq_true rfl⟩) (pA_V hK hP (ci := 12) (q0 := 0) rfl rfl) rfl rfl hl.1 rfl (lv_room (Nat.le_of_ble_eq_true rfl)) dX12_copy_11 ⟨Nat.le_of_ble_eq_true rfl, Nat.le_of_ble_eq_true rfl⟩) hS hA hP (fun r3 u3 H locs hw3 hP hS => ?_)
    have hw3 : r3 = if (0 ≤ w2.toInt ∧ w2.toInt ≤ (i 5).toInt - 1) then 1 else 0 := hw3
    refine lv_if_eq (tgt := 29) hx hb dX12_copy_14 (by decide +kernel) (fun c4 => ?_) (fun c4 => ?_)
    · have f4 := fl_f hw3 c4
      refine lv_iconst (v := (-1)) hx hb dX12_copy_29 (by decide +kernel) ?_
      exact rw_iret (i, q, c, d) hx hb hr hlocks hS (hK.sub (tys' := []) [] rfl) hP hD dX12_copy_30 ⟨trivial, hI, fr_w hfi (by decide +kernel), fr_w hfc (by decide +kernel), (show (¬ (0 ≤ w1.toInt ∧ w1.toInt < (i 5).toInt ∧ 0 ≤ w2.toInt ∧ w2.toInt < (i 5).toInt ∧ 0 ≤ s1.toInt ∧ s1.toInt ≤ 3) ∧ ((-1) : Int32).toInt = -1) ∨ (0 ≤ w1.toInt ∧ w1.toInt < (i 5).toInt ∧ 0 ≤ w2.toInt ∧ w2.toInt < (i 5).toInt ∧ 0 ≤ s1.toInt ∧ s1.toInt ≤ 3 ∧ ¬ (¬ (c 63 w1.toNatClampNeg).toInt = 0 ∧ ¬ (c 63 w2.toNatClampNeg).toInt = 0 ∧ (c 60 w1.toNatClampNeg).toInt = s1.toInt ∧ (c 60 w2.toNatClampNeg).toInt = s1.toInt ∧ 0 ≤ n1.toInt ∧ 0 ≤ n2.toInt ∧ 0 ≤ n3.toInt ∧ n1.toInt + n3.toInt ≤ (c 61 w1.toNatClampNeg).toInt ∧ n2.toInt + n3.toInt ≤ (c 61 w2.toNatClampNeg).toInt) ∧ ((-1) : Int32).toInt = -3) ∨ (0 ≤ w1.toInt ∧ w1.toInt < (i 5).toInt ∧ 0 ≤ w2.toInt ∧ w2.toInt < (i 5).toInt ∧ 0 ≤ s1.toInt ∧ s1.toInt ≤ 3 ∧ ¬ (c 63 w1.toNatClampNeg).toInt = 0 ∧ ¬ (c 63 w2.toNatClampNeg).toInt = 0 ∧ (c 60 w1.toNatClampNeg).toInt = s1.toInt ∧ (c 60 w2.toNatClampNeg).toInt = s1.toInt ∧ 0 ≤ n1.toInt ∧ 0 ≤ n2.toInt ∧ 0 ≤ n3.toInt ∧ n1.toInt + n3.toInt ≤ (c 61 w1.toNatClampNeg).toInt ∧ n2.toInt + n3.toInt ≤ (c 61 w2.toNatClampNeg).toInt ∧ ((-1) : Int32).toInt = 1) from by have h50 : ((-1) : Int32).toInt = -1 := (by decide +kernel); omega), (show CpR ((-1) : Int32).toInt (d 62) (d 62) (w1.toInt * 12 + n1.toInt).toNat (w2.toInt * 12 + n2.toInt).toNat n3.toInt.toNat from Or.inr ⟨by decide, rfl⟩), rfl⟩
    · have f4 := fl_t hw3 c4
      refine lv_iload_n hx hb dX12_copy_17 rfl (lv_at hl 2 rfl) ?_
      refine lv_i2l (v := s1.toInt64) hx hb dX12_copy_18 rfl ?_
      refine lv_lconst (v := 0) hx hb dX12_copy_19 (by decide +kernel) ?_
      refine lv_ldc2 (v := 3) hx hb hown (hts (.constantLong RX12 279 (3)) (List.mem_cons_of_mem _ (List.mem_append_left _ (List.mem_append_left _ (List.mem_of_getElem? (i := 9) rfl))))) dX12_copy_20 ?_
      have hPc := hP.sub (ws' := []) [] rfl
      have hKc := hK.sub (tys' := []) [] rfl
      refine ro_calli (va_runS (As := [.long s1.toInt64, .long 0, .long 3]) (rest := []) ⟨hx, hb, hml, hown, hts⟩ (c_X12_in l D H.size s1.toInt64 0 3 s1.toInt 0 3 ((Int32.toInt_toInt64 s1).trans rfl) (by decide +kernel) (by decide +kernel)) (va_cwS 3 hts gm_X12_copy_X12_in rfl rfl rfl (by decide +kernel) ⟨Nat.le_of_ble_eq_true rfl, Nat.le_of_ble_eq_true rfl⟩) (pA_S hKc hPc) rfl rfl hl.1 rfl (lv_room (Nat.le_of_ble_eq_true rfl)) dX12_copy_23 ⟨Nat.le_of_ble_eq_true rfl, Nat.le_of_ble_eq_true rfl⟩) hS hA hP (fun r5 u5 H locs hw5 hP hS => ?_)
      have hw5 : r5 = if (0 ≤ s1.toInt ∧ s1.toInt ≤ 3) then 1 else 0 := hw5
      refine lv_if_ne (tgt := 31) hx hb dX12_copy_26 (by decide +kernel) (fun c6 => ?_) (fun c6 => ?_)
      · have f6 := fl_t hw5 c6
        refine lv_aload_n hx hb dX12_copy_31 rfl (lv_at hl 0 rfl) ?_
        refine mget_63 hx hb hts (fun _ h => List.mem_cons_of_mem _ (List.mem_append_right _ h)) hown hK hP (hts (.fieldLink RX12 136 "TalePlayModel" "hasLine" "[Z") (List.mem_cons_of_mem _ (List.mem_append_left _ (List.mem_append_left _ (List.mem_of_getElem? (i := 10) rfl))))) dX12_copy_32 ?_
        refine lv_iload_n hx hb dX12_copy_35 rfl (lv_at hl 1 rfl) ?_
        refine mld_63 hx hb hK hP (vp_in_iff.mpr (by have h9 : w1.toInt = w1.toInt := rfl; omega)) dX12_copy_36 (fun x7 ex7 => ?_)
        have rx7 : 0 ≤ x7.toInt ∧ x7.toInt ≤ 1 := by rw [ex7]; exact hI.2 63 _
        have gx7 : (c 63 (w1 : Int32).toNatClampNeg).toInt = x7.toInt := by rw [ex7]
        refine lv_if_eq (tgt := 50) hx hb dX12_copy_37 (by decide +kernel) (fun c8 => ?_) (fun c8 => ?_)
        · have f8 := (ti_eq (a := x7.toInt) (b := 0) rfl (by decide +kernel)).mp c8
          refine lv_aload_n hx hb dX12_copy_50 rfl (lv_at hl 0 rfl) ?_
          refine mget_63 hx hb hts (fun _ h => List.mem_cons_of_mem _ (List.mem_append_right _ h)) hown hK hP (hts (.fieldLink RX12 136 "TalePlayModel" "hasLine" "[Z") (List.mem_cons_of_mem _ (List.mem_append_left _ (List.mem_append_left _ (List.mem_of_getElem? (i := 10) rfl))))) dX12_copy_51 ?_
          refine lv_iload hx hb dX12_copy_54 (lv_at hl 4 rfl) ?_
          refine mld_63 hx hb hK hP (vp_in_iff.mpr (by have h9 : w2.toInt = w2.toInt := rfl; omega)) dX12_copy_56 (fun x9 ex9 => ?_)
          have rx9 : 0 ≤ x9.toInt ∧ x9.toInt ≤ 1 := by rw [ex9]; exact hI.2 63 _
          have gx9 : (c 63 (w2 : Int32).toNatClampNeg).toInt = x9.toInt := by rw [ex9]
          refine lv_if_eq (tgt := 77) hx hb dX12_copy_57 (by decide +kernel) (fun c10 => ?_) (fun c10 => ?_)
          · have f10 := (ti_eq (a := x9.toInt) (b := 0) rfl (by decide +kernel)).mp c10
            refine lv_aload_n hx hb dX12_copy_77 rfl (lv_at hl 0 rfl) ?_
            refine mget_63 hx hb hts (fun _ h => List.mem_cons_of_mem _ (List.mem_append_right _ h)) hown hK hP (hts (.fieldLink RX12 136 "TalePlayModel" "hasLine" "[Z") (List.mem_cons_of_mem _ (List.mem_append_left _ (List.mem_append_left _ (List.mem_of_getElem? (i := 10) rfl))))) dX12_copy_78 ?_
            refine lv_iload_n hx hb dX12_copy_81 rfl (lv_at hl 1 rfl) ?_
            refine mld_63 hx hb hK hP (vp_in_iff.mpr (by have h9 : w1.toInt = w1.toInt := rfl; omega)) dX12_copy_82 (fun x11 ex11 => ?_)
            have rx11 : 0 ≤ x11.toInt ∧ x11.toInt ≤ 1 := by rw [ex11]; exact hI.2 63 _
            have gx11 : (c 63 (w1 : Int32).toNatClampNeg).toInt = x11.toInt := by rw [ex11]
            refine lv_if_eq (tgt := 96) hx hb dX12_copy_83 (by decide +kernel) (fun c12 => ?_) (fun c12 => ?_)
            · have f12 := (ti_eq (a := x11.toInt) (b := 0) rfl (by decide +kernel)).mp c12
              refine lv_aload_n hx hb dX12_copy_96 rfl (lv_at hl 0 rfl) ?_
              refine lv_iconst (v := 1) hx hb dX12_copy_97 (by decide +kernel) ?_
              refine al_calli (va_runV (As := [.int 1]) (rest := []) ⟨hx, hb, hml, hown, hts⟩ (s_X12_meets l D H.size o a t i q c d 1 hI (show 1 ≤ 1 ∧ 1 ≤ 6 from by have h90 : (1 : Int32).toInt = 1 := (by decide +kernel); omega)) (cwV 1 hts gm_X12_copy_X12_meets rfl rfl rfl (by decide +kernel) ⟨Nat.le_of_ble_eq_true rfl, Nat.le_of_ble_eq_true rfl⟩) (pB_V hK hP hD (ci := 12) (q0 := 0) rfl rfl) rfl rfl hl.1 rfl (lv_room (Nat.le_of_ble_eq_true rfl)) dX12_copy_98 ⟨Nat.le_of_ble_eq_true rfl, Nat.le_of_ble_eq_true rfl⟩) hS hA hP hD (fun r13 u13 H locs hv13 hP hD hS => ?_)
              obtain ⟨i13, q13, c13, d13⟩ := u13
              have hw13 : r13 = (-3) ∧ mInv i13 c13 ∧ (∀ k, k ∉ ([0] : List Nat) → i13 k = i k) ∧ (∀ k, k ∉ ([1] : List Nat) → c13 k = c k) ∧ (q = q13) ∧ (d = d13) := hv13
              clear hv13
              obtain ⟨hw13, hI, hei13, hec13, hq13_q, hq13_d⟩ := hw13
              subst hq13_q
              subst hq13_d
              have hfi : ∀ k, k ∉ ([0] : List Nat) → i13 k = i k := fr_z hfi hei13 (by decide +kernel) (by decide +kernel)
              have hfc : ∀ k, k ∉ ([1] : List Nat) → c13 k = c k := fr_z hfc hec13 (by decide +kernel) (by decide +kernel)
              have hP : va_P D vwCl (mW o a t i13 q c13 d) H := hP
              have hD : va_D A (mW o a t i13 q c13 d) := hD
              have hw13 : r13 = (-3) := hw13
              subst hw13
              exact rw_iret (i13, q, c13, d) hx hb hr hlocks hS (hK.sub (tys' := []) [] rfl) hP hD dX12_copy_101 ⟨trivial, hI, fr_w hfi (by decide +kernel), fr_w hfc (by decide +kernel), (show (¬ (0 ≤ w1.toInt ∧ w1.toInt < (i 5).toInt ∧ 0 ≤ w2.toInt ∧ w2.toInt < (i 5).toInt ∧ 0 ≤ s1.toInt ∧ s1.toInt ≤ 3) ∧ ((-3) : Int32).toInt = -1) ∨ (0 ≤ w1.toInt ∧ w1.toInt < (i 5).toInt ∧ 0 ≤ w2.toInt ∧ w2.toInt < (i 5).toInt ∧ 0 ≤ s1.toInt ∧ s1.toInt ≤ 3 ∧ ¬ (¬ (c 63 w1.toNatClampNeg).toInt = 0 ∧ ¬ (c 63 w2.toNatClampNeg).toInt = 0 ∧ (c 60 w1.toNatClampNeg).toInt = s1.toInt ∧ (c 60 w2.toNatClampNeg).toInt = s1.toInt ∧ 0 ≤ n1.toInt ∧ 0 ≤ n2.toInt ∧ 0 ≤ n3.toInt ∧ n1.toInt + n3.toInt ≤ (c 61 w1.toNatClampNeg).toInt ∧ n2.toInt + n3.toInt ≤ (c 61 w2.toNatClampNeg).toInt) ∧ ((-3) : Int32).toInt = -3) ∨ (0 ≤ w1.toInt ∧ w1.toInt < (i 5).toInt ∧ 0 ≤ w2.toInt ∧ w2.toInt < (i 5).toInt ∧ 0 ≤ s1.toInt ∧ s1.toInt ≤ 3 ∧ ¬ (c 63 w1.toNatClampNeg).toInt = 0 ∧ ¬ (c 63 w2.toNatClampNeg).toInt = 0 ∧ (c 60 w1.toNatClampNeg).toInt = s1.toInt ∧ (c 60 w2.toNatClampNeg).toInt = s1.toInt ∧ 0 ≤ n1.toInt ∧ 0 ≤ n2.toInt ∧ 0 ≤ n3.toInt ∧ n1.toInt + n3.toInt ≤ (c 61 w1.toNatClampNeg).toInt ∧ n2.toInt + n3.toInt ≤ (c 61 w2.toNatClampNeg).toInt ∧ ((-3) : Int32).toInt = 1) from by have h50 : ((-3) : Int32).toInt = -3 := (by decide +kernel); omega), (show CpR ((-3) : Int32).toInt (d 62) (d 62) (w1.toInt * 12 + n1.toInt).toNat (w2.toInt * 12 + n2.toInt).toNat n3.toInt.toNat from Or.inr ⟨by decide, rfl⟩), rfl⟩
            · have f12 := mt (ti_eq (a := x11.toInt) (b := 0) rfl (by decide +kernel)).mpr c12
              refine lv_aload_n hx hb dX12_copy_86 rfl (lv_at hl 0 rfl) ?_
              refine mget_63 hx hb hts (fun _ h => List.mem_cons_of_mem _ (List.mem_append_right _ h)) hown hK hP (hts (.fieldLink RX12 136 "TalePlayModel" "hasLine" "[Z") (List.mem_cons_of_mem _ (List.mem_append_left _ (List.mem_append_left _ (List.mem_of_getElem? (i := 10) rfl))))) dX12_copy_87 ?_
              refine lv_iload hx hb dX12_copy_90 (lv_at hl 4 rfl) ?_
              refine mld_63 hx hb hK hP (vp_in_iff.mpr (by have h9 : w2.toInt = w2.toInt := rfl; omega)) dX12_copy_92 (fun x14 ex14 => ?_)
              have rx14 : 0 ≤ x14.toInt ∧ x14.toInt ≤ 1 := by rw [ex14]; exact hI.2 63 _
              have gx14 : (c 63 (w2 : Int32).toNatClampNeg).toInt = x14.toInt := by rw [ex14]
              refine lv_if_ne (tgt := 102) hx hb dX12_copy_93 (by decide +kernel) (fun c15 => ?_) (fun c15 => ?_)
              · have f15 := mt (ti_eq (a := x14.toInt) (b := 0) rfl (by decide +kernel)).mpr c15
                refine lv_iload_n hx hb dX12_copy_102 rfl (lv_at hl 3 rfl) ?_
                refine lv_if_lt (tgt := 152) hx hb dX12_copy_103 (by decide +kernel) (fun c16 => ?_) (fun c16 => ?_)
                · have f16 := (ti_lt (a := n1.toInt) (b := 0) rfl (by decide +kernel)).mp c16
                  refine lv_aload_n hx hb dX12_copy_152 rfl (lv_at hl 0 rfl) ?_
                  refine lv_iconst (v := 2) hx hb dX12_copy_153 (by decide +kernel) ?_
                  refine al_calli (va_runV (As := [.int 2]) (rest := []) ⟨hx, hb, hml, hown, hts⟩ (s_X12_meets l D H.size o a t i q c d 2 hI (show 1 ≤ 2 ∧ 2 ≤ 6 from by have h90 : (2 : Int32).toInt = 2 := (by decide +kernel); omega)) (cwV 1 hts gm_X12_copy_X12_meets rfl rfl rfl (by decide +kernel) ⟨Nat.le_of_ble_eq_true rfl, Nat.le_of_ble_eq_true rfl⟩) (pB_V hK hP hD (ci := 12) (q0 := 0) rfl rfl) rfl rfl hl.1 rfl (lv_room (Nat.le_of_ble_eq_true rfl)) dX12_copy_154 ⟨Nat.le_of_ble_eq_true rfl, Nat.le_of_ble_eq_true rfl⟩) hS hA hP hD (fun r17 u17 H locs hv17 hP hD hS => ?_)
                  obtain ⟨i17, q17, c17, d17⟩ := u17
                  have hw17 : r17 = (-3) ∧ mInv i17 c17 ∧ (∀ k, k ∉ ([0] : List Nat) → i17 k = i k) ∧ (∀ k, k ∉ ([1] : List Nat) → c17 k = c k) ∧ (q = q17) ∧ (d = d17) := hv17
                  clear hv17
                  obtain ⟨hw17, hI, hei17, hec17, hq17_q, hq17_d⟩ := hw17
                  subst hq17_q
                  subst hq17_d
                  have hfi : ∀ k, k ∉ ([0] : List Nat) → i17 k = i k := fr_z hfi hei17 (by decide +kernel) (by decide +kernel)
                  have hfc : ∀ k, k ∉ ([1] : List Nat) → c17 k = c k := fr_z hfc hec17 (by decide +kernel) (by decide +kernel)
                  have hP : va_P D vwCl (mW o a t i17 q c17 d) H := hP
                  have hD : va_D A (mW o a t i17 q c17 d) := hD
                  have hw17 : r17 = (-3) := hw17
                  subst hw17
                  exact rw_iret (i17, q, c17, d) hx hb hr hlocks hS (hK.sub (tys' := []) [] rfl) hP hD dX12_copy_157 ⟨trivial, hI, fr_w hfi (by decide +kernel), fr_w hfc (by decide +kernel), (show (¬ (0 ≤ w1.toInt ∧ w1.toInt < (i 5).toInt ∧ 0 ≤ w2.toInt ∧ w2.toInt < (i 5).toInt ∧ 0 ≤ s1.toInt ∧ s1.toInt ≤ 3) ∧ ((-3) : Int32).toInt = -1) ∨ (0 ≤ w1.toInt ∧ w1.toInt < (i 5).toInt ∧ 0 ≤ w2.toInt ∧ w2.toInt < (i 5).toInt ∧ 0 ≤ s1.toInt ∧ s1.toInt ≤ 3 ∧ ¬ (¬ (c 63 w1.toNatClampNeg).toInt = 0 ∧ ¬ (c 63 w2.toNatClampNeg).toInt = 0 ∧ (c 60 w1.toNatClampNeg).toInt = s1.toInt ∧ (c 60 w2.toNatClampNeg).toInt = s1.toInt ∧ 0 ≤ n1.toInt ∧ 0 ≤ n2.toInt ∧ 0 ≤ n3.toInt ∧ n1.toInt + n3.toInt ≤ (c 61 w1.toNatClampNeg).toInt ∧ n2.toInt + n3.toInt ≤ (c 61 w2.toNatClampNeg).toInt) ∧ ((-3) : Int32).toInt = -3) ∨ (0 ≤ w1.toInt ∧ w1.toInt < (i 5).toInt ∧ 0 ≤ w2.toInt ∧ w2.toInt < (i 5).toInt ∧ 0 ≤ s1.toInt ∧ s1.toInt ≤ 3 ∧ ¬ (c 63 w1.toNatClampNeg).toInt = 0 ∧ ¬ (c 63 w2.toNatClampNeg).toInt = 0 ∧ (c 60 w1.toNatClampNeg).toInt = s1.toInt ∧ (c 60 w2.toNatClampNeg).toInt = s1.toInt ∧ 0 ≤ n1.toInt ∧ 0 ≤ n2.toInt ∧ 0 ≤ n3.toInt ∧ n1.toInt + n3.toInt ≤ (c 61 w1.toNatClampNeg).toInt ∧ n2.toInt + n3.toInt ≤ (c 61 w2.toNatClampNeg).toInt ∧ ((-3) : Int32).toInt = 1) from by have h50 : ((-3) : Int32).toInt = -3 := (by decide +kernel); omega), (show CpR ((-3) : Int32).toInt (d 62) (d 62) (w1.toInt * 12 + n1.toInt).toNat (w2.toInt * 12 + n2.toInt).toNat n3.toInt.toNat from Or.inr ⟨by decide, rfl⟩), rfl⟩
                · have f16 := mt (ti_lt (a := n1.toInt) (b := 0) rfl (by decide +kernel)).mpr c16
                  refine lv_iload hx hb dX12_copy_106 (lv_at hl 5 rfl) ?_
                  refine lv_if_lt (tgt := 152) hx hb dX12_copy_108 (by decide +kernel) (fun c18 => ?_) (fun c18 => ?_)
                  · have f18 := (ti_lt (a := n2.toInt) (b := 0) rfl (by decide +kernel)).mp c18
                    refine lv_aload_n hx hb dX12_copy_152 rfl (lv_at hl 0 rfl) ?_
                    refine lv_iconst (v := 2) hx hb dX12_copy_153 (by decide +kernel) ?_
                    refine al_calli (va_runV (As := [.int 2]) (rest := []) ⟨hx, hb, hml, hown, hts⟩ (s_X12_meets l D H.size o a t i q c d 2 hI (show 1 ≤ 2 ∧ 2 ≤ 6 from by have h90 : (2 : Int32).toInt = 2 := (by decide +kernel); omega)) (cwV 1 hts gm_X12_copy_X12_meets rfl rfl rfl (by decide +kernel) ⟨Nat.le_of_ble_eq_true rfl, Nat.le_of_ble_eq_true rfl⟩) (pB_V hK hP hD (ci := 12) (q0 := 0) rfl rfl) rfl rfl hl.1 rfl (lv_room (Nat.le_of_ble_eq_true rfl)) dX12_copy_154 ⟨Nat.le_of_ble_eq_true rfl, Nat.le_of_ble_eq_true rfl⟩) hS hA hP hD (fun r19 u19 H locs hv19 hP hD hS => ?_)
                    obtain ⟨i19, q19, c19, d19⟩ := u19
                    have hw19 : r19 = (-3) ∧ mInv i19 c19 ∧ (∀ k, k ∉ ([0] : List Nat) → i19 k = i k) ∧ (∀ k, k ∉ ([1] : List Nat) → c19 k = c k) ∧ (q = q19) ∧ (d = d19) := hv19
                    clear hv19
                    obtain ⟨hw19, hI, hei19, hec19, hq19_q, hq19_d⟩ := hw19
                    subst hq19_q
                    subst hq19_d
                    have hfi : ∀ k, k ∉ ([0] : List Nat) → i19 k = i k := fr_z hfi hei19 (by decide +kernel) (by decide +kernel)
                    have hfc : ∀ k, k ∉ ([1] : List Nat) → c19 k = c k := fr_z hfc hec19 (by decide +kernel) (by decide +kernel)
                    have hP : va_P D vwCl (mW o a t i19 q c19 d) H := hP
                    have hD : va_D A (mW o a t i19 q c19 d) := hD
                    have hw19 : r19 = (-3) := hw19
                    subst hw19
                    exact rw_iret (i19, q, c19, d) hx hb hr hlocks hS (hK.sub (tys' := []) [] rfl) hP hD dX12_copy_157 ⟨trivial, hI, fr_w hfi (by decide +kernel), fr_w hfc (by decide +kernel), (show (¬ (0 ≤ w1.toInt ∧ w1.toInt < (i 5).toInt ∧ 0 ≤ w2.toInt ∧ w2.toInt < (i 5).toInt ∧ 0 ≤ s1.toInt ∧ s1.toInt ≤ 3) ∧ ((-3) : Int32).toInt = -1) ∨ (0 ≤ w1.toInt ∧ w1.toInt < (i 5).toInt ∧ 0 ≤ w2.toInt ∧ w2.toInt < (i 5).toInt ∧ 0 ≤ s1.toInt ∧ s1.toInt ≤ 3 ∧ ¬ (¬ (c 63 w1.toNatClampNeg).toInt = 0 ∧ ¬ (c 63 w2.toNatClampNeg).toInt = 0 ∧ (c 60 w1.toNatClampNeg).toInt = s1.toInt ∧ (c 60 w2.toNatClampNeg).toInt = s1.toInt ∧ 0 ≤ n1.toInt ∧ 0 ≤ n2.toInt ∧ 0 ≤ n3.toInt ∧ n1.toInt + n3.toInt ≤ (c 61 w1.toNatClampNeg).toInt ∧ n2.toInt + n3.toInt ≤ (c 61 w2.toNatClampNeg).toInt) ∧ ((-3) : Int32).toInt = -3) ∨ (0 ≤ w1.toInt ∧ w1.toInt < (i 5).toInt ∧ 0 ≤ w2.toInt ∧ w2.toInt < (i 5).toInt ∧ 0 ≤ s1.toInt ∧ s1.toInt ≤ 3 ∧ ¬ (c 63 w1.toNatClampNeg).toInt = 0 ∧ ¬ (c 63 w2.toNatClampNeg).toInt = 0 ∧ (c 60 w1.toNatClampNeg).toInt = s1.toInt ∧ (c 60 w2.toNatClampNeg).toInt = s1.toInt ∧ 0 ≤ n1.toInt ∧ 0 ≤ n2.toInt ∧ 0 ≤ n3.toInt ∧ n1.toInt + n3.toInt ≤ (c 61 w1.toNatClampNeg).toInt ∧ n2.toInt + n3.toInt ≤ (c 61 w2.toNatClampNeg).toInt ∧ ((-3) : Int32).toInt = 1) from by have h50 : ((-3) : Int32).toInt = -3 := (by decide +kernel); omega), (show CpR ((-3) : Int32).toInt (d 62) (d 62) (w1.toInt * 12 + n1.toInt).toNat (w2.toInt * 12 + n2.toInt).toNat n3.toInt.toNat from Or.inr ⟨by decide, rfl⟩), rfl⟩
                  · have f18 := mt (ti_lt (a := n2.toInt) (b := 0) rfl (by decide +kernel)).mpr c18
                    refine lv_iload hx hb dX12_copy_111 (lv_at hl 6 rfl) ?_
                    refine lv_if_lt (tgt := 152) hx hb dX12_copy_113 (by decide +kernel) (fun c20 => ?_) (fun c20 => ?_)
                    · have f20 := (ti_lt (a := n3.toInt) (b := 0) rfl (by decide +kernel)).mp c20
                      refine lv_aload_n hx hb dX12_copy_152 rfl (lv_at hl 0 rfl) ?_
                      refine lv_iconst (v := 2) hx hb dX12_copy_153 (by decide +kernel) ?_
                      refine al_calli (va_runV (As := [.int 2]) (rest := []) ⟨hx, hb, hml, hown, hts⟩ (s_X12_meets l D H.size o a t i q c d 2 hI (show 1 ≤ 2 ∧ 2 ≤ 6 from by have h90 : (2 : Int32).toInt = 2 := (by decide +kernel); omega)) (cwV 1 hts gm_X12_copy_X12_meets rfl rfl rfl (by decide +kernel) ⟨Nat.le_of_ble_eq_true rfl, Nat.le_of_ble_eq_true rfl⟩) (pB_V hK hP hD (ci := 12) (q0 := 0) rfl rfl) rfl rfl hl.1 rfl (lv_room (Nat.le_of_ble_eq_true rfl)) dX12_copy_154 ⟨Nat.le_of_ble_eq_true rfl, Nat.le_of_ble_eq_true rfl⟩) hS hA hP hD (fun r21 u21 H locs hv21 hP hD hS => ?_)
                      obtain ⟨i21, q21, c21, d21⟩ := u21
                      have hw21 : r21 = (-3) ∧ mInv i21 c21 ∧ (∀ k, k ∉ ([0] : List Nat) → i21 k = i k) ∧ (∀ k, k ∉ ([1] : List Nat) → c21 k = c k) ∧ (q = q21) ∧ (d = d21) := hv21
                      clear hv21
                      obtain ⟨hw21, hI, hei21, hec21, hq21_q, hq21_d⟩ := hw21
                      subst hq21_q
                      subst hq21_d
                      have hfi : ∀ k, k ∉ ([0] : List Nat) → i21 k = i k := fr_z hfi hei21 (by decide +kernel) (by decide +kernel)
                      have hfc : ∀ k, k ∉ ([1] : List Nat) → c21 k = c k := fr_z hfc hec21 (by decide +kernel) (by decide +kernel)
                      have hP : va_P D vwCl (mW o a t i21 q c21 d) H := hP
                      have hD : va_D A (mW o a t i21 q c21 d) := hD
                      have hw21 : r21 = (-3) := hw21
                      subst hw21
                      exact rw_iret (i21, q, c21, d) hx hb hr hlocks hS (hK.sub (tys' := []) [] rfl) hP hD dX12_copy_157 ⟨trivial, hI, fr_w hfi (by decide +kernel), fr_w hfc (by decide +kernel), (show (¬ (0 ≤ w1.toInt ∧ w1.toInt < (i 5).toInt ∧ 0 ≤ w2.toInt ∧ w2.toInt < (i 5).toInt ∧ 0 ≤ s1.toInt ∧ s1.toInt ≤ 3) ∧ ((-3) : Int32).toInt = -1) ∨ (0 ≤ w1.toInt ∧ w1.toInt < (i 5).toInt ∧ 0 ≤ w2.toInt ∧ w2.toInt < (i 5).toInt ∧ 0 ≤ s1.toInt ∧ s1.toInt ≤ 3 ∧ ¬ (¬ (c 63 w1.toNatClampNeg).toInt = 0 ∧ ¬ (c 63 w2.toNatClampNeg).toInt = 0 ∧ (c 60 w1.toNatClampNeg).toInt = s1.toInt ∧ (c 60 w2.toNatClampNeg).toInt = s1.toInt ∧ 0 ≤ n1.toInt ∧ 0 ≤ n2.toInt ∧ 0 ≤ n3.toInt ∧ n1.toInt + n3.toInt ≤ (c 61 w1.toNatClampNeg).toInt ∧ n2.toInt + n3.toInt ≤ (c 61 w2.toNatClampNeg).toInt) ∧ ((-3) : Int32).toInt = -3) ∨ (0 ≤ w1.toInt ∧ w1.toInt < (i 5).toInt ∧ 0 ≤ w2.toInt ∧ w2.toInt < (i 5).toInt ∧ 0 ≤ s1.toInt ∧ s1.toInt ≤ 3 ∧ ¬ (c 63 w1.toNatClampNeg).toInt = 0 ∧ ¬ (c 63 w2.toNatClampNeg).toInt = 0 ∧ (c 60 w1.toNatClampNeg).toInt = s1.toInt ∧ (c 60 w2.toNatClampNeg).toInt = s1.toInt ∧ 0 ≤ n1.toInt ∧ 0 ≤ n2.toInt ∧ 0 ≤ n3.toInt ∧ n1.toInt + n3.toInt ≤ (c 61 w1.toNatClampNeg).toInt ∧ n2.toInt + n3.toInt ≤ (c 61 w2.toNatClampNeg).toInt ∧ ((-3) : Int32).toInt = 1) from by have h50 : ((-3) : Int32).toInt = -3 := (by decide +kernel); omega), (show CpR ((-3) : Int32).toInt (d 62) (d 62) (w1.toInt * 12 + n1.toInt).toNat (w2.toInt * 12 + n2.toInt).toNat n3.toInt.toNat from Or.inr ⟨by decide, rfl⟩), rfl⟩
                    · have f20 := mt (ti_lt (a := n3.toInt) (b := 0) rfl (by decide +kernel)).mpr c20
                      refine lv_iload_n hx hb dX12_copy_116 rfl (lv_at hl 3 rfl) ?_
                      refine lv_i2l (v := n1.toInt64) hx hb dX12_copy_117 rfl ?_
                      refine lv_iload hx hb dX12_copy_118 (lv_at hl 6 rfl) ?_
                      refine lv_i2l (v := n3.toInt64) hx hb dX12_copy_120 rfl ?_
                      refine lv_ladd hx hb dX12_copy_121 ?_
                      refine lv_topl (fun x22 ex22 => ?_)
                      have ib22_n1 := i32b n1
                      have ib22_n3 := i32b n3
                      have tx22 := ti_addl (a := n1.toInt) (b := n3.toInt) ex22 ((Int32.toInt_toInt64 n1).trans rfl) ((Int32.toInt_toInt64 n3).trans rfl) (by omega) (by omega)
                      refine lv_aload_n hx hb dX12_copy_122 rfl (lv_at hl 0 rfl) ?_
                      refine mget_61 hx hb hts (fun _ h => List.mem_cons_of_mem _ (List.mem_append_right _ h)) hown hK hP (hts (.fieldLink RX12 129 "TalePlayModel" "lineMany" "[I") (List.mem_cons_of_mem _ (List.mem_append_left _ (List.mem_append_right _ (List.mem_of_getElem? (i := 1) rfl))))) dX12_copy_123 ?_
                      refine lv_iload_n hx hb dX12_copy_126 rfl (lv_at hl 1 rfl) ?_
                      refine mld_61 hx hb hK hP (vp_in_iff.mpr (by have h9 : w1.toInt = w1.toInt := rfl; omega)) dX12_copy_127 (fun x23 ex23 => ?_)
                      have rx23 : 0 ≤ x23.toInt ∧ x23.toInt ≤ 12 := by rw [ex23]; exact hI.2 61 _
                      have gx23 : (c 61 (w1 : Int32).toNatClampNeg).toInt = x23.toInt := by rw [ex23]
                      refine lv_i2l (v := x23.toInt64) hx hb dX12_copy_128 rfl ?_
                      refine W.lcmp hx hb dX12_copy_129 ?_
                      refine lv_if_gt (tgt := 152) hx hb dX12_copy_130 (by decide +kernel) (fun c24 => ?_) (fun c24 => ?_)
                      · have f24 := (lc_gt (a := (n1.toInt + n3.toInt)) (b := x23.toInt) tx22 ((Int32.toInt_toInt64 x23).trans rfl)).mp c24
                        refine lv_aload_n hx hb dX12_copy_152 rfl (lv_at hl 0 rfl) ?_
                        refine lv_iconst (v := 2) hx hb dX12_copy_153 (by decide +kernel) ?_
                        refine al_calli (va_runV (As := [.int 2]) (rest := []) ⟨hx, hb, hml, hown, hts⟩ (s_X12_meets l D H.size o a t i q c d 2 hI (show 1 ≤ 2 ∧ 2 ≤ 6 from by have h90 : (2 : Int32).toInt = 2 := (by decide +kernel); omega)) (cwV 1 hts gm_X12_copy_X12_meets rfl rfl rfl (by decide +kernel) ⟨Nat.le_of_ble_eq_true rfl, Nat.le_of_ble_eq_true rfl⟩) (pB_V hK hP hD (ci := 12) (q0 := 0) rfl rfl) rfl rfl hl.1 rfl (lv_room (Nat.le_of_ble_eq_true rfl)) dX12_copy_154 ⟨Nat.le_of_ble_eq_true rfl, Nat.le_of_ble_eq_true rfl⟩) hS hA hP hD (fun r25 u25 H locs hv25 hP hD hS => ?_)
                        obtain ⟨i25, q25, c25, d25⟩ := u25
                        have hw25 : r25 = (-3) ∧ mInv i25 c25 ∧ (∀ k, k ∉ ([0] : List Nat) → i25 k = i k) ∧ (∀ k, k ∉ ([1] : List Nat) → c25 k = c k) ∧ (q = q25) ∧ (d = d25) := hv25
                        clear hv25
                        obtain ⟨hw25, hI, hei25, hec25, hq25_q, hq25_d⟩ := hw25
                        subst hq25_q
                        subst hq25_d
                        have hfi : ∀ k, k ∉ ([0] : List Nat) → i25 k = i k := fr_z hfi hei25 (by decide +kernel) (by decide +kernel)
                        have hfc : ∀ k, k ∉ ([1] : List Nat) → c25 k = c k := fr_z hfc hec25 (by decide +kernel) (by decide +kernel)
                        have hP : va_P D vwCl (mW o a t i25 q c25 d) H := hP
                        have hD : va_D A (mW o a t i25 q c25 d) := hD
                        have hw25 : r25 = (-3) := hw25
                        subst hw25
                        exact rw_iret (i25, q, c25, d) hx hb hr hlocks hS (hK.sub (tys' := []) [] rfl) hP hD dX12_copy_157 ⟨trivial, hI, fr_w hfi (by decide +kernel), fr_w hfc (by decide +kernel), (show (¬ (0 ≤ w1.toInt ∧ w1.toInt < (i 5).toInt ∧ 0 ≤ w2.toInt ∧ w2.toInt < (i 5).toInt ∧ 0 ≤ s1.toInt ∧ s1.toInt ≤ 3) ∧ ((-3) : Int32).toInt = -1) ∨ (0 ≤ w1.toInt ∧ w1.toInt < (i 5).toInt ∧ 0 ≤ w2.toInt ∧ w2.toInt < (i 5).toInt ∧ 0 ≤ s1.toInt ∧ s1.toInt ≤ 3 ∧ ¬ (¬ (c 63 w1.toNatClampNeg).toInt = 0 ∧ ¬ (c 63 w2.toNatClampNeg).toInt = 0 ∧ (c 60 w1.toNatClampNeg).toInt = s1.toInt ∧ (c 60 w2.toNatClampNeg).toInt = s1.toInt ∧ 0 ≤ n1.toInt ∧ 0 ≤ n2.toInt ∧ 0 ≤ n3.toInt ∧ n1.toInt + n3.toInt ≤ (c 61 w1.toNatClampNeg).toInt ∧ n2.toInt + n3.toInt ≤ (c 61 w2.toNatClampNeg).toInt) ∧ ((-3) : Int32).toInt = -3) ∨ (0 ≤ w1.toInt ∧ w1.toInt < (i 5).toInt ∧ 0 ≤ w2.toInt ∧ w2.toInt < (i 5).toInt ∧ 0 ≤ s1.toInt ∧ s1.toInt ≤ 3 ∧ ¬ (c 63 w1.toNatClampNeg).toInt = 0 ∧ ¬ (c 63 w2.toNatClampNeg).toInt = 0 ∧ (c 60 w1.toNatClampNeg).toInt = s1.toInt ∧ (c 60 w2.toNatClampNeg).toInt = s1.toInt ∧ 0 ≤ n1.toInt ∧ 0 ≤ n2.toInt ∧ 0 ≤ n3.toInt ∧ n1.toInt + n3.toInt ≤ (c 61 w1.toNatClampNeg).toInt ∧ n2.toInt + n3.toInt ≤ (c 61 w2.toNatClampNeg).toInt ∧ ((-3) : Int32).toInt = 1) from by have h50 : ((-3) : Int32).toInt = -3 := (by decide +kernel); omega), (show CpR ((-3) : Int32).toInt (d 62) (d 62) (w1.toInt * 12 + n1.toInt).toNat (w2.toInt * 12 + n2.toInt).toNat n3.toInt.toNat from Or.inr ⟨by decide, rfl⟩), rfl⟩
                      · have f24 := mt (lc_gt (a := (n1.toInt + n3.toInt)) (b := x23.toInt) tx22 ((Int32.toInt_toInt64 x23).trans rfl)).mpr c24
                        refine lv_iload hx hb dX12_copy_133 (lv_at hl 5 rfl) ?_
                        refine lv_i2l (v := n2.toInt64) hx hb dX12_copy_135 rfl ?_
                        refine lv_iload hx hb dX12_copy_136 (lv_at hl 6 rfl) ?_
                        refine lv_i2l (v := n3.toInt64) hx hb dX12_copy_138 rfl ?_
                        refine lv_ladd hx hb dX12_copy_139 ?_
                        refine lv_topl (fun x26 ex26 => ?_)
                        have ib26_n2 := i32b n2
                        have ib26_n3 := i32b n3
                        have tx26 := ti_addl (a := n2.toInt) (b := n3.toInt) ex26 ((Int32.toInt_toInt64 n2).trans rfl) ((Int32.toInt_toInt64 n3).trans rfl) (by omega) (by omega)
                        refine lv_aload_n hx hb dX12_copy_140 rfl (lv_at hl 0 rfl) ?_
                        refine mget_61 hx hb hts (fun _ h => List.mem_cons_of_mem _ (List.mem_append_right _ h)) hown hK hP (hts (.fieldLink RX12 129 "TalePlayModel" "lineMany" "[I") (List.mem_cons_of_mem _ (List.mem_append_left _ (List.mem_append_right _ (List.mem_of_getElem? (i := 1) rfl))))) dX12_copy_141 ?_
                        refine lv_iload hx hb dX12_copy_144 (lv_at hl 4 rfl) ?_
                        refine mld_61 hx hb hK hP (vp_in_iff.mpr (by have h9 : w2.toInt = w2.toInt := rfl; omega)) dX12_copy_146 (fun x27 ex27 => ?_)
                        have rx27 : 0 ≤ x27.toInt ∧ x27.toInt ≤ 12 := by rw [ex27]; exact hI.2 61 _
                        have gx27 : (c 61 (w2 : Int32).toNatClampNeg).toInt = x27.toInt := by rw [ex27]
                        refine lv_i2l (v := x27.toInt64) hx hb dX12_copy_147 rfl ?_
                        refine W.lcmp hx hb dX12_copy_148 ?_
                        refine lv_if_le (tgt := 158) hx hb dX12_copy_149 (by decide +kernel) (fun c28 => ?_) (fun c28 => ?_)
                        · have f28 := (lc_le (a := (n2.toInt + n3.toInt)) (b := x27.toInt) tx26 ((Int32.toInt_toInt64 x27).trans rfl)).mp c28
                          refine lv_iconst (v := 0) hx hb dX12_copy_158 (by decide +kernel) ?_
                          refine lv_istore (lv' := [(7, .int 0), (0, .ref o), (1, .int w1), (2, .int s1), (3, .int n1), (4, .int w2), (5, .int n2), (6, .int n3)]) hx hb dX12_copy_159 hl (by decide +kernel) rfl (fun ls hl => ?_)
                          have lp29 : ∀ (fu : Nat) (i29 : Nat → Int32) (c29 : Nat → Nat → Int32) (d29 : Nat → Nat → Int64) (y29_7 : Int32), mInv i29 c29 → (∀ k, k ∉ ([] : List Nat) → i29 k = i k) → (∀ k, k ∉ ([] : List Nat) → c29 k = c k) → (0 ≤ y29_7.toInt ∧ y29_7.toInt ≤ 12 ∧ y29_7.toInt ≤ n3.toInt) → (HeK (d 62) (d29 68) (w1.toInt * 12 + n1.toInt).toNat y29_7.toInt) → ((d29 62) = (d 62)) → (12 - y29_7.toInt).toNat < fu → ∀ (H : Heap) (locs : List Loc) (ls : Array Slot), va_P D vwCl (mW o a t i29 q c29 d29) H → va_D A (mW o a t i29 q c29 d29) → va_S A s.heap H locs → lv_has ls 8 [(7, .int y29_7), (0, .ref o), (1, .int w1), (2, .int s1), (3, .int n1), (4, .int w2), (5, .int n2), (6, .int n3)] → W p l e (headSpec wm_X12_copy ({ frames := 2, cells := 0, slots := 0, locals := 46 })).room s m ([.ref o, .int w1, .int s1, .int n1, .int w2, .int n2, .int n3] : List Value).toArray below meth cd H locs 0 0 (MQ below (va_Qi (fun (r : Int32) (u : MS) => True ∧ mInv u.1 u.2.2.1 ∧ (∀ k, k ∉ ([0] : List Nat) → u.1 k = i k) ∧ (∀ k, k ∉ ([1] : List Nat) → u.2.2.1 k = c k) ∧ ((¬ (0 ≤ w1.toInt ∧ w1.toInt < (i 5).toInt ∧ 0 ≤ w2.toInt ∧ w2.toInt < (i 5).toInt ∧ 0 ≤ s1.toInt ∧ s1.toInt ≤ 3) ∧ r.toInt = -1) ∨ (0 ≤ w1.toInt ∧ w1.toInt < (i 5).toInt ∧ 0 ≤ w2.toInt ∧ w2.toInt < (i 5).toInt ∧ 0 ≤ s1.toInt ∧ s1.toInt ≤ 3 ∧ ¬ (¬ (c 63 w1.toNatClampNeg).toInt = 0 ∧ ¬ (c 63 w2.toNatClampNeg).toInt = 0 ∧ (c 60 w1.toNatClampNeg).toInt = s1.toInt ∧ (c 60 w2.toNatClampNeg).toInt = s1.toInt ∧ 0 ≤ n1.toInt ∧ 0 ≤ n2.toInt ∧ 0 ≤ n3.toInt ∧ n1.toInt + n3.toInt ≤ (c 61 w1.toNatClampNeg).toInt ∧ n2.toInt + n3.toInt ≤ (c 61 w2.toNatClampNeg).toInt) ∧ r.toInt = -3) ∨ (0 ≤ w1.toInt ∧ w1.toInt < (i 5).toInt ∧ 0 ≤ w2.toInt ∧ w2.toInt < (i 5).toInt ∧ 0 ≤ s1.toInt ∧ s1.toInt ≤ 3 ∧ ¬ (c 63 w1.toNatClampNeg).toInt = 0 ∧ ¬ (c 63 w2.toNatClampNeg).toInt = 0 ∧ (c 60 w1.toNatClampNeg).toInt = s1.toInt ∧ (c 60 w2.toNatClampNeg).toInt = s1.toInt ∧ 0 ≤ n1.toInt ∧ 0 ≤ n2.toInt ∧ 0 ≤ n3.toInt ∧ n1.toInt + n3.toInt ≤ (c 61 w1.toNatClampNeg).toInt ∧ n2.toInt + n3.toInt ≤ (c 61 w2.toNatClampNeg).toInt ∧ r.toInt = 1)) ∧ (CpR r.toInt (u.2.2.2 62) (d 62) (w1.toInt * 12 + n1.toInt).toNat (w2.toInt * 12 + n2.toInt).toNat n3.toInt.toNat) ∧ (q = u.2.1)) (oC D A (fun u : MS => mW o a t u.1 u.2.1 u.2.2.1 u.2.2.2) (fun _ => [])) A) ([.ref o, .int w1, .int s1, .int n1, .int w2, .int n2, .int n3] : List Value).toArray s 0 0 A) (F0 m 161 ls []) := by
                            intro fu
                            induction fu with
                            | zero => intro i29 c29 d29 y29_7 hI hfi hfc hy29_7 hz29_0 hz29_1 hm; exact absurd hm (Nat.not_lt_zero _)
                            | succ fu ih =>
                              intro i29 c29 d29 y29_7 hI hfi hfc hy29_7 hz29_0 hz29_1 hm H locs ls hP hD hS hl
                              have ih29 := ih
                              refine lv_iload hx hb dX12_copy_161 (lv_at hl 0 rfl) ?_
                              refine lv_iload hx hb dX12_copy_163 (lv_at hl 7 rfl) ?_
                              refine lv_icmp_ge (tgt := 195) hx hb dX12_copy_165 (by decide +kernel) (fun c30 => ?_) (fun c30 => ?_)
                              · have f30 := (ti_le (a := n3.toInt) (b := y29_7.toInt) rfl rfl).mp c30
                                refine lv_iconst (v := 0) hx hb dX12_copy_195 (by decide +kernel) ?_
                                refine lv_istore (lv' := [(7, .int 0), (0, .ref o), (1, .int w1), (2, .int s1), (3, .int n1), (4, .int w2), (5, .int n2), (6, .int n3)]) hx hb dX12_copy_196 hl (by decide +kernel) rfl (fun ls hl => ?_)
                                have lp31 : ∀ (fu : Nat) (i31 : Nat → Int32) (c31 : Nat → Nat → Int32) (d31 : Nat → Nat → Int64) (y31_7 : Int32), mInv i31 c31 → (∀ k, k ∉ ([] : List Nat) → i31 k = i k) → (∀ k, k ∉ ([] : List Nat) → c31 k = c k) → (0 ≤ y31_7.toInt ∧ y31_7.toInt ≤ 12 ∧ y31_7.toInt ≤ n3.toInt) → (HeK (d 62) (d31 68) (w1.toInt * 12 + n1.toInt).toNat n3.toInt) → (CpK (d 62) (d31 62) (w1.toInt * 12 + n1.toInt).toNat (w2.toInt * 12 + n2.toInt).toNat y31_7.toInt) → (12 - y31_7.toInt).toNat < fu → ∀ (H : Heap) (locs : List Loc) (ls : Array Slot), va_P D vwCl (mW o a t i31 q c31 d31) H → va_D A (mW o a t i31 q c31 d31) → va_S A s.heap H locs → lv_has ls 8 [(7, .int y31_7), (0, .ref o), (1, .int w1), (2, .int s1), (3, .int n1), (4, .int w2), (5, .int n2), (6, .int n3)] → W p l e (headSpec wm_X12_copy ({ frames := 2, cells := 0, slots := 0, locals := 46 })).room s m ([.ref o, .int w1, .int s1, .int n1, .int w2, .int n2, .int n3] : List Value).toArray below meth cd H locs 0 0 (MQ below (va_Qi (fun (r : Int32) (u : MS) => True ∧ mInv u.1 u.2.2.1 ∧ (∀ k, k ∉ ([0] : List Nat) → u.1 k = i k) ∧ (∀ k, k ∉ ([1] : List Nat) → u.2.2.1 k = c k) ∧ ((¬ (0 ≤ w1.toInt ∧ w1.toInt < (i 5).toInt ∧ 0 ≤ w2.toInt ∧ w2.toInt < (i 5).toInt ∧ 0 ≤ s1.toInt ∧ s1.toInt ≤ 3) ∧ r.toInt = -1) ∨ (0 ≤ w1.toInt ∧ w1.toInt < (i 5).toInt ∧ 0 ≤ w2.toInt ∧ w2.toInt < (i 5).toInt ∧ 0 ≤ s1.toInt ∧ s1.toInt ≤ 3 ∧ ¬ (¬ (c 63 w1.toNatClampNeg).toInt = 0 ∧ ¬ (c 63 w2.toNatClampNeg).toInt = 0 ∧ (c 60 w1.toNatClampNeg).toInt = s1.toInt ∧ (c 60 w2.toNatClampNeg).toInt = s1.toInt ∧ 0 ≤ n1.toInt ∧ 0 ≤ n2.toInt ∧ 0 ≤ n3.toInt ∧ n1.toInt + n3.toInt ≤ (c 61 w1.toNatClampNeg).toInt ∧ n2.toInt + n3.toInt ≤ (c 61 w2.toNatClampNeg).toInt) ∧ r.toInt = -3) ∨ (0 ≤ w1.toInt ∧ w1.toInt < (i 5).toInt ∧ 0 ≤ w2.toInt ∧ w2.toInt < (i 5).toInt ∧ 0 ≤ s1.toInt ∧ s1.toInt ≤ 3 ∧ ¬ (c 63 w1.toNatClampNeg).toInt = 0 ∧ ¬ (c 63 w2.toNatClampNeg).toInt = 0 ∧ (c 60 w1.toNatClampNeg).toInt = s1.toInt ∧ (c 60 w2.toNatClampNeg).toInt = s1.toInt ∧ 0 ≤ n1.toInt ∧ 0 ≤ n2.toInt ∧ 0 ≤ n3.toInt ∧ n1.toInt + n3.toInt ≤ (c 61 w1.toNatClampNeg).toInt ∧ n2.toInt + n3.toInt ≤ (c 61 w2.toNatClampNeg).toInt ∧ r.toInt = 1)) ∧ (CpR r.toInt (u.2.2.2 62) (d 62) (w1.toInt * 12 + n1.toInt).toNat (w2.toInt * 12 + n2.toInt).toNat n3.toInt.toNat) ∧ (q = u.2.1)) (oC D A (fun u : MS => mW o a t u.1 u.2.1 u.2.2.1 u.2.2.2) (fun _ => [])) A) ([.ref o, .int w1, .int s1, .int n1, .int w2, .int n2, .int n3] : List Value).toArray s 0 0 A) (F0 m 198 ls []) := by
                                  intro fu
                                  induction fu with
                                  | zero => intro i31 c31 d31 y31_7 hI hfi hfc hy31_7 hz31_0 hz31_1 hm; exact absurd hm (Nat.not_lt_zero _)
                                  | succ fu ih =>
                                    intro i31 c31 d31 y31_7 hI hfi hfc hy31_7 hz31_0 hz31_1 hm H locs ls hP hD hS hl
                                    have ih31 := ih
                                    refine lv_iload hx hb dX12_copy_198 (lv_at hl 0 rfl) ?_
                                    refine lv_iload hx hb dX12_copy_200 (lv_at hl 7 rfl) ?_
                                    refine lv_icmp_ge (tgt := 234) hx hb dX12_copy_202 (by decide +kernel) (fun c32 => ?_) (fun c32 => ?_)
                                    · have f32 := (ti_le (a := n3.toInt) (b := y31_7.toInt) rfl rfl).mp c32
                                      refine lv_iconst (v := 1) hx hb dX12_copy_234 (by decide +kernel) ?_
                                      exact rw_iret (i31, q, c31, d31) hx hb hr hlocks hS (hK.sub (tys' := []) [] rfl) hP hD dX12_copy_235 ⟨trivial, hI, fr_w hfi (by decide +kernel), fr_w hfc (by decide +kernel), (show (¬ (0 ≤ w1.toInt ∧ w1.toInt < (i 5).toInt ∧ 0 ≤ w2.toInt ∧ w2.toInt < (i 5).toInt ∧ 0 ≤ s1.toInt ∧ s1.toInt ≤ 3) ∧ (1 : Int32).toInt = -1) ∨ (0 ≤ w1.toInt ∧ w1.toInt < (i 5).toInt ∧ 0 ≤ w2.toInt ∧ w2.toInt < (i 5).toInt ∧ 0 ≤ s1.toInt ∧ s1.toInt ≤ 3 ∧ ¬ (¬ (c 63 w1.toNatClampNeg).toInt = 0 ∧ ¬ (c 63 w2.toNatClampNeg).toInt = 0 ∧ (c 60 w1.toNatClampNeg).toInt = s1.toInt ∧ (c 60 w2.toNatClampNeg).toInt = s1.toInt ∧ 0 ≤ n1.toInt ∧ 0 ≤ n2.toInt ∧ 0 ≤ n3.toInt ∧ n1.toInt + n3.toInt ≤ (c 61 w1.toNatClampNeg).toInt ∧ n2.toInt + n3.toInt ≤ (c 61 w2.toNatClampNeg).toInt) ∧ (1 : Int32).toInt = -3) ∨ (0 ≤ w1.toInt ∧ w1.toInt < (i 5).toInt ∧ 0 ≤ w2.toInt ∧ w2.toInt < (i 5).toInt ∧ 0 ≤ s1.toInt ∧ s1.toInt ≤ 3 ∧ ¬ (c 63 w1.toNatClampNeg).toInt = 0 ∧ ¬ (c 63 w2.toNatClampNeg).toInt = 0 ∧ (c 60 w1.toNatClampNeg).toInt = s1.toInt ∧ (c 60 w2.toNatClampNeg).toInt = s1.toInt ∧ 0 ≤ n1.toInt ∧ 0 ≤ n2.toInt ∧ 0 ≤ n3.toInt ∧ n1.toInt + n3.toInt ≤ (c 61 w1.toNatClampNeg).toInt ∧ n2.toInt + n3.toInt ≤ (c 61 w2.toNatClampNeg).toInt ∧ (1 : Int32).toInt = 1) from by have h50 : (1 : Int32).toInt = 1 := (by decide +kernel); omega), (show CpR (1 : Int32).toInt (d31 62) (d 62) (w1.toInt * 12 + n1.toInt).toNat (w2.toInt * 12 + n2.toInt).toNat n3.toInt.toNat from Or.inl ⟨by decide, by rw [show n3.toInt = y31_7.toInt by omega]; exact CpK_e hz31_1 (by omega)⟩), rfl⟩
                                    · have f32 := mt (ti_le (a := n3.toInt) (b := y31_7.toInt) rfl rfl).mpr c32
                                      refine lv_aload_n hx hb dX12_copy_205 rfl (lv_at hl 1 rfl) ?_
                                      refine mget_62 hx hb hts (fun _ h => List.mem_cons_of_mem _ (List.mem_append_right _ h)) hown hK hP (hts (.fieldLink RX12 132 "TalePlayModel" "items" "[J") (List.mem_cons_of_mem _ (List.mem_append_left _ (List.mem_append_right _ (List.mem_of_getElem? (i := 2) rfl))))) dX12_copy_206 ?_
                                      refine lv_bipush (v := 12) hx hb dX12_copy_209 (by decide +kernel) ?_
                                      refine lv_iload hx hb dX12_copy_211 (lv_at hl 5 rfl) ?_
                                      refine lv_imul hx hb dX12_copy_213 ?_
                                      refine lv_topi (fun x33 ex33 => ?_)
                                      have tx33 := ti_mul (a := 12) (b := w2.toInt) ex33 (by decide +kernel) rfl (by omega) (by omega)
                                      refine lv_iload hx hb dX12_copy_214 (lv_at hl 6 rfl) ?_
                                      refine lv_iadd hx hb dX12_copy_216 ?_
                                      refine lv_topi (fun x34 ex34 => ?_)
                                      have tx34 := ti_add (a := (12 * w2.toInt)) (b := n2.toInt) ex34 tx33 rfl (by omega) (by omega)
                                      refine lv_iload hx hb dX12_copy_217 (lv_at hl 0 rfl) ?_
                                      refine lv_iadd hx hb dX12_copy_219 ?_
                                      refine lv_topi (fun x35 ex35 => ?_)
                                      have tx35 := ti_add (a := ((12 * w2.toInt) + n2.toInt)) (b := y31_7.toInt) ex35 tx34 rfl (by omega) (by omega)
                                      refine lv_aload_n hx hb dX12_copy_220 rfl (lv_at hl 1 rfl) ?_
                                      refine mget_68 hx hb hts (fun _ h => List.mem_cons_of_mem _ (List.mem_append_right _ h)) hown hK hP (hts (.fieldLink RX12 148 "TalePlayModel" "held" "[J") (List.mem_cons_of_mem _ (List.mem_append_left _ (List.mem_append_right _ (List.mem_of_getElem? (i := 3) rfl))))) dX12_copy_221 ?_
                                      refine lv_iload hx hb dX12_copy_224 (lv_at hl 0 rfl) ?_
                                      refine mld_68 hx hb hK hP (vp_in_iff.mpr (by have h9 : y31_7.toInt = y31_7.toInt := rfl; omega)) dX12_copy_226 (fun x36 ex36 => ?_)
                                      refine mst_62 hx hb hK hP hD hS (vp_in_iff.mpr (by have h9 : x35.toInt = (((12 * w2.toInt) + n2.toInt) + y31_7.toInt) := tx35; omega)) dX12_copy_227 (fun H locs hP hD hS => ?_)
                                      obtain ⟨x37, ex37⟩ : ∃ y : Int32, y = y31_7 + 1 := ⟨_, rfl⟩
                                      have tx37 := ti_add (a := y31_7.toInt) (b := 1) ex37 rfl (by decide +kernel) (by omega) (by omega)
                                      refine lv_iinc (v := x37) (lv' := [(7, .int x37), (0, .ref o), (1, .int w1), (2, .int s1), (3, .int n1), (4, .int w2), (5, .int n2), (6, .int n3)]) hx hb dX12_copy_228 hl (k := 0) rfl (by rw [ex37]; rfl) (by decide +kernel) rfl (fun ls hl => ?_)
                                      refine lv_goto (tgt := 198) hx hb dX12_copy_231 (by decide +kernel) ?_
                                      exact ih31 i31 c31 (updD d31 62 (x35 : Int32).toNatClampNeg x36) x37 hI (fr_w hfi (by decide +kernel)) (fr_w hfc (by decide +kernel)) (show 0 ≤ x37.toInt ∧ x37.toInt ≤ 12 ∧ x37.toInt ≤ n3.toInt from by have h50 : x37.toInt = (y31_7.toInt + 1) := tx37; omega) (show HeK (d 62) ((updD d31 62 (x35 : Int32).toNatClampNeg x36) 68) (w1.toInt * 12 + n1.toInt).toNat n3.toInt from hz31_0) (show CpK (d 62) ((updD d31 62 (x35 : Int32).toNatClampNeg x36) 62) (w1.toInt * 12 + n1.toInt).toNat (w2.toInt * 12 + n2.toInt).toNat x37.toInt from CpK_s (x := y31_7) (z := x35) (u := y31_7) hz31_1 hz31_0 (by omega) (by omega) tx37 (by have h9 : x35.toInt = (((12 * w2.toInt) + n2.toInt) + y31_7.toInt) := tx35; omega) rfl ex36) (by have h50 : x37.toInt = (y31_7.toInt + 1) := tx37; omega) _ _ _ hP hD hS (lv_sub hl [0, 1, 2, 3, 4, 5, 6, 7] rfl)
                                exact lp31 _ i29 c29 d29 (0 : Int32) hI (fr_w hfi (by decide +kernel)) (fr_w hfc (by decide +kernel)) (show 0 ≤ (0 : Int32).toInt ∧ (0 : Int32).toInt ≤ 12 ∧ (0 : Int32).toInt ≤ n3.toInt from by have h50 : (0 : Int32).toInt = 0 := (by decide +kernel); omega) (show HeK (d 62) (d29 68) (w1.toInt * 12 + n1.toInt).toNat n3.toInt from fun j hj => hz29_0 j (by omega)) (show CpK (d 62) (d29 62) (w1.toInt * 12 + n1.toInt).toNat (w2.toInt * 12 + n2.toInt).toNat (0 : Int32).toInt from by rw [hz29_1]; exact CpK_0) (Nat.lt_succ_self _) _ _ _ hP hD hS (lv_sub hl [0, 1, 2, 3, 4, 5, 6, 7] rfl)
                              · have f30 := mt (ti_le (a := n3.toInt) (b := y29_7.toInt) rfl rfl).mpr c30
                                refine lv_aload_n hx hb dX12_copy_168 rfl (lv_at hl 1 rfl) ?_
                                refine mget_68 hx hb hts (fun _ h => List.mem_cons_of_mem _ (List.mem_append_right _ h)) hown hK hP (hts (.fieldLink RX12 148 "TalePlayModel" "held" "[J") (List.mem_cons_of_mem _ (List.mem_append_left _ (List.mem_append_right _ (List.mem_of_getElem? (i := 3) rfl))))) dX12_copy_169 ?_
                                refine lv_iload hx hb dX12_copy_172 (lv_at hl 0 rfl) ?_
                                refine lv_aload_n hx hb dX12_copy_174 rfl (lv_at hl 1 rfl) ?_
                                refine mget_62 hx hb hts (fun _ h => List.mem_cons_of_mem _ (List.mem_append_right _ h)) hown hK hP (hts (.fieldLink RX12 132 "TalePlayModel" "items" "[J") (List.mem_cons_of_mem _ (List.mem_append_left _ (List.mem_append_right _ (List.mem_of_getElem? (i := 2) rfl))))) dX12_copy_175 ?_
                                refine lv_bipush (v := 12) hx hb dX12_copy_178 (by decide +kernel) ?_
                                refine lv_iload_n hx hb dX12_copy_180 rfl (lv_at hl 2 rfl) ?_
                                refine lv_imul hx hb dX12_copy_181 ?_
                                refine lv_topi (fun x38 ex38 => ?_)
                                have tx38 := ti_mul (a := 12) (b := w1.toInt) ex38 (by decide +kernel) rfl (by omega) (by omega)
                                refine lv_iload_n hx hb dX12_copy_182 rfl (lv_at hl 4 rfl) ?_
                                refine lv_iadd hx hb dX12_copy_183 ?_
                                refine lv_topi (fun x39 ex39 => ?_)
                                have tx39 := ti_add (a := (12 * w1.toInt)) (b := n1.toInt) ex39 tx38 rfl (by omega) (by omega)
                                refine lv_iload hx hb dX12_copy_184 (lv_at hl 0 rfl) ?_
                                refine lv_iadd hx hb dX12_copy_186 ?_
                                refine lv_topi (fun x40 ex40 => ?_)
                                have tx40 := ti_add (a := ((12 * w1.toInt) + n1.toInt)) (b := y29_7.toInt) ex40 tx39 rfl (by omega) (by omega)
                                refine mld_62 hx hb hK hP (vp_in_iff.mpr (by have h9 : x40.toInt = (((12 * w1.toInt) + n1.toInt) + y29_7.toInt) := tx40; omega)) dX12_copy_187 (fun x41 ex41 => ?_)
                                refine mst_68 hx hb hK hP hD hS (vp_in_iff.mpr (by have h9 : y29_7.toInt = y29_7.toInt := rfl; omega)) dX12_copy_188 (fun H locs hP hD hS => ?_)
                                obtain ⟨x42, ex42⟩ : ∃ y : Int32, y = y29_7 + 1 := ⟨_, rfl⟩
                                have tx42 := ti_add (a := y29_7.toInt) (b := 1) ex42 rfl (by decide +kernel) (by omega) (by omega)
                                refine lv_iinc (v := x42) (lv' := [(7, .int x42), (0, .ref o), (1, .int w1), (2, .int s1), (3, .int n1), (4, .int w2), (5, .int n2), (6, .int n3)]) hx hb dX12_copy_189 hl (k := 0) rfl (by rw [ex42]; rfl) (by decide +kernel) rfl (fun ls hl => ?_)
                                refine lv_goto (tgt := 161) hx hb dX12_copy_192 (by decide +kernel) ?_
                                exact ih29 i29 c29 (updD d29 68 (y29_7 : Int32).toNatClampNeg x41) x42 hI (fr_w hfi (by decide +kernel)) (fr_w hfc (by decide +kernel)) (show 0 ≤ x42.toInt ∧ x42.toInt ≤ 12 ∧ x42.toInt ≤ n3.toInt from by have h50 : x42.toInt = (y29_7.toInt + 1) := tx42; omega) (show HeK (d 62) ((updD d29 68 (y29_7 : Int32).toNatClampNeg x41) 68) (w1.toInt * 12 + n1.toInt).toNat x42.toInt from HeK_s (x := y29_7) (z := y29_7) (u := x40) hz29_0 (by omega) tx42 rfl (by have h9 : x40.toInt = (((12 * w1.toInt) + n1.toInt) + y29_7.toInt) := tx40; omega) (by rw [ex41, hz29_1])) (show ((updD d29 68 (y29_7 : Int32).toNatClampNeg x41) 62) = (d 62) from hz29_1) (by have h50 : x42.toInt = (y29_7.toInt + 1) := tx42; omega) _ _ _ hP hD hS (lv_sub hl [0, 1, 2, 3, 4, 5, 6, 7] rfl)
                          exact lp29 _ i c d (0 : Int32) hI (fr_w hfi (by decide +kernel)) (fr_w hfc (by decide +kernel)) (show 0 ≤ (0 : Int32).toInt ∧ (0 : Int32).toInt ≤ 12 ∧ (0 : Int32).toInt ≤ n3.toInt from by have h50 : (0 : Int32).toInt = 0 := (by decide +kernel); omega) (show HeK (d 62) (d 68) (w1.toInt * 12 + n1.toInt).toNat (0 : Int32).toInt from fun j hj => by have h9 : (0 : Int32).toInt = 0 := (by decide +kernel); exfalso; omega) (show (d 62) = (d 62) from rfl) (Nat.lt_succ_self _) _ _ _ hP hD hS (lv_sub hl [0, 1, 2, 3, 4, 5, 6, 7] rfl)
                        · have f28 := mt (lc_le (a := (n2.toInt + n3.toInt)) (b := x27.toInt) tx26 ((Int32.toInt_toInt64 x27).trans rfl)).mpr c28
                          refine lv_aload_n hx hb dX12_copy_152 rfl (lv_at hl 0 rfl) ?_
                          refine lv_iconst (v := 2) hx hb dX12_copy_153 (by decide +kernel) ?_
                          refine al_calli (va_runV (As := [.int 2]) (rest := []) ⟨hx, hb, hml, hown, hts⟩ (s_X12_meets l D H.size o a t i q c d 2 hI (show 1 ≤ 2 ∧ 2 ≤ 6 from by have h90 : (2 : Int32).toInt = 2 := (by decide +kernel); omega)) (cwV 1 hts gm_X12_copy_X12_meets rfl rfl rfl (by decide +kernel) ⟨Nat.le_of_ble_eq_true rfl, Nat.le_of_ble_eq_true rfl⟩) (pB_V hK hP hD (ci := 12) (q0 := 0) rfl rfl) rfl rfl hl.1 rfl (lv_room (Nat.le_of_ble_eq_true rfl)) dX12_copy_154 ⟨Nat.le_of_ble_eq_true rfl, Nat.le_of_ble_eq_true rfl⟩) hS hA hP hD (fun r43 u43 H locs hv43 hP hD hS => ?_)
                          obtain ⟨i43, q43, c43, d43⟩ := u43
                          have hw43 : r43 = (-3) ∧ mInv i43 c43 ∧ (∀ k, k ∉ ([0] : List Nat) → i43 k = i k) ∧ (∀ k, k ∉ ([1] : List Nat) → c43 k = c k) ∧ (q = q43) ∧ (d = d43) := hv43
                          clear hv43
                          obtain ⟨hw43, hI, hei43, hec43, hq43_q, hq43_d⟩ := hw43
                          subst hq43_q
                          subst hq43_d
                          have hfi : ∀ k, k ∉ ([0] : List Nat) → i43 k = i k := fr_z hfi hei43 (by decide +kernel) (by decide +kernel)
                          have hfc : ∀ k, k ∉ ([1] : List Nat) → c43 k = c k := fr_z hfc hec43 (by decide +kernel) (by decide +kernel)
                          have hP : va_P D vwCl (mW o a t i43 q c43 d) H := hP
                          have hD : va_D A (mW o a t i43 q c43 d) := hD
                          have hw43 : r43 = (-3) := hw43
                          subst hw43
                          exact rw_iret (i43, q, c43, d) hx hb hr hlocks hS (hK.sub (tys' := []) [] rfl) hP hD dX12_copy_157 ⟨trivial, hI, fr_w hfi (by decide +kernel), fr_w hfc (by decide +kernel), (show (¬ (0 ≤ w1.toInt ∧ w1.toInt < (i 5).toInt ∧ 0 ≤ w2.toInt ∧ w2.toInt < (i 5).toInt ∧ 0 ≤ s1.toInt ∧ s1.toInt ≤ 3) ∧ ((-3) : Int32).toInt = -1) ∨ (0 ≤ w1.toInt ∧ w1.toInt < (i 5).toInt ∧ 0 ≤ w2.toInt ∧ w2.toInt < (i 5).toInt ∧ 0 ≤ s1.toInt ∧ s1.toInt ≤ 3 ∧ ¬ (¬ (c 63 w1.toNatClampNeg).toInt = 0 ∧ ¬ (c 63 w2.toNatClampNeg).toInt = 0 ∧ (c 60 w1.toNatClampNeg).toInt = s1.toInt ∧ (c 60 w2.toNatClampNeg).toInt = s1.toInt ∧ 0 ≤ n1.toInt ∧ 0 ≤ n2.toInt ∧ 0 ≤ n3.toInt ∧ n1.toInt + n3.toInt ≤ (c 61 w1.toNatClampNeg).toInt ∧ n2.toInt + n3.toInt ≤ (c 61 w2.toNatClampNeg).toInt) ∧ ((-3) : Int32).toInt = -3) ∨ (0 ≤ w1.toInt ∧ w1.toInt < (i 5).toInt ∧ 0 ≤ w2.toInt ∧ w2.toInt < (i 5).toInt ∧ 0 ≤ s1.toInt ∧ s1.toInt ≤ 3 ∧ ¬ (c 63 w1.toNatClampNeg).toInt = 0 ∧ ¬ (c 63 w2.toNatClampNeg).toInt = 0 ∧ (c 60 w1.toNatClampNeg).toInt = s1.toInt ∧ (c 60 w2.toNatClampNeg).toInt = s1.toInt ∧ 0 ≤ n1.toInt ∧ 0 ≤ n2.toInt ∧ 0 ≤ n3.toInt ∧ n1.toInt + n3.toInt ≤ (c 61 w1.toNatClampNeg).toInt ∧ n2.toInt + n3.toInt ≤ (c 61 w2.toNatClampNeg).toInt ∧ ((-3) : Int32).toInt = 1) from by have h50 : ((-3) : Int32).toInt = -3 := (by decide +kernel); omega), (show CpR ((-3) : Int32).toInt (d 62) (d 62) (w1.toInt * 12 + n1.toInt).toNat (w2.toInt * 12 + n2.toInt).toNat n3.toInt.toNat from Or.inr ⟨by decide, rfl⟩), rfl⟩
              · have f15 := (ti_eq (a := x14.toInt) (b := 0) rfl (by decide +kernel)).mp c15
                refine lv_aload_n hx hb dX12_copy_96 rfl (lv_at hl 0 rfl) ?_
                refine lv_iconst (v := 1) hx hb dX12_copy_97 (by decide +kernel) ?_
                refine al_calli (va_runV (As := [.int 1]) (rest := []) ⟨hx, hb, hml, hown, hts⟩ (s_X12_meets l D H.size o a t i q c d 1 hI (show 1 ≤ 1 ∧ 1 ≤ 6 from by have h90 : (1 : Int32).toInt = 1 := (by decide +kernel); omega)) (cwV 1 hts gm_X12_copy_X12_meets rfl rfl rfl (by decide +kernel) ⟨Nat.le_of_ble_eq_true rfl, Nat.le_of_ble_eq_true rfl⟩) (pB_V hK hP hD (ci := 12) (q0 := 0) rfl rfl) rfl rfl hl.1 rfl (lv_room (Nat.le_of_ble_eq_true rfl)) dX12_copy_98 ⟨Nat.le_of_ble_eq_true rfl, Nat.le_of_ble_eq_true rfl⟩) hS hA hP hD (fun r44 u44 H locs hv44 hP hD hS => ?_)
                obtain ⟨i44, q44, c44, d44⟩ := u44
                have hw44 : r44 = (-3) ∧ mInv i44 c44 ∧ (∀ k, k ∉ ([0] : List Nat) → i44 k = i k) ∧ (∀ k, k ∉ ([1] : List Nat) → c44 k = c k) ∧ (q = q44) ∧ (d = d44) := hv44
                clear hv44
                obtain ⟨hw44, hI, hei44, hec44, hq44_q, hq44_d⟩ := hw44
                subst hq44_q
                subst hq44_d
                have hfi : ∀ k, k ∉ ([0] : List Nat) → i44 k = i k := fr_z hfi hei44 (by decide +kernel) (by decide +kernel)
                have hfc : ∀ k, k ∉ ([1] : List Nat) → c44 k = c k := fr_z hfc hec44 (by decide +kernel) (by decide +kernel)
                have hP : va_P D vwCl (mW o a t i44 q c44 d) H := hP
                have hD : va_D A (mW o a t i44 q c44 d) := hD
                have hw44 : r44 = (-3) := hw44
                subst hw44
                exact rw_iret (i44, q, c44, d) hx hb hr hlocks hS (hK.sub (tys' := []) [] rfl) hP hD dX12_copy_101 ⟨trivial, hI, fr_w hfi (by decide +kernel), fr_w hfc (by decide +kernel), (show (¬ (0 ≤ w1.toInt ∧ w1.toInt < (i 5).toInt ∧ 0 ≤ w2.toInt ∧ w2.toInt < (i 5).toInt ∧ 0 ≤ s1.toInt ∧ s1.toInt ≤ 3) ∧ ((-3) : Int32).toInt = -1) ∨ (0 ≤ w1.toInt ∧ w1.toInt < (i 5).toInt ∧ 0 ≤ w2.toInt ∧ w2.toInt < (i 5).toInt ∧ 0 ≤ s1.toInt ∧ s1.toInt ≤ 3 ∧ ¬ (¬ (c 63 w1.toNatClampNeg).toInt = 0 ∧ ¬ (c 63 w2.toNatClampNeg).toInt = 0 ∧ (c 60 w1.toNatClampNeg).toInt = s1.toInt ∧ (c 60 w2.toNatClampNeg).toInt = s1.toInt ∧ 0 ≤ n1.toInt ∧ 0 ≤ n2.toInt ∧ 0 ≤ n3.toInt ∧ n1.toInt + n3.toInt ≤ (c 61 w1.toNatClampNeg).toInt ∧ n2.toInt + n3.toInt ≤ (c 61 w2.toNatClampNeg).toInt) ∧ ((-3) : Int32).toInt = -3) ∨ (0 ≤ w1.toInt ∧ w1.toInt < (i 5).toInt ∧ 0 ≤ w2.toInt ∧ w2.toInt < (i 5).toInt ∧ 0 ≤ s1.toInt ∧ s1.toInt ≤ 3 ∧ ¬ (c 63 w1.toNatClampNeg).toInt = 0 ∧ ¬ (c 63 w2.toNatClampNeg).toInt = 0 ∧ (c 60 w1.toNatClampNeg).toInt = s1.toInt ∧ (c 60 w2.toNatClampNeg).toInt = s1.toInt ∧ 0 ≤ n1.toInt ∧ 0 ≤ n2.toInt ∧ 0 ≤ n3.toInt ∧ n1.toInt + n3.toInt ≤ (c 61 w1.toNatClampNeg).toInt ∧ n2.toInt + n3.toInt ≤ (c 61 w2.toNatClampNeg).toInt ∧ ((-3) : Int32).toInt = 1) from by have h50 : ((-3) : Int32).toInt = -3 := (by decide +kernel); omega), (show CpR ((-3) : Int32).toInt (d 62) (d 62) (w1.toInt * 12 + n1.toInt).toNat (w2.toInt * 12 + n2.toInt).toNat n3.toInt.toNat from Or.inr ⟨by decide, rfl⟩), rfl⟩
          · have f10 := mt (ti_eq (a := x9.toInt) (b := 0) rfl (by decide +kernel)).mpr c10
            refine lv_aload_n hx hb dX12_copy_60 rfl (lv_at hl 0 rfl) ?_
            refine mget_60 hx hb hts (fun _ h => List.mem_cons_of_mem _ (List.mem_append_right _ h)) hown hK hP (hts (.fieldLink RX12 126 "TalePlayModel" "lineSort" "[I") (List.mem_cons_of_mem _ (List.mem_append_left _ (List.mem_append_right _ (List.mem_of_getElem? (i := 4) rfl))))) dX12_copy_61 ?_
            refine lv_iload hx hb dX12_copy_64 (lv_at hl 4 rfl) ?_
            refine mld_60 hx hb hK hP (vp_in_iff.mpr (by have h9 : w2.toInt = w2.toInt := rfl; omega)) dX12_copy_66 (fun x45 ex45 => ?_)
            have rx45 : 0 ≤ x45.toInt ∧ x45.toInt ≤ 3 := by rw [ex45]; exact hI.2 60 _
            have gx45 : (c 60 (w2 : Int32).toNatClampNeg).toInt = x45.toInt := by rw [ex45]
            refine lv_iload_n hx hb dX12_copy_67 rfl (lv_at hl 2 rfl) ?_
            refine lv_icmp_eq (tgt := 77) hx hb dX12_copy_68 (by decide +kernel) (fun c46 => ?_) (fun c46 => ?_)
            · have f46 := (ti_eq (a := x45.toInt) (b := s1.toInt) rfl rfl).mp c46
              refine lv_aload_n hx hb dX12_copy_77 rfl (lv_at hl 0 rfl) ?_
              refine mget_63 hx hb hts (fun _ h => List.mem_cons_of_mem _ (List.mem_append_right _ h)) hown hK hP (hts (.fieldLink RX12 136 "TalePlayModel" "hasLine" "[Z") (List.mem_cons_of_mem _ (List.mem_append_left _ (List.mem_append_left _ (List.mem_of_getElem? (i := 10) rfl))))) dX12_copy_78 ?_
              refine lv_iload_n hx hb dX12_copy_81 rfl (lv_at hl 1 rfl) ?_
              refine mld_63 hx hb hK hP (vp_in_iff.mpr (by have h9 : w1.toInt = w1.toInt := rfl; omega)) dX12_copy_82 (fun x47 ex47 => ?_)
              have rx47 : 0 ≤ x47.toInt ∧ x47.toInt ≤ 1 := by rw [ex47]; exact hI.2 63 _
              have gx47 : (c 63 (w1 : Int32).toNatClampNeg).toInt = x47.toInt := by rw [ex47]
              refine lv_if_eq (tgt := 96) hx hb dX12_copy_83 (by decide +kernel) (fun c48 => ?_) (fun c48 => ?_)
              · have f48 := (ti_eq (a := x47.toInt) (b := 0) rfl (by decide +kernel)).mp c48
                refine lv_aload_n hx hb dX12_copy_96 rfl (lv_at hl 0 rfl) ?_
                refine lv_iconst (v := 1) hx hb dX12_copy_97 (by decide +kernel) ?_
                refine al_calli (va_runV (As := [.int 1]) (rest := []) ⟨hx, hb, hml, hown, hts⟩ (s_X12_meets l D H.size o a t i q c d 1 hI (show 1 ≤ 1 ∧ 1 ≤ 6 from by have h90 : (1 : Int32).toInt = 1 := (by decide +kernel); omega)) (cwV 1 hts gm_X12_copy_X12_meets rfl rfl rfl (by decide +kernel) ⟨Nat.le_of_ble_eq_true rfl, Nat.le_of_ble_eq_true rfl⟩) (pB_V hK hP hD (ci := 12) (q0 := 0) rfl rfl) rfl rfl hl.1 rfl (lv_room (Nat.le_of_ble_eq_true rfl)) dX12_copy_98 ⟨Nat.le_of_ble_eq_true rfl, Nat.le_of_ble_eq_true rfl⟩) hS hA hP hD (fun r49 u49 H locs hv49 hP hD hS => ?_)
                obtain ⟨i49, q49, c49, d49⟩ := u49
                have hw49 : r49 = (-3) ∧ mInv i49 c49 ∧ (∀ k, k ∉ ([0] : List Nat) → i49 k = i k) ∧ (∀ k, k ∉ ([1] : List Nat) → c49 k = c k) ∧ (q = q49) ∧ (d = d49) := hv49
                clear hv49
                obtain ⟨hw49, hI, hei49, hec49, hq49_q, hq49_d⟩ := hw49
                subst hq49_q
                subst hq49_d
                have hfi : ∀ k, k ∉ ([0] : List Nat) → i49 k = i k := fr_z hfi hei49 (by decide +kernel) (by decide +kernel)
                have hfc : ∀ k, k ∉ ([1] : List Nat) → c49 k = c k := fr_z hfc hec49 (by decide +kernel) (by decide +kernel)
                have hP : va_P D vwCl (mW o a t i49 q c49 d) H := hP
                have hD : va_D A (mW o a t i49 q c49 d) := hD
                have hw49 : r49 = (-3) := hw49
                subst hw49
                exact rw_iret (i49, q, c49, d) hx hb hr hlocks hS (hK.sub (tys' := []) [] rfl) hP hD dX12_copy_101 ⟨trivial, hI, fr_w hfi (by decide +kernel), fr_w hfc (by decide +kernel), (show (¬ (0 ≤ w1.toInt ∧ w1.toInt < (i 5).toInt ∧ 0 ≤ w2.toInt ∧ w2.toInt < (i 5).toInt ∧ 0 ≤ s1.toInt ∧ s1.toInt ≤ 3) ∧ ((-3) : Int32).toInt = -1) ∨ (0 ≤ w1.toInt ∧ w1.toInt < (i 5).toInt ∧ 0 ≤ w2.toInt ∧ w2.toInt < (i 5).toInt ∧ 0 ≤ s1.toInt ∧ s1.toInt ≤ 3 ∧ ¬ (¬ (c 63 w1.toNatClampNeg).toInt = 0 ∧ ¬ (c 63 w2.toNatClampNeg).toInt = 0 ∧ (c 60 w1.toNatClampNeg).toInt = s1.toInt ∧ (c 60 w2.toNatClampNeg).toInt = s1.toInt ∧ 0 ≤ n1.toInt ∧ 0 ≤ n2.toInt ∧ 0 ≤ n3.toInt ∧ n1.toInt + n3.toInt ≤ (c 61 w1.toNatClampNeg).toInt ∧ n2.toInt + n3.toInt ≤ (c 61 w2.toNatClampNeg).toInt) ∧ ((-3) : Int32).toInt = -3) ∨ (0 ≤ w1.toInt ∧ w1.toInt < (i 5).toInt ∧ 0 ≤ w2.toInt ∧ w2.toInt < (i 5).toInt ∧ 0 ≤ s1.toInt ∧ s1.toInt ≤ 3 ∧ ¬ (c 63 w1.toNatClampNeg).toInt = 0 ∧ ¬ (c 63 w2.toNatClampNeg).toInt = 0 ∧ (c 60 w1.toNatClampNeg).toInt = s1.toInt ∧ (c 60 w2.toNatClampNeg).toInt = s1.toInt ∧ 0 ≤ n1.toInt ∧ 0 ≤ n2.toInt ∧ 0 ≤ n3.toInt ∧ n1.toInt + n3.toInt ≤ (c 61 w1.toNatClampNeg).toInt ∧ n2.toInt + n3.toInt ≤ (c 61 w2.toNatClampNeg).toInt ∧ ((-3) : Int32).toInt = 1) from by have h50 : ((-3) : Int32).toInt = -3 := (by decide +kernel); omega), (show CpR ((-3) : Int32).toInt (d 62) (d 62) (w1.toInt * 12 + n1.toInt).toNat (w2.toInt * 12 + n2.toInt).toNat n3.toInt.toNat from Or.inr ⟨by decide, rfl⟩), rfl⟩
              · have f48 := mt (ti_eq (a := x47.toInt) (b := 0) rfl (by decide +kernel)).mpr c48
                refine lv_aload_n hx hb dX12_copy_86 rfl (lv_at hl 0 rfl) ?_
                refine mget_63 hx hb hts (fun _ h => List.mem_cons_of_mem _ (List.mem_append_right _ h)) hown hK hP (hts (.fieldLink RX12 136 "TalePlayModel" "hasLine" "[Z") (List.mem_cons_of_mem _ (List.mem_append_left _ (List.mem_append_left _ (List.mem_of_getElem? (i := 10) rfl))))) dX12_copy_87 ?_
                refine lv_iload hx hb dX12_copy_90 (lv_at hl 4 rfl) ?_
                refine mld_63 hx hb hK hP (vp_in_iff.mpr (by have h9 : w2.toInt = w2.toInt := rfl; omega)) dX12_copy_92 (fun x50 ex50 => ?_)
                have rx50 : 0 ≤ x50.toInt ∧ x50.toInt ≤ 1 := by rw [ex50]; exact hI.2 63 _
                have gx50 : (c 63 (w2 : Int32).toNatClampNeg).toInt = x50.toInt := by rw [ex50]
                refine lv_if_ne (tgt := 102) hx hb dX12_copy_93 (by decide +kernel) (fun c51 => ?_) (fun c51 => ?_)
                · have f51 := mt (ti_eq (a := x50.toInt) (b := 0) rfl (by decide +kernel)).mpr c51
                  refine lv_iload_n hx hb dX12_copy_102 rfl (lv_at hl 3 rfl) ?_
                  refine lv_if_lt (tgt := 152) hx hb dX12_copy_103 (by decide +kernel) (fun c52 => ?_) (fun c52 => ?_)
                  · have f52 := (ti_lt (a := n1.toInt) (b := 0) rfl (by decide +kernel)).mp c52
                    refine lv_aload_n hx hb dX12_copy_152 rfl (lv_at hl 0 rfl) ?_
                    refine lv_iconst (v := 2) hx hb dX12_copy_153 (by decide +kernel) ?_
                    refine al_calli (va_runV (As := [.int 2]) (rest := []) ⟨hx, hb, hml, hown, hts⟩ (s_X12_meets l D H.size o a t i q c d 2 hI (show 1 ≤ 2 ∧ 2 ≤ 6 from by have h90 : (2 : Int32).toInt = 2 := (by decide +kernel); omega)) (cwV 1 hts gm_X12_copy_X12_meets rfl rfl rfl (by decide +kernel) ⟨Nat.le_of_ble_eq_true rfl, Nat.le_of_ble_eq_true rfl⟩) (pB_V hK hP hD (ci := 12) (q0 := 0) rfl rfl) rfl rfl hl.1 rfl (lv_room (Nat.le_of_ble_eq_true rfl)) dX12_copy_154 ⟨Nat.le_of_ble_eq_true rfl, Nat.le_of_ble_eq_true rfl⟩) hS hA hP hD (fun r53 u53 H locs hv53 hP hD hS => ?_)
                    obtain ⟨i53, q53, c53, d53⟩ := u53
                    have hw53 : r53 = (-3) ∧ mInv i53 c53 ∧ (∀ k, k ∉ ([0] : List Nat) → i53 k = i k) ∧ (∀ k, k ∉ ([1] : List Nat) → c53 k = c k) ∧ (q = q53) ∧ (d = d53) := hv53
                    clear hv53
                    obtain ⟨hw53, hI, hei53, hec53, hq53_q, hq53_d⟩ := hw53
                    subst hq53_q
                    subst hq53_d
                    have hfi : ∀ k, k ∉ ([0] : List Nat) → i53 k = i k := fr_z hfi hei53 (by decide +kernel) (by decide +kernel)
                    have hfc : ∀ k, k ∉ ([1] : List Nat) → c53 k = c k := fr_z hfc hec53 (by decide +kernel) (by decide +kernel)
                    have hP : va_P D vwCl (mW o a t i53 q c53 d) H := hP
                    have hD : va_D A (mW o a t i53 q c53 d) := hD
                    have hw53 : r53 = (-3) := hw53
                    subst hw53
                    exact rw_iret (i53, q, c53, d) hx hb hr hlocks hS (hK.sub (tys' := []) [] rfl) hP hD dX12_copy_157 ⟨trivial, hI, fr_w hfi (by decide +kernel), fr_w hfc (by decide +kernel), (show (¬ (0 ≤ w1.toInt ∧ w1.toInt < (i 5).toInt ∧ 0 ≤ w2.toInt ∧ w2.toInt < (i 5).toInt ∧ 0 ≤ s1.toInt ∧ s1.toInt ≤ 3) ∧ ((-3) : Int32).toInt = -1) ∨ (0 ≤ w1.toInt ∧ w1.toInt < (i 5).toInt ∧ 0 ≤ w2.toInt ∧ w2.toInt < (i 5).toInt ∧ 0 ≤ s1.toInt ∧ s1.toInt ≤ 3 ∧ ¬ (¬ (c 63 w1.toNatClampNeg).toInt = 0 ∧ ¬ (c 63 w2.toNatClampNeg).toInt = 0 ∧ (c 60 w1.toNatClampNeg).toInt = s1.toInt ∧ (c 60 w2.toNatClampNeg).toInt = s1.toInt ∧ 0 ≤ n1.toInt ∧ 0 ≤ n2.toInt ∧ 0 ≤ n3.toInt ∧ n1.toInt + n3.toInt ≤ (c 61 w1.toNatClampNeg).toInt ∧ n2.toInt + n3.toInt ≤ (c 61 w2.toNatClampNeg).toInt) ∧ ((-3) : Int32).toInt = -3) ∨ (0 ≤ w1.toInt ∧ w1.toInt < (i 5).toInt ∧ 0 ≤ w2.toInt ∧ w2.toInt < (i 5).toInt ∧ 0 ≤ s1.toInt ∧ s1.toInt ≤ 3 ∧ ¬ (c 63 w1.toNatClampNeg).toInt = 0 ∧ ¬ (c 63 w2.toNatClampNeg).toInt = 0 ∧ (c 60 w1.toNatClampNeg).toInt = s1.toInt ∧ (c 60 w2.toNatClampNeg).toInt = s1.toInt ∧ 0 ≤ n1.toInt ∧ 0 ≤ n2.toInt ∧ 0 ≤ n3.toInt ∧ n1.toInt + n3.toInt ≤ (c 61 w1.toNatClampNeg).toInt ∧ n2.toInt + n3.toInt ≤ (c 61 w2.toNatClampNeg).toInt ∧ ((-3) : Int32).toInt = 1) from by have h50 : ((-3) : Int32).toInt = -3 := (by decide +kernel); omega), (show CpR ((-3) : Int32).toInt (d 62) (d 62) (w1.toInt * 12 + n1.toInt).toNat (w2.toInt * 12 + n2.toInt).toNat n3.toInt.toNat from Or.inr ⟨by decide, rfl⟩), rfl⟩
                  · have f52 := mt (ti_lt (a := n1.toInt) (b := 0) rfl (by decide +kernel)).mpr c52
                    refine lv_iload hx hb dX12_copy_106 (lv_at hl 5 rfl) ?_
                    refine lv_if_lt (tgt := 152) hx hb dX12_copy_108 (by decide +kernel) (fun c54 => ?_) (fun c54 => ?_)
                    · have f54 := (ti_lt (a := n2.toInt) (b := 0) rfl (by decide +kernel)).mp c54
                      refine lv_aload_n hx hb dX12_copy_152 rfl (lv_at hl 0 rfl) ?_
                      refine lv_iconst (v := 2) hx hb dX12_copy_153 (by decide +kernel) ?_
                      refine al_calli (va_runV (As := [.int 2]) (rest := []) ⟨hx, hb, hml, hown, hts⟩ (s_X12_meets l D H.size o a t i q c d 2 hI (show 1 ≤ 2 ∧ 2 ≤ 6 from by have h90 : (2 : Int32).toInt = 2 := (by decide +kernel); omega)) (cwV 1 hts gm_X12_copy_X12_meets rfl rfl rfl (by decide +kernel) ⟨Nat.le_of_ble_eq_true rfl, Nat.le_of_ble_eq_true rfl⟩) (pB_V hK hP hD (ci := 12) (q0 := 0) rfl rfl) rfl rfl hl.1 rfl (lv_room (Nat.le_of_ble_eq_true rfl)) dX12_copy_154 ⟨Nat.le_of_ble_eq_true rfl, Nat.le_of_ble_eq_true rfl⟩) hS hA hP hD (fun r55 u55 H locs hv55 hP hD hS => ?_)
                      obtain ⟨i55, q55, c55, d55⟩ := u55
                      have hw55 : r55 = (-3) ∧ mInv i55 c55 ∧ (∀ k, k ∉ ([0] : List Nat) → i55 k = i k) ∧ (∀ k, k ∉ ([1] : List Nat) → c55 k = c k) ∧ (q = q55) ∧ (d = d55) := hv55
                      clear hv55
                      obtain ⟨hw55, hI, hei55, hec55, hq55_q, hq55_d⟩ := hw55
                      subst hq55_q
                      subst hq55_d
                      have hfi : ∀ k, k ∉ ([0] : List Nat) → i55 k = i k := fr_z hfi hei55 (by decide +kernel) (by decide +kernel)
                      have hfc : ∀ k, k ∉ ([1] : List Nat) → c55 k = c k := fr_z hfc hec55 (by decide +kernel) (by decide +kernel)
                      have hP : va_P D vwCl (mW o a t i55 q c55 d) H := hP
                      have hD : va_D A (mW o a t i55 q c55 d) := hD
                      have hw55 : r55 = (-3) := hw55
                      subst hw55
                      exact rw_iret (i55, q, c55, d) hx hb hr hlocks hS (hK.sub (tys' := []) [] rfl) hP hD dX12_copy_157 ⟨trivial, hI, fr_w hfi (by decide +kernel), fr_w hfc (by decide +kernel), (show (¬ (0 ≤ w1.toInt ∧ w1.toInt < (i 5).toInt ∧ 0 ≤ w2.toInt ∧ w2.toInt < (i 5).toInt ∧ 0 ≤ s1.toInt ∧ s1.toInt ≤ 3) ∧ ((-3) : Int32).toInt = -1) ∨ (0 ≤ w1.toInt ∧ w1.toInt < (i 5).toInt ∧ 0 ≤ w2.toInt ∧ w2.toInt < (i 5).toInt ∧ 0 ≤ s1.toInt ∧ s1.toInt ≤ 3 ∧ ¬ (¬ (c 63 w1.toNatClampNeg).toInt = 0 ∧ ¬ (c 63 w2.toNatClampNeg).toInt = 0 ∧ (c 60 w1.toNatClampNeg).toInt = s1.toInt ∧ (c 60 w2.toNatClampNeg).toInt = s1.toInt ∧ 0 ≤ n1.toInt ∧ 0 ≤ n2.toInt ∧ 0 ≤ n3.toInt ∧ n1.toInt + n3.toInt ≤ (c 61 w1.toNatClampNeg).toInt ∧ n2.toInt + n3.toInt ≤ (c 61 w2.toNatClampNeg).toInt) ∧ ((-3) : Int32).toInt = -3) ∨ (0 ≤ w1.toInt ∧ w1.toInt < (i 5).toInt ∧ 0 ≤ w2.toInt ∧ w2.toInt < (i 5).toInt ∧ 0 ≤ s1.toInt ∧ s1.toInt ≤ 3 ∧ ¬ (c 63 w1.toNatClampNeg).toInt = 0 ∧ ¬ (c 63 w2.toNatClampNeg).toInt = 0 ∧ (c 60 w1.toNatClampNeg).toInt = s1.toInt ∧ (c 60 w2.toNatClampNeg).toInt = s1.toInt ∧ 0 ≤ n1.toInt ∧ 0 ≤ n2.toInt ∧ 0 ≤ n3.toInt ∧ n1.toInt + n3.toInt ≤ (c 61 w1.toNatClampNeg).toInt ∧ n2.toInt + n3.toInt ≤ (c 61 w2.toNatClampNeg).toInt ∧ ((-3) : Int32).toInt = 1) from by have h50 : ((-3) : Int32).toInt = -3 := (by decide +kernel); omega), (show CpR ((-3) : Int32).toInt (d 62) (d 62) (w1.toInt * 12 + n1.toInt).toNat (w2.toInt * 12 + n2.toInt).toNat n3.toInt.toNat from Or.inr ⟨by decide, rfl⟩), rfl⟩
                    · have f54 := mt (ti_lt (a := n2.toInt) (b := 0) rfl (by decide +kernel)).mpr c54
                      refine lv_iload hx hb dX12_copy_111 (lv_at hl 6 rfl) ?_
                      refine lv_if_lt (tgt := 152) hx hb dX12_copy_113 (by decide +kernel) (fun c56 => ?_) (fun c56 => ?_)
                      · have f56 := (ti_lt (a := n3.toInt) (b := 0) rfl (by decide +kernel)).mp c56
                        refine lv_aload_n hx hb dX12_copy_152 rfl (lv_at hl 0 rfl) ?_
                        refine lv_iconst (v := 2) hx hb dX12_copy_153 (by decide +kernel) ?_
                        refine al_calli (va_runV (As := [.int 2]) (rest := []) ⟨hx, hb, hml, hown, hts⟩ (s_X12_meets l D H.size o a t i q c d 2 hI (show 1 ≤ 2 ∧ 2 ≤ 6 from by have h90 : (2 : Int32).toInt = 2 := (by decide +kernel); omega)) (cwV 1 hts gm_X12_copy_X12_meets rfl rfl rfl (by decide +kernel) ⟨Nat.le_of_ble_eq_true rfl, Nat.le_of_ble_eq_true rfl⟩) (pB_V hK hP hD (ci := 12) (q0 := 0) rfl rfl) rfl rfl hl.1 rfl (lv_room (Nat.le_of_ble_eq_true rfl)) dX12_copy_154 ⟨Nat.le_of_ble_eq_true rfl, Nat.le_of_ble_eq_true rfl⟩) hS hA hP hD (fun r57 u57 H locs hv57 hP hD hS => ?_)
                        obtain ⟨i57, q57, c57, d57⟩ := u57
                        have hw57 : r57 = (-3) ∧ mInv i57 c57 ∧ (∀ k, k ∉ ([0] : List Nat) → i57 k = i k) ∧ (∀ k, k ∉ ([1] : List Nat) → c57 k = c k) ∧ (q = q57) ∧ (d = d57) := hv57
                        clear hv57
                        obtain ⟨hw57, hI, hei57, hec57, hq57_q, hq57_d⟩ := hw57
                        subst hq57_q
                        subst hq57_d
                        have hfi : ∀ k, k ∉ ([0] : List Nat) → i57 k = i k := fr_z hfi hei57 (by decide +kernel) (by decide +kernel)
                        have hfc : ∀ k, k ∉ ([1] : List Nat) → c57 k = c k := fr_z hfc hec57 (by decide +kernel) (by decide +kernel)
                        have hP : va_P D vwCl (mW o a t i57 q c57 d) H := hP
                        have hD : va_D A (mW o a t i57 q c57 d) := hD
                        have hw57 : r57 = (-3) := hw57
                        subst hw57
                        exact rw_iret (i57, q, c57, d) hx hb hr hlocks hS (hK.sub (tys' := []) [] rfl) hP hD dX12_copy_157 ⟨trivial, hI, fr_w hfi (by decide +kernel), fr_w hfc (by decide +kernel), (show (¬ (0 ≤ w1.toInt ∧ w1.toInt < (i 5).toInt ∧ 0 ≤ w2.toInt ∧ w2.toInt < (i 5).toInt ∧ 0 ≤ s1.toInt ∧ s1.toInt ≤ 3) ∧ ((-3) : Int32).toInt = -1) ∨ (0 ≤ w1.toInt ∧ w1.toInt < (i 5).toInt ∧ 0 ≤ w2.toInt ∧ w2.toInt < (i 5).toInt ∧ 0 ≤ s1.toInt ∧ s1.toInt ≤ 3 ∧ ¬ (¬ (c 63 w1.toNatClampNeg).toInt = 0 ∧ ¬ (c 63 w2.toNatClampNeg).toInt = 0 ∧ (c 60 w1.toNatClampNeg).toInt = s1.toInt ∧ (c 60 w2.toNatClampNeg).toInt = s1.toInt ∧ 0 ≤ n1.toInt ∧ 0 ≤ n2.toInt ∧ 0 ≤ n3.toInt ∧ n1.toInt + n3.toInt ≤ (c 61 w1.toNatClampNeg).toInt ∧ n2.toInt + n3.toInt ≤ (c 61 w2.toNatClampNeg).toInt) ∧ ((-3) : Int32).toInt = -3) ∨ (0 ≤ w1.toInt ∧ w1.toInt < (i 5).toInt ∧ 0 ≤ w2.toInt ∧ w2.toInt < (i 5).toInt ∧ 0 ≤ s1.toInt ∧ s1.toInt ≤ 3 ∧ ¬ (c 63 w1.toNatClampNeg).toInt = 0 ∧ ¬ (c 63 w2.toNatClampNeg).toInt = 0 ∧ (c 60 w1.toNatClampNeg).toInt = s1.toInt ∧ (c 60 w2.toNatClampNeg).toInt = s1.toInt ∧ 0 ≤ n1.toInt ∧ 0 ≤ n2.toInt ∧ 0 ≤ n3.toInt ∧ n1.toInt + n3.toInt ≤ (c 61 w1.toNatClampNeg).toInt ∧ n2.toInt + n3.toInt ≤ (c 61 w2.toNatClampNeg).toInt ∧ ((-3) : Int32).toInt = 1) from by have h50 : ((-3) : Int32).toInt = -3 := (by decide +kernel); omega), (show CpR ((-3) : Int32).toInt (d 62) (d 62) (w1.toInt * 12 + n1.toInt).toNat (w2.toInt * 12 + n2.toInt).toNat n3.toInt.toNat from Or.inr ⟨by decide, rfl⟩), rfl⟩
                      · have f56 := mt (ti_lt (a := n3.toInt) (b := 0) rfl (by decide +kernel)).mpr c56
                        refine lv_iload_n hx hb dX12_copy_116 rfl (lv_at hl 3 rfl) ?_
                        refine lv_i2l (v := n1.toInt64) hx hb dX12_copy_117 rfl ?_
                        refine lv_iload hx hb dX12_copy_118 (lv_at hl 6 rfl) ?_
                        refine lv_i2l (v := n3.toInt64) hx hb dX12_copy_120 rfl ?_
                        refine lv_ladd hx hb dX12_copy_121 ?_
                        refine lv_topl (fun x58 ex58 => ?_)
                        have ib58_n1 := i32b n1
                        have ib58_n3 := i32b n3
                        have tx58 := ti_addl (a := n1.toInt) (b := n3.toInt) ex58 ((Int32.toInt_toInt64 n1).trans rfl) ((Int32.toInt_toInt64 n3).trans rfl) (by omega) (by omega)
                        refine lv_aload_n hx hb dX12_copy_122 rfl (lv_at hl 0 rfl) ?_
                        refine mget_61 hx hb hts (fun _ h => List.mem_cons_of_mem _ (List.mem_append_right _ h)) hown hK hP (hts (.fieldLink RX12 129 "TalePlayModel" "lineMany" "[I") (List.mem_cons_of_mem _ (List.mem_append_left _ (List.mem_append_right _ (List.mem_of_getElem? (i := 1) rfl))))) dX12_copy_123 ?_
                        refine lv_iload_n hx hb dX12_copy_126 rfl (lv_at hl 1 rfl) ?_
                        refine mld_61 hx hb hK hP (vp_in_iff.mpr (by have h9 : w1.toInt = w1.toInt := rfl; omega)) dX12_copy_127 (fun x59 ex59 => ?_)
                        have rx59 : 0 ≤ x59.toInt ∧ x59.toInt ≤ 12 := by rw [ex59]; exact hI.2 61 _
                        have gx59 : (c 61 (w1 : Int32).toNatClampNeg).toInt = x59.toInt := by rw [ex59]
                        refine lv_i2l (v := x59.toInt64) hx hb dX12_copy_128 rfl ?_
                        refine W.lcmp hx hb dX12_copy_129 ?_
                        refine lv_if_gt (tgt := 152) hx hb dX12_copy_130 (by decide +kernel) (fun c60 => ?_) (fun c60 => ?_)
                        · have f60 := (lc_gt (a := (n1.toInt + n3.toInt)) (b := x59.toInt) tx58 ((Int32.toInt_toInt64 x59).trans rfl)).mp c60
                          refine lv_aload_n hx hb dX12_copy_152 rfl (lv_at hl 0 rfl) ?_
                          refine lv_iconst (v := 2) hx hb dX12_copy_153 (by decide +kernel) ?_
                          refine al_calli (va_runV (As := [.int 2]) (rest := []) ⟨hx, hb, hml, hown, hts⟩ (s_X12_meets l D H.size o a t i q c d 2 hI (show 1 ≤ 2 ∧ 2 ≤ 6 from by have h90 : (2 : Int32).toInt = 2 := (by decide +kernel); omega)) (cwV 1 hts gm_X12_copy_X12_meets rfl rfl rfl (by decide +kernel) ⟨Nat.le_of_ble_eq_true rfl, Nat.le_of_ble_eq_true rfl⟩) (pB_V hK hP hD (ci := 12) (q0 := 0) rfl rfl) rfl rfl hl.1 rfl (lv_room (Nat.le_of_ble_eq_true rfl)) dX12_copy_154 ⟨Nat.le_of_ble_eq_true rfl, Nat.le_of_ble_eq_true rfl⟩) hS hA hP hD (fun r61 u61 H locs hv61 hP hD hS => ?_)
                          obtain ⟨i61, q61, c61, d61⟩ := u61
                          have hw61 : r61 = (-3) ∧ mInv i61 c61 ∧ (∀ k, k ∉ ([0] : List Nat) → i61 k = i k) ∧ (∀ k, k ∉ ([1] : List Nat) → c61 k = c k) ∧ (q = q61) ∧ (d = d61) := hv61
                          clear hv61
                          obtain ⟨hw61, hI, hei61, hec61, hq61_q, hq61_d⟩ := hw61
                          subst hq61_q
                          subst hq61_d
                          have hfi : ∀ k, k ∉ ([0] : List Nat) → i61 k = i k := fr_z hfi hei61 (by decide +kernel) (by decide +kernel)
                          have hfc : ∀ k, k ∉ ([1] : List Nat) → c61 k = c k := fr_z hfc hec61 (by decide +kernel) (by decide +kernel)
                          have hP : va_P D vwCl (mW o a t i61 q c61 d) H := hP
                          have hD : va_D A (mW o a t i61 q c61 d) := hD
                          have hw61 : r61 = (-3) := hw61
                          subst hw61
                          exact rw_iret (i61, q, c61, d) hx hb hr hlocks hS (hK.sub (tys' := []) [] rfl) hP hD dX12_copy_157 ⟨trivial, hI, fr_w hfi (by decide +kernel), fr_w hfc (by decide +kernel), (show (¬ (0 ≤ w1.toInt ∧ w1.toInt < (i 5).toInt ∧ 0 ≤ w2.toInt ∧ w2.toInt < (i 5).toInt ∧ 0 ≤ s1.toInt ∧ s1.toInt ≤ 3) ∧ ((-3) : Int32).toInt = -1) ∨ (0 ≤ w1.toInt ∧ w1.toInt < (i 5).toInt ∧ 0 ≤ w2.toInt ∧ w2.toInt < (i 5).toInt ∧ 0 ≤ s1.toInt ∧ s1.toInt ≤ 3 ∧ ¬ (¬ (c 63 w1.toNatClampNeg).toInt = 0 ∧ ¬ (c 63 w2.toNatClampNeg).toInt = 0 ∧ (c 60 w1.toNatClampNeg).toInt = s1.toInt ∧ (c 60 w2.toNatClampNeg).toInt = s1.toInt ∧ 0 ≤ n1.toInt ∧ 0 ≤ n2.toInt ∧ 0 ≤ n3.toInt ∧ n1.toInt + n3.toInt ≤ (c 61 w1.toNatClampNeg).toInt ∧ n2.toInt + n3.toInt ≤ (c 61 w2.toNatClampNeg).toInt) ∧ ((-3) : Int32).toInt = -3) ∨ (0 ≤ w1.toInt ∧ w1.toInt < (i 5).toInt ∧ 0 ≤ w2.toInt ∧ w2.toInt < (i 5).toInt ∧ 0 ≤ s1.toInt ∧ s1.toInt ≤ 3 ∧ ¬ (c 63 w1.toNatClampNeg).toInt = 0 ∧ ¬ (c 63 w2.toNatClampNeg).toInt = 0 ∧ (c 60 w1.toNatClampNeg).toInt = s1.toInt ∧ (c 60 w2.toNatClampNeg).toInt = s1.toInt ∧ 0 ≤ n1.toInt ∧ 0 ≤ n2.toInt ∧ 0 ≤ n3.toInt ∧ n1.toInt + n3.toInt ≤ (c 61 w1.toNatClampNeg).toInt ∧ n2.toInt + n3.toInt ≤ (c 61 w2.toNatClampNeg).toInt ∧ ((-3) : Int32).toInt = 1) from by have h50 : ((-3) : Int32).toInt = -3 := (by decide +kernel); omega), (show CpR ((-3) : Int32).toInt (d 62) (d 62) (w1.toInt * 12 + n1.toInt).toNat (w2.toInt * 12 + n2.toInt).toNat n3.toInt.toNat from Or.inr ⟨by decide, rfl⟩), rfl⟩
                        · have f60 := mt (lc_gt (a := (n1.toInt + n3.toInt)) (b := x59.toInt) tx58 ((Int32.toInt_toInt64 x59).trans rfl)).mpr c60
                          refine lv_iload hx hb dX12_copy_133 (lv_at hl 5 rfl) ?_
                          refine lv_i2l (v := n2.toInt64) hx hb dX12_copy_135 rfl ?_
                          refine lv_iload hx hb dX12_copy_136 (lv_at hl 6 rfl) ?_
                          refine lv_i2l (v := n3.toInt64) hx hb dX12_copy_138 rfl ?_
                          refine lv_ladd hx hb dX12_copy_139 ?_
                          refine lv_topl (fun x62 ex62 => ?_)
                          have ib62_n2 := i32b n2
                          have ib62_n3 := i32b n3
                          have tx62 := ti_addl (a := n2.toInt) (b := n3.toInt) ex62 ((Int32.toInt_toInt64 n2).trans rfl) ((Int32.toInt_toInt64 n3).trans rfl) (by omega) (by omega)
                          refine lv_aload_n hx hb dX12_copy_140 rfl (lv_at hl 0 rfl) ?_
                          refine mget_61 hx hb hts (fun _ h => List.mem_cons_of_mem _ (List.mem_append_right _ h)) hown hK hP (hts (.fieldLink RX12 129 "TalePlayModel" "lineMany" "[I") (List.mem_cons_of_mem _ (List.mem_append_left _ (List.mem_append_right _ (List.mem_of_getElem? (i := 1) rfl))))) dX12_copy_141 ?_
                          refine lv_iload hx hb dX12_copy_144 (lv_at hl 4 rfl) ?_
                          refine mld_61 hx hb hK hP (vp_in_iff.mpr (by have h9 : w2.toInt = w2.toInt := rfl; omega)) dX12_copy_146 (fun x63 ex63 => ?_)
                          have rx63 : 0 ≤ x63.toInt ∧ x63.toInt ≤ 12 := by rw [ex63]; exact hI.2 61 _
                          have gx63 : (c 61 (w2 : Int32).toNatClampNeg).toInt = x63.toInt := by rw [ex63]
                          refine lv_i2l (v := x63.toInt64) hx hb dX12_copy_147 rfl ?_
                          refine W.lcmp hx hb dX12_copy_148 ?_
                          refine lv_if_le (tgt := 158) hx hb dX12_copy_149 (by decide +kernel) (fun c64 => ?_) (fun c64 => ?_)
                          · have f64 := (lc_le (a := (n2.toInt + n3.toInt)) (b := x63.toInt) tx62 ((Int32.toInt_toInt64 x63).trans rfl)).mp c64
                            refine lv_iconst (v := 0) hx hb dX12_copy_158 (by decide +kernel) ?_
                            refine lv_istore (lv' := [(7, .int 0), (0, .ref o), (1, .int w1), (2, .int s1), (3, .int n1), (4, .int w2), (5, .int n2), (6, .int n3)]) hx hb dX12_copy_159 hl (by decide +kernel) rfl (fun ls hl => ?_)
                            have lp65 : ∀ (fu : Nat) (i65 : Nat → Int32) (c65 : Nat → Nat → Int32) (d65 : Nat → Nat → Int64) (y65_7 : Int32), mInv i65 c65 → (∀ k, k ∉ ([] : List Nat) → i65 k = i k) → (∀ k, k ∉ ([] : List Nat) → c65 k = c k) → (0 ≤ y65_7.toInt ∧ y65_7.toInt ≤ 12 ∧ y65_7.toInt ≤ n3.toInt) → (HeK (d 62) (d65 68) (w1.toInt * 12 + n1.toInt).toNat y65_7.toInt) → ((d65 62) = (d 62)) → (12 - y65_7.toInt).toNat < fu → ∀ (H : Heap) (locs : List Loc) (ls : Array Slot), va_P D vwCl (mW o a t i65 q c65 d65) H → va_D A (mW o a t i65 q c65 d65) → va_S A s.heap H locs → lv_has ls 8 [(7, .int y65_7), (0, .ref o), (1, .int w1), (2, .int s1), (3, .int n1), (4, .int w2), (5, .int n2), (6, .int n3)] → W p l e (headSpec wm_X12_copy ({ frames := 2, cells := 0, slots := 0, locals := 46 })).room s m ([.ref o, .int w1, .int s1, .int n1, .int w2, .int n2, .int n3] : List Value).toArray below meth cd H locs 0 0 (MQ below (va_Qi (fun (r : Int32) (u : MS) => True ∧ mInv u.1 u.2.2.1 ∧ (∀ k, k ∉ ([0] : List Nat) → u.1 k = i k) ∧ (∀ k, k ∉ ([1] : List Nat) → u.2.2.1 k = c k) ∧ ((¬ (0 ≤ w1.toInt ∧ w1.toInt < (i 5).toInt ∧ 0 ≤ w2.toInt ∧ w2.toInt < (i 5).toInt ∧ 0 ≤ s1.toInt ∧ s1.toInt ≤ 3) ∧ r.toInt = -1) ∨ (0 ≤ w1.toInt ∧ w1.toInt < (i 5).toInt ∧ 0 ≤ w2.toInt ∧ w2.toInt < (i 5).toInt ∧ 0 ≤ s1.toInt ∧ s1.toInt ≤ 3 ∧ ¬ (¬ (c 63 w1.toNatClampNeg).toInt = 0 ∧ ¬ (c 63 w2.toNatClampNeg).toInt = 0 ∧ (c 60 w1.toNatClampNeg).toInt = s1.toInt ∧ (c 60 w2.toNatClampNeg).toInt = s1.toInt ∧ 0 ≤ n1.toInt ∧ 0 ≤ n2.toInt ∧ 0 ≤ n3.toInt ∧ n1.toInt + n3.toInt ≤ (c 61 w1.toNatClampNeg).toInt ∧ n2.toInt + n3.toInt ≤ (c 61 w2.toNatClampNeg).toInt) ∧ r.toInt = -3) ∨ (0 ≤ w1.toInt ∧ w1.toInt < (i 5).toInt ∧ 0 ≤ w2.toInt ∧ w2.toInt < (i 5).toInt ∧ 0 ≤ s1.toInt ∧ s1.toInt ≤ 3 ∧ ¬ (c 63 w1.toNatClampNeg).toInt = 0 ∧ ¬ (c 63 w2.toNatClampNeg).toInt = 0 ∧ (c 60 w1.toNatClampNeg).toInt = s1.toInt ∧ (c 60 w2.toNatClampNeg).toInt = s1.toInt ∧ 0 ≤ n1.toInt ∧ 0 ≤ n2.toInt ∧ 0 ≤ n3.toInt ∧ n1.toInt + n3.toInt ≤ (c 61 w1.toNatClampNeg).toInt ∧ n2.toInt + n3.toInt ≤ (c 61 w2.toNatClampNeg).toInt ∧ r.toInt = 1)) ∧ (CpR r.toInt (u.2.2.2 62) (d 62) (w1.toInt * 12 + n1.toInt).toNat (w2.toInt * 12 + n2.toInt).toNat n3.toInt.toNat) ∧ (q = u.2.1)) (oC D A (fun u : MS => mW o a t u.1 u.2.1 u.2.2.1 u.2.2.2) (fun _ => [])) A) ([.ref o, .int w1, .int s1, .int n1, .int w2, .int n2, .int n3] : List Value).toArray s 0 0 A) (F0 m 161 ls []) := by
                              intro fu
                              induction fu with
                              | zero => intro i65 c65 d65 y65_7 hI hfi hfc hy65_7 hz65_0 hz65_1 hm; exact absurd hm (Nat.not_lt_zero _)
                              | succ fu ih =>
                                intro i65 c65 d65 y65_7 hI hfi hfc hy65_7 hz65_0 hz65_1 hm H locs ls hP hD hS hl
                                have ih65 := ih
                                refine lv_iload hx hb dX12_copy_161 (lv_at hl 0 rfl) ?_
                                refine lv_iload hx hb dX12_copy_163 (lv_at hl 7 rfl) ?_
                                refine lv_icmp_ge (tgt := 195) hx hb dX12_copy_165 (by decide +kernel) (fun c66 => ?_) (fun c66 => ?_)
                                · have f66 := (ti_le (a := n3.toInt) (b := y65_7.toInt) rfl rfl).mp c66
                                  refine lv_iconst (v := 0) hx hb dX12_copy_195 (by decide +kernel) ?_
                                  refine lv_istore (lv' := [(7, .int 0), (0, .ref o), (1, .int w1), (2, .int s1), (3, .int n1), (4, .int w2), (5, .int n2), (6, .int n3)]) hx hb dX12_copy_196 hl (by decide +kernel) rfl (fun ls hl => ?_)
                                  have lp67 : ∀ (fu : Nat) (i67 : Nat → Int32) (c67 : Nat → Nat → Int32) (d67 : Nat → Nat → Int64) (y67_7 : Int32), mInv i67 c67 → (∀ k, k ∉ ([] : List Nat) → i67 k = i k) → (∀ k, k ∉ ([] : List Nat) → c67 k = c k) → (0 ≤ y67_7.toInt ∧ y67_7.toInt ≤ 12 ∧ y67_7.toInt ≤ n3.toInt) → (HeK (d 62) (d67 68) (w1.toInt * 12 + n1.toInt).toNat n3.toInt) → (CpK (d 62) (d67 62) (w1.toInt * 12 + n1.toInt).toNat (w2.toInt * 12 + n2.toInt).toNat y67_7.toInt) → (12 - y67_7.toInt).toNat < fu → ∀ (H : Heap) (locs : List Loc) (ls : Array Slot), va_P D vwCl (mW o a t i67 q c67 d67) H → va_D A (mW o a t i67 q c67 d67) → va_S A s.heap H locs → lv_has ls 8 [(7, .int y67_7), (0, .ref o), (1, .int w1), (2, .int s1), (3, .int n1), (4, .int w2), (5, .int n2), (6, .int n3)] → W p l e (headSpec wm_X12_copy ({ frames := 2, cells := 0, slots := 0, locals := 46 })).room s m ([.ref o, .int w1, .int s1, .int n1, .int w2, .int n2, .int n3] : List Value).toArray below meth cd H locs 0 0 (MQ below (va_Qi (fun (r : Int32) (u : MS) => True ∧ mInv u.1 u.2.2.1 ∧ (∀ k, k ∉ ([0] : List Nat) → u.1 k = i k) ∧ (∀ k, k ∉ ([1] : List Nat) → u.2.2.1 k = c k) ∧ ((¬ (0 ≤ w1.toInt ∧ w1.toInt < (i 5).toInt ∧ 0 ≤ w2.toInt ∧ w2.toInt < (i 5).toInt ∧ 0 ≤ s1.toInt ∧ s1.toInt ≤ 3) ∧ r.toInt = -1) ∨ (0 ≤ w1.toInt ∧ w1.toInt < (i 5).toInt ∧ 0 ≤ w2.toInt ∧ w2.toInt < (i 5).toInt ∧ 0 ≤ s1.toInt ∧ s1.toInt ≤ 3 ∧ ¬ (¬ (c 63 w1.toNatClampNeg).toInt = 0 ∧ ¬ (c 63 w2.toNatClampNeg).toInt = 0 ∧ (c 60 w1.toNatClampNeg).toInt = s1.toInt ∧ (c 60 w2.toNatClampNeg).toInt = s1.toInt ∧ 0 ≤ n1.toInt ∧ 0 ≤ n2.toInt ∧ 0 ≤ n3.toInt ∧ n1.toInt + n3.toInt ≤ (c 61 w1.toNatClampNeg).toInt ∧ n2.toInt + n3.toInt ≤ (c 61 w2.toNatClampNeg).toInt) ∧ r.toInt = -3) ∨ (0 ≤ w1.toInt ∧ w1.toInt < (i 5).toInt ∧ 0 ≤ w2.toInt ∧ w2.toInt < (i 5).toInt ∧ 0 ≤ s1.toInt ∧ s1.toInt ≤ 3 ∧ ¬ (c 63 w1.toNatClampNeg).toInt = 0 ∧ ¬ (c 63 w2.toNatClampNeg).toInt = 0 ∧ (c 60 w1.toNatClampNeg).toInt = s1.toInt ∧ (c 60 w2.toNatClampNeg).toInt = s1.toInt ∧ 0 ≤ n1.toInt ∧ 0 ≤ n2.toInt ∧ 0 ≤ n3.toInt ∧ n1.toInt + n3.toInt ≤ (c 61 w1.toNatClampNeg).toInt ∧ n2.toInt + n3.toInt ≤ (c 61 w2.toNatClampNeg).toInt ∧ r.toInt = 1)) ∧ (CpR r.toInt (u.2.2.2 62) (d 62) (w1.toInt * 12 + n1.toInt).toNat (w2.toInt * 12 + n2.toInt).toNat n3.toInt.toNat) ∧ (q = u.2.1)) (oC D A (fun u : MS => mW o a t u.1 u.2.1 u.2.2.1 u.2.2.2) (fun _ => [])) A) ([.ref o, .int w1, .int s1, .int n1, .int w2, .int n2, .int n3] : List Value).toArray s 0 0 A) (F0 m 198 ls []) := by
                                    intro fu
                                    induction fu with
                                    | zero => intro i67 c67 d67 y67_7 hI hfi hfc hy67_7 hz67_0 hz67_1 hm; exact absurd hm (Nat.not_lt_zero _)
                                    | succ fu ih =>
                                      intro i67 c67 d67 y67_7 hI hfi hfc hy67_7 hz67_0 hz67_1 hm H locs ls hP hD hS hl
                                      have ih67 := ih
                                      refine lv_iload hx hb dX12_copy_198 (lv_at hl 0 rfl) ?_
                                      refine lv_iload hx hb dX12_copy_200 (lv_at hl 7 rfl) ?_
                                      refine lv_icmp_ge (tgt := 234) hx hb dX12_copy_202 (by decide +kernel) (fun c68 => ?_) (fun c68 => ?_)
                                      · have f68 := (ti_le (a := n3.toInt) (b := y67_7.toInt) rfl rfl).mp c68
                                        refine lv_iconst (v := 1) hx hb dX12_copy_234 (by decide +kernel) ?_
                                        exact rw_iret (i67, q, c67, d67) hx hb hr hlocks hS (hK.sub (tys' := []) [] rfl) hP hD dX12_copy_235 ⟨trivial, hI, fr_w hfi (by decide +kernel), fr_w hfc (by decide +kernel), (show (¬ (0 ≤ w1.toInt ∧ w1.toInt < (i 5).toInt ∧ 0 ≤ w2.toInt ∧ w2.toInt < (i 5).toInt ∧ 0 ≤ s1.toInt ∧ s1.toInt ≤ 3) ∧ (1 : Int32).toInt = -1) ∨ (0 ≤ w1.toInt ∧ w1.toInt < (i 5).toInt ∧ 0 ≤ w2.toInt ∧ w2.toInt < (i 5).toInt ∧ 0 ≤ s1.toInt ∧ s1.toInt ≤ 3 ∧ ¬ (¬ (c 63 w1.toNatClampNeg).toInt = 0 ∧ ¬ (c 63 w2.toNatClampNeg).toInt = 0 ∧ (c 60 w1.toNatClampNeg).toInt = s1.toInt ∧ (c 60 w2.toNatClampNeg).toInt = s1.toInt ∧ 0 ≤ n1.toInt ∧ 0 ≤ n2.toInt ∧ 0 ≤ n3.toInt ∧ n1.toInt + n3.toInt ≤ (c 61 w1.toNatClampNeg).toInt ∧ n2.toInt + n3.toInt ≤ (c 61 w2.toNatClampNeg).toInt) ∧ (1 : Int32).toInt = -3) ∨ (0 ≤ w1.toInt ∧ w1.toInt < (i 5).toInt ∧ 0 ≤ w2.toInt ∧ w2.toInt < (i 5).toInt ∧ 0 ≤ s1.toInt ∧ s1.toInt ≤ 3 ∧ ¬ (c 63 w1.toNatClampNeg).toInt = 0 ∧ ¬ (c 63 w2.toNatClampNeg).toInt = 0 ∧ (c 60 w1.toNatClampNeg).toInt = s1.toInt ∧ (c 60 w2.toNatClampNeg).toInt = s1.toInt ∧ 0 ≤ n1.toInt ∧ 0 ≤ n2.toInt ∧ 0 ≤ n3.toInt ∧ n1.toInt + n3.toInt ≤ (c 61 w1.toNatClampNeg).toInt ∧ n2.toInt + n3.toInt ≤ (c 61 w2.toNatClampNeg).toInt ∧ (1 : Int32).toInt = 1) from by have h50 : (1 : Int32).toInt = 1 := (by decide +kernel); omega), (show CpR (1 : Int32).toInt (d67 62) (d 62) (w1.toInt * 12 + n1.toInt).toNat (w2.toInt * 12 + n2.toInt).toNat n3.toInt.toNat from Or.inl ⟨by decide, by rw [show n3.toInt = y67_7.toInt by omega]; exact CpK_e hz67_1 (by omega)⟩), rfl⟩
                                      · have f68 := mt (ti_le (a := n3.toInt) (b := y67_7.toInt) rfl rfl).mpr c68
                                        refine lv_aload_n hx hb dX12_copy_205 rfl (lv_at hl 1 rfl) ?_
                                        refine mget_62 hx hb hts (fun _ h => List.mem_cons_of_mem _ (List.mem_append_right _ h)) hown hK hP (hts (.fieldLink RX12 132 "TalePlayModel" "items" "[J") (List.mem_cons_of_mem _ (List.mem_append_left _ (List.mem_append_right _ (List.mem_of_getElem? (i := 2) rfl))))) dX12_copy_206 ?_
                                        refine lv_bipush (v := 12) hx hb dX12_copy_209 (by decide +kernel) ?_
                                        refine lv_iload hx hb dX12_copy_211 (lv_at hl 5 rfl) ?_
                                        refine lv_imul hx hb dX12_copy_213 ?_
                                        refine lv_topi (fun x69 ex69 => ?_)
                                        have tx69 := ti_mul (a := 12) (b := w2.toInt) ex69 (by decide +kernel) rfl (by omega) (by omega)
                                        refine lv_iload hx hb dX12_copy_214 (lv_at hl 6 rfl) ?_
                                        refine lv_iadd hx hb dX12_copy_216 ?_
                                        refine lv_topi (fun x70 ex70 => ?_)
                                        have tx70 := ti_add (a := (12 * w2.toInt)) (b := n2.toInt) ex70 tx69 rfl (by omega) (by omega)
                                        refine lv_iload hx hb dX12_copy_217 (lv_at hl 0 rfl) ?_
                                        refine lv_iadd hx hb dX12_copy_219 ?_
                                        refine lv_topi (fun x71 ex71 => ?_)
                                        have tx71 := ti_add (a := ((12 * w2.toInt) + n2.toInt)) (b := y67_7.toInt) ex71 tx70 rfl (by omega) (by omega)
                                        refine lv_aload_n hx hb dX12_copy_220 rfl (lv_at hl 1 rfl) ?_
                                        refine mget_68 hx hb hts (fun _ h => List.mem_cons_of_mem _ (List.mem_append_right _ h)) hown hK hP (hts (.fieldLink RX12 148 "TalePlayModel" "held" "[J") (List.mem_cons_of_mem _ (List.mem_append_left _ (List.mem_append_right _ (List.mem_of_getElem? (i := 3) rfl))))) dX12_copy_221 ?_
                                        refine lv_iload hx hb dX12_copy_224 (lv_at hl 0 rfl) ?_
                                        refine mld_68 hx hb hK hP (vp_in_iff.mpr (by have h9 : y67_7.toInt = y67_7.toInt := rfl; omega)) dX12_copy_226 (fun x72 ex72 => ?_)
                                        refine mst_62 hx hb hK hP hD hS (vp_in_iff.mpr (by have h9 : x71.toInt = (((12 * w2.toInt) + n2.toInt) + y67_7.toInt) := tx71; omega)) dX12_copy_227 (fun H locs hP hD hS => ?_)
                                        obtain ⟨x73, ex73⟩ : ∃ y : Int32, y = y67_7 + 1 := ⟨_, rfl⟩
                                        have tx73 := ti_add (a := y67_7.toInt) (b := 1) ex73 rfl (by decide +kernel) (by omega) (by omega)
                                        refine lv_iinc (v := x73) (lv' := [(7, .int x73), (0, .ref o), (1, .int w1), (2, .int s1), (3, .int n1), (4, .int w2), (5, .int n2), (6, .int n3)]) hx hb dX12_copy_228 hl (k := 0) rfl (by rw [ex73]; rfl) (by decide +kernel) rfl (fun ls hl => ?_)
                                        refine lv_goto (tgt := 198) hx hb dX12_copy_231 (by decide +kernel) ?_
                                        exact ih67 i67 c67 (updD d67 62 (x71 : Int32).toNatClampNeg x72) x73 hI (fr_w hfi (by decide +kernel)) (fr_w hfc (by decide +kernel)) (show 0 ≤ x73.toInt ∧ x73.toInt ≤ 12 ∧ x73.toInt ≤ n3.toInt from by have h50 : x73.toInt = (y67_7.toInt + 1) := tx73; omega) (show HeK (d 62) ((updD d67 62 (x71 : Int32).toNatClampNeg x72) 68) (w1.toInt * 12 + n1.toInt).toNat n3.toInt from hz67_0) (show CpK (d 62) ((updD d67 62 (x71 : Int32).toNatClampNeg x72) 62) (w1.toInt * 12 + n1.toInt).toNat (w2.toInt * 12 + n2.toInt).toNat x73.toInt from CpK_s (x := y67_7) (z := x71) (u := y67_7) hz67_1 hz67_0 (by omega) (by omega) tx73 (by have h9 : x71.toInt = (((12 * w2.toInt) + n2.toInt) + y67_7.toInt) := tx71; omega) rfl ex72) (by have h50 : x73.toInt = (y67_7.toInt + 1) := tx73; omega) _ _ _ hP hD hS (lv_sub hl [0, 1, 2, 3, 4, 5, 6, 7] rfl)
                                  exact lp67 _ i65 c65 d65 (0 : Int32) hI (fr_w hfi (by decide +kernel)) (fr_w hfc (by decide +kernel)) (show 0 ≤ (0 : Int32).toInt ∧ (0 : Int32).toInt ≤ 12 ∧ (0 : Int32).toInt ≤ n3.toInt from by have h50 : (0 : Int32).toInt = 0 := (by decide +kernel); omega) (show HeK (d 62) (d65 68) (w1.toInt * 12 + n1.toInt).toNat n3.toInt from fun j hj => hz65_0 j (by omega)) (show CpK (d 62) (d65 62) (w1.toInt * 12 + n1.toInt).toNat (w2.toInt * 12 + n2.toInt).toNat (0 : Int32).toInt from by rw [hz65_1]; exact CpK_0) (Nat.lt_succ_self _) _ _ _ hP hD hS (lv_sub hl [0, 1, 2, 3, 4, 5, 6, 7] rfl)
                                · have f66 := mt (ti_le (a := n3.toInt) (b := y65_7.toInt) rfl rfl).mpr c66
                                  refine lv_aload_n hx hb dX12_copy_168 rfl (lv_at hl 1 rfl) ?_
                                  refine mget_68 hx hb hts (fun _ h => List.mem_cons_of_mem _ (List.mem_append_right _ h)) hown hK hP (hts (.fieldLink RX12 148 "TalePlayModel" "held" "[J") (List.mem_cons_of_mem _ (List.mem_append_left _ (List.mem_append_right _ (List.mem_of_getElem? (i := 3) rfl))))) dX12_copy_169 ?_
                                  refine lv_iload hx hb dX12_copy_172 (lv_at hl 0 rfl) ?_
                                  refine lv_aload_n hx hb dX12_copy_174 rfl (lv_at hl 1 rfl) ?_
                                  refine mget_62 hx hb hts (fun _ h => List.mem_cons_of_mem _ (List.mem_append_right _ h)) hown hK hP (hts (.fieldLink RX12 132 "TalePlayModel" "items" "[J") (List.mem_cons_of_mem _ (List.mem_append_left _ (List.mem_append_right _ (List.mem_of_getElem? (i := 2) rfl))))) dX12_copy_175 ?_
                                  refine lv_bipush (v := 12) hx hb dX12_copy_178 (by decide +kernel) ?_
                                  refine lv_iload_n hx hb dX12_copy_180 rfl (lv_at hl 2 rfl) ?_
                                  refine lv_imul hx hb dX12_copy_181 ?_
                                  refine lv_topi (fun x74 ex74 => ?_)
                                  have tx74 := ti_mul (a := 12) (b := w1.toInt) ex74 (by decide +kernel) rfl (by omega) (by omega)
                                  refine lv_iload_n hx hb dX12_copy_182 rfl (lv_at hl 4 rfl) ?_
                                  refine lv_iadd hx hb dX12_copy_183 ?_
                                  refine lv_topi (fun x75 ex75 => ?_)
                                  have tx75 := ti_add (a := (12 * w1.toInt)) (b := n1.toInt) ex75 tx74 rfl (by omega) (by omega)
                                  refine lv_iload hx hb dX12_copy_184 (lv_at hl 0 rfl) ?_
                                  refine lv_iadd hx hb dX12_copy_186 ?_
                                  refine lv_topi (fun x76 ex76 => ?_)
                                  have tx76 := ti_add (a := ((12 * w1.toInt) + n1.toInt)) (b := y65_7.toInt) ex76 tx75 rfl (by omega) (by omega)
                                  refine mld_62 hx hb hK hP (vp_in_iff.mpr (by have h9 : x76.toInt = (((12 * w1.toInt) + n1.toInt) + y65_7.toInt) := tx76; omega)) dX12_copy_187 (fun x77 ex77 => ?_)
                                  refine mst_68 hx hb hK hP hD hS (vp_in_iff.mpr (by have h9 : y65_7.toInt = y65_7.toInt := rfl; omega)) dX12_copy_188 (fun H locs hP hD hS => ?_)
                                  obtain ⟨x78, ex78⟩ : ∃ y : Int32, y = y65_7 + 1 := ⟨_, rfl⟩
                                  have tx78 := ti_add (a := y65_7.toInt) (b := 1) ex78 rfl (by decide +kernel) (by omega) (by omega)
                                  refine lv_iinc (v := x78) (lv' := [(7, .int x78), (0, .ref o), (1, .int w1), (2, .int s1), (3, .int n1), (4, .int w2), (5, .int n2), (6, .int n3)]) hx hb dX12_copy_189 hl (k := 0) rfl (by rw [ex78]; rfl) (by decide +kernel) rfl (fun ls hl => ?_)
                                  refine lv_goto (tgt := 161) hx hb dX12_copy_192 (by decide +kernel) ?_
                                  exact ih65 i65 c65 (updD d65 68 (y65_7 : Int32).toNatClampNeg x77) x78 hI (fr_w hfi (by decide +kernel)) (fr_w hfc (by decide +kernel)) (show 0 ≤ x78.toInt ∧ x78.toInt ≤ 12 ∧ x78.toInt ≤ n3.toInt from by have h50 : x78.toInt = (y65_7.toInt + 1) := tx78; omega) (show HeK (d 62) ((updD d65 68 (y65_7 : Int32).toNatClampNeg x77) 68) (w1.toInt * 12 + n1.toInt).toNat x78.toInt from HeK_s (x := y65_7) (z := y65_7) (u := x76) hz65_0 (by omega) tx78 rfl (by have h9 : x76.toInt = (((12 * w1.toInt) + n1.toInt) + y65_7.toInt) := tx76; omega) (by rw [ex77, hz65_1])) (show ((updD d65 68 (y65_7 : Int32).toNatClampNeg x77) 62) = (d 62) from hz65_1) (by have h50 : x78.toInt = (y65_7.toInt + 1) := tx78; omega) _ _ _ hP hD hS (lv_sub hl [0, 1, 2, 3, 4, 5, 6, 7] rfl)
                            exact lp65 _ i c d (0 : Int32) hI (fr_w hfi (by decide +kernel)) (fr_w hfc (by decide +kernel)) (show 0 ≤ (0 : Int32).toInt ∧ (0 : Int32).toInt ≤ 12 ∧ (0 : Int32).toInt ≤ n3.toInt from by have h50 : (0 : Int32).toInt = 0 := (by decide +kernel); omega) (show HeK (d 62) (d 68) (w1.toInt * 12 + n1.toInt).toNat (0 : Int32).toInt from fun j hj => by have h9 : (0 : Int32).toInt = 0 := (by decide +kernel); exfalso; omega) (show (d 62) = (d 62) from rfl) (Nat.lt_succ_self _) _ _ _ hP hD hS (lv_sub hl [0, 1, 2, 3, 4, 5, 6, 7] rfl)
                          · have f64 := mt (lc_le (a := (n2.toInt + n3.toInt)) (b := x63.toInt) tx62 ((Int32.toInt_toInt64 x63).trans rfl)).mpr c64
                            refine lv_aload_n hx hb dX12_copy_152 rfl (lv_at hl 0 rfl) ?_
                            refine lv_iconst (v := 2) hx hb dX12_copy_153 (by decide +kernel) ?_
                            refine al_calli (va_runV (As := [.int 2]) (rest := []) ⟨hx, hb, hml, hown, hts⟩ (s_X12_meets l D H.size o a t i q c d 2 hI (show 1 ≤ 2 ∧ 2 ≤ 6 from by have h90 : (2 : Int32).toInt = 2 := (by decide +kernel); omega)) (cwV 1 hts gm_X12_copy_X12_meets rfl rfl rfl (by decide +kernel) ⟨Nat.le_of_ble_eq_true rfl, Nat.le_of_ble_eq_true rfl⟩) (pB_V hK hP hD (ci := 12) (q0 := 0) rfl rfl) rfl rfl hl.1 rfl (lv_room (Nat.le_of_ble_eq_true rfl)) dX12_copy_154 ⟨Nat.le_of_ble_eq_true rfl, Nat.le_of_ble_eq_true rfl⟩) hS hA hP hD (fun r79 u79 H locs hv79 hP hD hS => ?_)
                            obtain ⟨i79, q79, c79, d79⟩ := u79
                            have hw79 : r79 = (-3) ∧ mInv i79 c79 ∧ (∀ k, k ∉ ([0] : List Nat) → i79 k = i k) ∧ (∀ k, k ∉ ([1] : List Nat) → c79 k = c k) ∧ (q = q79) ∧ (d = d79) := hv79
                            clear hv79
                            obtain ⟨hw79, hI, hei79, hec79, hq79_q, hq79_d⟩ := hw79
                            subst hq79_q
                            subst hq79_d
                            have hfi : ∀ k, k ∉ ([0] : List Nat) → i79 k = i k := fr_z hfi hei79 (by decide +kernel) (by decide +kernel)
                            have hfc : ∀ k, k ∉ ([1] : List Nat) → c79 k = c k := fr_z hfc hec79 (by decide +kernel) (by decide +kernel)
                            have hP : va_P D vwCl (mW o a t i79 q c79 d) H := hP
                            have hD : va_D A (mW o a t i79 q c79 d) := hD
                            have hw79 : r79 = (-3) := hw79
                            subst hw79
                            exact rw_iret (i79, q, c79, d) hx hb hr hlocks hS (hK.sub (tys' := []) [] rfl) hP hD dX12_copy_157 ⟨trivial, hI, fr_w hfi (by decide +kernel), fr_w hfc (by decide +kernel), (show (¬ (0 ≤ w1.toInt ∧ w1.toInt < (i 5).toInt ∧ 0 ≤ w2.toInt ∧ w2.toInt < (i 5).toInt ∧ 0 ≤ s1.toInt ∧ s1.toInt ≤ 3) ∧ ((-3) : Int32).toInt = -1) ∨ (0 ≤ w1.toInt ∧ w1.toInt < (i 5).toInt ∧ 0 ≤ w2.toInt ∧ w2.toInt < (i 5).toInt ∧ 0 ≤ s1.toInt ∧ s1.toInt ≤ 3 ∧ ¬ (¬ (c 63 w1.toNatClampNeg).toInt = 0 ∧ ¬ (c 63 w2.toNatClampNeg).toInt = 0 ∧ (c 60 w1.toNatClampNeg).toInt = s1.toInt ∧ (c 60 w2.toNatClampNeg).toInt = s1.toInt ∧ 0 ≤ n1.toInt ∧ 0 ≤ n2.toInt ∧ 0 ≤ n3.toInt ∧ n1.toInt + n3.toInt ≤ (c 61 w1.toNatClampNeg).toInt ∧ n2.toInt + n3.toInt ≤ (c 61 w2.toNatClampNeg).toInt) ∧ ((-3) : Int32).toInt = -3) ∨ (0 ≤ w1.toInt ∧ w1.toInt < (i 5).toInt ∧ 0 ≤ w2.toInt ∧ w2.toInt < (i 5).toInt ∧ 0 ≤ s1.toInt ∧ s1.toInt ≤ 3 ∧ ¬ (c 63 w1.toNatClampNeg).toInt = 0 ∧ ¬ (c 63 w2.toNatClampNeg).toInt = 0 ∧ (c 60 w1.toNatClampNeg).toInt = s1.toInt ∧ (c 60 w2.toNatClampNeg).toInt = s1.toInt ∧ 0 ≤ n1.toInt ∧ 0 ≤ n2.toInt ∧ 0 ≤ n3.toInt ∧ n1.toInt + n3.toInt ≤ (c 61 w1.toNatClampNeg).toInt ∧ n2.toInt + n3.toInt ≤ (c 61 w2.toNatClampNeg).toInt ∧ ((-3) : Int32).toInt = 1) from by have h50 : ((-3) : Int32).toInt = -3 := (by decide +kernel); omega), (show CpR ((-3) : Int32).toInt (d 62) (d 62) (w1.toInt * 12 + n1.toInt).toNat (w2.toInt * 12 + n2.toInt).toNat n3.toInt.toNat from Or.inr ⟨by decide, rfl⟩), rfl⟩
                · have f51 := (ti_eq (a := x50.toInt) (b := 0) rfl (by decide +kernel)).mp c51
                  refine lv_aload_n hx hb dX12_copy_96 rfl (lv_at hl 0 rfl) ?_
                  refine lv_iconst (v := 1) hx hb dX12_copy_97 (by decide +kernel) ?_
                  refine al_calli (va_runV (As := [.int 1]) (rest := []) ⟨hx, hb, hml, hown, hts⟩ (s_X12_meets l D H.size o a t i q c d 1 hI (show 1 ≤ 1 ∧ 1 ≤ 6 from by have h90 : (1 : Int32).toInt = 1 := (by decide +kernel); omega)) (cwV 1 hts gm_X12_copy_X12_meets rfl rfl rfl (by decide +kernel) ⟨Nat.le_of_ble_eq_true rfl, Nat.le_of_ble_eq_true rfl⟩) (pB_V hK hP hD (ci := 12) (q0 := 0) rfl rfl) rfl rfl hl.1 rfl (lv_room (Nat.le_of_ble_eq_true rfl)) dX12_copy_98 ⟨Nat.le_of_ble_eq_true rfl, Nat.le_of_ble_eq_true rfl⟩) hS hA hP hD (fun r80 u80 H locs hv80 hP hD hS => ?_)
                  obtain ⟨i80, q80, c80, d80⟩ := u80
                  have hw80 : r80 = (-3) ∧ mInv i80 c80 ∧ (∀ k, k ∉ ([0] : List Nat) → i80 k = i k) ∧ (∀ k, k ∉ ([1] : List Nat) → c80 k = c k) ∧ (q = q80) ∧ (d = d80) := hv80
                  clear hv80
                  obtain ⟨hw80, hI, hei80, hec80, hq80_q, hq80_d⟩ := hw80
                  subst hq80_q
                  subst hq80_d
                  have hfi : ∀ k, k ∉ ([0] : List Nat) → i80 k = i k := fr_z hfi hei80 (by decide +kernel) (by decide +kernel)
                  have hfc : ∀ k, k ∉ ([1] : List Nat) → c80 k = c k := fr_z hfc hec80 (by decide +kernel) (by decide +kernel)
                  have hP : va_P D vwCl (mW o a t i80 q c80 d) H := hP
                  have hD : va_D A (mW o a t i80 q c80 d) := hD
                  have hw80 : r80 = (-3) := hw80
                  subst hw80
                  exact rw_iret (i80, q, c80, d) hx hb hr hlocks hS (hK.sub (tys' := []) [] rfl) hP hD dX12_copy_101 ⟨trivial, hI, fr_w hfi (by decide +kernel), fr_w hfc (by decide +kernel), (show (¬ (0 ≤ w1.toInt ∧ w1.toInt < (i 5).toInt ∧ 0 ≤ w2.toInt ∧ w2.toInt < (i 5).toInt ∧ 0 ≤ s1.toInt ∧ s1.toInt ≤ 3) ∧ ((-3) : Int32).toInt = -1) ∨ (0 ≤ w1.toInt ∧ w1.toInt < (i 5).toInt ∧ 0 ≤ w2.toInt ∧ w2.toInt < (i 5).toInt ∧ 0 ≤ s1.toInt ∧ s1.toInt ≤ 3 ∧ ¬ (¬ (c 63 w1.toNatClampNeg).toInt = 0 ∧ ¬ (c 63 w2.toNatClampNeg).toInt = 0 ∧ (c 60 w1.toNatClampNeg).toInt = s1.toInt ∧ (c 60 w2.toNatClampNeg).toInt = s1.toInt ∧ 0 ≤ n1.toInt ∧ 0 ≤ n2.toInt ∧ 0 ≤ n3.toInt ∧ n1.toInt + n3.toInt ≤ (c 61 w1.toNatClampNeg).toInt ∧ n2.toInt + n3.toInt ≤ (c 61 w2.toNatClampNeg).toInt) ∧ ((-3) : Int32).toInt = -3) ∨ (0 ≤ w1.toInt ∧ w1.toInt < (i 5).toInt ∧ 0 ≤ w2.toInt ∧ w2.toInt < (i 5).toInt ∧ 0 ≤ s1.toInt ∧ s1.toInt ≤ 3 ∧ ¬ (c 63 w1.toNatClampNeg).toInt = 0 ∧ ¬ (c 63 w2.toNatClampNeg).toInt = 0 ∧ (c 60 w1.toNatClampNeg).toInt = s1.toInt ∧ (c 60 w2.toNatClampNeg).toInt = s1.toInt ∧ 0 ≤ n1.toInt ∧ 0 ≤ n2.toInt ∧ 0 ≤ n3.toInt ∧ n1.toInt + n3.toInt ≤ (c 61 w1.toNatClampNeg).toInt ∧ n2.toInt + n3.toInt ≤ (c 61 w2.toNatClampNeg).toInt ∧ ((-3) : Int32).toInt = 1) from by have h50 : ((-3) : Int32).toInt = -3 := (by decide +kernel); omega), (show CpR ((-3) : Int32).toInt (d 62) (d 62) (w1.toInt * 12 + n1.toInt).toNat (w2.toInt * 12 + n2.toInt).toNat n3.toInt.toNat from Or.inr ⟨by decide, rfl⟩), rfl⟩
            · have f46 := mt (ti_eq (a := x45.toInt) (b := s1.toInt) rfl rfl).mpr c46
              refine lv_aload_n hx hb dX12_copy_71 rfl (lv_at hl 0 rfl) ?_
              refine lv_iconst (v := 3) hx hb dX12_copy_72 (by decide +kernel) ?_
              refine al_calli (va_runV (As := [.int 3]) (rest := []) ⟨hx, hb, hml, hown, hts⟩ (s_X12_meets l D H.size o a t i q c d 3 hI (show 1 ≤ 3 ∧ 3 ≤ 6 from by have h90 : (3 : Int32).toInt = 3 := (by decide +kernel); omega)) (cwV 1 hts gm_X12_copy_X12_meets rfl rfl rfl (by decide +kernel) ⟨Nat.le_of_ble_eq_true rfl, Nat.le_of_ble_eq_true rfl⟩) (pB_V hK hP hD (ci := 12) (q0 := 0) rfl rfl) rfl rfl hl.1 rfl (lv_room (Nat.le_of_ble_eq_true rfl)) dX12_copy_73 ⟨Nat.le_of_ble_eq_true rfl, Nat.le_of_ble_eq_true rfl⟩) hS hA hP hD (fun r81 u81 H locs hv81 hP hD hS => ?_)
              obtain ⟨i81, q81, c81, d81⟩ := u81
              have hw81 : r81 = (-3) ∧ mInv i81 c81 ∧ (∀ k, k ∉ ([0] : List Nat) → i81 k = i k) ∧ (∀ k, k ∉ ([1] : List Nat) → c81 k = c k) ∧ (q = q81) ∧ (d = d81) := hv81
              clear hv81
              obtain ⟨hw81, hI, hei81, hec81, hq81_q, hq81_d⟩ := hw81
              subst hq81_q
              subst hq81_d
              have hfi : ∀ k, k ∉ ([0] : List Nat) → i81 k = i k := fr_z hfi hei81 (by decide +kernel) (by decide +kernel)
              have hfc : ∀ k, k ∉ ([1] : List Nat) → c81 k = c k := fr_z hfc hec81 (by decide +kernel) (by decide +kernel)
              have hP : va_P D vwCl (mW o a t i81 q c81 d) H := hP
              have hD : va_D A (mW o a t i81 q c81 d) := hD
              have hw81 : r81 = (-3) := hw81
              subst hw81
              exact rw_iret (i81, q, c81, d) hx hb hr hlocks hS (hK.sub (tys' := []) [] rfl) hP hD dX12_copy_76 ⟨trivial, hI, fr_w hfi (by decide +kernel), fr_w hfc (by decide +kernel), (show (¬ (0 ≤ w1.toInt ∧ w1.toInt < (i 5).toInt ∧ 0 ≤ w2.toInt ∧ w2.toInt < (i 5).toInt ∧ 0 ≤ s1.toInt ∧ s1.toInt ≤ 3) ∧ ((-3) : Int32).toInt = -1) ∨ (0 ≤ w1.toInt ∧ w1.toInt < (i 5).toInt ∧ 0 ≤ w2.toInt ∧ w2.toInt < (i 5).toInt ∧ 0 ≤ s1.toInt ∧ s1.toInt ≤ 3 ∧ ¬ (¬ (c 63 w1.toNatClampNeg).toInt = 0 ∧ ¬ (c 63 w2.toNatClampNeg).toInt = 0 ∧ (c 60 w1.toNatClampNeg).toInt = s1.toInt ∧ (c 60 w2.toNatClampNeg).toInt = s1.toInt ∧ 0 ≤ n1.toInt ∧ 0 ≤ n2.toInt ∧ 0 ≤ n3.toInt ∧ n1.toInt + n3.toInt ≤ (c 61 w1.toNatClampNeg).toInt ∧ n2.toInt + n3.toInt ≤ (c 61 w2.toNatClampNeg).toInt) ∧ ((-3) : Int32).toInt = -3) ∨ (0 ≤ w1.toInt ∧ w1.toInt < (i 5).toInt ∧ 0 ≤ w2.toInt ∧ w2.toInt < (i 5).toInt ∧ 0 ≤ s1.toInt ∧ s1.toInt ≤ 3 ∧ ¬ (c 63 w1.toNatClampNeg).toInt = 0 ∧ ¬ (c 63 w2.toNatClampNeg).toInt = 0 ∧ (c 60 w1.toNatClampNeg).toInt = s1.toInt ∧ (c 60 w2.toNatClampNeg).toInt = s1.toInt ∧ 0 ≤ n1.toInt ∧ 0 ≤ n2.toInt ∧ 0 ≤ n3.toInt ∧ n1.toInt + n3.toInt ≤ (c 61 w1.toNatClampNeg).toInt ∧ n2.toInt + n3.toInt ≤ (c 61 w2.toNatClampNeg).toInt ∧ ((-3) : Int32).toInt = 1) from by have h50 : ((-3) : Int32).toInt = -3 := (by decide +kernel); omega), (show CpR ((-3) : Int32).toInt (d 62) (d 62) (w1.toInt * 12 + n1.toInt).toNat (w2.toInt * 12 + n2.toInt).toNat n3.toInt.toNat from Or.inr ⟨by decide, rfl⟩), rfl⟩
        · have f8 := mt (ti_eq (a := x7.toInt) (b := 0) rfl (by decide +kernel)).mpr c8
          refine lv_aload_n hx hb dX12_copy_40 rfl (lv_at hl 0 rfl) ?_
          refine mget_60 hx hb hts (fun _ h => List.mem_cons_of_mem _ (List.mem_append_right _ h)) hown hK hP (hts (.fieldLink RX12 126 "TalePlayModel" "lineSort" "[I") (List.mem_cons_of_mem _ (List.mem_append_left _ (List.mem_append_right _ (List.mem_of_getElem? (i := 4) rfl))))) dX12_copy_41 ?_
          refine lv_iload_n hx hb dX12_copy_44 rfl (lv_at hl 1 rfl) ?_
          refine mld_60 hx hb hK hP (vp_in_iff.mpr (by have h9 : w1.toInt = w1.toInt := rfl; omega)) dX12_copy_45 (fun x82 ex82 => ?_)
          have rx82 : 0 ≤ x82.toInt ∧ x82.toInt ≤ 3 := by rw [ex82]; exact hI.2 60 _
          have gx82 : (c 60 (w1 : Int32).toNatClampNeg).toInt = x82.toInt := by rw [ex82]
          refine lv_iload_n hx hb dX12_copy_46 rfl (lv_at hl 2 rfl) ?_
          refine lv_icmp_ne (tgt := 71) hx hb dX12_copy_47 (by decide +kernel) (fun c83 => ?_) (fun c83 => ?_)
          · have f83 := mt (ti_eq (a := x82.toInt) (b := s1.toInt) rfl rfl).mpr c83
            refine lv_aload_n hx hb dX12_copy_71 rfl (lv_at hl 0 rfl) ?_
            refine lv_iconst (v := 3) hx hb dX12_copy_72 (by decide +kernel) ?_
            refine al_calli (va_runV (As := [.int 3]) (rest := []) ⟨hx, hb, hml, hown, hts⟩ (s_X12_meets l D H.size o a t i q c d 3 hI (show 1 ≤ 3 ∧ 3 ≤ 6 from by have h90 : (3 : Int32).toInt = 3 := (by decide +kernel); omega)) (cwV 1 hts gm_X12_copy_X12_meets rfl rfl rfl (by decide +kernel) ⟨Nat.le_of_ble_eq_true rfl, Nat.le_of_ble_eq_true rfl⟩) (pB_V hK hP hD (ci := 12) (q0 := 0) rfl rfl) rfl rfl hl.1 rfl (lv_room (Nat.le_of_ble_eq_true rfl)) dX12_copy_73 ⟨Nat.le_of_ble_eq_true rfl, Nat.le_of_ble_eq_true rfl⟩) hS hA hP hD (fun r84 u84 H locs hv84 hP hD hS => ?_)
            obtain ⟨i84, q84, c84, d84⟩ := u84
            have hw84 : r84 = (-3) ∧ mInv i84 c84 ∧ (∀ k, k ∉ ([0] : List Nat) → i84 k = i k) ∧ (∀ k, k ∉ ([1] : List Nat) → c84 k = c k) ∧ (q = q84) ∧ (d = d84) := hv84
            clear hv84
            obtain ⟨hw84, hI, hei84, hec84, hq84_q, hq84_d⟩ := hw84
            subst hq84_q
            subst hq84_d
            have hfi : ∀ k, k ∉ ([0] : List Nat) → i84 k = i k := fr_z hfi hei84 (by decide +kernel) (by decide +kernel)
            have hfc : ∀ k, k ∉ ([1] : List Nat) → c84 k = c k := fr_z hfc hec84 (by decide +kernel) (by decide +kernel)
            have hP : va_P D vwCl (mW o a t i84 q c84 d) H := hP
            have hD : va_D A (mW o a t i84 q c84 d) := hD
            have hw84 : r84 = (-3) := hw84
            subst hw84
            exact rw_iret (i84, q, c84, d) hx hb hr hlocks hS (hK.sub (tys' := []) [] rfl) hP hD dX12_copy_76 ⟨trivial, hI, fr_w hfi (by decide +kernel), fr_w hfc (by decide +kernel), (show (¬ (0 ≤ w1.toInt ∧ w1.toInt < (i 5).toInt ∧ 0 ≤ w2.toInt ∧ w2.toInt < (i 5).toInt ∧ 0 ≤ s1.toInt ∧ s1.toInt ≤ 3) ∧ ((-3) : Int32).toInt = -1) ∨ (0 ≤ w1.toInt ∧ w1.toInt < (i 5).toInt ∧ 0 ≤ w2.toInt ∧ w2.toInt < (i 5).toInt ∧ 0 ≤ s1.toInt ∧ s1.toInt ≤ 3 ∧ ¬ (¬ (c 63 w1.toNatClampNeg).toInt = 0 ∧ ¬ (c 63 w2.toNatClampNeg).toInt = 0 ∧ (c 60 w1.toNatClampNeg).toInt = s1.toInt ∧ (c 60 w2.toNatClampNeg).toInt = s1.toInt ∧ 0 ≤ n1.toInt ∧ 0 ≤ n2.toInt ∧ 0 ≤ n3.toInt ∧ n1.toInt + n3.toInt ≤ (c 61 w1.toNatClampNeg).toInt ∧ n2.toInt + n3.toInt ≤ (c 61 w2.toNatClampNeg).toInt) ∧ ((-3) : Int32).toInt = -3) ∨ (0 ≤ w1.toInt ∧ w1.toInt < (i 5).toInt ∧ 0 ≤ w2.toInt ∧ w2.toInt < (i 5).toInt ∧ 0 ≤ s1.toInt ∧ s1.toInt ≤ 3 ∧ ¬ (c 63 w1.toNatClampNeg).toInt = 0 ∧ ¬ (c 63 w2.toNatClampNeg).toInt = 0 ∧ (c 60 w1.toNatClampNeg).toInt = s1.toInt ∧ (c 60 w2.toNatClampNeg).toInt = s1.toInt ∧ 0 ≤ n1.toInt ∧ 0 ≤ n2.toInt ∧ 0 ≤ n3.toInt ∧ n1.toInt + n3.toInt ≤ (c 61 w1.toNatClampNeg).toInt ∧ n2.toInt + n3.toInt ≤ (c 61 w2.toNatClampNeg).toInt ∧ ((-3) : Int32).toInt = 1) from by have h50 : ((-3) : Int32).toInt = -3 := (by decide +kernel); omega), (show CpR ((-3) : Int32).toInt (d 62) (d 62) (w1.toInt * 12 + n1.toInt).toNat (w2.toInt * 12 + n2.toInt).toNat n3.toInt.toNat from Or.inr ⟨by decide, rfl⟩), rfl⟩
          · have f83 := (ti_eq (a := x82.toInt) (b := s1.toInt) rfl rfl).mp c83
            refine lv_aload_n hx hb dX12_copy_50 rfl (lv_at hl 0 rfl) ?_
            refine mget_63 hx hb hts (fun _ h => List.mem_cons_of_mem _ (List.mem_append_right _ h)) hown hK hP (hts (.fieldLink RX12 136 "TalePlayModel" "hasLine" "[Z") (List.mem_cons_of_mem _ (List.mem_append_left _ (List.mem_append_left _ (List.mem_of_getElem? (i := 10) rfl))))) dX12_copy_51 ?_
            refine lv_iload hx hb dX12_copy_54 (lv_at hl 4 rfl) ?_
            refine mld_63 hx hb hK hP (vp_in_iff.mpr (by have h9 : w2.toInt = w2.toInt := rfl; omega)) dX12_copy_56 (fun x85 ex85 => ?_)
            have rx85 : 0 ≤ x85.toInt ∧ x85.toInt ≤ 1 := by rw [ex85]; exact hI.2 63 _
            have gx85 : (c 63 (w2 : Int32).toNatClampNeg).toInt = x85.toInt := by rw [ex85]
            refine lv_if_eq (tgt := 77) hx hb dX12_copy_57 (by decide +kernel) (fun c86 => ?_) (fun c86 => ?_)
            · have f86 := (ti_eq (a := x85.toInt) (b := 0) rfl (by decide +kernel)).mp c86
              refine lv_aload_n hx hb dX12_copy_77 rfl (lv_at hl 0 rfl) ?_
              refine mget_63 hx hb hts (fun _ h => List.mem_cons_of_mem _ (List.mem_append_right _ h)) hown hK hP (hts (.fieldLink RX12 136 "TalePlayModel" "hasLine" "[Z") (List.mem_cons_of_mem _ (List.mem_append_left _ (List.mem_append_left _ (List.mem_of_getElem? (i := 10) rfl))))) dX12_copy_78 ?_
              refine lv_iload_n hx hb dX12_copy_81 rfl (lv_at hl 1 rfl) ?_
              refine mld_63 hx hb hK hP (vp_in_iff.mpr (by have h9 : w1.toInt = w1.toInt := rfl; omega)) dX12_copy_82 (fun x87 ex87 => ?_)
              have rx87 : 0 ≤ x87.toInt ∧ x87.toInt ≤ 1 := by rw [ex87]; exact hI.2 63 _
              have gx87 : (c 63 (w1 : Int32).toNatClampNeg).toInt = x87.toInt := by rw [ex87]
              refine lv_if_eq (tgt := 96) hx hb dX12_copy_83 (by decide +kernel) (fun c88 => ?_) (fun c88 => ?_)
              · have f88 := (ti_eq (a := x87.toInt) (b := 0) rfl (by decide +kernel)).mp c88
                refine lv_aload_n hx hb dX12_copy_96 rfl (lv_at hl 0 rfl) ?_
                refine lv_iconst (v := 1) hx hb dX12_copy_97 (by decide +kernel) ?_
                refine al_calli (va_runV (As := [.int 1]) (rest := []) ⟨hx, hb, hml, hown, hts⟩ (s_X12_meets l D H.size o a t i q c d 1 hI (show 1 ≤ 1 ∧ 1 ≤ 6 from by have h90 : (1 : Int32).toInt = 1 := (by decide +kernel); omega)) (cwV 1 hts gm_X12_copy_X12_meets rfl rfl rfl (by decide +kernel) ⟨Nat.le_of_ble_eq_true rfl, Nat.le_of_ble_eq_true rfl⟩) (pB_V hK hP hD (ci := 12) (q0 := 0) rfl rfl) rfl rfl hl.1 rfl (lv_room (Nat.le_of_ble_eq_true rfl)) dX12_copy_98 ⟨Nat.le_of_ble_eq_true rfl, Nat.le_of_ble_eq_true rfl⟩) hS hA hP hD (fun r89 u89 H locs hv89 hP hD hS => ?_)
                obtain ⟨i89, q89, c89, d89⟩ := u89
                have hw89 : r89 = (-3) ∧ mInv i89 c89 ∧ (∀ k, k ∉ ([0] : List Nat) → i89 k = i k) ∧ (∀ k, k ∉ ([1] : List Nat) → c89 k = c k) ∧ (q = q89) ∧ (d = d89) := hv89
                clear hv89
                obtain ⟨hw89, hI, hei89, hec89, hq89_q, hq89_d⟩ := hw89
                subst hq89_q
                subst hq89_d
                have hfi : ∀ k, k ∉ ([0] : List Nat) → i89 k = i k := fr_z hfi hei89 (by decide +kernel) (by decide +kernel)
                have hfc : ∀ k, k ∉ ([1] : List Nat) → c89 k = c k := fr_z hfc hec89 (by decide +kernel) (by decide +kernel)
                have hP : va_P D vwCl (mW o a t i89 q c89 d) H := hP
                have hD : va_D A (mW o a t i89 q c89 d) := hD
                have hw89 : r89 = (-3) := hw89
                subst hw89
                exact rw_iret (i89, q, c89, d) hx hb hr hlocks hS (hK.sub (tys' := []) [] rfl) hP hD dX12_copy_101 ⟨trivial, hI, fr_w hfi (by decide +kernel), fr_w hfc (by decide +kernel), (show (¬ (0 ≤ w1.toInt ∧ w1.toInt < (i 5).toInt ∧ 0 ≤ w2.toInt ∧ w2.toInt < (i 5).toInt ∧ 0 ≤ s1.toInt ∧ s1.toInt ≤ 3) ∧ ((-3) : Int32).toInt = -1) ∨ (0 ≤ w1.toInt ∧ w1.toInt < (i 5).toInt ∧ 0 ≤ w2.toInt ∧ w2.toInt < (i 5).toInt ∧ 0 ≤ s1.toInt ∧ s1.toInt ≤ 3 ∧ ¬ (¬ (c 63 w1.toNatClampNeg).toInt = 0 ∧ ¬ (c 63 w2.toNatClampNeg).toInt = 0 ∧ (c 60 w1.toNatClampNeg).toInt = s1.toInt ∧ (c 60 w2.toNatClampNeg).toInt = s1.toInt ∧ 0 ≤ n1.toInt ∧ 0 ≤ n2.toInt ∧ 0 ≤ n3.toInt ∧ n1.toInt + n3.toInt ≤ (c 61 w1.toNatClampNeg).toInt ∧ n2.toInt + n3.toInt ≤ (c 61 w2.toNatClampNeg).toInt) ∧ ((-3) : Int32).toInt = -3) ∨ (0 ≤ w1.toInt ∧ w1.toInt < (i 5).toInt ∧ 0 ≤ w2.toInt ∧ w2.toInt < (i 5).toInt ∧ 0 ≤ s1.toInt ∧ s1.toInt ≤ 3 ∧ ¬ (c 63 w1.toNatClampNeg).toInt = 0 ∧ ¬ (c 63 w2.toNatClampNeg).toInt = 0 ∧ (c 60 w1.toNatClampNeg).toInt = s1.toInt ∧ (c 60 w2.toNatClampNeg).toInt = s1.toInt ∧ 0 ≤ n1.toInt ∧ 0 ≤ n2.toInt ∧ 0 ≤ n3.toInt ∧ n1.toInt + n3.toInt ≤ (c 61 w1.toNatClampNeg).toInt ∧ n2.toInt + n3.toInt ≤ (c 61 w2.toNatClampNeg).toInt ∧ ((-3) : Int32).toInt = 1) from by have h50 : ((-3) : Int32).toInt = -3 := (by decide +kernel); omega), (show CpR ((-3) : Int32).toInt (d 62) (d 62) (w1.toInt * 12 + n1.toInt).toNat (w2.toInt * 12 + n2.toInt).toNat n3.toInt.toNat from Or.inr ⟨by decide, rfl⟩), rfl⟩
              · have f88 := mt (ti_eq (a := x87.toInt) (b := 0) rfl (by decide +kernel)).mpr c88
                refine lv_aload_n hx hb dX12_copy_86 rfl (lv_at hl 0 rfl) ?_
                refine mget_63 hx hb hts (fun _ h => List.mem_cons_of_mem _ (List.mem_append_right _ h)) hown hK hP (hts (.fieldLink RX12 136 "TalePlayModel" "hasLine" "[Z") (List.mem_cons_of_mem _ (List.mem_append_left _ (List.mem_append_left _ (List.mem_of_getElem? (i := 10) rfl))))) dX12_copy_87 ?_
                refine lv_iload hx hb dX12_copy_90 (lv_at hl 4 rfl) ?_
                refine mld_63 hx hb hK hP (vp_in_iff.mpr (by have h9 : w2.toInt = w2.toInt := rfl; omega)) dX12_copy_92 (fun x90 ex90 => ?_)
                have rx90 : 0 ≤ x90.toInt ∧ x90.toInt ≤ 1 := by rw [ex90]; exact hI.2 63 _
                have gx90 : (c 63 (w2 : Int32).toNatClampNeg).toInt = x90.toInt := by rw [ex90]
                refine lv_if_ne (tgt := 102) hx hb dX12_copy_93 (by decide +kernel) (fun c91 => ?_) (fun c91 => ?_)
                · have f91 := mt (ti_eq (a := x90.toInt) (b := 0) rfl (by decide +kernel)).mpr c91
                  refine lv_iload_n hx hb dX12_copy_102 rfl (lv_at hl 3 rfl) ?_
                  refine lv_if_lt (tgt := 152) hx hb dX12_copy_103 (by decide +kernel) (fun c92 => ?_) (fun c92 => ?_)
                  · have f92 := (ti_lt (a := n1.toInt) (b := 0) rfl (by decide +kernel)).mp c92
                    refine lv_aload_n hx hb dX12_copy_152 rfl (lv_at hl 0 rfl) ?_
                    refine lv_iconst (v := 2) hx hb dX12_copy_153 (by decide +kernel) ?_
                    refine al_calli (va_runV (As := [.int 2]) (rest := []) ⟨hx, hb, hml, hown, hts⟩ (s_X12_meets l D H.size o a t i q c d 2 hI (show 1 ≤ 2 ∧ 2 ≤ 6 from by have h90 : (2 : Int32).toInt = 2 := (by decide +kernel); omega)) (cwV 1 hts gm_X12_copy_X12_meets rfl rfl rfl (by decide +kernel) ⟨Nat.le_of_ble_eq_true rfl, Nat.le_of_ble_eq_true rfl⟩) (pB_V hK hP hD (ci := 12) (q0 := 0) rfl rfl) rfl rfl hl.1 rfl (lv_room (Nat.le_of_ble_eq_true rfl)) dX12_copy_154 ⟨Nat.le_of_ble_eq_true rfl, Nat.le_of_ble_eq_true rfl⟩) hS hA hP hD (fun r93 u93 H locs hv93 hP hD hS => ?_)
                    obtain ⟨i93, q93, c93, d93⟩ := u93
                    have hw93 : r93 = (-3) ∧ mInv i93 c93 ∧ (∀ k, k ∉ ([0] : List Nat) → i93 k = i k) ∧ (∀ k, k ∉ ([1] : List Nat) → c93 k = c k) ∧ (q = q93) ∧ (d = d93) := hv93
                    clear hv93
                    obtain ⟨hw93, hI, hei93, hec93, hq93_q, hq93_d⟩ := hw93
                    subst hq93_q
                    subst hq93_d
                    have hfi : ∀ k, k ∉ ([0] : List Nat) → i93 k = i k := fr_z hfi hei93 (by decide +kernel) (by decide +kernel)
                    have hfc : ∀ k, k ∉ ([1] : List Nat) → c93 k = c k := fr_z hfc hec93 (by decide +kernel) (by decide +kernel)
                    have hP : va_P D vwCl (mW o a t i93 q c93 d) H := hP
                    have hD : va_D A (mW o a t i93 q c93 d) := hD
                    have hw93 : r93 = (-3) := hw93
                    subst hw93
                    exact rw_iret (i93, q, c93, d) hx hb hr hlocks hS (hK.sub (tys' := []) [] rfl) hP hD dX12_copy_157 ⟨trivial, hI, fr_w hfi (by decide +kernel), fr_w hfc (by decide +kernel), (show (¬ (0 ≤ w1.toInt ∧ w1.toInt < (i 5).toInt ∧ 0 ≤ w2.toInt ∧ w2.toInt < (i 5).toInt ∧ 0 ≤ s1.toInt ∧ s1.toInt ≤ 3) ∧ ((-3) : Int32).toInt = -1) ∨ (0 ≤ w1.toInt ∧ w1.toInt < (i 5).toInt ∧ 0 ≤ w2.toInt ∧ w2.toInt < (i 5).toInt ∧ 0 ≤ s1.toInt ∧ s1.toInt ≤ 3 ∧ ¬ (¬ (c 63 w1.toNatClampNeg).toInt = 0 ∧ ¬ (c 63 w2.toNatClampNeg).toInt = 0 ∧ (c 60 w1.toNatClampNeg).toInt = s1.toInt ∧ (c 60 w2.toNatClampNeg).toInt = s1.toInt ∧ 0 ≤ n1.toInt ∧ 0 ≤ n2.toInt ∧ 0 ≤ n3.toInt ∧ n1.toInt + n3.toInt ≤ (c 61 w1.toNatClampNeg).toInt ∧ n2.toInt + n3.toInt ≤ (c 61 w2.toNatClampNeg).toInt) ∧ ((-3) : Int32).toInt = -3) ∨ (0 ≤ w1.toInt ∧ w1.toInt < (i 5).toInt ∧ 0 ≤ w2.toInt ∧ w2.toInt < (i 5).toInt ∧ 0 ≤ s1.toInt ∧ s1.toInt ≤ 3 ∧ ¬ (c 63 w1.toNatClampNeg).toInt = 0 ∧ ¬ (c 63 w2.toNatClampNeg).toInt = 0 ∧ (c 60 w1.toNatClampNeg).toInt = s1.toInt ∧ (c 60 w2.toNatClampNeg).toInt = s1.toInt ∧ 0 ≤ n1.toInt ∧ 0 ≤ n2.toInt ∧ 0 ≤ n3.toInt ∧ n1.toInt + n3.toInt ≤ (c 61 w1.toNatClampNeg).toInt ∧ n2.toInt + n3.toInt ≤ (c 61 w2.toNatClampNeg).toInt ∧ ((-3) : Int32).toInt = 1) from by have h50 : ((-3) : Int32).toInt = -3 := (by decide +kernel); omega), (show CpR ((-3) : Int32).toInt (d 62) (d 62) (w1.toInt * 12 + n1.toInt).toNat (w2.toInt * 12 + n2.toInt).toNat n3.toInt.toNat from Or.inr ⟨by decide, rfl⟩), rfl⟩
                  · have f92 := mt (ti_lt (a := n1.toInt) (b := 0) rfl (by decide +kernel)).mpr c92
                    refine lv_iload hx hb dX12_copy_106 (lv_at hl 5 rfl) ?_
                    refine lv_if_lt (tgt := 152) hx hb dX12_copy_108 (by decide +kernel) (fun c94 => ?_) (fun c94 => ?_)
                    · have f94 := (ti_lt (a := n2.toInt) (b := 0) rfl (by decide +kernel)).mp c94
                      refine lv_aload_n hx hb dX12_copy_152 rfl (lv_at hl 0 rfl) ?_
                      refine lv_iconst (v := 2) hx hb dX12_copy_153 (by decide +kernel) ?_
                      refine al_calli (va_runV (As := [.int 2]) (rest := []) ⟨hx, hb, hml, hown, hts⟩ (s_X12_meets l D H.size o a t i q c d 2 hI (show 1 ≤ 2 ∧ 2 ≤ 6 from by have h90 : (2 : Int32).toInt = 2 := (by decide +kernel); omega)) (cwV 1 hts gm_X12_copy_X12_meets rfl rfl rfl (by decide +kernel) ⟨Nat.le_of_ble_eq_true rfl, Nat.le_of_ble_eq_true rfl⟩) (pB_V hK hP hD (ci := 12) (q0 := 0) rfl rfl) rfl rfl hl.1 rfl (lv_room (Nat.le_of_ble_eq_true rfl)) dX12_copy_154 ⟨Nat.le_of_ble_eq_true rfl, Nat.le_of_ble_eq_true rfl⟩) hS hA hP hD (fun r95 u95 H locs hv95 hP hD hS => ?_)
                      obtain ⟨i95, q95, c95, d95⟩ := u95
                      have hw95 : r95 = (-3) ∧ mInv i95 c95 ∧ (∀ k, k ∉ ([0] : List Nat) → i95 k = i k) ∧ (∀ k, k ∉ ([1] : List Nat) → c95 k = c k) ∧ (q = q95) ∧ (d = d95) := hv95
                      clear hv95
                      obtain ⟨hw95, hI, hei95, hec95, hq95_q, hq95_d⟩ := hw95
                      subst hq95_q
                      subst hq95_d
                      have hfi : ∀ k, k ∉ ([0] : List Nat) → i95 k = i k := fr_z hfi hei95 (by decide +kernel) (by decide +kernel)
                      have hfc : ∀ k, k ∉ ([1] : List Nat) → c95 k = c k := fr_z hfc hec95 (by decide +kernel) (by decide +kernel)
                      have hP : va_P D vwCl (mW o a t i95 q c95 d) H := hP
                      have hD : va_D A (mW o a t i95 q c95 d) := hD
                      have hw95 : r95 = (-3) := hw95
                      subst hw95
                      exact rw_iret (i95, q, c95, d) hx hb hr hlocks hS (hK.sub (tys' := []) [] rfl) hP hD dX12_copy_157 ⟨trivial, hI, fr_w hfi (by decide +kernel), fr_w hfc (by decide +kernel), (show (¬ (0 ≤ w1.toInt ∧ w1.toInt < (i 5).toInt ∧ 0 ≤ w2.toInt ∧ w2.toInt < (i 5).toInt ∧ 0 ≤ s1.toInt ∧ s1.toInt ≤ 3) ∧ ((-3) : Int32).toInt = -1) ∨ (0 ≤ w1.toInt ∧ w1.toInt < (i 5).toInt ∧ 0 ≤ w2.toInt ∧ w2.toInt < (i 5).toInt ∧ 0 ≤ s1.toInt ∧ s1.toInt ≤ 3 ∧ ¬ (¬ (c 63 w1.toNatClampNeg).toInt = 0 ∧ ¬ (c 63 w2.toNatClampNeg).toInt = 0 ∧ (c 60 w1.toNatClampNeg).toInt = s1.toInt ∧ (c 60 w2.toNatClampNeg).toInt = s1.toInt ∧ 0 ≤ n1.toInt ∧ 0 ≤ n2.toInt ∧ 0 ≤ n3.toInt ∧ n1.toInt + n3.toInt ≤ (c 61 w1.toNatClampNeg).toInt ∧ n2.toInt + n3.toInt ≤ (c 61 w2.toNatClampNeg).toInt) ∧ ((-3) : Int32).toInt = -3) ∨ (0 ≤ w1.toInt ∧ w1.toInt < (i 5).toInt ∧ 0 ≤ w2.toInt ∧ w2.toInt < (i 5).toInt ∧ 0 ≤ s1.toInt ∧ s1.toInt ≤ 3 ∧ ¬ (c 63 w1.toNatClampNeg).toInt = 0 ∧ ¬ (c 63 w2.toNatClampNeg).toInt = 0 ∧ (c 60 w1.toNatClampNeg).toInt = s1.toInt ∧ (c 60 w2.toNatClampNeg).toInt = s1.toInt ∧ 0 ≤ n1.toInt ∧ 0 ≤ n2.toInt ∧ 0 ≤ n3.toInt ∧ n1.toInt + n3.toInt ≤ (c 61 w1.toNatClampNeg).toInt ∧ n2.toInt + n3.toInt ≤ (c 61 w2.toNatClampNeg).toInt ∧ ((-3) : Int32).toInt = 1) from by have h50 : ((-3) : Int32).toInt = -3 := (by decide +kernel); omega), (show CpR ((-3) : Int32).toInt (d 62) (d 62) (w1.toInt * 12 + n1.toInt).toNat (w2.toInt * 12 + n2.toInt).toNat n3.toInt.toNat from Or.inr ⟨by decide, rfl⟩), rfl⟩
                    · have f94 := mt (ti_lt (a := n2.toInt) (b := 0) rfl (by decide +kernel)).mpr c94
                      refine lv_iload hx hb dX12_copy_111 (lv_at hl 6 rfl) ?_
                      refine lv_if_lt (tgt := 152) hx hb dX12_copy_113 (by decide +kernel) (fun c96 => ?_) (fun c96 => ?_)
                      · have f96 := (ti_lt (a := n3.toInt) (b := 0) rfl (by decide +kernel)).mp c96
                        refine lv_aload_n hx hb dX12_copy_152 rfl (lv_at hl 0 rfl) ?_
                        refine lv_iconst (v := 2) hx hb dX12_copy_153 (by decide +kernel) ?_
                        refine al_calli (va_runV (As := [.int 2]) (rest := []) ⟨hx, hb, hml, hown, hts⟩ (s_X12_meets l D H.size o a t i q c d 2 hI (show 1 ≤ 2 ∧ 2 ≤ 6 from by have h90 : (2 : Int32).toInt = 2 := (by decide +kernel); omega)) (cwV 1 hts gm_X12_copy_X12_meets rfl rfl rfl (by decide +kernel) ⟨Nat.le_of_ble_eq_true rfl, Nat.le_of_ble_eq_true rfl⟩) (pB_V hK hP hD (ci := 12) (q0 := 0) rfl rfl) rfl rfl hl.1 rfl (lv_room (Nat.le_of_ble_eq_true rfl)) dX12_copy_154 ⟨Nat.le_of_ble_eq_true rfl, Nat.le_of_ble_eq_true rfl⟩) hS hA hP hD (fun r97 u97 H locs hv97 hP hD hS => ?_)
                        obtain ⟨i97, q97, c97, d97⟩ := u97
                        have hw97 : r97 = (-3) ∧ mInv i97 c97 ∧ (∀ k, k ∉ ([0] : List Nat) → i97 k = i k) ∧ (∀ k, k ∉ ([1] : List Nat) → c97 k = c k) ∧ (q = q97) ∧ (d = d97) := hv97
                        clear hv97
                        obtain ⟨hw97, hI, hei97, hec97, hq97_q, hq97_d⟩ := hw97
                        subst hq97_q
                        subst hq97_d
                        have hfi : ∀ k, k ∉ ([0] : List Nat) → i97 k = i k := fr_z hfi hei97 (by decide +kernel) (by decide +kernel)
                        have hfc : ∀ k, k ∉ ([1] : List Nat) → c97 k = c k := fr_z hfc hec97 (by decide +kernel) (by decide +kernel)
                        have hP : va_P D vwCl (mW o a t i97 q c97 d) H := hP
                        have hD : va_D A (mW o a t i97 q c97 d) := hD
                        have hw97 : r97 = (-3) := hw97
                        subst hw97
                        exact rw_iret (i97, q, c97, d) hx hb hr hlocks hS (hK.sub (tys' := []) [] rfl) hP hD dX12_copy_157 ⟨trivial, hI, fr_w hfi (by decide +kernel), fr_w hfc (by decide +kernel), (show (¬ (0 ≤ w1.toInt ∧ w1.toInt < (i 5).toInt ∧ 0 ≤ w2.toInt ∧ w2.toInt < (i 5).toInt ∧ 0 ≤ s1.toInt ∧ s1.toInt ≤ 3) ∧ ((-3) : Int32).toInt = -1) ∨ (0 ≤ w1.toInt ∧ w1.toInt < (i 5).toInt ∧ 0 ≤ w2.toInt ∧ w2.toInt < (i 5).toInt ∧ 0 ≤ s1.toInt ∧ s1.toInt ≤ 3 ∧ ¬ (¬ (c 63 w1.toNatClampNeg).toInt = 0 ∧ ¬ (c 63 w2.toNatClampNeg).toInt = 0 ∧ (c 60 w1.toNatClampNeg).toInt = s1.toInt ∧ (c 60 w2.toNatClampNeg).toInt = s1.toInt ∧ 0 ≤ n1.toInt ∧ 0 ≤ n2.toInt ∧ 0 ≤ n3.toInt ∧ n1.toInt + n3.toInt ≤ (c 61 w1.toNatClampNeg).toInt ∧ n2.toInt + n3.toInt ≤ (c 61 w2.toNatClampNeg).toInt) ∧ ((-3) : Int32).toInt = -3) ∨ (0 ≤ w1.toInt ∧ w1.toInt < (i 5).toInt ∧ 0 ≤ w2.toInt ∧ w2.toInt < (i 5).toInt ∧ 0 ≤ s1.toInt ∧ s1.toInt ≤ 3 ∧ ¬ (c 63 w1.toNatClampNeg).toInt = 0 ∧ ¬ (c 63 w2.toNatClampNeg).toInt = 0 ∧ (c 60 w1.toNatClampNeg).toInt = s1.toInt ∧ (c 60 w2.toNatClampNeg).toInt = s1.toInt ∧ 0 ≤ n1.toInt ∧ 0 ≤ n2.toInt ∧ 0 ≤ n3.toInt ∧ n1.toInt + n3.toInt ≤ (c 61 w1.toNatClampNeg).toInt ∧ n2.toInt + n3.toInt ≤ (c 61 w2.toNatClampNeg).toInt ∧ ((-3) : Int32).toInt = 1) from by have h50 : ((-3) : Int32).toInt = -3 := (by decide +kernel); omega), (show CpR ((-3) : Int32).toInt (d 62) (d 62) (w1.toInt * 12 + n1.toInt).toNat (w2.toInt * 12 + n2.toInt).toNat n3.toInt.toNat from Or.inr ⟨by decide, rfl⟩), rfl⟩
                      · have f96 := mt (ti_lt (a := n3.toInt) (b := 0) rfl (by decide +kernel)).mpr c96
                        refine lv_iload_n hx hb dX12_copy_116 rfl (lv_at hl 3 rfl) ?_
                        refine lv_i2l (v := n1.toInt64) hx hb dX12_copy_117 rfl ?_
                        refine lv_iload hx hb dX12_copy_118 (lv_at hl 6 rfl) ?_
                        refine lv_i2l (v := n3.toInt64) hx hb dX12_copy_120 rfl ?_
                        refine lv_ladd hx hb dX12_copy_121 ?_
                        refine lv_topl (fun x98 ex98 => ?_)
                        have ib98_n1 := i32b n1
                        have ib98_n3 := i32b n3
                        have tx98 := ti_addl (a := n1.toInt) (b := n3.toInt) ex98 ((Int32.toInt_toInt64 n1).trans rfl) ((Int32.toInt_toInt64 n3).trans rfl) (by omega) (by omega)
                        refine lv_aload_n hx hb dX12_copy_122 rfl (lv_at hl 0 rfl) ?_
                        refine mget_61 hx hb hts (fun _ h => List.mem_cons_of_mem _ (List.mem_append_right _ h)) hown hK hP (hts (.fieldLink RX12 129 "TalePlayModel" "lineMany" "[I") (List.mem_cons_of_mem _ (List.mem_append_left _ (List.mem_append_right _ (List.mem_of_getElem? (i := 1) rfl))))) dX12_copy_123 ?_
                        refine lv_iload_n hx hb dX12_copy_126 rfl (lv_at hl 1 rfl) ?_
                        refine mld_61 hx hb hK hP (vp_in_iff.mpr (by have h9 : w1.toInt = w1.toInt := rfl; omega)) dX12_copy_127 (fun x99 ex99 => ?_)
                        have rx99 : 0 ≤ x99.toInt ∧ x99.toInt ≤ 12 := by rw [ex99]; exact hI.2 61 _
                        have gx99 : (c 61 (w1 : Int32).toNatClampNeg).toInt = x99.toInt := by rw [ex99]
                        refine lv_i2l (v := x99.toInt64) hx hb dX12_copy_128 rfl ?_
                        refine W.lcmp hx hb dX12_copy_129 ?_
                        refine lv_if_gt (tgt := 152) hx hb dX12_copy_130 (by decide +kernel) (fun c100 => ?_) (fun c100 => ?_)
                        · have f100 := (lc_gt (a := (n1.toInt + n3.toInt)) (b := x99.toInt) tx98 ((Int32.toInt_toInt64 x99).trans rfl)).mp c100
                          refine lv_aload_n hx hb dX12_copy_152 rfl (lv_at hl 0 rfl) ?_
                          refine lv_iconst (v := 2) hx hb dX12_copy_153 (by decide +kernel) ?_
                          refine al_calli (va_runV (As := [.int 2]) (rest := []) ⟨hx, hb, hml, hown, hts⟩ (s_X12_meets l D H.size o a t i q c d 2 hI (show 1 ≤ 2 ∧ 2 ≤ 6 from by have h90 : (2 : Int32).toInt = 2 := (by decide +kernel); omega)) (cwV 1 hts gm_X12_copy_X12_meets rfl rfl rfl (by decide +kernel) ⟨Nat.le_of_ble_eq_true rfl, Nat.le_of_ble_eq_true rfl⟩) (pB_V hK hP hD (ci := 12) (q0 := 0) rfl rfl) rfl rfl hl.1 rfl (lv_room (Nat.le_of_ble_eq_true rfl)) dX12_copy_154 ⟨Nat.le_of_ble_eq_true rfl, Nat.le_of_ble_eq_true rfl⟩) hS hA hP hD (fun r101 u101 H locs hv101 hP hD hS => ?_)
                          obtain ⟨i101, q101, c101, d101⟩ := u101
                          have hw101 : r101 = (-3) ∧ mInv i101 c101 ∧ (∀ k, k ∉ ([0] : List Nat) → i101 k = i k) ∧ (∀ k, k ∉ ([1] : List Nat) → c101 k = c k) ∧ (q = q101) ∧ (d = d101) := hv101
                          clear hv101
                          obtain ⟨hw101, hI, hei101, hec101, hq101_q, hq101_d⟩ := hw101
                          subst hq101_q
                          subst hq101_d
                          have hfi : ∀ k, k ∉ ([0] : List Nat) → i101 k = i k := fr_z hfi hei101 (by decide +kernel) (by decide +kernel)
                          have hfc : ∀ k, k ∉ ([1] : List Nat) → c101 k = c k := fr_z hfc hec101 (by decide +kernel) (by decide +kernel)
                          have hP : va_P D vwCl (mW o a t i101 q c101 d) H := hP
                          have hD : va_D A (mW o a t i101 q c101 d) := hD
                          have hw101 : r101 = (-3) := hw101
                          subst hw101
                          exact rw_iret (i101, q, c101, d) hx hb hr hlocks hS (hK.sub (tys' := []) [] rfl) hP hD dX12_copy_157 ⟨trivial, hI, fr_w hfi (by decide +kernel), fr_w hfc (by decide +kernel), (show (¬ (0 ≤ w1.toInt ∧ w1.toInt < (i 5).toInt ∧ 0 ≤ w2.toInt ∧ w2.toInt < (i 5).toInt ∧ 0 ≤ s1.toInt ∧ s1.toInt ≤ 3) ∧ ((-3) : Int32).toInt = -1) ∨ (0 ≤ w1.toInt ∧ w1.toInt < (i 5).toInt ∧ 0 ≤ w2.toInt ∧ w2.toInt < (i 5).toInt ∧ 0 ≤ s1.toInt ∧ s1.toInt ≤ 3 ∧ ¬ (¬ (c 63 w1.toNatClampNeg).toInt = 0 ∧ ¬ (c 63 w2.toNatClampNeg).toInt = 0 ∧ (c 60 w1.toNatClampNeg).toInt = s1.toInt ∧ (c 60 w2.toNatClampNeg).toInt = s1.toInt ∧ 0 ≤ n1.toInt ∧ 0 ≤ n2.toInt ∧ 0 ≤ n3.toInt ∧ n1.toInt + n3.toInt ≤ (c 61 w1.toNatClampNeg).toInt ∧ n2.toInt + n3.toInt ≤ (c 61 w2.toNatClampNeg).toInt) ∧ ((-3) : Int32).toInt = -3) ∨ (0 ≤ w1.toInt ∧ w1.toInt < (i 5).toInt ∧ 0 ≤ w2.toInt ∧ w2.toInt < (i 5).toInt ∧ 0 ≤ s1.toInt ∧ s1.toInt ≤ 3 ∧ ¬ (c 63 w1.toNatClampNeg).toInt = 0 ∧ ¬ (c 63 w2.toNatClampNeg).toInt = 0 ∧ (c 60 w1.toNatClampNeg).toInt = s1.toInt ∧ (c 60 w2.toNatClampNeg).toInt = s1.toInt ∧ 0 ≤ n1.toInt ∧ 0 ≤ n2.toInt ∧ 0 ≤ n3.toInt ∧ n1.toInt + n3.toInt ≤ (c 61 w1.toNatClampNeg).toInt ∧ n2.toInt + n3.toInt ≤ (c 61 w2.toNatClampNeg).toInt ∧ ((-3) : Int32).toInt = 1) from by have h50 : ((-3) : Int32).toInt = -3 := (by decide +kernel); omega), (show CpR ((-3) : Int32).toInt (d 62) (d 62) (w1.toInt * 12 + n1.toInt).toNat (w2.toInt * 12 + n2.toInt).toNat n3.toInt.toNat from Or.inr ⟨by decide, rfl⟩), rfl⟩
                        · have f100 := mt (lc_gt (a := (n1.toInt + n3.toInt)) (b := x99.toInt) tx98 ((Int32.toInt_toInt64 x99).trans rfl)).mpr c100
                          refine lv_iload hx hb dX12_copy_133 (lv_at hl 5 rfl) ?_
                          refine lv_i2l (v := n2.toInt64) hx hb dX12_copy_135 rfl ?_
                          refine lv_iload hx hb dX12_copy_136 (lv_at hl 6 rfl) ?_
                          refine lv_i2l (v := n3.toInt64) hx hb dX12_copy_138 rfl ?_
                          refine lv_ladd hx hb dX12_copy_139 ?_
                          refine lv_topl (fun x102 ex102 => ?_)
                          have ib102_n2 := i32b n2
                          have ib102_n3 := i32b n3
                          have tx102 := ti_addl (a := n2.toInt) (b := n3.toInt) ex102 ((Int32.toInt_toInt64 n2).trans rfl) ((Int32.toInt_toInt64 n3).trans rfl) (by omega) (by omega)
                          refine lv_aload_n hx hb dX12_copy_140 rfl (lv_at hl 0 rfl) ?_
                          refine mget_61 hx hb hts (fun _ h => List.mem_cons_of_mem _ (List.mem_append_right _ h)) hown hK hP (hts (.fieldLink RX12 129 "TalePlayModel" "lineMany" "[I") (List.mem_cons_of_mem _ (List.mem_append_left _ (List.mem_append_right _ (List.mem_of_getElem? (i := 1) rfl))))) dX12_copy_141 ?_
                          refine lv_iload hx hb dX12_copy_144 (lv_at hl 4 rfl) ?_
                          refine mld_61 hx hb hK hP (vp_in_iff.mpr (by have h9 : w2.toInt = w2.toInt := rfl; omega)) dX12_copy_146 (fun x103 ex103 => ?_)
                          have rx103 : 0 ≤ x103.toInt ∧ x103.toInt ≤ 12 := by rw [ex103]; exact hI.2 61 _
                          have gx103 : (c 61 (w2 : Int32).toNatClampNeg).toInt = x103.toInt := by rw [ex103]
                          refine lv_i2l (v := x103.toInt64) hx hb dX12_copy_147 rfl ?_
                          refine W.lcmp hx hb dX12_copy_148 ?_
                          refine lv_if_le (tgt := 158) hx hb dX12_copy_149 (by decide +kernel) (fun c104 => ?_) (fun c104 => ?_)
                          · have f104 := (lc_le (a := (n2.toInt + n3.toInt)) (b := x103.toInt) tx102 ((Int32.toInt_toInt64 x103).trans rfl)).mp c104
                            refine lv_iconst (v := 0) hx hb dX12_copy_158 (by decide +kernel) ?_
                            refine lv_istore (lv' := [(7, .int 0), (0, .ref o), (1, .int w1), (2, .int s1), (3, .int n1), (4, .int w2), (5, .int n2), (6, .int n3)]) hx hb dX12_copy_159 hl (by decide +kernel) rfl (fun ls hl => ?_)
                            have lp105 : ∀ (fu : Nat) (i105 : Nat → Int32) (c105 : Nat → Nat → Int32) (d105 : Nat → Nat → Int64) (y105_7 : Int32), mInv i105 c105 → (∀ k, k ∉ ([] : List Nat) → i105 k = i k) → (∀ k, k ∉ ([] : List Nat) → c105 k = c k) → (0 ≤ y105_7.toInt ∧ y105_7.toInt ≤ 12 ∧ y105_7.toInt ≤ n3.toInt) → (HeK (d 62) (d105 68) (w1.toInt * 12 + n1.toInt).toNat y105_7.toInt) → ((d105 62) = (d 62)) → (12 - y105_7.toInt).toNat < fu → ∀ (H : Heap) (locs : List Loc) (ls : Array Slot), va_P D vwCl (mW o a t i105 q c105 d105) H → va_D A (mW o a t i105 q c105 d105) → va_S A s.heap H locs → lv_has ls 8 [(7, .int y105_7), (0, .ref o), (1, .int w1), (2, .int s1), (3, .int n1), (4, .int w2), (5, .int n2), (6, .int n3)] → W p l e (headSpec wm_X12_copy ({ frames := 2, cells := 0, slots := 0, locals := 46 })).room s m ([.ref o, .int w1, .int s1, .int n1, .int w2, .int n2, .int n3] : List Value).toArray below meth cd H locs 0 0 (MQ below (va_Qi (fun (r : Int32) (u : MS) => True ∧ mInv u.1 u.2.2.1 ∧ (∀ k, k ∉ ([0] : List Nat) → u.1 k = i k) ∧ (∀ k, k ∉ ([1] : List Nat) → u.2.2.1 k = c k) ∧ ((¬ (0 ≤ w1.toInt ∧ w1.toInt < (i 5).toInt ∧ 0 ≤ w2.toInt ∧ w2.toInt < (i 5).toInt ∧ 0 ≤ s1.toInt ∧ s1.toInt ≤ 3) ∧ r.toInt = -1) ∨ (0 ≤ w1.toInt ∧ w1.toInt < (i 5).toInt ∧ 0 ≤ w2.toInt ∧ w2.toInt < (i 5).toInt ∧ 0 ≤ s1.toInt ∧ s1.toInt ≤ 3 ∧ ¬ (¬ (c 63 w1.toNatClampNeg).toInt = 0 ∧ ¬ (c 63 w2.toNatClampNeg).toInt = 0 ∧ (c 60 w1.toNatClampNeg).toInt = s1.toInt ∧ (c 60 w2.toNatClampNeg).toInt = s1.toInt ∧ 0 ≤ n1.toInt ∧ 0 ≤ n2.toInt ∧ 0 ≤ n3.toInt ∧ n1.toInt + n3.toInt ≤ (c 61 w1.toNatClampNeg).toInt ∧ n2.toInt + n3.toInt ≤ (c 61 w2.toNatClampNeg).toInt) ∧ r.toInt = -3) ∨ (0 ≤ w1.toInt ∧ w1.toInt < (i 5).toInt ∧ 0 ≤ w2.toInt ∧ w2.toInt < (i 5).toInt ∧ 0 ≤ s1.toInt ∧ s1.toInt ≤ 3 ∧ ¬ (c 63 w1.toNatClampNeg).toInt = 0 ∧ ¬ (c 63 w2.toNatClampNeg).toInt = 0 ∧ (c 60 w1.toNatClampNeg).toInt = s1.toInt ∧ (c 60 w2.toNatClampNeg).toInt = s1.toInt ∧ 0 ≤ n1.toInt ∧ 0 ≤ n2.toInt ∧ 0 ≤ n3.toInt ∧ n1.toInt + n3.toInt ≤ (c 61 w1.toNatClampNeg).toInt ∧ n2.toInt + n3.toInt ≤ (c 61 w2.toNatClampNeg).toInt ∧ r.toInt = 1)) ∧ (CpR r.toInt (u.2.2.2 62) (d 62) (w1.toInt * 12 + n1.toInt).toNat (w2.toInt * 12 + n2.toInt).toNat n3.toInt.toNat) ∧ (q = u.2.1)) (oC D A (fun u : MS => mW o a t u.1 u.2.1 u.2.2.1 u.2.2.2) (fun _ => [])) A) ([.ref o, .int w1, .int s1, .int n1, .int w2, .int n2, .int n3] : List Value).toArray s 0 0 A) (F0 m 161 ls []) := by
                              intro fu
                              induction fu with
                              | zero => intro i105 c105 d105 y105_7 hI hfi hfc hy105_7 hz105_0 hz105_1 hm; exact absurd hm (Nat.not_lt_zero _)
                              | succ fu ih =>
                                intro i105 c105 d105 y105_7 hI hfi hfc hy105_7 hz105_0 hz105_1 hm H locs ls hP hD hS hl
                                have ih105 := ih
                                refine lv_iload hx hb dX12_copy_161 (lv_at hl 0 rfl) ?_
                                refine lv_iload hx hb dX12_copy_163 (lv_at hl 7 rfl) ?_
                                refine lv_icmp_ge (tgt := 195) hx hb dX12_copy_165 (by decide +kernel) (fun c106 => ?_) (fun c106 => ?_)
                                · have f106 := (ti_le (a := n3.toInt) (b := y105_7.toInt) rfl rfl).mp c106
                                  refine lv_iconst (v := 0) hx hb dX12_copy_195 (by decide +kernel) ?_
                                  refine lv_istore (lv' := [(7, .int 0), (0, .ref o), (1, .int w1), (2, .int s1), (3, .int n1), (4, .int w2), (5, .int n2), (6, .int n3)]) hx hb dX12_copy_196 hl (by decide +kernel) rfl (fun ls hl => ?_)
                                  have lp107 : ∀ (fu : Nat) (i107 : Nat → Int32) (c107 : Nat → Nat → Int32) (d107 : Nat → Nat → Int64) (y107_7 : Int32), mInv i107 c107 → (∀ k, k ∉ ([] : List Nat) → i107 k = i k) → (∀ k, k ∉ ([] : List Nat) → c107 k = c k) → (0 ≤ y107_7.toInt ∧ y107_7.toInt ≤ 12 ∧ y107_7.toInt ≤ n3.toInt) → (HeK (d 62) (d107 68) (w1.toInt * 12 + n1.toInt).toNat n3.toInt) → (CpK (d 62) (d107 62) (w1.toInt * 12 + n1.toInt).toNat (w2.toInt * 12 + n2.toInt).toNat y107_7.toInt) → (12 - y107_7.toInt).toNat < fu → ∀ (H : Heap) (locs : List Loc) (ls : Array Slot), va_P D vwCl (mW o a t i107 q c107 d107) H → va_D A (mW o a t i107 q c107 d107) → va_S A s.heap H locs → lv_has ls 8 [(7, .int y107_7), (0, .ref o), (1, .int w1), (2, .int s1), (3, .int n1), (4, .int w2), (5, .int n2), (6, .int n3)] → W p l e (headSpec wm_X12_copy ({ frames := 2, cells := 0, slots := 0, locals := 46 })).room s m ([.ref o, .int w1, .int s1, .int n1, .int w2, .int n2, .int n3] : List Value).toArray below meth cd H locs 0 0 (MQ below (va_Qi (fun (r : Int32) (u : MS) => True ∧ mInv u.1 u.2.2.1 ∧ (∀ k, k ∉ ([0] : List Nat) → u.1 k = i k) ∧ (∀ k, k ∉ ([1] : List Nat) → u.2.2.1 k = c k) ∧ ((¬ (0 ≤ w1.toInt ∧ w1.toInt < (i 5).toInt ∧ 0 ≤ w2.toInt ∧ w2.toInt < (i 5).toInt ∧ 0 ≤ s1.toInt ∧ s1.toInt ≤ 3) ∧ r.toInt = -1) ∨ (0 ≤ w1.toInt ∧ w1.toInt < (i 5).toInt ∧ 0 ≤ w2.toInt ∧ w2.toInt < (i 5).toInt ∧ 0 ≤ s1.toInt ∧ s1.toInt ≤ 3 ∧ ¬ (¬ (c 63 w1.toNatClampNeg).toInt = 0 ∧ ¬ (c 63 w2.toNatClampNeg).toInt = 0 ∧ (c 60 w1.toNatClampNeg).toInt = s1.toInt ∧ (c 60 w2.toNatClampNeg).toInt = s1.toInt ∧ 0 ≤ n1.toInt ∧ 0 ≤ n2.toInt ∧ 0 ≤ n3.toInt ∧ n1.toInt + n3.toInt ≤ (c 61 w1.toNatClampNeg).toInt ∧ n2.toInt + n3.toInt ≤ (c 61 w2.toNatClampNeg).toInt) ∧ r.toInt = -3) ∨ (0 ≤ w1.toInt ∧ w1.toInt < (i 5).toInt ∧ 0 ≤ w2.toInt ∧ w2.toInt < (i 5).toInt ∧ 0 ≤ s1.toInt ∧ s1.toInt ≤ 3 ∧ ¬ (c 63 w1.toNatClampNeg).toInt = 0 ∧ ¬ (c 63 w2.toNatClampNeg).toInt = 0 ∧ (c 60 w1.toNatClampNeg).toInt = s1.toInt ∧ (c 60 w2.toNatClampNeg).toInt = s1.toInt ∧ 0 ≤ n1.toInt ∧ 0 ≤ n2.toInt ∧ 0 ≤ n3.toInt ∧ n1.toInt + n3.toInt ≤ (c 61 w1.toNatClampNeg).toInt ∧ n2.toInt + n3.toInt ≤ (c 61 w2.toNatClampNeg).toInt ∧ r.toInt = 1)) ∧ (CpR r.toInt (u.2.2.2 62) (d 62) (w1.toInt * 12 + n1.toInt).toNat (w2.toInt * 12 + n2.toInt).toNat n3.toInt.toNat) ∧ (q = u.2.1)) (oC D A (fun u : MS => mW o a t u.1 u.2.1 u.2.2.1 u.2.2.2) (fun _ => [])) A) ([.ref o, .int w1, .int s1, .int n1, .int w2, .int n2, .int n3] : List Value).toArray s 0 0 A) (F0 m 198 ls []) := by
                                    intro fu
                                    induction fu with
                                    | zero => intro i107 c107 d107 y107_7 hI hfi hfc hy107_7 hz107_0 hz107_1 hm; exact absurd hm (Nat.not_lt_zero _)
                                    | succ fu ih =>
                                      intro i107 c107 d107 y107_7 hI hfi hfc hy107_7 hz107_0 hz107_1 hm H locs ls hP hD hS hl
                                      have ih107 := ih
                                      refine lv_iload hx hb dX12_copy_198 (lv_at hl 0 rfl) ?_
                                      refine lv_iload hx hb dX12_copy_200 (lv_at hl 7 rfl) ?_
                                      refine lv_icmp_ge (tgt := 234) hx hb dX12_copy_202 (by decide +kernel) (fun c108 => ?_) (fun c108 => ?_)
                                      · have f108 := (ti_le (a := n3.toInt) (b := y107_7.toInt) rfl rfl).mp c108
                                        refine lv_iconst (v := 1) hx hb dX12_copy_234 (by decide +kernel) ?_
                                        exact rw_iret (i107, q, c107, d107) hx hb hr hlocks hS (hK.sub (tys' := []) [] rfl) hP hD dX12_copy_235 ⟨trivial, hI, fr_w hfi (by decide +kernel), fr_w hfc (by decide +kernel), (show (¬ (0 ≤ w1.toInt ∧ w1.toInt < (i 5).toInt ∧ 0 ≤ w2.toInt ∧ w2.toInt < (i 5).toInt ∧ 0 ≤ s1.toInt ∧ s1.toInt ≤ 3) ∧ (1 : Int32).toInt = -1) ∨ (0 ≤ w1.toInt ∧ w1.toInt < (i 5).toInt ∧ 0 ≤ w2.toInt ∧ w2.toInt < (i 5).toInt ∧ 0 ≤ s1.toInt ∧ s1.toInt ≤ 3 ∧ ¬ (¬ (c 63 w1.toNatClampNeg).toInt = 0 ∧ ¬ (c 63 w2.toNatClampNeg).toInt = 0 ∧ (c 60 w1.toNatClampNeg).toInt = s1.toInt ∧ (c 60 w2.toNatClampNeg).toInt = s1.toInt ∧ 0 ≤ n1.toInt ∧ 0 ≤ n2.toInt ∧ 0 ≤ n3.toInt ∧ n1.toInt + n3.toInt ≤ (c 61 w1.toNatClampNeg).toInt ∧ n2.toInt + n3.toInt ≤ (c 61 w2.toNatClampNeg).toInt) ∧ (1 : Int32).toInt = -3) ∨ (0 ≤ w1.toInt ∧ w1.toInt < (i 5).toInt ∧ 0 ≤ w2.toInt ∧ w2.toInt < (i 5).toInt ∧ 0 ≤ s1.toInt ∧ s1.toInt ≤ 3 ∧ ¬ (c 63 w1.toNatClampNeg).toInt = 0 ∧ ¬ (c 63 w2.toNatClampNeg).toInt = 0 ∧ (c 60 w1.toNatClampNeg).toInt = s1.toInt ∧ (c 60 w2.toNatClampNeg).toInt = s1.toInt ∧ 0 ≤ n1.toInt ∧ 0 ≤ n2.toInt ∧ 0 ≤ n3.toInt ∧ n1.toInt + n3.toInt ≤ (c 61 w1.toNatClampNeg).toInt ∧ n2.toInt + n3.toInt ≤ (c 61 w2.toNatClampNeg).toInt ∧ (1 : Int32).toInt = 1) from by have h50 : (1 : Int32).toInt = 1 := (by decide +kernel); omega), (show CpR (1 : Int32).toInt (d107 62) (d 62) (w1.toInt * 12 + n1.toInt).toNat (w2.toInt * 12 + n2.toInt).toNat n3.toInt.toNat from Or.inl ⟨by decide, by rw [show n3.toInt = y107_7.toInt by omega]; exact CpK_e hz107_1 (by omega)⟩), rfl⟩
                                      · have f108 := mt (ti_le (a := n3.toInt) (b := y107_7.toInt) rfl rfl).mpr c108
                                        refine lv_aload_n hx hb dX12_copy_205 rfl (lv_at hl 1 rfl) ?_
                                        refine mget_62 hx hb hts (fun _ h => List.mem_cons_of_mem _ (List.mem_append_right _ h)) hown hK hP (hts (.fieldLink RX12 132 "TalePlayModel" "items" "[J") (List.mem_cons_of_mem _ (List.mem_append_left _ (List.mem_append_right _ (List.mem_of_getElem? (i := 2) rfl))))) dX12_copy_206 ?_
                                        refine lv_bipush (v := 12) hx hb dX12_copy_209 (by decide +kernel) ?_
                                        refine lv_iload hx hb dX12_copy_211 (lv_at hl 5 rfl) ?_
                                        refine lv_imul hx hb dX12_copy_213 ?_
                                        refine lv_topi (fun x109 ex109 => ?_)
                                        have tx109 := ti_mul (a := 12) (b := w2.toInt) ex109 (by decide +kernel) rfl (by omega) (by omega)
                                        refine lv_iload hx hb dX12_copy_214 (lv_at hl 6 rfl) ?_
                                        refine lv_iadd hx hb dX12_copy_216 ?_
                                        refine lv_topi (fun x110 ex110 => ?_)
                                        have tx110 := ti_add (a := (12 * w2.toInt)) (b := n2.toInt) ex110 tx109 rfl (by omega) (by omega)
                                        refine lv_iload hx hb dX12_copy_217 (lv_at hl 0 rfl) ?_
                                        refine lv_iadd hx hb dX12_copy_219 ?_
                                        refine lv_topi (fun x111 ex111 => ?_)
                                        have tx111 := ti_add (a := ((12 * w2.toInt) + n2.toInt)) (b := y107_7.toInt) ex111 tx110 rfl (by omega) (by omega)
                                        refine lv_aload_n hx hb dX12_copy_220 rfl (lv_at hl 1 rfl) ?_
                                        refine mget_68 hx hb hts (fun _ h => List.mem_cons_of_mem _ (List.mem_append_right _ h)) hown hK hP (hts (.fieldLink RX12 148 "TalePlayModel" "held" "[J") (List.mem_cons_of_mem _ (List.mem_append_left _ (List.mem_append_right _ (List.mem_of_getElem? (i := 3) rfl))))) dX12_copy_221 ?_
                                        refine lv_iload hx hb dX12_copy_224 (lv_at hl 0 rfl) ?_
                                        refine mld_68 hx hb hK hP (vp_in_iff.mpr (by have h9 : y107_7.toInt = y107_7.toInt := rfl; omega)) dX12_copy_226 (fun x112 ex112 => ?_)
                                        refine mst_62 hx hb hK hP hD hS (vp_in_iff.mpr (by have h9 : x111.toInt = (((12 * w2.toInt) + n2.toInt) + y107_7.toInt) := tx111; omega)) dX12_copy_227 (fun H locs hP hD hS => ?_)
                                        obtain ⟨x113, ex113⟩ : ∃ y : Int32, y = y107_7 + 1 := ⟨_, rfl⟩
                                        have tx113 := ti_add (a := y107_7.toInt) (b := 1) ex113 rfl (by decide +kernel) (by omega) (by omega)
                                        refine lv_iinc (v := x113) (lv' := [(7, .int x113), (0, .ref o), (1, .int w1), (2, .int s1), (3, .int n1), (4, .int w2), (5, .int n2), (6, .int n3)]) hx hb dX12_copy_228 hl (k := 0) rfl (by rw [ex113]; rfl) (by decide +kernel) rfl (fun ls hl => ?_)
                                        refine lv_goto (tgt := 198) hx hb dX12_copy_231 (by decide +kernel) ?_
                                        exact ih107 i107 c107 (updD d107 62 (x111 : Int32).toNatClampNeg x112) x113 hI (fr_w hfi (by decide +kernel)) (fr_w hfc (by decide +kernel)) (show 0 ≤ x113.toInt ∧ x113.toInt ≤ 12 ∧ x113.toInt ≤ n3.toInt from by have h50 : x113.toInt = (y107_7.toInt + 1) := tx113; omega) (show HeK (d 62) ((updD d107 62 (x111 : Int32).toNatClampNeg x112) 68) (w1.toInt * 12 + n1.toInt).toNat n3.toInt from hz107_0) (show CpK (d 62) ((updD d107 62 (x111 : Int32).toNatClampNeg x112) 62) (w1.toInt * 12 + n1.toInt).toNat (w2.toInt * 12 + n2.toInt).toNat x113.toInt from CpK_s (x := y107_7) (z := x111) (u := y107_7) hz107_1 hz107_0 (by omega) (by omega) tx113 (by have h9 : x111.toInt = (((12 * w2.toInt) + n2.toInt) + y107_7.toInt) := tx111; omega) rfl ex112) (by have h50 : x113.toInt = (y107_7.toInt + 1) := tx113; omega) _ _ _ hP hD hS (lv_sub hl [0, 1, 2, 3, 4, 5, 6, 7] rfl)
                                  exact lp107 _ i105 c105 d105 (0 : Int32) hI (fr_w hfi (by decide +kernel)) (fr_w hfc (by decide +kernel)) (show 0 ≤ (0 : Int32).toInt ∧ (0 : Int32).toInt ≤ 12 ∧ (0 : Int32).toInt ≤ n3.toInt from by have h50 : (0 : Int32).toInt = 0 := (by decide +kernel); omega) (show HeK (d 62) (d105 68) (w1.toInt * 12 + n1.toInt).toNat n3.toInt from fun j hj => hz105_0 j (by omega)) (show CpK (d 62) (d105 62) (w1.toInt * 12 + n1.toInt).toNat (w2.toInt * 12 + n2.toInt).toNat (0 : Int32).toInt from by rw [hz105_1]; exact CpK_0) (Nat.lt_succ_self _) _ _ _ hP hD hS (lv_sub hl [0, 1, 2, 3, 4, 5, 6, 7] rfl)
                                · have f106 := mt (ti_le (a := n3.toInt) (b := y105_7.toInt) rfl rfl).mpr c106
                                  refine lv_aload_n hx hb dX12_copy_168 rfl (lv_at hl 1 rfl) ?_
                                  refine mget_68 hx hb hts (fun _ h => List.mem_cons_of_mem _ (List.mem_append_right _ h)) hown hK hP (hts (.fieldLink RX12 148 "TalePlayModel" "held" "[J") (List.mem_cons_of_mem _ (List.mem_append_left _ (List.mem_append_right _ (List.mem_of_getElem? (i := 3) rfl))))) dX12_copy_169 ?_
                                  refine lv_iload hx hb dX12_copy_172 (lv_at hl 0 rfl) ?_
                                  refine lv_aload_n hx hb dX12_copy_174 rfl (lv_at hl 1 rfl) ?_
                                  refine mget_62 hx hb hts (fun _ h => List.mem_cons_of_mem _ (List.mem_append_right _ h)) hown hK hP (hts (.fieldLink RX12 132 "TalePlayModel" "items" "[J") (List.mem_cons_of_mem _ (List.mem_append_left _ (List.mem_append_right _ (List.mem_of_getElem? (i := 2) rfl))))) dX12_copy_175 ?_
                                  refine lv_bipush (v := 12) hx hb dX12_copy_178 (by decide +kernel) ?_
                                  refine lv_iload_n hx hb dX12_copy_180 rfl (lv_at hl 2 rfl) ?_
                                  refine lv_imul hx hb dX12_copy_181 ?_
                                  refine lv_topi (fun x114 ex114 => ?_)
                                  have tx114 := ti_mul (a := 12) (b := w1.toInt) ex114 (by decide +kernel) rfl (by omega) (by omega)
                                  refine lv_iload_n hx hb dX12_copy_182 rfl (lv_at hl 4 rfl) ?_
                                  refine lv_iadd hx hb dX12_copy_183 ?_
                                  refine lv_topi (fun x115 ex115 => ?_)
                                  have tx115 := ti_add (a := (12 * w1.toInt)) (b := n1.toInt) ex115 tx114 rfl (by omega) (by omega)
                                  refine lv_iload hx hb dX12_copy_184 (lv_at hl 0 rfl) ?_
                                  refine lv_iadd hx hb dX12_copy_186 ?_
                                  refine lv_topi (fun x116 ex116 => ?_)
                                  have tx116 := ti_add (a := ((12 * w1.toInt) + n1.toInt)) (b := y105_7.toInt) ex116 tx115 rfl (by omega) (by omega)
                                  refine mld_62 hx hb hK hP (vp_in_iff.mpr (by have h9 : x116.toInt = (((12 * w1.toInt) + n1.toInt) + y105_7.toInt) := tx116; omega)) dX12_copy_187 (fun x117 ex117 => ?_)
                                  refine mst_68 hx hb hK hP hD hS (vp_in_iff.mpr (by have h9 : y105_7.toInt = y105_7.toInt := rfl; omega)) dX12_copy_188 (fun H locs hP hD hS => ?_)
                                  obtain ⟨x118, ex118⟩ : ∃ y : Int32, y = y105_7 + 1 := ⟨_, rfl⟩
                                  have tx118 := ti_add (a := y105_7.toInt) (b := 1) ex118 rfl (by decide +kernel) (by omega) (by omega)
                                  refine lv_iinc (v := x118) (lv' := [(7, .int x118), (0, .ref o), (1, .int w1), (2, .int s1), (3, .int n1), (4, .int w2), (5, .int n2), (6, .int n3)]) hx hb dX12_copy_189 hl (k := 0) rfl (by rw [ex118]; rfl) (by decide +kernel) rfl (fun ls hl => ?_)
                                  refine lv_goto (tgt := 161) hx hb dX12_copy_192 (by decide +kernel) ?_
                                  exact ih105 i105 c105 (updD d105 68 (y105_7 : Int32).toNatClampNeg x117) x118 hI (fr_w hfi (by decide +kernel)) (fr_w hfc (by decide +kernel)) (show 0 ≤ x118.toInt ∧ x118.toInt ≤ 12 ∧ x118.toInt ≤ n3.toInt from by have h50 : x118.toInt = (y105_7.toInt + 1) := tx118; omega) (show HeK (d 62) ((updD d105 68 (y105_7 : Int32).toNatClampNeg x117) 68) (w1.toInt * 12 + n1.toInt).toNat x118.toInt from HeK_s (x := y105_7) (z := y105_7) (u := x116) hz105_0 (by omega) tx118 rfl (by have h9 : x116.toInt = (((12 * w1.toInt) + n1.toInt) + y105_7.toInt) := tx116; omega) (by rw [ex117, hz105_1])) (show ((updD d105 68 (y105_7 : Int32).toNatClampNeg x117) 62) = (d 62) from hz105_1) (by have h50 : x118.toInt = (y105_7.toInt + 1) := tx118; omega) _ _ _ hP hD hS (lv_sub hl [0, 1, 2, 3, 4, 5, 6, 7] rfl)
                            exact lp105 _ i c d (0 : Int32) hI (fr_w hfi (by decide +kernel)) (fr_w hfc (by decide +kernel)) (show 0 ≤ (0 : Int32).toInt ∧ (0 : Int32).toInt ≤ 12 ∧ (0 : Int32).toInt ≤ n3.toInt from by have h50 : (0 : Int32).toInt = 0 := (by decide +kernel); omega) (show HeK (d 62) (d 68) (w1.toInt * 12 + n1.toInt).toNat (0 : Int32).toInt from fun j hj => by have h9 : (0 : Int32).toInt = 0 := (by decide +kernel); exfalso; omega) (show (d 62) = (d 62) from rfl) (Nat.lt_succ_self _) _ _ _ hP hD hS (lv_sub hl [0, 1, 2, 3, 4, 5, 6, 7] rfl)
                          · have f104 := mt (lc_le (a := (n2.toInt + n3.toInt)) (b := x103.toInt) tx102 ((Int32.toInt_toInt64 x103).trans rfl)).mpr c104
                            refine lv_aload_n hx hb dX12_copy_152 rfl (lv_at hl 0 rfl) ?_
                            refine lv_iconst (v := 2) hx hb dX12_copy_153 (by decide +kernel) ?_
                            refine al_calli (va_runV (As := [.int 2]) (rest := []) ⟨hx, hb, hml, hown, hts⟩ (s_X12_meets l D H.size o a t i q c d 2 hI (show 1 ≤ 2 ∧ 2 ≤ 6 from by have h90 : (2 : Int32).toInt = 2 := (by decide +kernel); omega)) (cwV 1 hts gm_X12_copy_X12_meets rfl rfl rfl (by decide +kernel) ⟨Nat.le_of_ble_eq_true rfl, Nat.le_of_ble_eq_true rfl⟩) (pB_V hK hP hD (ci := 12) (q0 := 0) rfl rfl) rfl rfl hl.1 rfl (lv_room (Nat.le_of_ble_eq_true rfl)) dX12_copy_154 ⟨Nat.le_of_ble_eq_true rfl, Nat.le_of_ble_eq_true rfl⟩) hS hA hP hD (fun r119 u119 H locs hv119 hP hD hS => ?_)
                            obtain ⟨i119, q119, c119, d119⟩ := u119
                            have hw119 : r119 = (-3) ∧ mInv i119 c119 ∧ (∀ k, k ∉ ([0] : List Nat) → i119 k = i k) ∧ (∀ k, k ∉ ([1] : List Nat) → c119 k = c k) ∧ (q = q119) ∧ (d = d119) := hv119
                            clear hv119
                            obtain ⟨hw119, hI, hei119, hec119, hq119_q, hq119_d⟩ := hw119
                            subst hq119_q
                            subst hq119_d
                            have hfi : ∀ k, k ∉ ([0] : List Nat) → i119 k = i k := fr_z hfi hei119 (by decide +kernel) (by decide +kernel)
                            have hfc : ∀ k, k ∉ ([1] : List Nat) → c119 k = c k := fr_z hfc hec119 (by decide +kernel) (by decide +kernel)
                            have hP : va_P D vwCl (mW o a t i119 q c119 d) H := hP
                            have hD : va_D A (mW o a t i119 q c119 d) := hD
                            have hw119 : r119 = (-3) := hw119
                            subst hw119
                            exact rw_iret (i119, q, c119, d) hx hb hr hlocks hS (hK.sub (tys' := []) [] rfl) hP hD dX12_copy_157 ⟨trivial, hI, fr_w hfi (by decide +kernel), fr_w hfc (by decide +kernel), (show (¬ (0 ≤ w1.toInt ∧ w1.toInt < (i 5).toInt ∧ 0 ≤ w2.toInt ∧ w2.toInt < (i 5).toInt ∧ 0 ≤ s1.toInt ∧ s1.toInt ≤ 3) ∧ ((-3) : Int32).toInt = -1) ∨ (0 ≤ w1.toInt ∧ w1.toInt < (i 5).toInt ∧ 0 ≤ w2.toInt ∧ w2.toInt < (i 5).toInt ∧ 0 ≤ s1.toInt ∧ s1.toInt ≤ 3 ∧ ¬ (¬ (c 63 w1.toNatClampNeg).toInt = 0 ∧ ¬ (c 63 w2.toNatClampNeg).toInt = 0 ∧ (c 60 w1.toNatClampNeg).toInt = s1.toInt ∧ (c 60 w2.toNatClampNeg).toInt = s1.toInt ∧ 0 ≤ n1.toInt ∧ 0 ≤ n2.toInt ∧ 0 ≤ n3.toInt ∧ n1.toInt + n3.toInt ≤ (c 61 w1.toNatClampNeg).toInt ∧ n2.toInt + n3.toInt ≤ (c 61 w2.toNatClampNeg).toInt) ∧ ((-3) : Int32).toInt = -3) ∨ (0 ≤ w1.toInt ∧ w1.toInt < (i 5).toInt ∧ 0 ≤ w2.toInt ∧ w2.toInt < (i 5).toInt ∧ 0 ≤ s1.toInt ∧ s1.toInt ≤ 3 ∧ ¬ (c 63 w1.toNatClampNeg).toInt = 0 ∧ ¬ (c 63 w2.toNatClampNeg).toInt = 0 ∧ (c 60 w1.toNatClampNeg).toInt = s1.toInt ∧ (c 60 w2.toNatClampNeg).toInt = s1.toInt ∧ 0 ≤ n1.toInt ∧ 0 ≤ n2.toInt ∧ 0 ≤ n3.toInt ∧ n1.toInt + n3.toInt ≤ (c 61 w1.toNatClampNeg).toInt ∧ n2.toInt + n3.toInt ≤ (c 61 w2.toNatClampNeg).toInt ∧ ((-3) : Int32).toInt = 1) from by have h50 : ((-3) : Int32).toInt = -3 := (by decide +kernel); omega), (show CpR ((-3) : Int32).toInt (d 62) (d 62) (w1.toInt * 12 + n1.toInt).toNat (w2.toInt * 12 + n2.toInt).toNat n3.toInt.toNat from Or.inr ⟨by decide, rfl⟩), rfl⟩
                · have f91 := (ti_eq (a := x90.toInt) (b := 0) rfl (by decide +kernel)).mp c91
                  refine lv_aload_n hx hb dX12_copy_96 rfl (lv_at hl 0 rfl) ?_
                  refine lv_iconst (v := 1) hx hb dX12_copy_97 (by decide +kernel) ?_
                  refine al_calli (va_runV (As := [.int 1]) (rest := []) ⟨hx, hb, hml, hown, hts⟩ (s_X12_meets l D H.size o a t i q c d 1 hI (show 1 ≤ 1 ∧ 1 ≤ 6 from by have h90 : (1 : Int32).toInt = 1 := (by decide +kernel); omega)) (cwV 1 hts gm_X12_copy_X12_meets rfl rfl rfl (by decide +kernel) ⟨Nat.le_of_ble_eq_true rfl, Nat.le_of_ble_eq_true rfl⟩) (pB_V hK hP hD (ci := 12) (q0 := 0) rfl rfl) rfl rfl hl.1 rfl (lv_room (Nat.le_of_ble_eq_true rfl)) dX12_copy_98 ⟨Nat.le_of_ble_eq_true rfl, Nat.le_of_ble_eq_true rfl⟩) hS hA hP hD (fun r120 u120 H locs hv120 hP hD hS => ?_)
                  obtain ⟨i120, q120, c120, d120⟩ := u120
                  have hw120 : r120 = (-3) ∧ mInv i120 c120 ∧ (∀ k, k ∉ ([0] : List Nat) → i120 k = i k) ∧ (∀ k, k ∉ ([1] : List Nat) → c120 k = c k) ∧ (q = q120) ∧ (d = d120) := hv120
                  clear hv120
                  obtain ⟨hw120, hI, hei120, hec120, hq120_q, hq120_d⟩ := hw120
                  subst hq120_q
                  subst hq120_d
                  have hfi : ∀ k, k ∉ ([0] : List Nat) → i120 k = i k := fr_z hfi hei120 (by decide +kernel) (by decide +kernel)
                  have hfc : ∀ k, k ∉ ([1] : List Nat) → c120 k = c k := fr_z hfc hec120 (by decide +kernel) (by decide +kernel)
                  have hP : va_P D vwCl (mW o a t i120 q c120 d) H := hP
                  have hD : va_D A (mW o a t i120 q c120 d) := hD
                  have hw120 : r120 = (-3) := hw120
                  subst hw120
                  exact rw_iret (i120, q, c120, d) hx hb hr hlocks hS (hK.sub (tys' := []) [] rfl) hP hD dX12_copy_101 ⟨trivial, hI, fr_w hfi (by decide +kernel), fr_w hfc (by decide +kernel), (show (¬ (0 ≤ w1.toInt ∧ w1.toInt < (i 5).toInt ∧ 0 ≤ w2.toInt ∧ w2.toInt < (i 5).toInt ∧ 0 ≤ s1.toInt ∧ s1.toInt ≤ 3) ∧ ((-3) : Int32).toInt = -1) ∨ (0 ≤ w1.toInt ∧ w1.toInt < (i 5).toInt ∧ 0 ≤ w2.toInt ∧ w2.toInt < (i 5).toInt ∧ 0 ≤ s1.toInt ∧ s1.toInt ≤ 3 ∧ ¬ (¬ (c 63 w1.toNatClampNeg).toInt = 0 ∧ ¬ (c 63 w2.toNatClampNeg).toInt = 0 ∧ (c 60 w1.toNatClampNeg).toInt = s1.toInt ∧ (c 60 w2.toNatClampNeg).toInt = s1.toInt ∧ 0 ≤ n1.toInt ∧ 0 ≤ n2.toInt ∧ 0 ≤ n3.toInt ∧ n1.toInt + n3.toInt ≤ (c 61 w1.toNatClampNeg).toInt ∧ n2.toInt + n3.toInt ≤ (c 61 w2.toNatClampNeg).toInt) ∧ ((-3) : Int32).toInt = -3) ∨ (0 ≤ w1.toInt ∧ w1.toInt < (i 5).toInt ∧ 0 ≤ w2.toInt ∧ w2.toInt < (i 5).toInt ∧ 0 ≤ s1.toInt ∧ s1.toInt ≤ 3 ∧ ¬ (c 63 w1.toNatClampNeg).toInt = 0 ∧ ¬ (c 63 w2.toNatClampNeg).toInt = 0 ∧ (c 60 w1.toNatClampNeg).toInt = s1.toInt ∧ (c 60 w2.toNatClampNeg).toInt = s1.toInt ∧ 0 ≤ n1.toInt ∧ 0 ≤ n2.toInt ∧ 0 ≤ n3.toInt ∧ n1.toInt + n3.toInt ≤ (c 61 w1.toNatClampNeg).toInt ∧ n2.toInt + n3.toInt ≤ (c 61 w2.toNatClampNeg).toInt ∧ ((-3) : Int32).toInt = 1) from by have h50 : ((-3) : Int32).toInt = -3 := (by decide +kernel); omega), (show CpR ((-3) : Int32).toInt (d 62) (d 62) (w1.toInt * 12 + n1.toInt).toNat (w2.toInt * 12 + n2.toInt).toNat n3.toInt.toNat from Or.inr ⟨by decide, rfl⟩), rfl⟩
            · have f86 := mt (ti_eq (a := x85.toInt) (b := 0) rfl (by decide +kernel)).mpr c86
              refine lv_aload_n hx hb dX12_copy_60 rfl (lv_at hl 0 rfl) ?_
              refine mget_60 hx hb hts (fun _ h => List.mem_cons_of_mem _ (List.mem_append_right _ h)) hown hK hP (hts (.fieldLink RX12 126 "TalePlayModel" "lineSort" "[I") (List.mem_cons_of_mem _ (List.mem_append_left _ (List.mem_append_right _ (List.mem_of_getElem? (i := 4) rfl))))) dX12_copy_61 ?_
              refine lv_iload hx hb dX12_copy_64 (lv_at hl 4 rfl) ?_
              refine mld_60 hx hb hK hP (vp_in_iff.mpr (by have h9 : w2.toInt = w2.toInt := rfl; omega)) dX12_copy_66 (fun x121 ex121 => ?_)
              have rx121 : 0 ≤ x121.toInt ∧ x121.toInt ≤ 3 := by rw [ex121]; exact hI.2 60 _
              have gx121 : (c 60 (w2 : Int32).toNatClampNeg).toInt = x121.toInt := by rw [ex121]
              refine lv_iload_n hx hb dX12_copy_67 rfl (lv_at hl 2 rfl) ?_
              refine lv_icmp_eq (tgt := 77) hx hb dX12_copy_68 (by decide +kernel) (fun c122 => ?_) (fun c122 => ?_)
              · have f122 := (ti_eq (a := x121.toInt) (b := s1.toInt) rfl rfl).mp c122
                refine lv_aload_n hx hb dX12_copy_77 rfl (lv_at hl 0 rfl) ?_
                refine mget_63 hx hb hts (fun _ h => List.mem_cons_of_mem _ (List.mem_append_right _ h)) hown hK hP (hts (.fieldLink RX12 136 "TalePlayModel" "hasLine" "[Z") (List.mem_cons_of_mem _ (List.mem_append_left _ (List.mem_append_left _ (List.mem_of_getElem? (i := 10) rfl))))) dX12_copy_78 ?_
                refine lv_iload_n hx hb dX12_copy_81 rfl (lv_at hl 1 rfl) ?_
                refine mld_63 hx hb hK hP (vp_in_iff.mpr (by have h9 : w1.toInt = w1.toInt := rfl; omega)) dX12_copy_82 (fun x123 ex123 => ?_)
                have rx123 : 0 ≤ x123.toInt ∧ x123.toInt ≤ 1 := by rw [ex123]; exact hI.2 63 _
                have gx123 : (c 63 (w1 : Int32).toNatClampNeg).toInt = x123.toInt := by rw [ex123]
                refine lv_if_eq (tgt := 96) hx hb dX12_copy_83 (by decide +kernel) (fun c124 => ?_) (fun c124 => ?_)
                · have f124 := (ti_eq (a := x123.toInt) (b := 0) rfl (by decide +kernel)).mp c124
                  refine lv_aload_n hx hb dX12_copy_96 rfl (lv_at hl 0 rfl) ?_
                  refine lv_iconst (v := 1) hx hb dX12_copy_97 (by decide +kernel) ?_
                  refine al_calli (va_runV (As := [.int 1]) (rest := []) ⟨hx, hb, hml, hown, hts⟩ (s_X12_meets l D H.size o a t i q c d 1 hI (show 1 ≤ 1 ∧ 1 ≤ 6 from by have h90 : (1 : Int32).toInt = 1 := (by decide +kernel); omega)) (cwV 1 hts gm_X12_copy_X12_meets rfl rfl rfl (by decide +kernel) ⟨Nat.le_of_ble_eq_true rfl, Nat.le_of_ble_eq_true rfl⟩) (pB_V hK hP hD (ci := 12) (q0 := 0) rfl rfl) rfl rfl hl.1 rfl (lv_room (Nat.le_of_ble_eq_true rfl)) dX12_copy_98 ⟨Nat.le_of_ble_eq_true rfl, Nat.le_of_ble_eq_true rfl⟩) hS hA hP hD (fun r125 u125 H locs hv125 hP hD hS => ?_)
                  obtain ⟨i125, q125, c125, d125⟩ := u125
                  have hw125 : r125 = (-3) ∧ mInv i125 c125 ∧ (∀ k, k ∉ ([0] : List Nat) → i125 k = i k) ∧ (∀ k, k ∉ ([1] : List Nat) → c125 k = c k) ∧ (q = q125) ∧ (d = d125) := hv125
                  clear hv125
                  obtain ⟨hw125, hI, hei125, hec125, hq125_q, hq125_d⟩ := hw125
                  subst hq125_q
                  subst hq125_d
                  have hfi : ∀ k, k ∉ ([0] : List Nat) → i125 k = i k := fr_z hfi hei125 (by decide +kernel) (by decide +kernel)
                  have hfc : ∀ k, k ∉ ([1] : List Nat) → c125 k = c k := fr_z hfc hec125 (by decide +kernel) (by decide +kernel)
                  have hP : va_P D vwCl (mW o a t i125 q c125 d) H := hP
                  have hD : va_D A (mW o a t i125 q c125 d) := hD
                  have hw125 : r125 = (-3) := hw125
                  subst hw125
                  exact rw_iret (i125, q, c125, d) hx hb hr hlocks hS (hK.sub (tys' := []) [] rfl) hP hD dX12_copy_101 ⟨trivial, hI, fr_w hfi (by decide +kernel), fr_w hfc (by decide +kernel), (show (¬ (0 ≤ w1.toInt ∧ w1.toInt < (i 5).toInt ∧ 0 ≤ w2.toInt ∧ w2.toInt < (i 5).toInt ∧ 0 ≤ s1.toInt ∧ s1.toInt ≤ 3) ∧ ((-3) : Int32).toInt = -1) ∨ (0 ≤ w1.toInt ∧ w1.toInt < (i 5).toInt ∧ 0 ≤ w2.toInt ∧ w2.toInt < (i 5).toInt ∧ 0 ≤ s1.toInt ∧ s1.toInt ≤ 3 ∧ ¬ (¬ (c 63 w1.toNatClampNeg).toInt = 0 ∧ ¬ (c 63 w2.toNatClampNeg).toInt = 0 ∧ (c 60 w1.toNatClampNeg).toInt = s1.toInt ∧ (c 60 w2.toNatClampNeg).toInt = s1.toInt ∧ 0 ≤ n1.toInt ∧ 0 ≤ n2.toInt ∧ 0 ≤ n3.toInt ∧ n1.toInt + n3.toInt ≤ (c 61 w1.toNatClampNeg).toInt ∧ n2.toInt + n3.toInt ≤ (c 61 w2.toNatClampNeg).toInt) ∧ ((-3) : Int32).toInt = -3) ∨ (0 ≤ w1.toInt ∧ w1.toInt < (i 5).toInt ∧ 0 ≤ w2.toInt ∧ w2.toInt < (i 5).toInt ∧ 0 ≤ s1.toInt ∧ s1.toInt ≤ 3 ∧ ¬ (c 63 w1.toNatClampNeg).toInt = 0 ∧ ¬ (c 63 w2.toNatClampNeg).toInt = 0 ∧ (c 60 w1.toNatClampNeg).toInt = s1.toInt ∧ (c 60 w2.toNatClampNeg).toInt = s1.toInt ∧ 0 ≤ n1.toInt ∧ 0 ≤ n2.toInt ∧ 0 ≤ n3.toInt ∧ n1.toInt + n3.toInt ≤ (c 61 w1.toNatClampNeg).toInt ∧ n2.toInt + n3.toInt ≤ (c 61 w2.toNatClampNeg).toInt ∧ ((-3) : Int32).toInt = 1) from by have h50 : ((-3) : Int32).toInt = -3 := (by decide +kernel); omega), (show CpR ((-3) : Int32).toInt (d 62) (d 62) (w1.toInt * 12 + n1.toInt).toNat (w2.toInt * 12 + n2.toInt).toNat n3.toInt.toNat from Or.inr ⟨by decide, rfl⟩), rfl⟩
                · have f124 := mt (ti_eq (a := x123.toInt) (b := 0) rfl (by decide +kernel)).mpr c124
                  refine lv_aload_n hx hb dX12_copy_86 rfl (lv_at hl 0 rfl) ?_
                  refine mget_63 hx hb hts (fun _ h => List.mem_cons_of_mem _ (List.mem_append_right _ h)) hown hK hP (hts (.fieldLink RX12 136 "TalePlayModel" "hasLine" "[Z") (List.mem_cons_of_mem _ (List.mem_append_left _ (List.mem_append_left _ (List.mem_of_getElem? (i := 10) rfl))))) dX12_copy_87 ?_
                  refine lv_iload hx hb dX12_copy_90 (lv_at hl 4 rfl) ?_
                  refine mld_63 hx hb hK hP (vp_in_iff.mpr (by have h9 : w2.toInt = w2.toInt := rfl; omega)) dX12_copy_92 (fun x126 ex126 => ?_)
                  have rx126 : 0 ≤ x126.toInt ∧ x126.toInt ≤ 1 := by rw [ex126]; exact hI.2 63 _
                  have gx126 : (c 63 (w2 : Int32).toNatClampNeg).toInt = x126.toInt := by rw [ex126]
                  refine lv_if_ne (tgt := 102) hx hb dX12_copy_93 (by decide +kernel) (fun c127 => ?_) (fun c127 => ?_)
                  · have f127 := mt (ti_eq (a := x126.toInt) (b := 0) rfl (by decide +kernel)).mpr c127
                    refine lv_iload_n hx hb dX12_copy_102 rfl (lv_at hl 3 rfl) ?_
                    refine lv_if_lt (tgt := 152) hx hb dX12_copy_103 (by decide +kernel) (fun c128 => ?_) (fun c128 => ?_)
                    · have f128 := (ti_lt (a := n1.toInt) (b := 0) rfl (by decide +kernel)).mp c128
                      refine lv_aload_n hx hb dX12_copy_152 rfl (lv_at hl 0 rfl) ?_
                      refine lv_iconst (v := 2) hx hb dX12_copy_153 (by decide +kernel) ?_
                      refine al_calli (va_runV (As := [.int 2]) (rest := []) ⟨hx, hb, hml, hown, hts⟩ (s_X12_meets l D H.size o a t i q c d 2 hI (show 1 ≤ 2 ∧ 2 ≤ 6 from by have h90 : (2 : Int32).toInt = 2 := (by decide +kernel); omega)) (cwV 1 hts gm_X12_copy_X12_meets rfl rfl rfl (by decide +kernel) ⟨Nat.le_of_ble_eq_true rfl, Nat.le_of_ble_eq_true rfl⟩) (pB_V hK hP hD (ci := 12) (q0 := 0) rfl rfl) rfl rfl hl.1 rfl (lv_room (Nat.le_of_ble_eq_true rfl)) dX12_copy_154 ⟨Nat.le_of_ble_eq_true rfl, Nat.le_of_ble_eq_true rfl⟩) hS hA hP hD (fun r129 u129 H locs hv129 hP hD hS => ?_)
                      obtain ⟨i129, q129, c129, d129⟩ := u129
                      have hw129 : r129 = (-3) ∧ mInv i129 c129 ∧ (∀ k, k ∉ ([0] : List Nat) → i129 k = i k) ∧ (∀ k, k ∉ ([1] : List Nat) → c129 k = c k) ∧ (q = q129) ∧ (d = d129) := hv129
                      clear hv129
                      obtain ⟨hw129, hI, hei129, hec129, hq129_q, hq129_d⟩ := hw129
                      subst hq129_q
                      subst hq129_d
                      have hfi : ∀ k, k ∉ ([0] : List Nat) → i129 k = i k := fr_z hfi hei129 (by decide +kernel) (by decide +kernel)
                      have hfc : ∀ k, k ∉ ([1] : List Nat) → c129 k = c k := fr_z hfc hec129 (by decide +kernel) (by decide +kernel)
                      have hP : va_P D vwCl (mW o a t i129 q c129 d) H := hP
                      have hD : va_D A (mW o a t i129 q c129 d) := hD
                      have hw129 : r129 = (-3) := hw129
                      subst hw129
                      exact rw_iret (i129, q, c129, d) hx hb hr hlocks hS (hK.sub (tys' := []) [] rfl) hP hD dX12_copy_157 ⟨trivial, hI, fr_w hfi (by decide +kernel), fr_w hfc (by decide +kernel), (show (¬ (0 ≤ w1.toInt ∧ w1.toInt < (i 5).toInt ∧ 0 ≤ w2.toInt ∧ w2.toInt < (i 5).toInt ∧ 0 ≤ s1.toInt ∧ s1.toInt ≤ 3) ∧ ((-3) : Int32).toInt = -1) ∨ (0 ≤ w1.toInt ∧ w1.toInt < (i 5).toInt ∧ 0 ≤ w2.toInt ∧ w2.toInt < (i 5).toInt ∧ 0 ≤ s1.toInt ∧ s1.toInt ≤ 3 ∧ ¬ (¬ (c 63 w1.toNatClampNeg).toInt = 0 ∧ ¬ (c 63 w2.toNatClampNeg).toInt = 0 ∧ (c 60 w1.toNatClampNeg).toInt = s1.toInt ∧ (c 60 w2.toNatClampNeg).toInt = s1.toInt ∧ 0 ≤ n1.toInt ∧ 0 ≤ n2.toInt ∧ 0 ≤ n3.toInt ∧ n1.toInt + n3.toInt ≤ (c 61 w1.toNatClampNeg).toInt ∧ n2.toInt + n3.toInt ≤ (c 61 w2.toNatClampNeg).toInt) ∧ ((-3) : Int32).toInt = -3) ∨ (0 ≤ w1.toInt ∧ w1.toInt < (i 5).toInt ∧ 0 ≤ w2.toInt ∧ w2.toInt < (i 5).toInt ∧ 0 ≤ s1.toInt ∧ s1.toInt ≤ 3 ∧ ¬ (c 63 w1.toNatClampNeg).toInt = 0 ∧ ¬ (c 63 w2.toNatClampNeg).toInt = 0 ∧ (c 60 w1.toNatClampNeg).toInt = s1.toInt ∧ (c 60 w2.toNatClampNeg).toInt = s1.toInt ∧ 0 ≤ n1.toInt ∧ 0 ≤ n2.toInt ∧ 0 ≤ n3.toInt ∧ n1.toInt + n3.toInt ≤ (c 61 w1.toNatClampNeg).toInt ∧ n2.toInt + n3.toInt ≤ (c 61 w2.toNatClampNeg).toInt ∧ ((-3) : Int32).toInt = 1) from by have h50 : ((-3) : Int32).toInt = -3 := (by decide +kernel); omega), (show CpR ((-3) : Int32).toInt (d 62) (d 62) (w1.toInt * 12 + n1.toInt).toNat (w2.toInt * 12 + n2.toInt).toNat n3.toInt.toNat from Or.inr ⟨by decide, rfl⟩), rfl⟩
                    · have f128 := mt (ti_lt (a := n1.toInt) (b := 0) rfl (by decide +kernel)).mpr c128
                      refine lv_iload hx hb dX12_copy_106 (lv_at hl 5 rfl) ?_
                      refine lv_if_lt (tgt := 152) hx hb dX12_copy_108 (by decide +kernel) (fun c130 => ?_) (fun c130 => ?_)
                      · have f130 := (ti_lt (a := n2.toInt) (b := 0) rfl (by decide +kernel)).mp c130
                        refine lv_aload_n hx hb dX12_copy_152 rfl (lv_at hl 0 rfl) ?_
                        refine lv_iconst (v := 2) hx hb dX12_copy_153 (by decide +kernel) ?_
                        refine al_calli (va_runV (As := [.int 2]) (rest := []) ⟨hx, hb, hml, hown, hts⟩ (s_X12_meets l D H.size o a t i q c d 2 hI (show 1 ≤ 2 ∧ 2 ≤ 6 from by have h90 : (2 : Int32).toInt = 2 := (by decide +kernel); omega)) (cwV 1 hts gm_X12_copy_X12_meets rfl rfl rfl (by decide +kernel) ⟨Nat.le_of_ble_eq_true rfl, Nat.le_of_ble_eq_true rfl⟩) (pB_V hK hP hD (ci := 12) (q0 := 0) rfl rfl) rfl rfl hl.1 rfl (lv_room (Nat.le_of_ble_eq_true rfl)) dX12_copy_154 ⟨Nat.le_of_ble_eq_true rfl, Nat.le_of_ble_eq_true rfl⟩) hS hA hP hD (fun r131 u131 H locs hv131 hP hD hS => ?_)
                        obtain ⟨i131, q131, c131, d131⟩ := u131
                        have hw131 : r131 = (-3) ∧ mInv i131 c131 ∧ (∀ k, k ∉ ([0] : List Nat) → i131 k = i k) ∧ (∀ k, k ∉ ([1] : List Nat) → c131 k = c k) ∧ (q = q131) ∧ (d = d131) := hv131
                        clear hv131
                        obtain ⟨hw131, hI, hei131, hec131, hq131_q, hq131_d⟩ := hw131
                        subst hq131_q
                        subst hq131_d
                        have hfi : ∀ k, k ∉ ([0] : List Nat) → i131 k = i k := fr_z hfi hei131 (by decide +kernel) (by decide +kernel)
                        have hfc : ∀ k, k ∉ ([1] : List Nat) → c131 k = c k := fr_z hfc hec131 (by decide +kernel) (by decide +kernel)
                        have hP : va_P D vwCl (mW o a t i131 q c131 d) H := hP
                        have hD : va_D A (mW o a t i131 q c131 d) := hD
                        have hw131 : r131 = (-3) := hw131
                        subst hw131
                        exact rw_iret (i131, q, c131, d) hx hb hr hlocks hS (hK.sub (tys' := []) [] rfl) hP hD dX12_copy_157 ⟨trivial, hI, fr_w hfi (by decide +kernel), fr_w hfc (by decide +kernel), (show (¬ (0 ≤ w1.toInt ∧ w1.toInt < (i 5).toInt ∧ 0 ≤ w2.toInt ∧ w2.toInt < (i 5).toInt ∧ 0 ≤ s1.toInt ∧ s1.toInt ≤ 3) ∧ ((-3) : Int32).toInt = -1) ∨ (0 ≤ w1.toInt ∧ w1.toInt < (i 5).toInt ∧ 0 ≤ w2.toInt ∧ w2.toInt < (i 5).toInt ∧ 0 ≤ s1.toInt ∧ s1.toInt ≤ 3 ∧ ¬ (¬ (c 63 w1.toNatClampNeg).toInt = 0 ∧ ¬ (c 63 w2.toNatClampNeg).toInt = 0 ∧ (c 60 w1.toNatClampNeg).toInt = s1.toInt ∧ (c 60 w2.toNatClampNeg).toInt = s1.toInt ∧ 0 ≤ n1.toInt ∧ 0 ≤ n2.toInt ∧ 0 ≤ n3.toInt ∧ n1.toInt + n3.toInt ≤ (c 61 w1.toNatClampNeg).toInt ∧ n2.toInt + n3.toInt ≤ (c 61 w2.toNatClampNeg).toInt) ∧ ((-3) : Int32).toInt = -3) ∨ (0 ≤ w1.toInt ∧ w1.toInt < (i 5).toInt ∧ 0 ≤ w2.toInt ∧ w2.toInt < (i 5).toInt ∧ 0 ≤ s1.toInt ∧ s1.toInt ≤ 3 ∧ ¬ (c 63 w1.toNatClampNeg).toInt = 0 ∧ ¬ (c 63 w2.toNatClampNeg).toInt = 0 ∧ (c 60 w1.toNatClampNeg).toInt = s1.toInt ∧ (c 60 w2.toNatClampNeg).toInt = s1.toInt ∧ 0 ≤ n1.toInt ∧ 0 ≤ n2.toInt ∧ 0 ≤ n3.toInt ∧ n1.toInt + n3.toInt ≤ (c 61 w1.toNatClampNeg).toInt ∧ n2.toInt + n3.toInt ≤ (c 61 w2.toNatClampNeg).toInt ∧ ((-3) : Int32).toInt = 1) from by have h50 : ((-3) : Int32).toInt = -3 := (by decide +kernel); omega), (show CpR ((-3) : Int32).toInt (d 62) (d 62) (w1.toInt * 12 + n1.toInt).toNat (w2.toInt * 12 + n2.toInt).toNat n3.toInt.toNat from Or.inr ⟨by decide, rfl⟩), rfl⟩
                      · have f130 := mt (ti_lt (a := n2.toInt) (b := 0) rfl (by decide +kernel)).mpr c130
                        refine lv_iload hx hb dX12_copy_111 (lv_at hl 6 rfl) ?_
                        refine lv_if_lt (tgt := 152) hx hb dX12_copy_113 (by decide +kernel) (fun c132 => ?_) (fun c132 => ?_)
                        · have f132 := (ti_lt (a := n3.toInt) (b := 0) rfl (by decide +kernel)).mp c132
                          refine lv_aload_n hx hb dX12_copy_152 rfl (lv_at hl 0 rfl) ?_
                          refine lv_iconst (v := 2) hx hb dX12_copy_153 (by decide +kernel) ?_
                          refine al_calli (va_runV (As := [.int 2]) (rest := []) ⟨hx, hb, hml, hown, hts⟩ (s_X12_meets l D H.size o a t i q c d 2 hI (show 1 ≤ 2 ∧ 2 ≤ 6 from by have h90 : (2 : Int32).toInt = 2 := (by decide +kernel); omega)) (cwV 1 hts gm_X12_copy_X12_meets rfl rfl rfl (by decide +kernel) ⟨Nat.le_of_ble_eq_true rfl, Nat.le_of_ble_eq_true rfl⟩) (pB_V hK hP hD (ci := 12) (q0 := 0) rfl rfl) rfl rfl hl.1 rfl (lv_room (Nat.le_of_ble_eq_true rfl)) dX12_copy_154 ⟨Nat.le_of_ble_eq_true rfl, Nat.le_of_ble_eq_true rfl⟩) hS hA hP hD (fun r133 u133 H locs hv133 hP hD hS => ?_)
                          obtain ⟨i133, q133, c133, d133⟩ := u133
                          have hw133 : r133 = (-3) ∧ mInv i133 c133 ∧ (∀ k, k ∉ ([0] : List Nat) → i133 k = i k) ∧ (∀ k, k ∉ ([1] : List Nat) → c133 k = c k) ∧ (q = q133) ∧ (d = d133) := hv133
                          clear hv133
                          obtain ⟨hw133, hI, hei133, hec133, hq133_q, hq133_d⟩ := hw133
                          subst hq133_q
                          subst hq133_d
                          have hfi : ∀ k, k ∉ ([0] : List Nat) → i133 k = i k := fr_z hfi hei133 (by decide +kernel) (by decide +kernel)
                          have hfc : ∀ k, k ∉ ([1] : List Nat) → c133 k = c k := fr_z hfc hec133 (by decide +kernel) (by decide +kernel)
                          have hP : va_P D vwCl (mW o a t i133 q c133 d) H := hP
                          have hD : va_D A (mW o a t i133 q c133 d) := hD
                          have hw133 : r133 = (-3) := hw133
                          subst hw133
                          exact rw_iret (i133, q, c133, d) hx hb hr hlocks hS (hK.sub (tys' := []) [] rfl) hP hD dX12_copy_157 ⟨trivial, hI, fr_w hfi (by decide +kernel), fr_w hfc (by decide +kernel), (show (¬ (0 ≤ w1.toInt ∧ w1.toInt < (i 5).toInt ∧ 0 ≤ w2.toInt ∧ w2.toInt < (i 5).toInt ∧ 0 ≤ s1.toInt ∧ s1.toInt ≤ 3) ∧ ((-3) : Int32).toInt = -1) ∨ (0 ≤ w1.toInt ∧ w1.toInt < (i 5).toInt ∧ 0 ≤ w2.toInt ∧ w2.toInt < (i 5).toInt ∧ 0 ≤ s1.toInt ∧ s1.toInt ≤ 3 ∧ ¬ (¬ (c 63 w1.toNatClampNeg).toInt = 0 ∧ ¬ (c 63 w2.toNatClampNeg).toInt = 0 ∧ (c 60 w1.toNatClampNeg).toInt = s1.toInt ∧ (c 60 w2.toNatClampNeg).toInt = s1.toInt ∧ 0 ≤ n1.toInt ∧ 0 ≤ n2.toInt ∧ 0 ≤ n3.toInt ∧ n1.toInt + n3.toInt ≤ (c 61 w1.toNatClampNeg).toInt ∧ n2.toInt + n3.toInt ≤ (c 61 w2.toNatClampNeg).toInt) ∧ ((-3) : Int32).toInt = -3) ∨ (0 ≤ w1.toInt ∧ w1.toInt < (i 5).toInt ∧ 0 ≤ w2.toInt ∧ w2.toInt < (i 5).toInt ∧ 0 ≤ s1.toInt ∧ s1.toInt ≤ 3 ∧ ¬ (c 63 w1.toNatClampNeg).toInt = 0 ∧ ¬ (c 63 w2.toNatClampNeg).toInt = 0 ∧ (c 60 w1.toNatClampNeg).toInt = s1.toInt ∧ (c 60 w2.toNatClampNeg).toInt = s1.toInt ∧ 0 ≤ n1.toInt ∧ 0 ≤ n2.toInt ∧ 0 ≤ n3.toInt ∧ n1.toInt + n3.toInt ≤ (c 61 w1.toNatClampNeg).toInt ∧ n2.toInt + n3.toInt ≤ (c 61 w2.toNatClampNeg).toInt ∧ ((-3) : Int32).toInt = 1) from by have h50 : ((-3) : Int32).toInt = -3 := (by decide +kernel); omega), (show CpR ((-3) : Int32).toInt (d 62) (d 62) (w1.toInt * 12 + n1.toInt).toNat (w2.toInt * 12 + n2.toInt).toNat n3.toInt.toNat from Or.inr ⟨by decide, rfl⟩), rfl⟩
                        · have f132 := mt (ti_lt (a := n3.toInt) (b := 0) rfl (by decide +kernel)).mpr c132
                          refine lv_iload_n hx hb dX12_copy_116 rfl (lv_at hl 3 rfl) ?_
                          refine lv_i2l (v := n1.toInt64) hx hb dX12_copy_117 rfl ?_
                          refine lv_iload hx hb dX12_copy_118 (lv_at hl 6 rfl) ?_
                          refine lv_i2l (v := n3.toInt64) hx hb dX12_copy_120 rfl ?_
                          refine lv_ladd hx hb dX12_copy_121 ?_
                          refine lv_topl (fun x134 ex134 => ?_)
                          have ib134_n1 := i32b n1
                          have ib134_n3 := i32b n3
                          have tx134 := ti_addl (a := n1.toInt) (b := n3.toInt) ex134 ((Int32.toInt_toInt64 n1).trans rfl) ((Int32.toInt_toInt64 n3).trans rfl) (by omega) (by omega)
                          refine lv_aload_n hx hb dX12_copy_122 rfl (lv_at hl 0 rfl) ?_
                          refine mget_61 hx hb hts (fun _ h => List.mem_cons_of_mem _ (List.mem_append_right _ h)) hown hK hP (hts (.fieldLink RX12 129 "TalePlayModel" "lineMany" "[I") (List.mem_cons_of_mem _ (List.mem_append_left _ (List.mem_append_right _ (List.mem_of_getElem? (i := 1) rfl))))) dX12_copy_123 ?_
                          refine lv_iload_n hx hb dX12_copy_126 rfl (lv_at hl 1 rfl) ?_
                          refine mld_61 hx hb hK hP (vp_in_iff.mpr (by have h9 : w1.toInt = w1.toInt := rfl; omega)) dX12_copy_127 (fun x135 ex135 => ?_)
                          have rx135 : 0 ≤ x135.toInt ∧ x135.toInt ≤ 12 := by rw [ex135]; exact hI.2 61 _
                          have gx135 : (c 61 (w1 : Int32).toNatClampNeg).toInt = x135.toInt := by rw [ex135]
                          refine lv_i2l (v := x135.toInt64) hx hb dX12_copy_128 rfl ?_
                          refine W.lcmp hx hb dX12_copy_129 ?_
                          refine lv_if_gt (tgt := 152) hx hb dX12_copy_130 (by decide +kernel) (fun c136 => ?_) (fun c136 => ?_)
                          · have f136 := (lc_gt (a := (n1.toInt + n3.toInt)) (b := x135.toInt) tx134 ((Int32.toInt_toInt64 x135).trans rfl)).mp c136
                            refine lv_aload_n hx hb dX12_copy_152 rfl (lv_at hl 0 rfl) ?_
                            refine lv_iconst (v := 2) hx hb dX12_copy_153 (by decide +kernel) ?_
                            refine al_calli (va_runV (As := [.int 2]) (rest := []) ⟨hx, hb, hml, hown, hts⟩ (s_X12_meets l D H.size o a t i q c d 2 hI (show 1 ≤ 2 ∧ 2 ≤ 6 from by have h90 : (2 : Int32).toInt = 2 := (by decide +kernel); omega)) (cwV 1 hts gm_X12_copy_X12_meets rfl rfl rfl (by decide +kernel) ⟨Nat.le_of_ble_eq_true rfl, Nat.le_of_ble_eq_true rfl⟩) (pB_V hK hP hD (ci := 12) (q0 := 0) rfl rfl) rfl rfl hl.1 rfl (lv_room (Nat.le_of_ble_eq_true rfl)) dX12_copy_154 ⟨Nat.le_of_ble_eq_true rfl, Nat.le_of_ble_eq_true rfl⟩) hS hA hP hD (fun r137 u137 H locs hv137 hP hD hS => ?_)
                            obtain ⟨i137, q137, c137, d137⟩ := u137
                            have hw137 : r137 = (-3) ∧ mInv i137 c137 ∧ (∀ k, k ∉ ([0] : List Nat) → i137 k = i k) ∧ (∀ k, k ∉ ([1] : List Nat) → c137 k = c k) ∧ (q = q137) ∧ (d = d137) := hv137
                            clear hv137
                            obtain ⟨hw137, hI, hei137, hec137, hq137_q, hq137_d⟩ := hw137
                            subst hq137_q
                            subst hq137_d
                            have hfi : ∀ k, k ∉ ([0] : List Nat) → i137 k = i k := fr_z hfi hei137 (by decide +kernel) (by decide +kernel)
                            have hfc : ∀ k, k ∉ ([1] : List Nat) → c137 k = c k := fr_z hfc hec137 (by decide +kernel) (by decide +kernel)
                            have hP : va_P D vwCl (mW o a t i137 q c137 d) H := hP
                            have hD : va_D A (mW o a t i137 q c137 d) := hD
                            have hw137 : r137 = (-3) := hw137
                            subst hw137
                            exact rw_iret (i137, q, c137, d) hx hb hr hlocks hS (hK.sub (tys' := []) [] rfl) hP hD dX12_copy_157 ⟨trivial, hI, fr_w hfi (by decide +kernel), fr_w hfc (by decide +kernel), (show (¬ (0 ≤ w1.toInt ∧ w1.toInt < (i 5).toInt ∧ 0 ≤ w2.toInt ∧ w2.toInt < (i 5).toInt ∧ 0 ≤ s1.toInt ∧ s1.toInt ≤ 3) ∧ ((-3) : Int32).toInt = -1) ∨ (0 ≤ w1.toInt ∧ w1.toInt < (i 5).toInt ∧ 0 ≤ w2.toInt ∧ w2.toInt < (i 5).toInt ∧ 0 ≤ s1.toInt ∧ s1.toInt ≤ 3 ∧ ¬ (¬ (c 63 w1.toNatClampNeg).toInt = 0 ∧ ¬ (c 63 w2.toNatClampNeg).toInt = 0 ∧ (c 60 w1.toNatClampNeg).toInt = s1.toInt ∧ (c 60 w2.toNatClampNeg).toInt = s1.toInt ∧ 0 ≤ n1.toInt ∧ 0 ≤ n2.toInt ∧ 0 ≤ n3.toInt ∧ n1.toInt + n3.toInt ≤ (c 61 w1.toNatClampNeg).toInt ∧ n2.toInt + n3.toInt ≤ (c 61 w2.toNatClampNeg).toInt) ∧ ((-3) : Int32).toInt = -3) ∨ (0 ≤ w1.toInt ∧ w1.toInt < (i 5).toInt ∧ 0 ≤ w2.toInt ∧ w2.toInt < (i 5).toInt ∧ 0 ≤ s1.toInt ∧ s1.toInt ≤ 3 ∧ ¬ (c 63 w1.toNatClampNeg).toInt = 0 ∧ ¬ (c 63 w2.toNatClampNeg).toInt = 0 ∧ (c 60 w1.toNatClampNeg).toInt = s1.toInt ∧ (c 60 w2.toNatClampNeg).toInt = s1.toInt ∧ 0 ≤ n1.toInt ∧ 0 ≤ n2.toInt ∧ 0 ≤ n3.toInt ∧ n1.toInt + n3.toInt ≤ (c 61 w1.toNatClampNeg).toInt ∧ n2.toInt + n3.toInt ≤ (c 61 w2.toNatClampNeg).toInt ∧ ((-3) : Int32).toInt = 1) from by have h50 : ((-3) : Int32).toInt = -3 := (by decide +kernel); omega), (show CpR ((-3) : Int32).toInt (d 62) (d 62) (w1.toInt * 12 + n1.toInt).toNat (w2.toInt * 12 + n2.toInt).toNat n3.toInt.toNat from Or.inr ⟨by decide, rfl⟩), rfl⟩
                          · have f136 := mt (lc_gt (a := (n1.toInt + n3.toInt)) (b := x135.toInt) tx134 ((Int32.toInt_toInt64 x135).trans rfl)).mpr c136
                            refine lv_iload hx hb dX12_copy_133 (lv_at hl 5 rfl) ?_
                            refine lv_i2l (v := n2.toInt64) hx hb dX12_copy_135 rfl ?_
                            refine lv_iload hx hb dX12_copy_136 (lv_at hl 6 rfl) ?_
                            refine lv_i2l (v := n3.toInt64) hx hb dX12_copy_138 rfl ?_
                            refine lv_ladd hx hb dX12_copy_139 ?_
                            refine lv_topl (fun x138 ex138 => ?_)
                            have ib138_n2 := i32b n2
                            have ib138_n3 := i32b n3
                            have tx138 := ti_addl (a := n2.toInt) (b := n3.toInt) ex138 ((Int32.toInt_toInt64 n2).trans rfl) ((Int32.toInt_toInt64 n3).trans rfl) (by omega) (by omega)
                            refine lv_aload_n hx hb dX12_copy_140 rfl (lv_at hl 0 rfl) ?_
                            refine mget_61 hx hb hts (fun _ h => List.mem_cons_of_mem _ (List.mem_append_right _ h)) hown hK hP (hts (.fieldLink RX12 129 "TalePlayModel" "lineMany" "[I") (List.mem_cons_of_mem _ (List.mem_append_left _ (List.mem_append_right _ (List.mem_of_getElem? (i := 1) rfl))))) dX12_copy_141 ?_
                            refine lv_iload hx hb dX12_copy_144 (lv_at hl 4 rfl) ?_
                            refine mld_61 hx hb hK hP (vp_in_iff.mpr (by have h9 : w2.toInt = w2.toInt := rfl; omega)) dX12_copy_146 (fun x139 ex139 => ?_)
                            have rx139 : 0 ≤ x139.toInt ∧ x139.toInt ≤ 12 := by rw [ex139]; exact hI.2 61 _
                            have gx139 : (c 61 (w2 : Int32).toNatClampNeg).toInt = x139.toInt := by rw [ex139]
                            refine lv_i2l (v := x139.toInt64) hx hb dX12_copy_147 rfl ?_
                            refine W.lcmp hx hb dX12_copy_148 ?_
                            refine lv_if_le (tgt := 158) hx hb dX12_copy_149 (by decide +kernel) (fun c140 => ?_) (fun c140 => ?_)
                            · have f140 := (lc_le (a := (n2.toInt + n3.toInt)) (b := x139.toInt) tx138 ((Int32.toInt_toInt64 x139).trans rfl)).mp c140
                              refine lv_iconst (v := 0) hx hb dX12_copy_158 (by decide +kernel) ?_
                              refine lv_istore (lv' := [(7, .int 0), (0, .ref o), (1, .int w1), (2, .int s1), (3, .int n1), (4, .int w2), (5, .int n2), (6, .int n3)]) hx hb dX12_copy_159 hl (by decide +kernel) rfl (fun ls hl => ?_)
                              have lp141 : ∀ (fu : Nat) (i141 : Nat → Int32) (c141 : Nat → Nat → Int32) (d141 : Nat → Nat → Int64) (y141_7 : Int32), mInv i141 c141 → (∀ k, k ∉ ([] : List Nat) → i141 k = i k) → (∀ k, k ∉ ([] : List Nat) → c141 k = c k) → (0 ≤ y141_7.toInt ∧ y141_7.toInt ≤ 12 ∧ y141_7.toInt ≤ n3.toInt) → (HeK (d 62) (d141 68) (w1.toInt * 12 + n1.toInt).toNat y141_7.toInt) → ((d141 62) = (d 62)) → (12 - y141_7.toInt).toNat < fu → ∀ (H : Heap) (locs : List Loc) (ls : Array Slot), va_P D vwCl (mW o a t i141 q c141 d141) H → va_D A (mW o a t i141 q c141 d141) → va_S A s.heap H locs → lv_has ls 8 [(7, .int y141_7), (0, .ref o), (1, .int w1), (2, .int s1), (3, .int n1), (4, .int w2), (5, .int n2), (6, .int n3)] → W p l e (headSpec wm_X12_copy ({ frames := 2, cells := 0, slots := 0, locals := 46 })).room s m ([.ref o, .int w1, .int s1, .int n1, .int w2, .int n2, .int n3] : List Value).toArray below meth cd H locs 0 0 (MQ below (va_Qi (fun (r : Int32) (u : MS) => True ∧ mInv u.1 u.2.2.1 ∧ (∀ k, k ∉ ([0] : List Nat) → u.1 k = i k) ∧ (∀ k, k ∉ ([1] : List Nat) → u.2.2.1 k = c k) ∧ ((¬ (0 ≤ w1.toInt ∧ w1.toInt < (i 5).toInt ∧ 0 ≤ w2.toInt ∧ w2.toInt < (i 5).toInt ∧ 0 ≤ s1.toInt ∧ s1.toInt ≤ 3) ∧ r.toInt = -1) ∨ (0 ≤ w1.toInt ∧ w1.toInt < (i 5).toInt ∧ 0 ≤ w2.toInt ∧ w2.toInt < (i 5).toInt ∧ 0 ≤ s1.toInt ∧ s1.toInt ≤ 3 ∧ ¬ (¬ (c 63 w1.toNatClampNeg).toInt = 0 ∧ ¬ (c 63 w2.toNatClampNeg).toInt = 0 ∧ (c 60 w1.toNatClampNeg).toInt = s1.toInt ∧ (c 60 w2.toNatClampNeg).toInt = s1.toInt ∧ 0 ≤ n1.toInt ∧ 0 ≤ n2.toInt ∧ 0 ≤ n3.toInt ∧ n1.toInt + n3.toInt ≤ (c 61 w1.toNatClampNeg).toInt ∧ n2.toInt + n3.toInt ≤ (c 61 w2.toNatClampNeg).toInt) ∧ r.toInt = -3) ∨ (0 ≤ w1.toInt ∧ w1.toInt < (i 5).toInt ∧ 0 ≤ w2.toInt ∧ w2.toInt < (i 5).toInt ∧ 0 ≤ s1.toInt ∧ s1.toInt ≤ 3 ∧ ¬ (c 63 w1.toNatClampNeg).toInt = 0 ∧ ¬ (c 63 w2.toNatClampNeg).toInt = 0 ∧ (c 60 w1.toNatClampNeg).toInt = s1.toInt ∧ (c 60 w2.toNatClampNeg).toInt = s1.toInt ∧ 0 ≤ n1.toInt ∧ 0 ≤ n2.toInt ∧ 0 ≤ n3.toInt ∧ n1.toInt + n3.toInt ≤ (c 61 w1.toNatClampNeg).toInt ∧ n2.toInt + n3.toInt ≤ (c 61 w2.toNatClampNeg).toInt ∧ r.toInt = 1)) ∧ (CpR r.toInt (u.2.2.2 62) (d 62) (w1.toInt * 12 + n1.toInt).toNat (w2.toInt * 12 + n2.toInt).toNat n3.toInt.toNat) ∧ (q = u.2.1)) (oC D A (fun u : MS => mW o a t u.1 u.2.1 u.2.2.1 u.2.2.2) (fun _ => [])) A) ([.ref o, .int w1, .int s1, .int n1, .int w2, .int n2, .int n3] : List Value).toArray s 0 0 A) (F0 m 161 ls []) := by
                                intro fu
                                induction fu with
                                | zero => intro i141 c141 d141 y141_7 hI hfi hfc hy141_7 hz141_0 hz141_1 hm; exact absurd hm (Nat.not_lt_zero _)
                                | succ fu ih =>
                                  intro i141 c141 d141 y141_7 hI hfi hfc hy141_7 hz141_0 hz141_1 hm H locs ls hP hD hS hl
                                  have ih141 := ih
                                  refine lv_iload hx hb dX12_copy_161 (lv_at hl 0 rfl) ?_
                                  refine lv_iload hx hb dX12_copy_163 (lv_at hl 7 rfl) ?_
                                  refine lv_icmp_ge (tgt := 195) hx hb dX12_copy_165 (by decide +kernel) (fun c142 => ?_) (fun c142 => ?_)
                                  · have f142 := (ti_le (a := n3.toInt) (b := y141_7.toInt) rfl rfl).mp c142
                                    refine lv_iconst (v := 0) hx hb dX12_copy_195 (by decide +kernel) ?_
                                    refine lv_istore (lv' := [(7, .int 0), (0, .ref o), (1, .int w1), (2, .int s1), (3, .int n1), (4, .int w2), (5, .int n2), (6, .int n3)]) hx hb dX12_copy_196 hl (by decide +kernel) rfl (fun ls hl => ?_)
                                    have lp143 : ∀ (fu : Nat) (i143 : Nat → Int32) (c143 : Nat → Nat → Int32) (d143 : Nat → Nat → Int64) (y143_7 : Int32), mInv i143 c143 → (∀ k, k ∉ ([] : List Nat) → i143 k = i k) → (∀ k, k ∉ ([] : List Nat) → c143 k = c k) → (0 ≤ y143_7.toInt ∧ y143_7.toInt ≤ 12 ∧ y143_7.toInt ≤ n3.toInt) → (HeK (d 62) (d143 68) (w1.toInt * 12 + n1.toInt).toNat n3.toInt) → (CpK (d 62) (d143 62) (w1.toInt * 12 + n1.toInt).toNat (w2.toInt * 12 + n2.toInt).toNat y143_7.toInt) → (12 - y143_7.toInt).toNat < fu → ∀ (H : Heap) (locs : List Loc) (ls : Array Slot), va_P D vwCl (mW o a t i143 q c143 d143) H → va_D A (mW o a t i143 q c143 d143) → va_S A s.heap H locs → lv_has ls 8 [(7, .int y143_7), (0, .ref o), (1, .int w1), (2, .int s1), (3, .int n1), (4, .int w2), (5, .int n2), (6, .int n3)] → W p l e (headSpec wm_X12_copy ({ frames := 2, cells := 0, slots := 0, locals := 46 })).room s m ([.ref o, .int w1, .int s1, .int n1, .int w2, .int n2, .int n3] : List Value).toArray below meth cd H locs 0 0 (MQ below (va_Qi (fun (r : Int32) (u : MS) => True ∧ mInv u.1 u.2.2.1 ∧ (∀ k, k ∉ ([0] : List Nat) → u.1 k = i k) ∧ (∀ k, k ∉ ([1] : List Nat) → u.2.2.1 k = c k) ∧ ((¬ (0 ≤ w1.toInt ∧ w1.toInt < (i 5).toInt ∧ 0 ≤ w2.toInt ∧ w2.toInt < (i 5).toInt ∧ 0 ≤ s1.toInt ∧ s1.toInt ≤ 3) ∧ r.toInt = -1) ∨ (0 ≤ w1.toInt ∧ w1.toInt < (i 5).toInt ∧ 0 ≤ w2.toInt ∧ w2.toInt < (i 5).toInt ∧ 0 ≤ s1.toInt ∧ s1.toInt ≤ 3 ∧ ¬ (¬ (c 63 w1.toNatClampNeg).toInt = 0 ∧ ¬ (c 63 w2.toNatClampNeg).toInt = 0 ∧ (c 60 w1.toNatClampNeg).toInt = s1.toInt ∧ (c 60 w2.toNatClampNeg).toInt = s1.toInt ∧ 0 ≤ n1.toInt ∧ 0 ≤ n2.toInt ∧ 0 ≤ n3.toInt ∧ n1.toInt + n3.toInt ≤ (c 61 w1.toNatClampNeg).toInt ∧ n2.toInt + n3.toInt ≤ (c 61 w2.toNatClampNeg).toInt) ∧ r.toInt = -3) ∨ (0 ≤ w1.toInt ∧ w1.toInt < (i 5).toInt ∧ 0 ≤ w2.toInt ∧ w2.toInt < (i 5).toInt ∧ 0 ≤ s1.toInt ∧ s1.toInt ≤ 3 ∧ ¬ (c 63 w1.toNatClampNeg).toInt = 0 ∧ ¬ (c 63 w2.toNatClampNeg).toInt = 0 ∧ (c 60 w1.toNatClampNeg).toInt = s1.toInt ∧ (c 60 w2.toNatClampNeg).toInt = s1.toInt ∧ 0 ≤ n1.toInt ∧ 0 ≤ n2.toInt ∧ 0 ≤ n3.toInt ∧ n1.toInt + n3.toInt ≤ (c 61 w1.toNatClampNeg).toInt ∧ n2.toInt + n3.toInt ≤ (c 61 w2.toNatClampNeg).toInt ∧ r.toInt = 1)) ∧ (CpR r.toInt (u.2.2.2 62) (d 62) (w1.toInt * 12 + n1.toInt).toNat (w2.toInt * 12 + n2.toInt).toNat n3.toInt.toNat) ∧ (q = u.2.1)) (oC D A (fun u : MS => mW o a t u.1 u.2.1 u.2.2.1 u.2.2.2) (fun _ => [])) A) ([.ref o, .int w1, .int s1, .int n1, .int w2, .int n2, .int n3] : List Value).toArray s 0 0 A) (F0 m 198 ls []) := by
                                      intro fu
                                      induction fu with
                                      | zero => intro i143 c143 d143 y143_7 hI hfi hfc hy143_7 hz143_0 hz143_1 hm; exact absurd hm (Nat.not_lt_zero _)
                                      | succ fu ih =>
                                        intro i143 c143 d143 y143_7 hI hfi hfc hy143_7 hz143_0 hz143_1 hm H locs ls hP hD hS hl
                                        have ih143 := ih
                                        refine lv_iload hx hb dX12_copy_198 (lv_at hl 0 rfl) ?_
                                        refine lv_iload hx hb dX12_copy_200 (lv_at hl 7 rfl) ?_
                                        refine lv_icmp_ge (tgt := 234) hx hb dX12_copy_202 (by decide +kernel) (fun c144 => ?_) (fun c144 => ?_)
                                        · have f144 := (ti_le (a := n3.toInt) (b := y143_7.toInt) rfl rfl).mp c144
                                          refine lv_iconst (v := 1) hx hb dX12_copy_234 (by decide +kernel) ?_
                                          exact rw_iret (i143, q, c143, d143) hx hb hr hlocks hS (hK.sub (tys' := []) [] rfl) hP hD dX12_copy_235 ⟨trivial, hI, fr_w hfi (by decide +kernel), fr_w hfc (by decide +kernel), (show (¬ (0 ≤ w1.toInt ∧ w1.toInt < (i 5).toInt ∧ 0 ≤ w2.toInt ∧ w2.toInt < (i 5).toInt ∧ 0 ≤ s1.toInt ∧ s1.toInt ≤ 3) ∧ (1 : Int32).toInt = -1) ∨ (0 ≤ w1.toInt ∧ w1.toInt < (i 5).toInt ∧ 0 ≤ w2.toInt ∧ w2.toInt < (i 5).toInt ∧ 0 ≤ s1.toInt ∧ s1.toInt ≤ 3 ∧ ¬ (¬ (c 63 w1.toNatClampNeg).toInt = 0 ∧ ¬ (c 63 w2.toNatClampNeg).toInt = 0 ∧ (c 60 w1.toNatClampNeg).toInt = s1.toInt ∧ (c 60 w2.toNatClampNeg).toInt = s1.toInt ∧ 0 ≤ n1.toInt ∧ 0 ≤ n2.toInt ∧ 0 ≤ n3.toInt ∧ n1.toInt + n3.toInt ≤ (c 61 w1.toNatClampNeg).toInt ∧ n2.toInt + n3.toInt ≤ (c 61 w2.toNatClampNeg).toInt) ∧ (1 : Int32).toInt = -3) ∨ (0 ≤ w1.toInt ∧ w1.toInt < (i 5).toInt ∧ 0 ≤ w2.toInt ∧ w2.toInt < (i 5).toInt ∧ 0 ≤ s1.toInt ∧ s1.toInt ≤ 3 ∧ ¬ (c 63 w1.toNatClampNeg).toInt = 0 ∧ ¬ (c 63 w2.toNatClampNeg).toInt = 0 ∧ (c 60 w1.toNatClampNeg).toInt = s1.toInt ∧ (c 60 w2.toNatClampNeg).toInt = s1.toInt ∧ 0 ≤ n1.toInt ∧ 0 ≤ n2.toInt ∧ 0 ≤ n3.toInt ∧ n1.toInt + n3.toInt ≤ (c 61 w1.toNatClampNeg).toInt ∧ n2.toInt + n3.toInt ≤ (c 61 w2.toNatClampNeg).toInt ∧ (1 : Int32).toInt = 1) from by have h50 : (1 : Int32).toInt = 1 := (by decide +kernel); omega), (show CpR (1 : Int32).toInt (d143 62) (d 62) (w1.toInt * 12 + n1.toInt).toNat (w2.toInt * 12 + n2.toInt).toNat n3.toInt.toNat from Or.inl ⟨by decide, by rw [show n3.toInt = y143_7.toInt by omega]; exact CpK_e hz143_1 (by omega)⟩), rfl⟩
                                        · have f144 := mt (ti_le (a := n3.toInt) (b := y143_7.toInt) rfl rfl).mpr c144
                                          refine lv_aload_n hx hb dX12_copy_205 rfl (lv_at hl 1 rfl) ?_
                                          refine mget_62 hx hb hts (fun _ h => List.mem_cons_of_mem _ (List.mem_append_right _ h)) hown hK hP (hts (.fieldLink RX12 132 "TalePlayModel" "items" "[J") (List.mem_cons_of_mem _ (List.mem_append_left _ (List.mem_append_right _ (List.mem_of_getElem? (i := 2) rfl))))) dX12_copy_206 ?_
                                          refine lv_bipush (v := 12) hx hb dX12_copy_209 (by decide +kernel) ?_
                                          refine lv_iload hx hb dX12_copy_211 (lv_at hl 5 rfl) ?_
                                          refine lv_imul hx hb dX12_copy_213 ?_
                                          refine lv_topi (fun x145 ex145 => ?_)
                                          have tx145 := ti_mul (a := 12) (b := w2.toInt) ex145 (by decide +kernel) rfl (by omega) (by omega)
                                          refine lv_iload hx hb dX12_copy_214 (lv_at hl 6 rfl) ?_
                                          refine lv_iadd hx hb dX12_copy_216 ?_
                                          refine lv_topi (fun x146 ex146 => ?_)
                                          have tx146 := ti_add (a := (12 * w2.toInt)) (b := n2.toInt) ex146 tx145 rfl (by omega) (by omega)
                                          refine lv_iload hx hb dX12_copy_217 (lv_at hl 0 rfl) ?_
                                          refine lv_iadd hx hb dX12_copy_219 ?_
                                          refine lv_topi (fun x147 ex147 => ?_)
                                          have tx147 := ti_add (a := ((12 * w2.toInt) + n2.toInt)) (b := y143_7.toInt) ex147 tx146 rfl (by omega) (by omega)
                                          refine lv_aload_n hx hb dX12_copy_220 rfl (lv_at hl 1 rfl) ?_
                                          refine mget_68 hx hb hts (fun _ h => List.mem_cons_of_mem _ (List.mem_append_right _ h)) hown hK hP (hts (.fieldLink RX12 148 "TalePlayModel" "held" "[J") (List.mem_cons_of_mem _ (List.mem_append_left _ (List.mem_append_right _ (List.mem_of_getElem? (i := 3) rfl))))) dX12_copy_221 ?_
                                          refine lv_iload hx hb dX12_copy_224 (lv_at hl 0 rfl) ?_
                                          refine mld_68 hx hb hK hP (vp_in_iff.mpr (by have h9 : y143_7.toInt = y143_7.toInt := rfl; omega)) dX12_copy_226 (fun x148 ex148 => ?_)
                                          refine mst_62 hx hb hK hP hD hS (vp_in_iff.mpr (by have h9 : x147.toInt = (((12 * w2.toInt) + n2.toInt) + y143_7.toInt) := tx147; omega)) dX12_copy_227 (fun H locs hP hD hS => ?_)
                                          obtain ⟨x149, ex149⟩ : ∃ y : Int32, y = y143_7 + 1 := ⟨_, rfl⟩
                                          have tx149 := ti_add (a := y143_7.toInt) (b := 1) ex149 rfl (by decide +kernel) (by omega) (by omega)
                                          refine lv_iinc (v := x149) (lv' := [(7, .int x149), (0, .ref o), (1, .int w1), (2, .int s1), (3, .int n1), (4, .int w2), (5, .int n2), (6, .int n3)]) hx hb dX12_copy_228 hl (k := 0) rfl (by rw [ex149]; rfl) (by decide +kernel) rfl (fun ls hl => ?_)
                                          refine lv_goto (tgt := 198) hx hb dX12_copy_231 (by decide +kernel) ?_
                                          exact ih143 i143 c143 (updD d143 62 (x147 : Int32).toNatClampNeg x148) x149 hI (fr_w hfi (by decide +kernel)) (fr_w hfc (by decide +kernel)) (show 0 ≤ x149.toInt ∧ x149.toInt ≤ 12 ∧ x149.toInt ≤ n3.toInt from by have h50 : x149.toInt = (y143_7.toInt + 1) := tx149; omega) (show HeK (d 62) ((updD d143 62 (x147 : Int32).toNatClampNeg x148) 68) (w1.toInt * 12 + n1.toInt).toNat n3.toInt from hz143_0) (show CpK (d 62) ((updD d143 62 (x147 : Int32).toNatClampNeg x148) 62) (w1.toInt * 12 + n1.toInt).toNat (w2.toInt * 12 + n2.toInt).toNat x149.toInt from CpK_s (x := y143_7) (z := x147) (u := y143_7) hz143_1 hz143_0 (by omega) (by omega) tx149 (by have h9 : x147.toInt = (((12 * w2.toInt) + n2.toInt) + y143_7.toInt) := tx147; omega) rfl ex148) (by have h50 : x149.toInt = (y143_7.toInt + 1) := tx149; omega) _ _ _ hP hD hS (lv_sub hl [0, 1, 2, 3, 4, 5, 6, 7] rfl)
                                    exact lp143 _ i141 c141 d141 (0 : Int32) hI (fr_w hfi (by decide +kernel)) (fr_w hfc (by decide +kernel)) (show 0 ≤ (0 : Int32).toInt ∧ (0 : Int32).toInt ≤ 12 ∧ (0 : Int32).toInt ≤ n3.toInt from by have h50 : (0 : Int32).toInt = 0 := (by decide +kernel); omega) (show HeK (d 62) (d141 68) (w1.toInt * 12 + n1.toInt).toNat n3.toInt from fun j hj => hz141_0 j (by omega)) (show CpK (d 62) (d141 62) (w1.toInt * 12 + n1.toInt).toNat (w2.toInt * 12 + n2.toInt).toNat (0 : Int32).toInt from by rw [hz141_1]; exact CpK_0) (Nat.lt_succ_self _) _ _ _ hP hD hS (lv_sub hl [0, 1, 2, 3, 4, 5, 6, 7] rfl)
                                  · have f142 := mt (ti_le (a := n3.toInt) (b := y141_7.toInt) rfl rfl).mpr c142
                                    refine lv_aload_n hx hb dX12_copy_168 rfl (lv_at hl 1 rfl) ?_
                                    refine mget_68 hx hb hts (fun _ h => List.mem_cons_of_mem _ (List.mem_append_right _ h)) hown hK hP (hts (.fieldLink RX12 148 "TalePlayModel" "held" "[J") (List.mem_cons_of_mem _ (List.mem_append_left _ (List.mem_append_right _ (List.mem_of_getElem? (i := 3) rfl))))) dX12_copy_169 ?_
                                    refine lv_iload hx hb dX12_copy_172 (lv_at hl 0 rfl) ?_
                                    refine lv_aload_n hx hb dX12_copy_174 rfl (lv_at hl 1 rfl) ?_
                                    refine mget_62 hx hb hts (fun _ h => List.mem_cons_of_mem _ (List.mem_append_right _ h)) hown hK hP (hts (.fieldLink RX12 132 "TalePlayModel" "items" "[J") (List.mem_cons_of_mem _ (List.mem_append_left _ (List.mem_append_right _ (List.mem_of_getElem? (i := 2) rfl))))) dX12_copy_175 ?_
                                    refine lv_bipush (v := 12) hx hb dX12_copy_178 (by decide +kernel) ?_
                                    refine lv_iload_n hx hb dX12_copy_180 rfl (lv_at hl 2 rfl) ?_
                                    refine lv_imul hx hb dX12_copy_181 ?_
                                    refine lv_topi (fun x150 ex150 => ?_)
                                    have tx150 := ti_mul (a := 12) (b := w1.toInt) ex150 (by decide +kernel) rfl (by omega) (by omega)
                                    refine lv_iload_n hx hb dX12_copy_182 rfl (lv_at hl 4 rfl) ?_
                                    refine lv_iadd hx hb dX12_copy_183 ?_
                                    refine lv_topi (fun x151 ex151 => ?_)
                                    have tx151 := ti_add (a := (12 * w1.toInt)) (b := n1.toInt) ex151 tx150 rfl (by omega) (by omega)
                                    refine lv_iload hx hb dX12_copy_184 (lv_at hl 0 rfl) ?_
                                    refine lv_iadd hx hb dX12_copy_186 ?_
                                    refine lv_topi (fun x152 ex152 => ?_)
                                    have tx152 := ti_add (a := ((12 * w1.toInt) + n1.toInt)) (b := y141_7.toInt) ex152 tx151 rfl (by omega) (by omega)
                                    refine mld_62 hx hb hK hP (vp_in_iff.mpr (by have h9 : x152.toInt = (((12 * w1.toInt) + n1.toInt) + y141_7.toInt) := tx152; omega)) dX12_copy_187 (fun x153 ex153 => ?_)
                                    refine mst_68 hx hb hK hP hD hS (vp_in_iff.mpr (by have h9 : y141_7.toInt = y141_7.toInt := rfl; omega)) dX12_copy_188 (fun H locs hP hD hS => ?_)
                                    obtain ⟨x154, ex154⟩ : ∃ y : Int32, y = y141_7 + 1 := ⟨_, rfl⟩
                                    have tx154 := ti_add (a := y141_7.toInt) (b := 1) ex154 rfl (by decide +kernel) (by omega) (by omega)
                                    refine lv_iinc (v := x154) (lv' := [(7, .int x154), (0, .ref o), (1, .int w1), (2, .int s1), (3, .int n1), (4, .int w2), (5, .int n2), (6, .int n3)]) hx hb dX12_copy_189 hl (k := 0) rfl (by rw [ex154]; rfl) (by decide +kernel) rfl (fun ls hl => ?_)
                                    refine lv_goto (tgt := 161) hx hb dX12_copy_192 (by decide +kernel) ?_
                                    exact ih141 i141 c141 (updD d141 68 (y141_7 : Int32).toNatClampNeg x153) x154 hI (fr_w hfi (by decide +kernel)) (fr_w hfc (by decide +kernel)) (show 0 ≤ x154.toInt ∧ x154.toInt ≤ 12 ∧ x154.toInt ≤ n3.toInt from by have h50 : x154.toInt = (y141_7.toInt + 1) := tx154; omega) (show HeK (d 62) ((updD d141 68 (y141_7 : Int32).toNatClampNeg x153) 68) (w1.toInt * 12 + n1.toInt).toNat x154.toInt from HeK_s (x := y141_7) (z := y141_7) (u := x152) hz141_0 (by omega) tx154 rfl (by have h9 : x152.toInt = (((12 * w1.toInt) + n1.toInt) + y141_7.toInt) := tx152; omega) (by rw [ex153, hz141_1])) (show ((updD d141 68 (y141_7 : Int32).toNatClampNeg x153) 62) = (d 62) from hz141_1) (by have h50 : x154.toInt = (y141_7.toInt + 1) := tx154; omega) _ _ _ hP hD hS (lv_sub hl [0, 1, 2, 3, 4, 5, 6, 7] rfl)
                              exact lp141 _ i c d (0 : Int32) hI (fr_w hfi (by decide +kernel)) (fr_w hfc (by decide +kernel)) (show 0 ≤ (0 : Int32).toInt ∧ (0 : Int32).toInt ≤ 12 ∧ (0 : Int32).toInt ≤ n3.toInt from by have h50 : (0 : Int32).toInt = 0 := (by decide +kernel); omega) (show HeK (d 62) (d 68) (w1.toInt * 12 + n1.toInt).toNat (0 : Int32).toInt from fun j hj => by have h9 : (0 : Int32).toInt = 0 := (by decide +kernel); exfalso; omega) (show (d 62) = (d 62) from rfl) (Nat.lt_succ_self _) _ _ _ hP hD hS (lv_sub hl [0, 1, 2, 3, 4, 5, 6, 7] rfl)
                            · have f140 := mt (lc_le (a := (n2.toInt + n3.toInt)) (b := x139.toInt) tx138 ((Int32.toInt_toInt64 x139).trans rfl)).mpr c140
                              refine lv_aload_n hx hb dX12_copy_152 rfl (lv_at hl 0 rfl) ?_
                              refine lv_iconst (v := 2) hx hb dX12_copy_153 (by decide +kernel) ?_
                              refine al_calli (va_runV (As := [.int 2]) (rest := []) ⟨hx, hb, hml, hown, hts⟩ (s_X12_meets l D H.size o a t i q c d 2 hI (show 1 ≤ 2 ∧ 2 ≤ 6 from by have h90 : (2 : Int32).toInt = 2 := (by decide +kernel); omega)) (cwV 1 hts gm_X12_copy_X12_meets rfl rfl rfl (by decide +kernel) ⟨Nat.le_of_ble_eq_true rfl, Nat.le_of_ble_eq_true rfl⟩) (pB_V hK hP hD (ci := 12) (q0 := 0) rfl rfl) rfl rfl hl.1 rfl (lv_room (Nat.le_of_ble_eq_true rfl)) dX12_copy_154 ⟨Nat.le_of_ble_eq_true rfl, Nat.le_of_ble_eq_true rfl⟩) hS hA hP hD (fun r155 u155 H locs hv155 hP hD hS => ?_)
                              obtain ⟨i155, q155, c155, d155⟩ := u155
                              have hw155 : r155 = (-3) ∧ mInv i155 c155 ∧ (∀ k, k ∉ ([0] : List Nat) → i155 k = i k) ∧ (∀ k, k ∉ ([1] : List Nat) → c155 k = c k) ∧ (q = q155) ∧ (d = d155) := hv155
                              clear hv155
                              obtain ⟨hw155, hI, hei155, hec155, hq155_q, hq155_d⟩ := hw155
                              subst hq155_q
                              subst hq155_d
                              have hfi : ∀ k, k ∉ ([0] : List Nat) → i155 k = i k := fr_z hfi hei155 (by decide +kernel) (by decide +kernel)
                              have hfc : ∀ k, k ∉ ([1] : List Nat) → c155 k = c k := fr_z hfc hec155 (by decide +kernel) (by decide +kernel)
                              have hP : va_P D vwCl (mW o a t i155 q c155 d) H := hP
                              have hD : va_D A (mW o a t i155 q c155 d) := hD
                              have hw155 : r155 = (-3) := hw155
                              subst hw155
                              exact rw_iret (i155, q, c155, d) hx hb hr hlocks hS (hK.sub (tys' := []) [] rfl) hP hD dX12_copy_157 ⟨trivial, hI, fr_w hfi (by decide +kernel), fr_w hfc (by decide +kernel), (show (¬ (0 ≤ w1.toInt ∧ w1.toInt < (i 5).toInt ∧ 0 ≤ w2.toInt ∧ w2.toInt < (i 5).toInt ∧ 0 ≤ s1.toInt ∧ s1.toInt ≤ 3) ∧ ((-3) : Int32).toInt = -1) ∨ (0 ≤ w1.toInt ∧ w1.toInt < (i 5).toInt ∧ 0 ≤ w2.toInt ∧ w2.toInt < (i 5).toInt ∧ 0 ≤ s1.toInt ∧ s1.toInt ≤ 3 ∧ ¬ (¬ (c 63 w1.toNatClampNeg).toInt = 0 ∧ ¬ (c 63 w2.toNatClampNeg).toInt = 0 ∧ (c 60 w1.toNatClampNeg).toInt = s1.toInt ∧ (c 60 w2.toNatClampNeg).toInt = s1.toInt ∧ 0 ≤ n1.toInt ∧ 0 ≤ n2.toInt ∧ 0 ≤ n3.toInt ∧ n1.toInt + n3.toInt ≤ (c 61 w1.toNatClampNeg).toInt ∧ n2.toInt + n3.toInt ≤ (c 61 w2.toNatClampNeg).toInt) ∧ ((-3) : Int32).toInt = -3) ∨ (0 ≤ w1.toInt ∧ w1.toInt < (i 5).toInt ∧ 0 ≤ w2.toInt ∧ w2.toInt < (i 5).toInt ∧ 0 ≤ s1.toInt ∧ s1.toInt ≤ 3 ∧ ¬ (c 63 w1.toNatClampNeg).toInt = 0 ∧ ¬ (c 63 w2.toNatClampNeg).toInt = 0 ∧ (c 60 w1.toNatClampNeg).toInt = s1.toInt ∧ (c 60 w2.toNatClampNeg).toInt = s1.toInt ∧ 0 ≤ n1.toInt ∧ 0 ≤ n2.toInt ∧ 0 ≤ n3.toInt ∧ n1.toInt + n3.toInt ≤ (c 61 w1.toNatClampNeg).toInt ∧ n2.toInt + n3.toInt ≤ (c 61 w2.toNatClampNeg).toInt ∧ ((-3) : Int32).toInt = 1) from by have h50 : ((-3) : Int32).toInt = -3 := (by decide +kernel); omega), (show CpR ((-3) : Int32).toInt (d 62) (d 62) (w1.toInt * 12 + n1.toInt).toNat (w2.toInt * 12 + n2.toInt).toNat n3.toInt.toNat from Or.inr ⟨by decide, rfl⟩), rfl⟩
                  · have f127 := (ti_eq (a := x126.toInt) (b := 0) rfl (by decide +kernel)).mp c127
                    refine lv_aload_n hx hb dX12_copy_96 rfl (lv_at hl 0 rfl) ?_
                    refine lv_iconst (v := 1) hx hb dX12_copy_97 (by decide +kernel) ?_
                    refine al_calli (va_runV (As := [.int 1]) (rest := []) ⟨hx, hb, hml, hown, hts⟩ (s_X12_meets l D H.size o a t i q c d 1 hI (show 1 ≤ 1 ∧ 1 ≤ 6 from by have h90 : (1 : Int32).toInt = 1 := (by decide +kernel); omega)) (cwV 1 hts gm_X12_copy_X12_meets rfl rfl rfl (by decide +kernel) ⟨Nat.le_of_ble_eq_true rfl, Nat.le_of_ble_eq_true rfl⟩) (pB_V hK hP hD (ci := 12) (q0 := 0) rfl rfl) rfl rfl hl.1 rfl (lv_room (Nat.le_of_ble_eq_true rfl)) dX12_copy_98 ⟨Nat.le_of_ble_eq_true rfl, Nat.le_of_ble_eq_true rfl⟩) hS hA hP hD (fun r156 u156 H locs hv156 hP hD hS => ?_)
                    obtain ⟨i156, q156, c156, d156⟩ := u156
                    have hw156 : r156 = (-3) ∧ mInv i156 c156 ∧ (∀ k, k ∉ ([0] : List Nat) → i156 k = i k) ∧ (∀ k, k ∉ ([1] : List Nat) → c156 k = c k) ∧ (q = q156) ∧ (d = d156) := hv156
                    clear hv156
                    obtain ⟨hw156, hI, hei156, hec156, hq156_q, hq156_d⟩ := hw156
                    subst hq156_q
                    subst hq156_d
                    have hfi : ∀ k, k ∉ ([0] : List Nat) → i156 k = i k := fr_z hfi hei156 (by decide +kernel) (by decide +kernel)
                    have hfc : ∀ k, k ∉ ([1] : List Nat) → c156 k = c k := fr_z hfc hec156 (by decide +kernel) (by decide +kernel)
                    have hP : va_P D vwCl (mW o a t i156 q c156 d) H := hP
                    have hD : va_D A (mW o a t i156 q c156 d) := hD
                    have hw156 : r156 = (-3) := hw156
                    subst hw156
                    exact rw_iret (i156, q, c156, d) hx hb hr hlocks hS (hK.sub (tys' := []) [] rfl) hP hD dX12_copy_101 ⟨trivial, hI, fr_w hfi (by decide +kernel), fr_w hfc (by decide +kernel), (show (¬ (0 ≤ w1.toInt ∧ w1.toInt < (i 5).toInt ∧ 0 ≤ w2.toInt ∧ w2.toInt < (i 5).toInt ∧ 0 ≤ s1.toInt ∧ s1.toInt ≤ 3) ∧ ((-3) : Int32).toInt = -1) ∨ (0 ≤ w1.toInt ∧ w1.toInt < (i 5).toInt ∧ 0 ≤ w2.toInt ∧ w2.toInt < (i 5).toInt ∧ 0 ≤ s1.toInt ∧ s1.toInt ≤ 3 ∧ ¬ (¬ (c 63 w1.toNatClampNeg).toInt = 0 ∧ ¬ (c 63 w2.toNatClampNeg).toInt = 0 ∧ (c 60 w1.toNatClampNeg).toInt = s1.toInt ∧ (c 60 w2.toNatClampNeg).toInt = s1.toInt ∧ 0 ≤ n1.toInt ∧ 0 ≤ n2.toInt ∧ 0 ≤ n3.toInt ∧ n1.toInt + n3.toInt ≤ (c 61 w1.toNatClampNeg).toInt ∧ n2.toInt + n3.toInt ≤ (c 61 w2.toNatClampNeg).toInt) ∧ ((-3) : Int32).toInt = -3) ∨ (0 ≤ w1.toInt ∧ w1.toInt < (i 5).toInt ∧ 0 ≤ w2.toInt ∧ w2.toInt < (i 5).toInt ∧ 0 ≤ s1.toInt ∧ s1.toInt ≤ 3 ∧ ¬ (c 63 w1.toNatClampNeg).toInt = 0 ∧ ¬ (c 63 w2.toNatClampNeg).toInt = 0 ∧ (c 60 w1.toNatClampNeg).toInt = s1.toInt ∧ (c 60 w2.toNatClampNeg).toInt = s1.toInt ∧ 0 ≤ n1.toInt ∧ 0 ≤ n2.toInt ∧ 0 ≤ n3.toInt ∧ n1.toInt + n3.toInt ≤ (c 61 w1.toNatClampNeg).toInt ∧ n2.toInt + n3.toInt ≤ (c 61 w2.toNatClampNeg).toInt ∧ ((-3) : Int32).toInt = 1) from by have h50 : ((-3) : Int32).toInt = -3 := (by decide +kernel); omega), (show CpR ((-3) : Int32).toInt (d 62) (d 62) (w1.toInt * 12 + n1.toInt).toNat (w2.toInt * 12 + n2.toInt).toNat n3.toInt.toNat from Or.inr ⟨by decide, rfl⟩), rfl⟩
              · have f122 := mt (ti_eq (a := x121.toInt) (b := s1.toInt) rfl rfl).mpr c122
                refine lv_aload_n hx hb dX12_copy_71 rfl (lv_at hl 0 rfl) ?_
                refine lv_iconst (v := 3) hx hb dX12_copy_72 (by decide +kernel) ?_
                refine al_calli (va_runV (As := [.int 3]) (rest := []) ⟨hx, hb, hml, hown, hts⟩ (s_X12_meets l D H.size o a t i q c d 3 hI (show 1 ≤ 3 ∧ 3 ≤ 6 from by have h90 : (3 : Int32).toInt = 3 := (by decide +kernel); omega)) (cwV 1 hts gm_X12_copy_X12_meets rfl rfl rfl (by decide +kernel) ⟨Nat.le_of_ble_eq_true rfl, Nat.le_of_ble_eq_true rfl⟩) (pB_V hK hP hD (ci := 12) (q0 := 0) rfl rfl) rfl rfl hl.1 rfl (lv_room (Nat.le_of_ble_eq_true rfl)) dX12_copy_73 ⟨Nat.le_of_ble_eq_true rfl, Nat.le_of_ble_eq_true rfl⟩) hS hA hP hD (fun r157 u157 H locs hv157 hP hD hS => ?_)
                obtain ⟨i157, q157, c157, d157⟩ := u157
                have hw157 : r157 = (-3) ∧ mInv i157 c157 ∧ (∀ k, k ∉ ([0] : List Nat) → i157 k = i k) ∧ (∀ k, k ∉ ([1] : List Nat) → c157 k = c k) ∧ (q = q157) ∧ (d = d157) := hv157
                clear hv157
                obtain ⟨hw157, hI, hei157, hec157, hq157_q, hq157_d⟩ := hw157
                subst hq157_q
                subst hq157_d
                have hfi : ∀ k, k ∉ ([0] : List Nat) → i157 k = i k := fr_z hfi hei157 (by decide +kernel) (by decide +kernel)
                have hfc : ∀ k, k ∉ ([1] : List Nat) → c157 k = c k := fr_z hfc hec157 (by decide +kernel) (by decide +kernel)
                have hP : va_P D vwCl (mW o a t i157 q c157 d) H := hP
                have hD : va_D A (mW o a t i157 q c157 d) := hD
                have hw157 : r157 = (-3) := hw157
                subst hw157
                exact rw_iret (i157, q, c157, d) hx hb hr hlocks hS (hK.sub (tys' := []) [] rfl) hP hD dX12_copy_76 ⟨trivial, hI, fr_w hfi (by decide +kernel), fr_w hfc (by decide +kernel), (show (¬ (0 ≤ w1.toInt ∧ w1.toInt < (i 5).toInt ∧ 0 ≤ w2.toInt ∧ w2.toInt < (i 5).toInt ∧ 0 ≤ s1.toInt ∧ s1.toInt ≤ 3) ∧ ((-3) : Int32).toInt = -1) ∨ (0 ≤ w1.toInt ∧ w1.toInt < (i 5).toInt ∧ 0 ≤ w2.toInt ∧ w2.toInt < (i 5).toInt ∧ 0 ≤ s1.toInt ∧ s1.toInt ≤ 3 ∧ ¬ (¬ (c 63 w1.toNatClampNeg).toInt = 0 ∧ ¬ (c 63 w2.toNatClampNeg).toInt = 0 ∧ (c 60 w1.toNatClampNeg).toInt = s1.toInt ∧ (c 60 w2.toNatClampNeg).toInt = s1.toInt ∧ 0 ≤ n1.toInt ∧ 0 ≤ n2.toInt ∧ 0 ≤ n3.toInt ∧ n1.toInt + n3.toInt ≤ (c 61 w1.toNatClampNeg).toInt ∧ n2.toInt + n3.toInt ≤ (c 61 w2.toNatClampNeg).toInt) ∧ ((-3) : Int32).toInt = -3) ∨ (0 ≤ w1.toInt ∧ w1.toInt < (i 5).toInt ∧ 0 ≤ w2.toInt ∧ w2.toInt < (i 5).toInt ∧ 0 ≤ s1.toInt ∧ s1.toInt ≤ 3 ∧ ¬ (c 63 w1.toNatClampNeg).toInt = 0 ∧ ¬ (c 63 w2.toNatClampNeg).toInt = 0 ∧ (c 60 w1.toNatClampNeg).toInt = s1.toInt ∧ (c 60 w2.toNatClampNeg).toInt = s1.toInt ∧ 0 ≤ n1.toInt ∧ 0 ≤ n2.toInt ∧ 0 ≤ n3.toInt ∧ n1.toInt + n3.toInt ≤ (c 61 w1.toNatClampNeg).toInt ∧ n2.toInt + n3.toInt ≤ (c 61 w2.toNatClampNeg).toInt ∧ ((-3) : Int32).toInt = 1) from by have h50 : ((-3) : Int32).toInt = -3 := (by decide +kernel); omega), (show CpR ((-3) : Int32).toInt (d 62) (d 62) (w1.toInt * 12 + n1.toInt).toNat (w2.toInt * 12 + n2.toInt).toNat n3.toInt.toNat from Or.inr ⟨by decide, rfl⟩), rfl⟩
      · have f6 := fl_f hw5 c6
        refine lv_iconst (v := (-1)) hx hb dX12_copy_29 (by decide +kernel) ?_
        exact rw_iret (i, q, c, d) hx hb hr hlocks hS (hK.sub (tys' := []) [] rfl) hP hD dX12_copy_30 ⟨trivial, hI, fr_w hfi (by decide +kernel), fr_w hfc (by decide +kernel), (show (¬ (0 ≤ w1.toInt ∧ w1.toInt < (i 5).toInt ∧ 0 ≤ w2.toInt ∧ w2.toInt < (i 5).toInt ∧ 0 ≤ s1.toInt ∧ s1.toInt ≤ 3) ∧ ((-1) : Int32).toInt = -1) ∨ (0 ≤ w1.toInt ∧ w1.toInt < (i 5).toInt ∧ 0 ≤ w2.toInt ∧ w2.toInt < (i 5).toInt ∧ 0 ≤ s1.toInt ∧ s1.toInt ≤ 3 ∧ ¬ (¬ (c 63 w1.toNatClampNeg).toInt = 0 ∧ ¬ (c 63 w2.toNatClampNeg).toInt = 0 ∧ (c 60 w1.toNatClampNeg).toInt = s1.toInt ∧ (c 60 w2.toNatClampNeg).toInt = s1.toInt ∧ 0 ≤ n1.toInt ∧ 0 ≤ n2.toInt ∧ 0 ≤ n3.toInt ∧ n1.toInt + n3.toInt ≤ (c 61 w1.toNatClampNeg).toInt ∧ n2.toInt + n3.toInt ≤ (c 61 w2.toNatClampNeg).toInt) ∧ ((-1) : Int32).toInt = -3) ∨ (0 ≤ w1.toInt ∧ w1.toInt < (i 5).toInt ∧ 0 ≤ w2.toInt ∧ w2.toInt < (i 5).toInt ∧ 0 ≤ s1.toInt ∧ s1.toInt ≤ 3 ∧ ¬ (c 63 w1.toNatClampNeg).toInt = 0 ∧ ¬ (c 63 w2.toNatClampNeg).toInt = 0 ∧ (c 60 w1.toNatClampNeg).toInt = s1.toInt ∧ (c 60 w2.toNatClampNeg).toInt = s1.toInt ∧ 0 ≤ n1.toInt ∧ 0 ≤ n2.toInt ∧ 0 ≤ n3.toInt ∧ n1.toInt + n3.toInt ≤ (c 61 w1.toNatClampNeg).toInt ∧ n2.toInt + n3.toInt ≤ (c 61 w2.toNatClampNeg).toInt ∧ ((-1) : Int32).toInt = 1) from by have h50 : ((-1) : Int32).toInt = -1 := (by decide +kernel); omega), (show CpR ((-1) : Int32).toInt (d 62) (d 62) (w1.toInt * 12 + n1.toInt).toNat (w2.toInt * 12 + n2.toInt).toNat n3.toInt.toNat from Or.inr ⟨by decide, rfl⟩), rfl⟩

