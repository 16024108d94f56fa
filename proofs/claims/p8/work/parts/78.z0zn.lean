set_option maxHeartbeats 4000000 in
set_option maxRecDepth 100000 in
theorem s_X12_giveState_t (l : Launch) (D : va_G) (sz : Nat) (o : Nat) (a : Nat → Nat) (t : Nat → ClassId) (i : Nat → Int32) (q : Int64) (c : Nat → Nat → Int32) (d : Nat → Nat → Int64) (s1 : Int32) (hI : mInv i c) (hs1 : 0 ≤ s1.toInt ∧ s1.toInt ≤ 300) : Met l yX12_giveState wm_X12_giveState ({ frames := 0, cells := 0, slots := 0, locals := 0 }) (va_Pc [.ref o, .int s1] (pB D sz (mW o a t i q c d) (mT t))) (va_Qv (fun (u : MS) => True ∧ mInv u.1 u.2.2.1 ∧ (∀ k, k ∉ ([] : List Nat) → u.1 k = i k) ∧ (∀ k, k ∉ ([23, 24, 25, 26] : List Nat) → u.2.2.1 k = c k) ∧ (GB (u.2.2.1 23) (u.2.2.1 24) (c 51) (c 52) s1.toInt.toNat (i 5).toInt) ∧ (GS (u.2.2.1 25) (u.2.2.1 26) (c 53) s1.toInt.toNat (i 5).toInt)) (oC D (va_A (mW o a t i q c d) sz) (fun u : MS => mW o a t u.1 u.2.1 u.2.2.1 u.2.2.2) (fun _ => [])) (va_A (mW o a t i q c d) sz)) 0 0 (va_A (mW o a t i q c d) sz) := by
  refine Met.ofW (cc := cX12_giveState) (maxL := 3) (ret := none) (by decide +kernel) rfl ?_
  intro p e s m args below meth cd s₁ B hml hv
  obtain ⟨rfl, hsz, hP, hK, hD0⟩ := hv
  have hx := B.exec
  have hb := B.bytes
  have hr := B.returns
  have hts := atoms_spec (ws := wm_X12_giveState) B.pre
  have hown : s.vm.findClass RX12 = some m.cls := findClass_of_methodNamed B.named
  have hlocks := B.notSynchronized
  subst hsz
  have hD := hD0.self (sz := s.heap.size)
  generalize hAe : va_A (mW o a t i q c d) s.heap.size = A at hD ⊢
  have hA : ∀ q : Nat, s.heap.size ≤ q → A q := fun q h => by rw [← hAe]; exact Or.inr h
  have hS : va_S A s.heap s.heap [] := va_S.rf
  have hfi : ∀ k, k ∉ ([] : List Nat) → i k = i k := fun _ _ => rfl
  have hfc : ∀ k, k ∉ ([] : List Nat) → c k = c k := fun _ _ => rfl
  have hl := lv_entry ([.ref o, .int s1]) (n := 3) (Nat.le_of_ble_eq_true rfl)
  rw [lg_entry_eq]
  generalize (lg_sl ([.ref o, .int s1]) ++ List.replicate (3 - (lg_sl ([.ref o, .int s1])).length) Slot.unset).toArray = ls at hl ⊢
  have hl : lv_has ls 3 [(0, .ref o), (1, .int s1)] := hl
  have rb5_i : 0 ≤ (i 5).toInt ∧ (i 5).toInt ≤ 30 := hI.1 5
  refine lv_iconst (v := 0) hx hb dX12_giveState_0 (by decide +kernel) ?_
  refine lv_istore_n (lv' := [(2, .int 0), (0, .ref o), (1, .int s1)]) hx hb dX12_giveState_1 rfl hl (by decide +kernel) rfl (fun ls hl => ?_)
  have lp1 : ∀ (fu : Nat) (i1 : Nat → Int32) (q1 : Int64) (c1 : Nat → Nat → Int32) (d1 : Nat → Nat → Int64) (y1_2 : Int32), mInv i1 c1 → (∀ k, k ∉ ([] : List Nat) → i1 k = i k) → (∀ k, k ∉ ([23, 24, 25, 26] : List Nat) → c1 k = c k) → (0 ≤ y1_2.toInt ∧ y1_2.toInt ≤ 30 ∧ y1_2.toInt ≤ (i 5).toInt) → (GB (c1 23) (c1 24) (c 51) (c 52) s1.toInt.toNat y1_2.toInt) → (GS (c1 25) (c1 26) (c 53) s1.toInt.toNat y1_2.toInt) → (30 - y1_2.toInt).toNat < fu → ∀ (H : Heap) (locs : List Loc) (ls : Array Slot), va_P D vwCl (mW o a t i1 q1 c1 d1) H → va_D A (mW o a t i1 q1 c1 d1) → va_S A s.heap H locs → lv_has ls 3 [(2, .int y1_2), (0, .ref o), (1, .int s1)] → W p l e (headSpec wm_X12_giveState ({ frames := 0, cells := 0, slots := 0, locals := 0 })).room s m ([.ref o, .int s1] : List Value).toArray below meth cd H locs 0 0 (MQ below (va_Qv (fun (u : MS) => True ∧ mInv u.1 u.2.2.1 ∧ (∀ k, k ∉ ([] : List Nat) → u.1 k = i k) ∧ (∀ k, k ∉ ([23, 24, 25, 26] : List Nat) → u.2.2.1 k = c k) ∧ (GB (u.2.2.1 23) (u.2.2.1 24) (c 51) (c 52) s1.toInt.toNat (i 5).toInt) ∧ (GS (u.2.2.1 25) (u.2.2.1 26) (c 53) s1.toInt.toNat (i 5).toInt)) (oC D A (fun u : MS => mW o a t u.1 u.2.1 u.2.2.1 u.2.2.2) (fun _ => [])) A) ([.ref o, .int s1] : List Value).toArray s 0 0 A) (F0 m 2 ls []) := by
    intro fu
    induction fu with
    | zero => intro i1 q1 c1 d1 y1_2 hI hfi hfc hy1_2 hz1_0 hz1_1 hm; exact absurd hm (Nat.not_lt_zero _)
    | succ fu ih =>
      intro i1 q1 c1 d1 y1_2 hI hfi hfc hy1_2 hz1_0 hz1_1 hm H locs ls hP hD hS hl
      have ih1 := ih
      refine lv_iload_n hx hb dX12_giveState_2 rfl (lv_at hl 0 rfl) ?_
      refine lv_aload_n hx hb dX12_giveState_3 rfl (lv_at hl 1 rfl) ?_
      refine mget_5 (v := (i1 5)) rfl hx hb hts (fun _ h => List.mem_cons_of_mem _ (List.mem_append_right _ h)) hown hK hP (hts (.fieldLink RX12 177 "TalePlayModel" "objects" "I") (List.mem_cons_of_mem _ (List.mem_append_left _ (List.mem_of_getElem? (i := 0) rfl)))) dX12_giveState_4 ?_
      have rb5_i1 : 0 ≤ (i1 5).toInt ∧ (i1 5).toInt ≤ 30 := hI.1 5
      have re5_i1 : (i1 5).toInt = (i 5).toInt := congrArg Int32.toInt (hfi 5 (by decide +kernel))
      refine lv_icmp_ge (tgt := 106) hx hb dX12_giveState_7 (by decide +kernel) (fun c2 => ?_) (fun c2 => ?_)
      · have f2 := (ti_le (a := (i1 5).toInt) (b := y1_2.toInt) rfl rfl).mp c2
        exact rw_vret (i1, q1, c1, d1) hx hb hr hlocks hS (hK.sub (tys' := []) [] rfl) hP hD dX12_giveState_106 ⟨trivial, hI, fr_w hfi (by decide +kernel), fr_w hfc (by decide +kernel), (show GB (c1 23) (c1 24) (c 51) (c 52) s1.toInt.toNat (i 5).toInt from by rw [show (i 5).toInt = y1_2.toInt by omega]; exact hz1_0), (show GS (c1 25) (c1 26) (c 53) s1.toInt.toNat (i 5).toInt from by rw [show (i 5).toInt = y1_2.toInt by omega]; exact hz1_1)⟩
      · have f2 := mt (ti_le (a := (i1 5).toInt) (b := y1_2.toInt) rfl rfl).mpr c2
        have hfc0 := hfc
        refine lv_aload_n hx hb dX12_giveState_10 rfl (lv_at hl 1 rfl) ?_
        refine mget_23 hx hb hts (fun _ h => List.mem_cons_of_mem _ (List.mem_append_right _ h)) hown hK hP (hts (.fieldLink RX12 50 "TalePlayModel" "nForm" "[I") (List.mem_cons_of_mem _ (List.mem_append_left _ (List.mem_of_getElem? (i := 1) rfl)))) dX12_giveState_11 ?_
        refine lv_iload_n hx hb dX12_giveState_14 rfl (lv_at hl 0 rfl) ?_
        refine lv_aload_n hx hb dX12_giveState_15 rfl (lv_at hl 1 rfl) ?_
        refine mget_51 hx hb hts (fun _ h => List.mem_cons_of_mem _ (List.mem_append_right _ h)) hown hK hP (hts (.fieldLink RX12 107 "TalePlayModel" "stateForm" "[B") (List.mem_cons_of_mem _ (List.mem_append_left _ (List.mem_of_getElem? (i := 2) rfl)))) dX12_giveState_16 ?_
        refine lv_bipush (v := 30) hx hb dX12_giveState_19 (by decide +kernel) ?_
        refine lv_iload_n hx hb dX12_giveState_21 rfl (lv_at hl 2 rfl) ?_
        refine lv_imul hx hb dX12_giveState_22 ?_
        refine lv_topi (fun x3 ex3 => ?_)
        have tx3 := ti_mul (a := 30) (b := s1.toInt) ex3 (by decide +kernel) rfl (by omega) (by omega)
        refine lv_iload_n hx hb dX12_giveState_23 rfl (lv_at hl 0 rfl) ?_
        refine lv_iadd hx hb dX12_giveState_24 ?_
        refine lv_topi (fun x4 ex4 => ?_)
        have tx4 := ti_add (a := (30 * s1.toInt)) (b := y1_2.toInt) ex4 tx3 rfl (by omega) (by omega)
        refine mld_51 hx hb hK hP (vp_in_iff.mpr (by have h9 : x4.toInt = ((30 * s1.toInt) + y1_2.toInt) := tx4; omega)) dX12_giveState_25 (fun x5 ex5 => ?_)
        have rx5 : x5.toInt = -9 ∨ (0 ≤ x5.toInt ∧ x5.toInt ≤ 4) := by rw [ex5]; exact hI.2 51 _
        refine mst_23 hx hb hK hP hD hS (vp_in_iff.mpr (by have h9 : y1_2.toInt = y1_2.toInt := rfl; omega)) dX12_giveState_26 (fun H locs hP hD hS => ?_)
        have hI := mInv_c hI (k := 23) (j := (y1_2 : Int32).toNatClampNeg) (x := x5) (show (x5 : Int32).toInt = -9 ∨ (0 ≤ (x5 : Int32).toInt ∧ (x5 : Int32).toInt ≤ 4) from by omega)
        have hfc := fr_c hfc (k := 23) (j := (y1_2 : Int32).toNatClampNeg) (x := x5) (by decide +kernel)
        refine lv_aload_n hx hb dX12_giveState_27 rfl (lv_at hl 1 rfl) ?_
        refine mget_24 hx hb hts (fun _ h => List.mem_cons_of_mem _ (List.mem_append_right _ h)) hown hK hP (hts (.fieldLink RX12 53 "TalePlayModel" "nAt" "[I") (List.mem_cons_of_mem _ (List.mem_append_left _ (List.mem_of_getElem? (i := 3) rfl)))) dX12_giveState_28 ?_
        refine lv_iload_n hx hb dX12_giveState_31 rfl (lv_at hl 0 rfl) ?_
        refine lv_aload_n hx hb dX12_giveState_32 rfl (lv_at hl 1 rfl) ?_
        refine mget_52 hx hb hts (fun _ h => List.mem_cons_of_mem _ (List.mem_append_right _ h)) hown hK hP (hts (.fieldLink RX12 111 "TalePlayModel" "stateAt" "[B") (List.mem_cons_of_mem _ (List.mem_append_left _ (List.mem_of_getElem? (i := 4) rfl)))) dX12_giveState_33 ?_
        refine lv_bipush (v := 30) hx hb dX12_giveState_36 (by decide +kernel) ?_
        refine lv_iload_n hx hb dX12_giveState_38 rfl (lv_at hl 2 rfl) ?_
        refine lv_imul hx hb dX12_giveState_39 ?_
        refine lv_topi (fun x6 ex6 => ?_)
        have tx6 := ti_mul (a := 30) (b := s1.toInt) ex6 (by decide +kernel) rfl (by omega) (by omega)
        refine lv_iload_n hx hb dX12_giveState_40 rfl (lv_at hl 0 rfl) ?_
        refine lv_iadd hx hb dX12_giveState_41 ?_
        refine lv_topi (fun x7 ex7 => ?_)
        have tx7 := ti_add (a := (30 * s1.toInt)) (b := y1_2.toInt) ex7 tx6 rfl (by omega) (by omega)
        refine mld_52 hx hb hK hP (vp_in_iff.mpr (by have h9 : x7.toInt = ((30 * s1.toInt) + y1_2.toInt) := tx7; omega)) dX12_giveState_42 (fun x8 ex8 => ?_)
        have rx8 : x8.toInt = -9 ∨ (0 ≤ x8.toInt ∧ x8.toInt ≤ 29) := by rw [ex8]; exact hI.2 52 _
        refine mst_24 hx hb hK hP hD hS (vp_in_iff.mpr (by have h9 : y1_2.toInt = y1_2.toInt := rfl; omega)) dX12_giveState_43 (fun H locs hP hD hS => ?_)
        have hI := mInv_c hI (k := 24) (j := (y1_2 : Int32).toNatClampNeg) (x := x8) (show (x8 : Int32).toInt = -9 ∨ (0 ≤ (x8 : Int32).toInt ∧ (x8 : Int32).toInt ≤ 29) from by omega)
        have hfc := fr_c hfc (k := 24) (j := (y1_2 : Int32).toNatClampNeg) (x := x8) (by decide +kernel)
        refine lv_aload_n hx hb dX12_giveState_44 rfl (lv_at hl 1 rfl) ?_
        refine mget_25 hx hb hts (fun _ h => List.mem_cons_of_mem _ (List.mem_append_right _ h)) hown hK hP (hts (.fieldLink RX12 56 "TalePlayModel" "nOpen" "[Z") (List.mem_cons_of_mem _ (List.mem_append_left _ (List.mem_of_getElem? (i := 5) rfl)))) dX12_giveState_45 ?_
        refine lv_iload_n hx hb dX12_giveState_48 rfl (lv_at hl 0 rfl) ?_
        refine lv_aload_n hx hb dX12_giveState_49 rfl (lv_at hl 1 rfl) ?_
        refine mget_53 hx hb hts (fun _ h => List.mem_cons_of_mem _ (List.mem_append_right _ h)) hown hK hP (hts (.fieldLink RX12 114 "TalePlayModel" "stateShut" "[B") (List.mem_cons_of_mem _ (List.mem_append_left _ (List.mem_of_getElem? (i := 6) rfl)))) dX12_giveState_50 ?_
        refine lv_bipush (v := 30) hx hb dX12_giveState_53 (by decide +kernel) ?_
        refine lv_iload_n hx hb dX12_giveState_55 rfl (lv_at hl 2 rfl) ?_
        refine lv_imul hx hb dX12_giveState_56 ?_
        refine lv_topi (fun x9 ex9 => ?_)
        have tx9 := ti_mul (a := 30) (b := s1.toInt) ex9 (by decide +kernel) rfl (by omega) (by omega)
        refine lv_iload_n hx hb dX12_giveState_57 rfl (lv_at hl 0 rfl) ?_
        refine lv_iadd hx hb dX12_giveState_58 ?_
        refine lv_topi (fun x10 ex10 => ?_)
        have tx10 := ti_add (a := (30 * s1.toInt)) (b := y1_2.toInt) ex10 tx9 rfl (by omega) (by omega)
        refine mld_53 hx hb hK hP (vp_in_iff.mpr (by have h9 : x10.toInt = ((30 * s1.toInt) + y1_2.toInt) := tx10; omega)) dX12_giveState_59 (fun x11 ex11 => ?_)
        have rx11 : 0 ≤ x11.toInt ∧ x11.toInt ≤ 3 := by rw [ex11]; exact hI.2 53 _
        have gx11 : (c 53 (x10 : Int32).toNatClampNeg).toInt = x11.toInt := by rw [ex11, show (updA (updA c1 23 (y1_2 : Int32).toNatClampNeg x5) 24 (y1_2 : Int32).toNatClampNeg x8) 53 = c 53 from hfc 53 (by decide +kernel)]
        refine lv_iconst (v := 1) hx hb dX12_giveState_60 (by decide +kernel) ?_
        refine lv_iand hx hb dX12_giveState_61 ?_
        refine lv_topi (fun x12 ex12 => ?_)
        have hA1 := and1 (by omega) ex12
        refine lv_iconst (v := 1) hx hb dX12_giveState_62 (by decide +kernel) ?_
        refine lv_icmp_ne (tgt := 70) hx hb dX12_giveState_63 (by decide +kernel) (fun c13 => ?_) (fun c13 => ?_)
        · have f13 := mt (ti_eq (a := x12.toInt) (b := 1) rfl (by decide +kernel)).mpr c13
          refine lv_iconst (v := 0) hx hb dX12_giveState_70 (by decide +kernel) ?_
          refine mst_25 hx hb hK hP hD hS (vp_in_iff.mpr (by have h9 : y1_2.toInt = y1_2.toInt := rfl; omega)) (nb_z (show 0 ≤ (0 : Int32).toInt ∧ (0 : Int32).toInt ≤ 1 from by decide +kernel)) dX12_giveState_71 (fun H locs hP hD hS => ?_)
          have hI := mInv_c hI (k := 25) (j := (y1_2 : Int32).toNatClampNeg) (x := 0) (show 0 ≤ (0 : Int32).toInt ∧ (0 : Int32).toInt ≤ 1 from by decide +kernel)
          have hfc := fr_c hfc (k := 25) (j := (y1_2 : Int32).toNatClampNeg) (x := 0) (by decide +kernel)
          refine lv_aload_n hx hb dX12_giveState_72 rfl (lv_at hl 1 rfl) ?_
          refine mget_26 hx hb hts (fun _ h => List.mem_cons_of_mem _ (List.mem_append_right _ h)) hown hK hP (hts (.fieldLink RX12 59 "TalePlayModel" "nLocked" "[Z") (List.mem_cons_of_mem _ (List.mem_append_left _ (List.mem_of_getElem? (i := 7) rfl)))) dX12_giveState_73 ?_
          refine lv_iload_n hx hb dX12_giveState_76 rfl (lv_at hl 0 rfl) ?_
          refine lv_aload_n hx hb dX12_giveState_77 rfl (lv_at hl 1 rfl) ?_
          refine mget_53 hx hb hts (fun _ h => List.mem_cons_of_mem _ (List.mem_append_right _ h)) hown hK hP (hts (.fieldLink RX12 114 "TalePlayModel" "stateShut" "[B") (List.mem_cons_of_mem _ (List.mem_append_left _ (List.mem_of_getElem? (i := 6) rfl)))) dX12_giveState_78 ?_
          refine lv_bipush (v := 30) hx hb dX12_giveState_81 (by decide +kernel) ?_
          refine lv_iload_n hx hb dX12_giveState_83 rfl (lv_at hl 2 rfl) ?_
          refine lv_imul hx hb dX12_giveState_84 ?_
          refine lv_topi (fun x14 ex14 => ?_)
          have tx14 := ti_mul (a := 30) (b := s1.toInt) ex14 (by decide +kernel) rfl (by omega) (by omega)
          refine lv_iload_n hx hb dX12_giveState_85 rfl (lv_at hl 0 rfl) ?_
          refine lv_iadd hx hb dX12_giveState_86 ?_
          refine lv_topi (fun x15 ex15 => ?_)
          have tx15 := ti_add (a := (30 * s1.toInt)) (b := y1_2.toInt) ex15 tx14 rfl (by omega) (by omega)
          refine mld_53 hx hb hK hP (vp_in_iff.mpr (by have h9 : x15.toInt = ((30 * s1.toInt) + y1_2.toInt) := tx15; omega)) dX12_giveState_87 (fun x16 ex16 => ?_)
          have rx16 : 0 ≤ x16.toInt ∧ x16.toInt ≤ 3 := by rw [ex16]; exact hI.2 53 _
          have gx16 : (c 53 (x15 : Int32).toNatClampNeg).toInt = x16.toInt := by rw [ex16, show (updA (updA (updA c1 23 (y1_2 : Int32).toNatClampNeg x5) 24 (y1_2 : Int32).toNatClampNeg x8) 25 (y1_2 : Int32).toNatClampNeg 0) 53 = c 53 from hfc 53 (by decide +kernel)]
          refine lv_iconst (v := 2) hx hb dX12_giveState_88 (by decide +kernel) ?_
          refine lv_iand hx hb dX12_giveState_89 ?_
          refine lv_topi (fun x17 ex17 => ?_)
          have hA2 := and2 (by omega) ex17
          refine lv_iconst (v := 2) hx hb dX12_giveState_90 (by decide +kernel) ?_
          refine lv_icmp_ne (tgt := 98) hx hb dX12_giveState_91 (by decide +kernel) (fun c18 => ?_) (fun c18 => ?_)
          · have f18 := mt (ti_eq (a := x17.toInt) (b := 2) rfl (by decide +kernel)).mpr c18
            refine lv_iconst (v := 0) hx hb dX12_giveState_98 (by decide +kernel) ?_
            refine mst_26 hx hb hK hP hD hS (vp_in_iff.mpr (by have h9 : y1_2.toInt = y1_2.toInt := rfl; omega)) (nb_z (show 0 ≤ (0 : Int32).toInt ∧ (0 : Int32).toInt ≤ 1 from by decide +kernel)) dX12_giveState_99 (fun H locs hP hD hS => ?_)
            have hI := mInv_c hI (k := 26) (j := (y1_2 : Int32).toNatClampNeg) (x := 0) (show 0 ≤ (0 : Int32).toInt ∧ (0 : Int32).toInt ≤ 1 from by decide +kernel)
            have hfc := fr_c hfc (k := 26) (j := (y1_2 : Int32).toNatClampNeg) (x := 0) (by decide +kernel)
            obtain ⟨x19, ex19⟩ : ∃ y : Int32, y = y1_2 + 1 := ⟨_, rfl⟩
            have tx19 := ti_add (a := y1_2.toInt) (b := 1) ex19 rfl (by decide +kernel) (by omega) (by omega)
            refine lv_iinc (v := x19) (lv' := [(2, .int x19), (0, .ref o), (1, .int s1)]) hx hb dX12_giveState_100 hl (k := 0) rfl (by rw [ex19]; rfl) (by decide +kernel) rfl (fun ls hl => ?_)
            refine lv_goto (tgt := 2) hx hb dX12_giveState_103 (by decide +kernel) ?_
            exact ih1 i1 q1 (updA (updA (updA (updA c1 23 (y1_2 : Int32).toNatClampNeg x5) 24 (y1_2 : Int32).toNatClampNeg x8) 25 (y1_2 : Int32).toNatClampNeg 0) 26 (y1_2 : Int32).toNatClampNeg 0) d1 x19 hI (fr_w hfi (by decide +kernel)) (fr_w hfc (by decide +kernel)) (show 0 ≤ x19.toInt ∧ x19.toInt ≤ 30 ∧ x19.toInt ≤ (i 5).toInt from by have h50 : x19.toInt = (y1_2.toInt + 1) := tx19; omega) (show GB ((updA (updA (updA (updA c1 23 (y1_2 : Int32).toNatClampNeg x5) 24 (y1_2 : Int32).toNatClampNeg x8) 25 (y1_2 : Int32).toNatClampNeg 0) 26 (y1_2 : Int32).toNatClampNeg 0) 23) ((updA (updA (updA (updA c1 23 (y1_2 : Int32).toNatClampNeg x5) 24 (y1_2 : Int32).toNatClampNeg x8) 25 (y1_2 : Int32).toNatClampNeg 0) 26 (y1_2 : Int32).toNatClampNeg 0) 24) (c 51) (c 52) s1.toInt.toNat x19.toInt from GB_a (T := s1) (a := x4) (b := x7) hz1_0 (by omega) (by omega) tx19 (by have h9 := tx4; omega) (by have h9 := tx7; omega) (Eq.trans (show x5 = c1 51 _ from ex5) (congrFun (hfc0 51 (by decide +kernel)) _)) (Eq.trans (show x8 = c1 52 _ from ex8) (congrFun (hfc0 52 (by decide +kernel)) _))) (show GS ((updA (updA (updA (updA c1 23 (y1_2 : Int32).toNatClampNeg x5) 24 (y1_2 : Int32).toNatClampNeg x8) 25 (y1_2 : Int32).toNatClampNeg 0) 26 (y1_2 : Int32).toNatClampNeg 0) 25) ((updA (updA (updA (updA c1 23 (y1_2 : Int32).toNatClampNeg x5) 24 (y1_2 : Int32).toNatClampNeg x8) 25 (y1_2 : Int32).toNatClampNeg 0) 26 (y1_2 : Int32).toNatClampNeg 0) 26) (c 53) s1.toInt.toNat x19.toInt from GS_a (T := s1) (a := x10) (b := x15) hz1_1 (by omega) (by omega) tx19 (by have h9 := tx10; omega) (by have h9 := tx15; omega) (show ((0 : Int32)).toInt = (c 53 (x10 : Int32).toNatClampNeg).toInt % 2 from by have h9 : (0 : Int32).toInt = 0 := (by decide +kernel); have h8 := gx11; omega) (show ((0 : Int32)).toInt = (c 53 (x15 : Int32).toNatClampNeg).toInt / 2 from by have h9 : (0 : Int32).toInt = 0 := (by decide +kernel); have h8 := gx16; omega)) (by have h50 : x19.toInt = (y1_2.toInt + 1) := tx19; omega) _ _ _ hP hD hS (lv_sub hl [0, 1, 2] rfl)
          · have f18 := (ti_eq (a := x17.toInt) (b := 2) rfl (by decide +kernel)).mp c18
            refine lv_iconst (v := 1) hx hb dX12_giveState_94 (by decide +kernel) ?_
            refine lv_goto (tgt := 99) hx hb dX12_giveState_95 (by decide +kernel) ?_
            refine mst_26 hx hb hK hP hD hS (vp_in_iff.mpr (by have h9 : y1_2.toInt = y1_2.toInt := rfl; omega)) (nb_z (show 0 ≤ (1 : Int32).toInt ∧ (1 : Int32).toInt ≤ 1 from by decide +kernel)) dX12_giveState_99 (fun H locs hP hD hS => ?_)
            have hI := mInv_c hI (k := 26) (j := (y1_2 : Int32).toNatClampNeg) (x := 1) (show 0 ≤ (1 : Int32).toInt ∧ (1 : Int32).toInt ≤ 1 from by decide +kernel)
            have hfc := fr_c hfc (k := 26) (j := (y1_2 : Int32).toNatClampNeg) (x := 1) (by decide +kernel)
            obtain ⟨x20, ex20⟩ : ∃ y : Int32, y = y1_2 + 1 := ⟨_, rfl⟩
            have tx20 := ti_add (a := y1_2.toInt) (b := 1) ex20 rfl (by decide +kernel) (by omega) (by omega)
            refine lv_iinc (v := x20) (lv' := [(2, .int x20), (0, .ref o), (1, .int s1)]) hx hb dX12_giveState_100 hl (k := 0) rfl (by rw [ex20]; rfl) (by decide +kernel) rfl (fun ls hl => ?_)
            refine lv_goto (tgt := 2) hx hb dX12_giveState_103 (by decide +kernel) ?_
            exact ih1 i1 q1 (updA (updA (updA (updA c1 23 (y1_2 : Int32).toNatClampNeg x5) 24 (y1_2 : Int32).toNatClampNeg x8) 25 (y1_2 : Int32).toNatClampNeg 0) 26 (y1_2 : Int32).toNatClampNeg 1) d1 x20 hI (fr_w hfi (by decide +kernel)) (fr_w hfc (by decide +kernel)) (show 0 ≤ x20.toInt ∧ x20.toInt ≤ 30 ∧ x20.toInt ≤ (i 5).toInt from by have h50 : x20.toInt = (y1_2.toInt + 1) := tx20; omega) (show GB ((updA (updA (updA (updA c1 23 (y1_2 : Int32).toNatClampNeg x5) 24 (y1_2 : Int32).toNatClampNeg x8) 25 (y1_2 : Int32).toNatClampNeg 0) 26 (y1_2 : Int32).toNatClampNeg 1) 23) ((updA (updA (updA (updA c1 23 (y1_2 : Int32).toNatClampNeg x5) 24 (y1_2 : Int32).toNatClampNeg x8) 25 (y1_2 : Int32).toNatClampNeg 0) 26 (y1_2 : Int32).toNatClampNeg 1) 24) (c 51) (c 52) s1.toInt.toNat x20.toInt from GB_a (T := s1) (a := x4) (b := x7) hz1_0 (by omega) (by omega) tx20 (by have h9 := tx4; omega) (by have h9 := tx7; omega) (Eq.trans (show x5 = c1 51 _ from ex5) (congrFun (hfc0 51 (by decide +kernel)) _)) (Eq.trans (show x8 = c1 52 _ from ex8) (congrFun (hfc0 52 (by decide +kernel)) _))) (show GS ((updA (updA (updA (updA c1 23 (y1_2 : Int32).toNatClampNeg x5) 24 (y1_2 : Int32).toNatClampNeg x8) 25 (y1_2 : Int32).toNatClampNeg 0) 26 (y1_2 : Int32).toNatClampNeg 1) 25) ((updA (updA (updA (updA c1 23 (y1_2 : Int32).toNatClampNeg x5) 24 (y1_2 : Int32).toNatClampNeg x8) 25 (y1_2 : Int32).toNatClampNeg 0) 26 (y1_2 : Int32).toNatClampNeg 1) 26) (c 53) s1.toInt.toNat x20.toInt from GS_a (T := s1) (a := x10) (b := x15) hz1_1 (by omega) (by omega) tx20 (by have h9 := tx10; omega) (by have h9 := tx15; omega) (show ((0 : Int32)).toInt = (c 53 (x10 : Int32).toNatClampNeg).toInt % 2 from by have h9 : (0 : Int32).toInt = 0 := (by decide +kernel); have h8 := gx11; omega) (show ((1 : Int32)).toInt = (c 53 (x15 : Int32).toNatClampNeg).toInt / 2 from by have h9 : (1 : Int32).toInt = 1 := (by decide +kernel); have h8 := gx16; omega)) (by have h50 : x20.toInt = (y1_2.toInt + 1) := tx20; omega) _ _ _ hP hD hS (lv_sub hl [0, 1, 2] rfl)
        · have f13 := (ti_eq (a := x12.toInt) (b := 1) rfl (by decide +kernel)).mp c13
          refine lv_iconst (v := 1) hx hb dX12_giveState_66 (by decide +kernel) ?_
          refine lv_goto (tgt := 71) hx hb dX12_giveState_67 (by decide +kernel) ?_
          refine mst_25 hx hb hK hP hD hS (vp_in_iff.mpr (by have h9 : y1_2.toInt = y1_2.toInt := rfl; omega)) (nb_z (show 0 ≤ (1 : Int32).toInt ∧ (1 : Int32).toInt ≤ 1 from by decide +kernel)) dX12_giveState_71 (fun H locs hP hD hS => ?_)
          have hI := mInv_c hI (k := 25) (j := (y1_2 : Int32).toNatClampNeg) (x := 1) (show 0 ≤ (1 : Int32).toInt ∧ (1 : Int32).toInt ≤ 1 from by decide +kernel)
          have hfc := fr_c hfc (k := 25) (j := (y1_2 : Int32).toNatClampNeg) (x := 1) (by decide +kernel)
          refine lv_aload_n hx hb dX12_giveState_72 rfl (lv_at hl 1 rfl) ?_
          refine mget_26 hx hb hts (fun _ h => List.mem_cons_of_mem _ (List.mem_append_right _ h)) hown hK hP (hts (.fieldLink RX12 59 "TalePlayModel" "nLocked" "[Z") (List.mem_cons_of_mem _ (List.mem_append_left _ (List.mem_of_getElem? (i := 7) rfl)))) dX12_giveState_73 ?_
          refine lv_iload_n hx hb dX12_giveState_76 rfl (lv_at hl 0 rfl) ?_
          refine lv_aload_n hx hb dX12_giveState_77 rfl (lv_at hl 1 rfl) ?_
          refine mget_53 hx hb hts (fun _ h => List.mem_cons_of_mem _ (List.mem_append_right _ h)) hown hK hP (hts (.fieldLink RX12 114 "TalePlayModel" "stateShut" "[B") (List.mem_cons_of_mem _ (List.mem_append_left _ (List.mem_of_getElem? (i := 6) rfl)))) dX12_giveState_78 ?_
          refine lv_bipush (v := 30) hx hb dX12_giveState_81 (by decide +kernel) ?_
          refine lv_iload_n hx hb dX12_giveState_83 rfl (lv_at hl 2 rfl) ?_
          refine lv_imul hx hb dX12_giveState_84 ?_
          refine lv_topi (fun x21 ex21 => ?_)
          have tx21 := ti_mul (a := 30) (b := s1.toInt) ex21 (by decide +kernel) rfl (by omega) (by omega)
          refine lv_iload_n hx hb dX12_giveState_85 rfl (lv_at hl 0 rfl) ?_
          refine lv_iadd hx hb dX12_giveState_86 ?_
          refine lv_topi (fun x22 ex22 => ?_)
          have tx22 := ti_add (a := (30 * s1.toInt)) (b := y1_2.toInt) ex22 tx21 rfl (by omega) (by omega)
          refine mld_53 hx hb hK hP (vp_in_iff.mpr (by have h9 : x22.toInt = ((30 * s1.toInt) + y1_2.toInt) := tx22; omega)) dX12_giveState_87 (fun x23 ex23 => ?_)
          have rx23 : 0 ≤ x23.toInt ∧ x23.toInt ≤ 3 := by rw [ex23]; exact hI.2 53 _
          have gx23 : (c 53 (x22 : Int32).toNatClampNeg).toInt = x23.toInt := by rw [ex23, show (updA (updA (updA c1 23 (y1_2 : Int32).toNatClampNeg x5) 24 (y1_2 : Int32).toNatClampNeg x8) 25 (y1_2 : Int32).toNatClampNeg 1) 53 = c 53 from hfc 53 (by decide +kernel)]
          refine lv_iconst (v := 2) hx hb dX12_giveState_88 (by decide +kernel) ?_
          refine lv_iand hx hb dX12_giveState_89 ?_
          refine lv_topi (fun x24 ex24 => ?_)
          have hA2 := and2 (by omega) ex24
          refine lv_iconst (v := 2) hx hb dX12_giveState_90 (by decide +kernel) ?_
          refine lv_icmp_ne (tgt := 98) hx hb dX12_giveState_91 (by decide +kernel) (fun c25 => ?_) (fun c25 => ?_)
          · have f25 := mt (ti_eq (a := x24.toInt) (b := 2) rfl (by decide +kernel)).mpr c25
            refine lv_iconst (v := 0) hx hb dX12_giveState_98 (by decide +kernel) ?_
            refine mst_26 hx hb hK hP hD hS (vp_in_iff.mpr (by have h9 : y1_2.toInt = y1_2.toInt := rfl; omega)) (nb_z (show 0 ≤ (0 : Int32).toInt ∧ (0 : Int32).toInt ≤ 1 from by decide +kernel)) dX12_giveState_99 (fun H locs hP hD hS => ?_)
            have hI := mInv_c hI (k := 26) (j := (y1_2 : Int32).toNatClampNeg) (x := 0) (show 0 ≤ (0 : Int32).toInt ∧ (0 : Int32).toInt ≤ 1 from by decide +kernel)
            have hfc := fr_c hfc (k := 26) (j := (y1_2 : Int32).toNatClampNeg) (x := 0) (by decide +kernel)
            obtain ⟨x26, ex26⟩ : ∃ y : Int32, y = y1_2 + 1 := ⟨_, rfl⟩
            have tx26 := ti_add (a := y1_2.toInt) (b := 1) ex26 rfl (by decide +kernel) (by omega) (by omega)
            refine lv_iinc (v := x26) (lv' := [(2, .int x26), (0, .ref o), (1, .int s1)]) hx hb dX12_giveState_100 hl (k := 0) rfl (by rw [ex26]; rfl) (by decide +kernel) rfl (fun ls hl => ?_)
            refine lv_goto (tgt := 2) hx hb dX12_giveState_103 (by decide +kernel) ?_
            exact ih1 i1 q1 (updA (updA (updA (updA c1 23 (y1_2 : Int32).toNatClampNeg x5) 24 (y1_2 : Int32).toNatClampNeg x8) 25 (y1_2 : Int32).toNatClampNeg 1) 26 (y1_2 : Int32).toNatClampNeg 0) d1 x26 hI (fr_w hfi (by decide +kernel)) (fr_w hfc (by decide +kernel)) (show 0 ≤ x26.toInt ∧ x26.toInt ≤ 30 ∧ x26.toInt ≤ (i 5).toInt from by have h50 : x26.toInt = (y1_2.toInt + 1) := tx26; omega) (show GB ((updA (updA (updA (updA c1 23 (y1_2 : Int32).toNatClampNeg x5) 24 (y1_2 : Int32).toNatClampNeg x8) 25 (y1_2 : Int32).toNatClampNeg 1) 26 (y1_2 : Int32).toNatClampNeg 0) 23) ((updA (updA (updA (updA c1 23 (y1_2 : Int32).toNatClampNeg x5) 24 (y1_2 : Int32).toNatClampNeg x8) 25 (y1_2 : Int32).toNatClampNeg 1) 26 (y1_2 : Int32).toNatClampNeg 0) 24) (c 51) (c 52) s1.toInt.toNat x26.toInt from GB_a (T := s1) (a := x4) (b := x7) hz1_0 (by omega) (by omega) tx26 (by have h9 := tx4; omega) (by have h9 := tx7; omega) (Eq.trans (show x5 = c1 51 _ from ex5) (congrFun (hfc0 51 (by decide +kernel)) _)) (Eq.trans (show x8 = c1 52 _ from ex8) (congrFun (hfc0 52 (by decide +kernel)) _))) (show GS ((updA (updA (updA (updA c1 23 (y1_2 : Int32).toNatClampNeg x5) 24 (y1_2 : Int32).toNatClampNeg x8) 25 (y1_2 : Int32).toNatClampNeg 1) 26 (y1_2 : Int32).toNatClampNeg 0) 25) ((updA (updA (updA (updA c1 23 (y1_2 : Int32).toNatClampNeg x5) 24 (y1_2 : Int32).toNatClampNeg x8) 25 (y1_2 : Int32).toNatClampNeg 1) 26 (y1_2 : Int32).toNatClampNeg 0) 26) (c 53) s1.toInt.toNat x26.toInt from GS_a (T := s1) (a := x10) (b := x22) hz1_1 (by omega) (by omega) tx26 (by have h9 := tx10; omega) (by have h9 := tx22; omega) (show ((1 : Int32)).toInt = (c 53 (x10 : Int32).toNatClampNeg).toInt % 2 from by have h9 : (1 : Int32).toInt = 1 := (by decide +kernel); have h8 := gx11; omega) (show ((0 : Int32)).toInt = (c 53 (x22 : Int32).toNatClampNeg).toInt / 2 from by have h9 : (0 : Int32).toInt = 0 := (by decide +kernel); have h8 := gx23; omega)) (by have h50 : x26.toInt = (y1_2.toInt + 1) := tx26; omega) _ _ _ hP hD hS (lv_sub hl [0, 1, 2] rfl)
          · have f25 := (ti_eq (a := x24.toInt) (b := 2) rfl (by decide +kernel)).mp c25
            refine lv_iconst (v := 1) hx hb dX12_giveState_94 (by decide +kernel) ?_
            refine lv_goto (tgt := 99) hx hb dX12_giveState_95 (by decide +kernel) ?_
            refine mst_26 hx hb hK hP hD hS (vp_in_iff.mpr (by have h9 : y1_2.toInt = y1_2.toInt := rfl; omega)) (nb_z (show 0 ≤ (1 : Int32).toInt ∧ (1 : Int32).toInt ≤ 1 from by decide +kernel)) dX12_giveState_99 (fun H locs hP hD hS => ?_)
            have hI := mInv_c hI (k := 26) (j := (y1_2 : Int32).toNatClampNeg) (x := 1) (show 0 ≤ (1 : Int32).toInt ∧ (1 : Int32).toInt ≤ 1 from by decide +kernel)
            have hfc := fr_c hfc (k := 26) (j := (y1_2 : Int32).toNatClampNeg) (x := 1) (by decide +kernel)
            obtain ⟨x27, ex27⟩ : ∃ y : Int32, y = y1_2 + 1 := ⟨_, rfl⟩
            have tx27 := ti_add (a := y1_2.toInt) (b := 1) ex27 rfl (by decide +kernel) (by omega) (by omega)
            refine lv_iinc (v := x27) (lv' := [(2, .int x27), (0, .ref o), (1, .int s1)]) hx hb dX12_giveState_100 hl (k := 0) rfl (by rw [ex27]; rfl) (by decide +kernel) rfl (fun ls hl => ?_)
            refine lv_goto (tgt := 2) hx hb dX12_giveState_103 (by decide +kernel) ?_
            exact ih1 i1 q1 (updA (updA (updA (updA c1 23 (y1_2 : Int32).toNatClampNeg x5) 24 (y1_2 : Int32).toNatClampNeg x8) 25 (y1_2 : Int32).toNatClampNeg 1) 26 (y1_2 : Int32).toNatClampNeg 1) d1 x27 hI (fr_w hfi (by decide +kernel)) (fr_w hfc (by decide +kernel)) (show 0 ≤ x27.toInt ∧ x27.toInt ≤ 30 ∧ x27.toInt ≤ (i 5).toInt from by have h50 : x27.toInt = (y1_2.toInt + 1) := tx27; omega) (show GB ((updA (updA (updA (updA c1 23 (y1_2 : Int32).toNatClampNeg x5) 24 (y1_2 : Int32).toNatClampNeg x8) 25 (y1_2 : Int32).toNatClampNeg 1) 26 (y1_2 : Int32).toNatClampNeg 1) 23) ((updA (updA (updA (updA c1 23 (y1_2 : Int32).toNatClampNeg x5) 24 (y1_2 : Int32).toNatClampNeg x8) 25 (y1_2 : Int32).toNatClampNeg 1) 26 (y1_2 : Int32).toNatClampNeg 1) 24) (c 51) (c 52) s1.toInt.toNat x27.toInt from GB_a (T := s1) (a := x4) (b := x7) hz1_0 (by omega) (by omega) tx27 (by have h9 := tx4; omega) (by have h9 := tx7; omega) (Eq.trans (show x5 = c1 51 _ from ex5) (congrFun (hfc0 51 (by decide +kernel)) _)) (Eq.trans (show x8 = c1 52 _ from ex8) (congrFun (hfc0 52 (by decide +kernel)) _))) (show GS ((updA (updA (updA (updA c1 23 (y1_2 : Int32).toNatClampNeg x5) 24 (y1_2 : Int32).toNatClampNeg x8) 25 (y1_2 : Int32).toNatClampNeg 1) 26 (y1_2 : Int32).toNatClampNeg 1) 25) ((updA (updA (updA (updA c1 23 (y1_2 : Int32).toNatClampNeg x5) 24 (y1_2 : Int32).toNatClampNeg x8) 25 (y1_2 : Int32).toNatClampNeg 1) 26 (y1_2 : Int32).toNatClampNeg 1) 26) (c 53) s1.toInt.toNat x27.toInt from GS_a (T := s1) (a := x10) (b := x22) hz1_1 (by omega) (by omega) tx27 (by have h9 := tx10; omega) (by have h9 := tx22; omega) (show ((1 : Int32)).toInt = (c 53 (x10 : Int32).toNatClampNeg).toInt % 2 from by have h9 : (1 : Int32).toInt = 1 := (by decide +kernel); have h8 := gx11; omega) (show ((1 : Int32)).toInt = (c 53 (x22 : Int32).toNatClampNeg).toInt / 2 from by have h9 : (1 : Int32).toInt = 1 := (by decide +kernel); have h8 := gx23; omega)) (by have h50 : x27.toInt = (y1_2.toInt + 1) := tx27; omega) _ _ _ hP hD hS (lv_sub hl [0, 1, 2] rfl)
  exact lp1 _ i q c d (0 : Int32) hI (fr_w hfi (by decide +kernel)) (fr_w hfc (by decide +kernel)) (show 0 ≤ (0 : Int32).toInt ∧ (0 : Int32).toInt ≤ 30 ∧ (0 : Int32).toInt ≤ (i 5).toInt from by have h50 : (0 : Int32).toInt = 0 := (by decide +kernel); omega) (show GB (c 23) (c 24) (c 51) (c 52) s1.toInt.toNat (0 : Int32).toInt from GB_0 (by decide +kernel)) (show GS (c 25) (c 26) (c 53) s1.toInt.toNat (0 : Int32).toInt from GS_0 (by decide +kernel)) (Nat.lt_succ_self _) _ _ _ hP hD hS (lv_sub hl [0, 1, 2] rfl)

