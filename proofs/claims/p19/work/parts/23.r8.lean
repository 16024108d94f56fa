def wm_X12_keepState : List Cond := .code yX12_keepState cX12_keepState 3 none :: (([.fieldLink RX12 177 "TalePlayModel" "objects" "I", .fieldLink RX12 107 "TalePlayModel" "stateForm" "[B", .fieldLink RX12 50 "TalePlayModel" "nForm" "[I", .fieldLink RX12 111 "TalePlayModel" "stateAt" "[B", .fieldLink RX12 53 "TalePlayModel" "nAt" "[I", .fieldLink RX12 114 "TalePlayModel" "stateShut" "[B", .fieldLink RX12 56 "TalePlayModel" "nOpen" "[Z", .fieldLink RX12 59 "TalePlayModel" "nLocked" "[Z"] : List Cond) ++ wsX120)
set_option maxHeartbeats 4000000 in
set_option maxRecDepth 100000 in
theorem s_X12_keepState (l : Launch) (D : va_G) (sz : Nat) (o : Nat) (a : Nat → Nat) (t : Nat → ClassId) (i : Nat → Int32) (q : Int64) (c : Nat → Nat → Int32) (d : Nat → Nat → Int64) (s1 : Int32) (hI : mInv i c) (hs1 : 0 ≤ s1.toInt ∧ s1.toInt ≤ 300) : Met l yX12_keepState wm_X12_keepState ({ frames := 0, cells := 0, slots := 0, locals := 0 }) (va_Pc [.ref o, .int s1] (pB D sz (mW o a t i q c d) (mT t))) (va_Qv (fun (u : MS) => True ∧ mInv u.1 u.2.2.1 ∧ (∀ k, k ∉ ([] : List Nat) → u.1 k = i k) ∧ (∀ k, k ∉ ([51, 52, 53] : List Nat) → u.2.2.1 k = c k) ∧ (RW (u.2.2.1 51) (u.2.2.1 52) (c 51) (c 52) (c 23) (c 24) s1.toInt.toNat (i 5).toInt)) (oC D (va_A (mW o a t i q c d) sz) (fun u : MS => mW o a t u.1 u.2.1 u.2.2.1 u.2.2.2) (fun _ => [])) (va_A (mW o a t i q c d) sz)) 0 0 (va_A (mW o a t i q c d) sz) := by
  refine Met.ofW (cc := cX12_keepState) (maxL := 3) (ret := none) (by decide +kernel) rfl ?_
  intro p e s m args below meth cd s₁ B hml hv
  obtain ⟨rfl, hsz, hP, hK, hD0⟩ := hv
  have hx := B.exec
  have hb := B.bytes
  have hr := B.returns
  have hts := atoms_spec (ws := wm_X12_keepState) B.pre
  have hown : s.vm.findClass RX12 = some m.cls := findClass_of_methodNamed B.named
  have hlocks := B.notSynchronized
  subst hsz
  have hD := hD0.self (sz := s.heap.size)
  generalize hAe : va_A (mW o a t i q c d) s.heap.size = A at hD ⊢
  have hA : ∀ q : Nat, s.heap.size ≤ q → A q := fun q h => by rw [← hAe]; exact Or.inr h
  have hS : va_S A s.heap s.heap [] := va_S.rf
  have hfi : ∀ k, k ∉ ([] : List Nat) → i k = i k := fun _ _ => rfl
  have hfc : ∀ k, k ∉ ([] : List Nat) → c k = c k := fun _ _ => rfl
  have hl := lv_entry ([.ref o, .int s1]) (n := 3) (Nat.le_of_ble_eq_true rfl)
  rw [lg_entry_eq]
  generalize (lg_sl ([.ref o, .int s1]) ++ List.replicate (3 - (lg_sl ([.ref o, .int s1])).length) Slot.unset).toArray = ls at hl ⊢
  have hl : lv_has ls 3 [(0, .ref o), (1, .int s1)] := hl
  have rb5_i : 0 ≤ (i 5).toInt ∧ (i 5).toInt ≤ 30 := hI.1 5
  refine lv_iconst (v := 0) hx hb dX12_keepState_0 (by decide +kernel) ?_
  refine lv_istore_n (lv' := [(2, .int 0), (0, .ref o), (1, .int s1)]) hx hb dX12_keepState_1 rfl hl (by decide +kernel) rfl (fun ls hl => ?_)
  have lp1 : ∀ (fu : Nat) (i1 : Nat → Int32) (q1 : Int64) (c1 : Nat → Nat → Int32) (d1 : Nat → Nat → Int64) (y1_2 : Int32), mInv i1 c1 → (∀ k, k ∉ ([] : List Nat) → i1 k = i k) → (∀ k, k ∉ ([51, 52, 53] : List Nat) → c1 k = c k) → (0 ≤ y1_2.toInt ∧ y1_2.toInt ≤ 30 ∧ y1_2.toInt ≤ (i 5).toInt) → (RW (c1 51) (c1 52) (c 51) (c 52) (c 23) (c 24) s1.toInt.toNat y1_2.toInt) → (30 - y1_2.toInt).toNat < fu → ∀ (H : Heap) (locs : List Loc) (ls : Array Slot), va_P D vwCl (mW o a t i1 q1 c1 d1) H → va_D A (mW o a t i1 q1 c1 d1) → va_S A s.heap H locs → lv_has ls 3 [(2, .int y1_2), (0, .ref o), (1, .int s1)] → W p l e (headSpec wm_X12_keepState ({ frames := 0, cells := 0, slots := 0, locals := 0 })).room s m ([.ref o, .int s1] : List Value).toArray below meth cd H locs 0 0 (MQ below (va_Qv (fun (u : MS) => True ∧ mInv u.1 u.2.2.1 ∧ (∀ k, k ∉ ([] : List Nat) → u.1 k = i k) ∧ (∀ k, k ∉ ([51, 52, 53] : List Nat) → u.2.2.1 k = c k) ∧ (RW (u.2.2.1 51) (u.2.2.1 52) (c 51) (c 52) (c 23) (c 24) s1.toInt.toNat (i 5).toInt)) (oC D A (fun u : MS => mW o a t u.1 u.2.1 u.2.2.1 u.2.2.2) (fun _ => [])) A) ([.ref o, .int s1] : List Value).toArray s 0 0 A) (F0 m 2 ls []) := by
    intro fu
    induction fu with
    | zero => intro i1 q1 c1 d1 y1_2 hI hfi hfc hy1_2 hz1_0 hm; exact absurd hm (Nat.not_lt_zero _)
    | succ fu ih =>
      intro i1 q1 c1 d1 y1_2 hI hfi hfc hy1_2 hz1_0 hm H locs ls hP hD hS hl
      have ih1 := ih
      refine lv_iload_n hx hb dX12_keepState_2 rfl (lv_at hl 0 rfl) ?_
      refine lv_aload_n hx hb dX12_keepState_3 rfl (lv_at hl 1 rfl) ?_
      refine mget_5 (v := (i1 5)) rfl hx hb hts (fun _ h => List.mem_cons_of_mem _ (List.mem_append_right _ h)) hown hK hP (hts (.fieldLink RX12 177 "TalePlayModel" "objects" "I") (List.mem_cons_of_mem _ (List.mem_append_left _ (List.mem_of_getElem? (i := 0) rfl)))) dX12_keepState_4 ?_
      have rb5_i1 : 0 ≤ (i1 5).toInt ∧ (i1 5).toInt ≤ 30 := hI.1 5
      have re5_i1 : (i1 5).toInt = (i 5).toInt := congrArg Int32.toInt (hfi 5 (by decide +kernel))
      refine lv_icmp_ge (tgt := 93) hx hb dX12_keepState_7 (by decide +kernel) (fun c2 => ?_) (fun c2 => ?_)
      · have f2 := (ti_le (a := (i1 5).toInt) (b := y1_2.toInt) rfl rfl).mp c2
        exact rw_vret (i1, q1, c1, d1) hx hb hr hlocks hS (hK.sub (tys' := []) [] rfl) hP hD dX12_keepState_93 ⟨trivial, hI, fr_w hfi (by decide +kernel), fr_w hfc (by decide +kernel), (show RW (c1 51) (c1 52) (c 51) (c 52) (c 23) (c 24) s1.toInt.toNat (i 5).toInt from by rw [show (i 5).toInt = y1_2.toInt by omega]; exact hz1_0)⟩
      · have f2 := mt (ti_le (a := (i1 5).toInt) (b := y1_2.toInt) rfl rfl).mpr c2
        have hfc0 := hfc
        refine lv_aload_n hx hb dX12_keepState_10 rfl (lv_at hl 1 rfl) ?_
        refine mget_51 hx hb hts (fun _ h => List.mem_cons_of_mem _ (List.mem_append_right _ h)) hown hK hP (hts (.fieldLink RX12 107 "TalePlayModel" "stateForm" "[B") (List.mem_cons_of_mem _ (List.mem_append_left _ (List.mem_of_getElem? (i := 1) rfl)))) dX12_keepState_11 ?_
        refine lv_bipush (v := 30) hx hb dX12_keepState_14 (by decide +kernel) ?_
        refine lv_iload_n hx hb dX12_keepState_16 rfl (lv_at hl 2 rfl) ?_
        refine lv_imul hx hb dX12_keepState_17 ?_
        refine lv_topi (fun x3 ex3 => ?_)
        have tx3 := ti_mul (a := 30) (b := s1.toInt) ex3 (by decide +kernel) rfl (by omega) (by omega)
        refine lv_iload_n hx hb dX12_keepState_18 rfl (lv_at hl 0 rfl) ?_
        refine lv_iadd hx hb dX12_keepState_19 ?_
        refine lv_topi (fun x4 ex4 => ?_)
        have tx4 := ti_add (a := (30 * s1.toInt)) (b := y1_2.toInt) ex4 tx3 rfl (by omega) (by omega)
        refine lv_aload_n hx hb dX12_keepState_20 rfl (lv_at hl 1 rfl) ?_
        refine mget_23 hx hb hts (fun _ h => List.mem_cons_of_mem _ (List.mem_append_right _ h)) hown hK hP (hts (.fieldLink RX12 50 "TalePlayModel" "nForm" "[I") (List.mem_cons_of_mem _ (List.mem_append_left _ (List.mem_of_getElem? (i := 2) rfl)))) dX12_keepState_21 ?_
        refine lv_iload_n hx hb dX12_keepState_24 rfl (lv_at hl 0 rfl) ?_
        refine mld_23 hx hb hK hP (vp_in_iff.mpr (by have h9 : y1_2.toInt = y1_2.toInt := rfl; omega)) dX12_keepState_25 (fun x5 ex5 => ?_)
        have rx5 : x5.toInt = -9 ∨ (0 ≤ x5.toInt ∧ x5.toInt ≤ 4) := by rw [ex5]; exact hI.2 23 _
        refine lv_i2b (v := x5) hx hb dX12_keepState_26 (nb_i (show -128 ≤ (x5 : Int32).toInt ∧ (x5 : Int32).toInt ≤ 127 from by omega)) ?_
        refine mst_51 hx hb hK hP hD hS (vp_in_iff.mpr (by have h9 : x4.toInt = ((30 * s1.toInt) + y1_2.toInt) := tx4; omega)) (nb_b (show -128 ≤ (x5 : Int32).toInt ∧ (x5 : Int32).toInt ≤ 127 from by omega)) dX12_keepState_27 (fun H locs hP hD hS => ?_)
        have hI := mInv_c hI (k := 51) (j := (x4 : Int32).toNatClampNeg) (x := x5) (show (x5 : Int32).toInt = -9 ∨ (0 ≤ (x5 : Int32).toInt ∧ (x5 : Int32).toInt ≤ 4) from by omega)
        have hfc := fr_c hfc (k := 51) (j := (x4 : Int32).toNatClampNeg) (x := x5) (by decide +kernel)
        refine lv_aload_n hx hb dX12_keepState_28 rfl (lv_at hl 1 rfl) ?_
        refine mget_52 hx hb hts (fun _ h => List.mem_cons_of_mem _ (List.mem_append_right _ h)) hown hK hP (hts (.fieldLink RX12 111 "TalePlayModel" "stateAt" "[B") (List.mem_cons_of_mem _ (List.mem_append_left _ (List.mem_of_getElem? (i := 3) rfl)))) dX12_keepState_29 ?_
        refine lv_bipush (v := 30) hx hb dX12_keepState_32 (by decide +kernel) ?_
        refine lv_iload_n hx hb dX12_keepState_34 rfl (lv_at hl 2 rfl) ?_
        refine lv_imul hx hb dX12_keepState_35 ?_
        refine lv_topi (fun x6 ex6 => ?_)
        have tx6 := ti_mul (a := 30) (b := s1.toInt) ex6 (by decide +kernel) rfl (by omega) (by omega)
        refine lv_iload_n hx hb dX12_keepState_36 rfl (lv_at hl 0 rfl) ?_
        refine lv_iadd hx hb dX12_keepState_37 ?_
        refine lv_topi (fun x7 ex7 => ?_)
        have tx7 := ti_add (a := (30 * s1.toInt)) (b := y1_2.toInt) ex7 tx6 rfl (by omega) (by omega)
        refine lv_aload_n hx hb dX12_keepState_38 rfl (lv_at hl 1 rfl) ?_
        refine mget_24 hx hb hts (fun _ h => List.mem_cons_of_mem _ (List.mem_append_right _ h)) hown hK hP (hts (.fieldLink RX12 53 "TalePlayModel" "nAt" "[I") (List.mem_cons_of_mem _ (List.mem_append_left _ (List.mem_of_getElem? (i := 4) rfl)))) dX12_keepState_39 ?_
        refine lv_iload_n hx hb dX12_keepState_42 rfl (lv_at hl 0 rfl) ?_
        refine mld_24 hx hb hK hP (vp_in_iff.mpr (by have h9 : y1_2.toInt = y1_2.toInt := rfl; omega)) dX12_keepState_43 (fun x8 ex8 => ?_)
        have rx8 : x8.toInt = -9 ∨ (0 ≤ x8.toInt ∧ x8.toInt ≤ 29) := by rw [ex8]; exact hI.2 24 _
        refine lv_i2b (v := x8) hx hb dX12_keepState_44 (nb_i (show -128 ≤ (x8 : Int32).toInt ∧ (x8 : Int32).toInt ≤ 127 from by omega)) ?_
        refine mst_52 hx hb hK hP hD hS (vp_in_iff.mpr (by have h9 : x7.toInt = ((30 * s1.toInt) + y1_2.toInt) := tx7; omega)) (nb_b (show -128 ≤ (x8 : Int32).toInt ∧ (x8 : Int32).toInt ≤ 127 from by omega)) dX12_keepState_45 (fun H locs hP hD hS => ?_)
        have hI := mInv_c hI (k := 52) (j := (x7 : Int32).toNatClampNeg) (x := x8) (show (x8 : Int32).toInt = -9 ∨ (0 ≤ (x8 : Int32).toInt ∧ (x8 : Int32).toInt ≤ 29) from by omega)
        have hfc := fr_c hfc (k := 52) (j := (x7 : Int32).toNatClampNeg) (x := x8) (by decide +kernel)
        refine lv_aload_n hx hb dX12_keepState_46 rfl (lv_at hl 1 rfl) ?_
        refine mget_53 hx hb hts (fun _ h => List.mem_cons_of_mem _ (List.mem_append_right _ h)) hown hK hP (hts (.fieldLink RX12 114 "TalePlayModel" "stateShut" "[B") (List.mem_cons_of_mem _ (List.mem_append_left _ (List.mem_of_getElem? (i := 5) rfl)))) dX12_keepState_47 ?_
        refine lv_bipush (v := 30) hx hb dX12_keepState_50 (by decide +kernel) ?_
        refine lv_iload_n hx hb dX12_keepState_52 rfl (lv_at hl 2 rfl) ?_
        refine lv_imul hx hb dX12_keepState_53 ?_
        refine lv_topi (fun x9 ex9 => ?_)
        have tx9 := ti_mul (a := 30) (b := s1.toInt) ex9 (by decide +kernel) rfl (by omega) (by omega)
        refine lv_iload_n hx hb dX12_keepState_54 rfl (lv_at hl 0 rfl) ?_
        refine lv_iadd hx hb dX12_keepState_55 ?_
        refine lv_topi (fun x10 ex10 => ?_)
        have tx10 := ti_add (a := (30 * s1.toInt)) (b := y1_2.toInt) ex10 tx9 rfl (by omega) (by omega)
        refine lv_aload_n hx hb dX12_keepState_56 rfl (lv_at hl 1 rfl) ?_
        refine mget_25 hx hb hts (fun _ h => List.mem_cons_of_mem _ (List.mem_append_right _ h)) hown hK hP (hts (.fieldLink RX12 56 "TalePlayModel" "nOpen" "[Z") (List.mem_cons_of_mem _ (List.mem_append_left _ (List.mem_of_getElem? (i := 6) rfl)))) dX12_keepState_57 ?_
        refine lv_iload_n hx hb dX12_keepState_60 rfl (lv_at hl 0 rfl) ?_
        refine mld_25 hx hb hK hP (vp_in_iff.mpr (by have h9 : y1_2.toInt = y1_2.toInt := rfl; omega)) dX12_keepState_61 (fun x11 ex11 => ?_)
        have rx11 : 0 ≤ x11.toInt ∧ x11.toInt ≤ 1 := by rw [ex11]; exact hI.2 25 _
        have jn12 : ∀ (z12_0 : Int32), (z12_0.toInt = 0 ∨ z12_0.toInt = 1) → ∀ (H : Heap) (locs : List Loc) (ls : Array Slot), va_P D vwCl (mW o a t i1 q1 (updA (updA c1 51 (x4 : Int32).toNatClampNeg x5) 52 (x7 : Int32).toNatClampNeg x8) d1) H → va_D A (mW o a t i1 q1 (updA (updA c1 51 (x4 : Int32).toNatClampNeg x5) 52 (x7 : Int32).toNatClampNeg x8) d1) → va_S A s.heap H locs → lv_has ls 3 [(2, .int y1_2), (0, .ref o), (1, .int s1)] → W p l e (headSpec wm_X12_keepState ({ frames := 0, cells := 0, slots := 0, locals := 0 })).room s m ([.ref o, .int s1] : List Value).toArray below meth cd H locs 0 0 (MQ below (va_Qv (fun (u : MS) => True ∧ mInv u.1 u.2.2.1 ∧ (∀ k, k ∉ ([] : List Nat) → u.1 k = i k) ∧ (∀ k, k ∉ ([51, 52, 53] : List Nat) → u.2.2.1 k = c k) ∧ (RW (u.2.2.1 51) (u.2.2.1 52) (c 51) (c 52) (c 23) (c 24) s1.toInt.toNat (i 5).toInt)) (oC D A (fun u : MS => mW o a t u.1 u.2.1 u.2.2.1 u.2.2.2) (fun _ => [])) A) ([.ref o, .int s1] : List Value).toArray s 0 0 A) (F0 m 70 ls [.int z12_0, .int x10, .ref (a 53)]) := by
          intro z12_0 hs12_0 H locs ls hP hD hS hl
          refine lv_aload_n hx hb dX12_keepState_70 rfl (lv_at hl 1 rfl) ?_
          refine mget_26 hx hb hts (fun _ h => List.mem_cons_of_mem _ (List.mem_append_right _ h)) hown hK hP (hts (.fieldLink RX12 59 "TalePlayModel" "nLocked" "[Z") (List.mem_cons_of_mem _ (List.mem_append_left _ (List.mem_of_getElem? (i := 7) rfl)))) dX12_keepState_71 ?_
          refine lv_iload_n hx hb dX12_keepState_74 rfl (lv_at hl 0 rfl) ?_
          refine mld_26 hx hb hK hP (vp_in_iff.mpr (by have h9 : y1_2.toInt = y1_2.toInt := rfl; omega)) dX12_keepState_75 (fun x13 ex13 => ?_)
          have rx13 : 0 ≤ x13.toInt ∧ x13.toInt ≤ 1 := by rw [ex13]; exact hI.2 26 _
          have jn14 : ∀ (z14_0 : Int32), (z14_0.toInt = 0 ∨ z14_0.toInt = 2) → ∀ (H : Heap) (locs : List Loc) (ls : Array Slot), va_P D vwCl (mW o a t i1 q1 (updA (updA c1 51 (x4 : Int32).toNatClampNeg x5) 52 (x7 : Int32).toNatClampNeg x8) d1) H → va_D A (mW o a t i1 q1 (updA (updA c1 51 (x4 : Int32).toNatClampNeg x5) 52 (x7 : Int32).toNatClampNeg x8) d1) → va_S A s.heap H locs → lv_has ls 3 [(2, .int y1_2), (0, .ref o), (1, .int s1)] → W p l e (headSpec wm_X12_keepState ({ frames := 0, cells := 0, slots := 0, locals := 0 })).room s m ([.ref o, .int s1] : List Value).toArray below meth cd H locs 0 0 (MQ below (va_Qv (fun (u : MS) => True ∧ mInv u.1 u.2.2.1 ∧ (∀ k, k ∉ ([] : List Nat) → u.1 k = i k) ∧ (∀ k, k ∉ ([51, 52, 53] : List Nat) → u.2.2.1 k = c k) ∧ (RW (u.2.2.1 51) (u.2.2.1 52) (c 51) (c 52) (c 23) (c 24) s1.toInt.toNat (i 5).toInt)) (oC D A (fun u : MS => mW o a t u.1 u.2.1 u.2.2.1 u.2.2.2) (fun _ => [])) A) ([.ref o, .int s1] : List Value).toArray s 0 0 A) (F0 m 84 ls [.int z14_0, .int z12_0, .int x10, .ref (a 53)]) := by
            intro z14_0 hs14_0 H locs ls hP hD hS hl
            refine lv_iadd hx hb dX12_keepState_84 ?_
            refine lv_topi (fun x15 ex15 => ?_)
            have tx15 := ti_add (a := z12_0.toInt) (b := z14_0.toInt) ex15 rfl rfl (by omega) (by omega)
            refine lv_i2b (v := x15) hx hb dX12_keepState_85 (nb_i (show -128 ≤ (x15 : Int32).toInt ∧ (x15 : Int32).toInt ≤ 127 from by have h9 : x15.toInt = (z12_0.toInt + z14_0.toInt) := tx15; omega)) ?_
            refine mst_53 hx hb hK hP hD hS (vp_in_iff.mpr (by have h9 : x10.toInt = ((30 * s1.toInt) + y1_2.toInt) := tx10; omega)) (nb_b (show -128 ≤ (x15 : Int32).toInt ∧ (x15 : Int32).toInt ≤ 127 from by have h9 : x15.toInt = (z12_0.toInt + z14_0.toInt) := tx15; omega)) dX12_keepState_86 (fun H locs hP hD hS => ?_)
            have hI := mInv_c hI (k := 53) (j := (x10 : Int32).toNatClampNeg) (x := x15) (show 0 ≤ (x15 : Int32).toInt ∧ (x15 : Int32).toInt ≤ 3 from by have h9 : x15.toInt = (z12_0.toInt + z14_0.toInt) := tx15; omega)
            have hfc := fr_c hfc (k := 53) (j := (x10 : Int32).toNatClampNeg) (x := x15) (by decide +kernel)
            obtain ⟨x16, ex16⟩ : ∃ y : Int32, y = y1_2 + 1 := ⟨_, rfl⟩
            have tx16 := ti_add (a := y1_2.toInt) (b := 1) ex16 rfl (by decide +kernel) (by omega) (by omega)
            refine lv_iinc (v := x16) (lv' := [(2, .int x16), (0, .ref o), (1, .int s1)]) hx hb dX12_keepState_87 hl (k := 0) rfl (by rw [ex16]; rfl) (by decide +kernel) rfl (fun ls hl => ?_)
            refine lv_goto (tgt := 2) hx hb dX12_keepState_90 (by decide +kernel) ?_
            exact ih1 i1 q1 (updA (updA (updA c1 51 (x4 : Int32).toNatClampNeg x5) 52 (x7 : Int32).toNatClampNeg x8) 53 (x10 : Int32).toNatClampNeg x15) d1 x16 hI (fr_w hfi (by decide +kernel)) (fr_w hfc (by decide +kernel)) (show 0 ≤ x16.toInt ∧ x16.toInt ≤ 30 ∧ x16.toInt ≤ (i 5).toInt from by have h50 : x16.toInt = (y1_2.toInt + 1) := tx16; omega) (show RW ((updA (updA (updA c1 51 (x4 : Int32).toNatClampNeg x5) 52 (x7 : Int32).toNatClampNeg x8) 53 (x10 : Int32).toNatClampNeg x15) 51) ((updA (updA (updA c1 51 (x4 : Int32).toNatClampNeg x5) 52 (x7 : Int32).toNatClampNeg x8) 53 (x10 : Int32).toNatClampNeg x15) 52) (c 51) (c 52) (c 23) (c 24) s1.toInt.toNat x16.toInt from RW_a (T := s1) hz1_0 (by omega) (by omega) tx16 (by have h9 := tx4; omega) (by have h9 := tx7; omega) (Eq.trans (show x5 = c1 23 _ from ex5) (congrFun (hfc0 23 (by decide +kernel)) _)) (Eq.trans (show x8 = c1 24 _ from ex8) (congrFun (hfc0 24 (by decide +kernel)) _))) (by have h50 : x16.toInt = (y1_2.toInt + 1) := tx16; omega) _ _ _ hP hD hS (lv_sub hl [0, 1, 2] rfl)
          refine lv_if_eq (tgt := 83) hx hb dX12_keepState_76 (by decide +kernel) (fun c17 => ?_) (fun c17 => ?_)
          · have f17 := (ti_eq (a := x13.toInt) (b := 0) rfl (by decide +kernel)).mp c17
            refine lv_iconst (v := 0) hx hb dX12_keepState_83 (by decide +kernel) ?_
            exact jn14  (0 : Int32) (show (0 : Int32).toInt = 0 ∨ (0 : Int32).toInt = 2 from by decide +kernel) _ _ _ hP hD hS (lv_sub hl [0, 1, 2] rfl)
          · have f17 := mt (ti_eq (a := x13.toInt) (b := 0) rfl (by decide +kernel)).mpr c17
            refine lv_iconst (v := 2) hx hb dX12_keepState_79 (by decide +kernel) ?_
            refine lv_goto (tgt := 84) hx hb dX12_keepState_80 (by decide +kernel) ?_
            exact jn14  (2 : Int32) (show (2 : Int32).toInt = 0 ∨ (2 : Int32).toInt = 2 from by decide +kernel) _ _ _ hP hD hS (lv_sub hl [0, 1, 2] rfl)
        refine lv_if_eq (tgt := 69) hx hb dX12_keepState_62 (by decide +kernel) (fun c18 => ?_) (fun c18 => ?_)
        · have f18 := (ti_eq (a := x11.toInt) (b := 0) rfl (by decide +kernel)).mp c18
          refine lv_iconst (v := 0) hx hb dX12_keepState_69 (by decide +kernel) ?_
          exact jn12  (0 : Int32) (show (0 : Int32).toInt = 0 ∨ (0 : Int32).toInt = 1 from by decide +kernel) _ _ _ hP hD hS (lv_sub hl [0, 1, 2] rfl)
        · have f18 := mt (ti_eq (a := x11.toInt) (b := 0) rfl (by decide +kernel)).mpr c18
          refine lv_iconst (v := 1) hx hb dX12_keepState_65 (by decide +kernel) ?_
          refine lv_goto (tgt := 70) hx hb dX12_keepState_66 (by decide +kernel) ?_
          exact jn12  (1 : Int32) (show (1 : Int32).toInt = 0 ∨ (1 : Int32).toInt = 1 from by decide +kernel) _ _ _ hP hD hS (lv_sub hl [0, 1, 2] rfl)
  exact lp1 _ i q c d (0 : Int32) hI (fr_w hfi (by decide +kernel)) (fr_w hfc (by decide +kernel)) (show 0 ≤ (0 : Int32).toInt ∧ (0 : Int32).toInt ≤ 30 ∧ (0 : Int32).toInt ≤ (i 5).toInt from by have h50 : (0 : Int32).toInt = 0 := (by decide +kernel); omega) (show RW (c 51) (c 52) (c 51) (c 52) (c 23) (c 24) s1.toInt.toNat (0 : Int32).toInt from RW_0 (by decide +kernel)) (Nat.lt_succ_self _) _ _ _ hP hD hS (lv_sub hl [0, 1, 2] rfl)

def wm_X12_giveState : List Cond := .code yX12_giveState cX12_giveState 3 none :: (([.fieldLink RX12 177 "TalePlayModel" "objects" "I", .fieldLink RX12 50 "TalePlayModel" "nForm" "[I", .fieldLink RX12 107 "TalePlayModel" "stateForm" "[B", .fieldLink RX12 53 "TalePlayModel" "nAt" "[I", .fieldLink RX12 111 "TalePlayModel" "stateAt" "[B", .fieldLink RX12 56 "TalePlayModel" "nOpen" "[Z", .fieldLink RX12 114 "TalePlayModel" "stateShut" "[B", .fieldLink RX12 59 "TalePlayModel" "nLocked" "[Z"] : List Cond) ++ wsX120)
set_option maxHeartbeats 4000000 in
set_option maxRecDepth 100000 in
theorem s_X12_giveState (l : Launch) (D : va_G) (sz : Nat) (o : Nat) (a : Nat → Nat) (t : Nat → ClassId) (i : Nat → Int32) (q : Int64) (c : Nat → Nat → Int32) (d : Nat → Nat → Int64) (s1 : Int32) (hI : mInv i c) (hs1 : 0 ≤ s1.toInt ∧ s1.toInt ≤ 300) : Met l yX12_giveState wm_X12_giveState ({ frames := 0, cells := 0, slots := 0, locals := 0 }) (va_Pc [.ref o, .int s1] (pB D sz (mW o a t i q c d) (mT t))) (va_Qv (fun (u : MS) => True ∧ mInv u.1 u.2.2.1 ∧ (∀ k, k ∉ ([] : List Nat) → u.1 k = i k) ∧ (∀ k, k ∉ ([23, 24, 25, 26] : List Nat) → u.2.2.1 k = c k) ∧ (GB (u.2.2.1 23) (u.2.2.1 24) (c 51) (c 52) s1.toInt.toNat (i 5).toInt)) (oC D (va_A (mW o a t i q c d) sz) (fun u : MS => mW o a t u.1 u.2.1 u.2.2.1 u.2.2.2) (fun _ => [])) (va_A (mW o a t i q c d) sz)) 0 0 (va_A (mW o a t i q c d) sz) := by
  refine Met.ofW (cc := cX12_giveState) (maxL := 3) (ret := none) (by decide +kernel) rfl ?_
  intro p e s m args below meth cd s₁ B hml hv
  obtain ⟨rfl, hsz, hP, hK, hD0⟩ := hv
  have hx := B.exec
  have hb := B.bytes
  have hr := B.returns
  have hts := atoms_spec (ws := wm_X12_giveState) B.pre
  have hown : s.vm.findClass RX12 = some m.cls := findClass_of_methodNamed B.named
  have hlocks := B.notSynchronized
  subst hsz
  have hD := hD0.self (sz := s.heap.size)
  generalize hAe : va_A (mW o a t i q c d) s.heap.size = A at hD ⊢
  have hA : ∀ q : Nat, s.heap.size ≤ q → A q := fun q h => by rw [← hAe]; exact Or.inr h
  have hS : va_S A s.heap s.heap [] := va_S.rf
  have hfi : ∀ k, k ∉ ([] : List Nat) → i k = i k := fun _ _ => rfl
  have hfc : ∀ k, k ∉ ([] : List Nat) → c k = c k := fun _ _ => rfl
  have hl := lv_entry ([.ref o, .int s1]) (n := 3) (Nat.le_of_ble_eq_true rfl)
  rw [lg_entry_eq]
  generalize (lg_sl ([.ref o, .int s1]) ++ List.replicate (3 - (lg_sl ([.ref o, .int s1])).length) Slot.unset).toArray = ls at hl ⊢
  have hl : lv_has ls 3 [(0, .ref o), (1, .int s1)] := hl
  have rb5_i : 0 ≤ (i 5).toInt ∧ (i 5).toInt ≤ 30 := hI.1 5
  refine lv_iconst (v := 0) hx hb dX12_giveState_0 (by decide +kernel) ?_
  refine lv_istore_n (lv' := [(2, .int 0), (0, .ref o), (1, .int s1)]) hx hb dX12_giveState_1 rfl hl (by decide +kernel) rfl (fun ls hl => ?_)
  have lp1 : ∀ (fu : Nat) (i1 : Nat → Int32) (q1 : Int64) (c1 : Nat → Nat → Int32) (d1 : Nat → Nat → Int64) (y1_2 : Int32), mInv i1 c1 → (∀ k, k ∉ ([] : List Nat) → i1 k = i k) → (∀ k, k ∉ ([23, 24, 25, 26] : List Nat) → c1 k = c k) → (0 ≤ y1_2.toInt ∧ y1_2.toInt ≤ 30 ∧ y1_2.toInt ≤ (i 5).toInt) → (GB (c1 23) (c1 24) (c 51) (c 52) s1.toInt.toNat y1_2.toInt) → (30 - y1_2.toInt).toNat < fu → ∀ (H : Heap) (locs : List Loc) (ls : Array Slot), va_P D vwCl (mW o a t i1 q1 c1 d1) H → va_D A (mW o a t i1 q1 c1 d1) → va_S A s.heap H locs → lv_has ls 3 [(2, .int y1_2), (0, .ref o), (1, .int s1)] → W p l e (headSpec wm_X12_giveState ({ frames := 0, cells := 0, slots := 0, locals := 0 })).room s m ([.ref o, .int s1] : List Value).toArray below meth cd H locs 0 0 (MQ below (va_Qv (fun (u : MS) => True ∧ mInv u.1 u.2.2.1 ∧ (∀ k, k ∉ ([] : List Nat) → u.1 k = i k) ∧ (∀ k, k ∉ ([23, 24, 25, 26] : List Nat) → u.2.2.1 k = c k) ∧ (GB (u.2.2.1 23) (u.2.2.1 24) (c 51) (c 52) s1.toInt.toNat (i 5).toInt)) (oC D A (fun u : MS => mW o a t u.1 u.2.1 u.2.2.1 u.2.2.2) (fun _ => [])) A) ([.ref o, .int s1] : List Value).toArray s 0 0 A) (F0 m 2 ls []) := by
    intro fu
    induction fu with
    | zero => intro i1 q1 c1 d1 y1_2 hI hfi hfc hy1_2 hz1_0 hm; exact absurd hm (Nat.not_lt_zero _)
    | succ fu ih =>
      intro i1 q1 c1 d1 y1_2 hI hfi hfc hy1_2 hz1_0 hm H locs ls hP hD hS hl
      have ih1 := ih
      refine lv_iload_n hx hb dX12_giveState_2 rfl (lv_at hl 0 rfl) ?_
      refine lv_aload_n hx hb dX12_giveState_3 rfl (lv_at hl 1 rfl) ?_
      refine mget_5 (v := (i1 5)) rfl hx hb hts (fun _ h => List.mem_cons_of_mem _ (List.mem_append_right _ h)) hown hK hP (hts (.fieldLink RX12 177 "TalePlayModel" "objects" "I") (List.mem_cons_of_mem _ (List.mem_append_left _ (List.mem_of_getElem? (i := 0) rfl)))) dX12_giveState_4 ?_
      have rb5_i1 : 0 ≤ (i1 5).toInt ∧ (i1 5).toInt ≤ 30 := hI.1 5
      have re5_i1 : (i1 5).toInt = (i 5).toInt := congrArg Int32.toInt (hfi 5 (by decide +kernel))
      refine lv_icmp_ge (tgt := 106) hx hb dX12_giveState_7 (by decide +kernel) (fun c2 => ?_) (fun c2 => ?_)
      · have f2 := (ti_le (a := (i1 5).toInt) (b := y1_2.toInt) rfl rfl).mp c2
        exact rw_vret (i1, q1, c1, d1) hx hb hr hlocks hS (hK.sub (tys' := []) [] rfl) hP hD dX12_giveState_106 ⟨trivial, hI, fr_w hfi (by decide +kernel), fr_w hfc (by decide +kernel), (show GB (c1 23) (c1 24) (c 51) (c 52) s1.toInt.toNat (i 5).toInt from by rw [show (i 5).toInt = y1_2.toInt by omega]; exact hz1_0)⟩
      · have f2 := mt (ti_le (a := (i1 5).toInt) (b := y1_2.toInt) rfl rfl).mpr c2
        have hfc0 := hfc
        refine lv_aload_n hx hb dX12_giveState_10 rfl (lv_at hl 1 rfl) ?_
        refine mget_23 hx hb hts (fun _ h => List.mem_cons_of_mem _ (List.mem_append_right _ h)) hown hK hP (hts (.fieldLink RX12 50 "TalePlayModel" "nForm" "[I") (List.mem_cons_of_mem _ (List.mem_append_left _ (List.mem_of_getElem? (i := 1) rfl)))) dX12_giveState_11 ?_
        refine lv_iload_n hx hb dX12_giveState_14 rfl (lv_at hl 0 rfl) ?_
        refine lv_aload_n hx hb dX12_giveState_15 rfl (lv_at hl 1 rfl) ?_
        refine mget_51 hx hb hts (fun _ h => List.mem_cons_of_mem _ (List.mem_append_right _ h)) hown hK hP (hts (.fieldLink RX12 107 "TalePlayModel" "stateForm" "[B") (List.mem_cons_of_mem _ (List.mem_append_left _ (List.mem_of_getElem? (i := 2) rfl)))) dX12_giveState_16 ?_
        refine lv_bipush (v := 30) hx hb dX12_giveState_19 (by decide +kernel) ?_
        refine lv_iload_n hx hb dX12_giveState_21 rfl (lv_at hl 2 rfl) ?_
        refine lv_imul hx hb dX12_giveState_22 ?_
        refine lv_topi (fun x3 ex3 => ?_)
        have tx3 := ti_mul (a := 30) (b := s1.toInt) ex3 (by decide +kernel) rfl (by omega) (by omega)
        refine lv_iload_n hx hb dX12_giveState_23 rfl (lv_at hl 0 rfl) ?_
        refine lv_iadd hx hb dX12_giveState_24 ?_
        refine lv_topi (fun x4 ex4 => ?_)
        have tx4 := ti_add (a := (30 * s1.toInt)) (b := y1_2.toInt) ex4 tx3 rfl (by omega) (by omega)
        refine mld_51 hx hb hK hP (vp_in_iff.mpr (by have h9 : x4.toInt = ((30 * s1.toInt) + y1_2.toInt) := tx4; omega)) dX12_giveState_25 (fun x5 ex5 => ?_)
        have rx5 : x5.toInt = -9 ∨ (0 ≤ x5.toInt ∧ x5.toInt ≤ 4) := by rw [ex5]; exact hI.2 51 _
        refine mst_23 hx hb hK hP hD hS (vp_in_iff.mpr (by have h9 : y1_2.toInt = y1_2.toInt := rfl; omega)) dX12_giveState_26 (fun H locs hP hD hS => ?_)
        have hI := mInv_c hI (k := 23) (j := (y1_2 : Int32).toNatClampNeg) (x := x5) (show (x5 : Int32).toInt = -9 ∨ (0 ≤ (x5 : Int32).toInt ∧ (x5 : Int32).toInt ≤ 4) from by omega)
        have hfc := fr_c hfc (k := 23) (j := (y1_2 : Int32).toNatClampNeg) (x := x5) (by decide +kernel)
        refine lv_aload_n hx hb dX12_giveState_27 rfl (lv_at hl 1 rfl) ?_
        refine mget_24 hx hb hts (fun _ h => List.mem_cons_of_mem _ (List.mem_append_right _ h)) hown hK hP (hts (.fieldLink RX12 53 "TalePlayModel" "nAt" "[I") (List.mem_cons_of_mem _ (List.mem_append_left _ (List.mem_of_getElem? (i := 3) rfl)))) dX12_giveState_28 ?_
        refine lv_iload_n hx hb dX12_giveState_31 rfl (lv_at hl 0 rfl) ?_
        refine lv_aload_n hx hb dX12_giveState_32 rfl (lv_at hl 1 rfl) ?_
        refine mget_52 hx hb hts (fun _ h => List.mem_cons_of_mem _ (List.mem_append_right _ h)) hown hK hP (hts (.fieldLink RX12 111 "TalePlayModel" "stateAt" "[B") (List.mem_cons_of_mem _ (List.mem_append_left _ (List.mem_of_getElem? (i := 4) rfl)))) dX12_giveState_33 ?_
        refine lv_bipush (v := 30) hx hb dX12_giveState_36 (by decide +kernel) ?_
        refine lv_iload_n hx hb dX12_giveState_38 rfl (lv_at hl 2 rfl) ?_
        refine lv_imul hx hb dX12_giveState_39 ?_
        refine lv_topi (fun x6 ex6 => ?_)
        have tx6 := ti_mul (a := 30) (b := s1.toInt) ex6 (by decide +kernel) rfl (by omega) (by omega)
        refine lv_iload_n hx hb dX12_giveState_40 rfl (lv_at hl 0 rfl) ?_
        refine lv_iadd hx hb dX12_giveState_41 ?_
        refine lv_topi (fun x7 ex7 => ?_)
        have tx7 := ti_add (a := (30 * s1.toInt)) (b := y1_2.toInt) ex7 tx6 rfl (by omega) (by omega)
        refine mld_52 hx hb hK hP (vp_in_iff.mpr (by have h9 : x7.toInt = ((30 * s1.toInt) + y1_2.toInt) := tx7; omega)) dX12_giveState_42 (fun x8 ex8 => ?_)
        have rx8 : x8.toInt = -9 ∨ (0 ≤ x8.toInt ∧ x8.toInt ≤ 29) := by rw [ex8]; exact hI.2 52 _
        refine mst_24 hx hb hK hP hD hS (vp_in_iff.mpr (by have h9 : y1_2.toInt = y1_2.toInt := rfl; omega)) dX12_giveState_43 (fun H locs hP hD hS => ?_)
        have hI := mInv_c hI (k := 24) (j := (y1_2 : Int32).toNatClampNeg) (x := x8) (show (x8 : Int32).toInt = -9 ∨ (0 ≤ (x8 : Int32).toInt ∧ (x8 : Int32).toInt ≤ 29) from by omega)
        have hfc := fr_c hfc (k := 24) (j := (y1_2 : Int32).toNatClampNeg) (x := x8) (by decide +kernel)
        refine lv_aload_n hx hb dX12_giveState_44 rfl (lv_at hl 1 rfl) ?_
        refine mget_25 hx hb hts (fun _ h => List.mem_cons_of_mem _ (List.mem_append_right _ h)) hown hK hP (hts (.fieldLink RX12 56 "TalePlayModel" "nOpen" "[Z") (List.mem_cons_of_mem _ (List.mem_append_left _ (List.mem_of_getElem? (i := 5) rfl)))) dX12_giveState_45 ?_
        refine lv_iload_n hx hb dX12_giveState_48 rfl (lv_at hl 0 rfl) ?_
        refine lv_aload_n hx hb dX12_giveState_49 rfl (lv_at hl 1 rfl) ?_
        refine mget_53 hx hb hts (fun _ h => List.mem_cons_of_mem _ (List.mem_append_right _ h)) hown hK hP (hts (.fieldLink RX12 114 "TalePlayModel" "stateShut" "[B") (List.mem_cons_of_mem _ (List.mem_append_left _ (List.mem_of_getElem? (i := 6) rfl)))) dX12_giveState_50 ?_
        refine lv_bipush (v := 30) hx hb dX12_giveState_53 (by decide +kernel) ?_
        refine lv_iload_n hx hb dX12_giveState_55 rfl (lv_at hl 2 rfl) ?_
        refine lv_imul hx hb dX12_giveState_56 ?_
        refine lv_topi (fun x9 ex9 => ?_)
        have tx9 := ti_mul (a := 30) (b := s1.toInt) ex9 (by decide +kernel) rfl (by omega) (by omega)
        refine lv_iload_n hx hb dX12_giveState_57 rfl (lv_at hl 0 rfl) ?_
        refine lv_iadd hx hb dX12_giveState_58 ?_
        refine lv_topi (fun x10 ex10 => ?_)
        have tx10 := ti_add (a := (30 * s1.toInt)) (b := y1_2.toInt) ex10 tx9 rfl (by omega) (by omega)
        refine mld_53 hx hb hK hP (vp_in_iff.mpr (by have h9 : x10.toInt = ((30 * s1.toInt) + y1_2.toInt) := tx10; omega)) dX12_giveState_59 (fun x11 ex11 => ?_)
        have rx11 : 0 ≤ x11.toInt ∧ x11.toInt ≤ 3 := by rw [ex11]; exact hI.2 53 _
        refine lv_iconst (v := 1) hx hb dX12_giveState_60 (by decide +kernel) ?_
        refine lv_iand hx hb dX12_giveState_61 ?_
        refine lv_topi (fun x12 ex12 => ?_)
        refine lv_iconst (v := 1) hx hb dX12_giveState_62 (by decide +kernel) ?_
        have jn13 : ∀ (z13_0 : Int32), (z13_0.toInt = 0 ∨ z13_0.toInt = 1) → ∀ (H : Heap) (locs : List Loc) (ls : Array Slot), va_P D vwCl (mW o a t i1 q1 (updA (updA c1 23 (y1_2 : Int32).toNatClampNeg x5) 24 (y1_2 : Int32).toNatClampNeg x8) d1) H → va_D A (mW o a t i1 q1 (updA (updA c1 23 (y1_2 : Int32).toNatClampNeg x5) 24 (y1_2 : Int32).toNatClampNeg x8) d1) → va_S A s.heap H locs → lv_has ls 3 [(2, .int y1_2), (0, .ref o), (1, .int s1)] → W p l e (headSpec wm_X12_giveState ({ frames := 0, cells := 0, slots := 0, locals := 0 })).room s m ([.ref o, .int s1] : List Value).toArray below meth cd H locs 0 0 (MQ below (va_Qv (fun (u : MS) => True ∧ mInv u.1 u.2.2.1 ∧ (∀ k, k ∉ ([] : List Nat) → u.1 k = i k) ∧ (∀ k, k ∉ ([23, 24, 25, 26] : List Nat) → u.2.2.1 k = c k) ∧ (GB (u.2.2.1 23) (u.2.2.1 24) (c 51) (c 52) s1.toInt.toNat (i 5).toInt)) (oC D A (fun u : MS => mW o a t u.1 u.2.1 u.2.2.1 u.2.2.2) (fun _ => [])) A) ([.ref o, .int s1] : List Value).toArray s 0 0 A) (F0 m 71 ls [.int z13_0, .int y1_2, .ref (a 25)]) := by
          intro z13_0 hs13_0 H locs ls hP hD hS hl
          refine mst_25 hx hb hK hP hD hS (vp_in_iff.mpr (by have h9 : y1_2.toInt = y1_2.toInt := rfl; omega)) (nb_z (show 0 ≤ (z13_0 : Int32).toInt ∧ (z13_0 : Int32).toInt ≤ 1 from by omega)) dX12_giveState_71 (fun H locs hP hD hS => ?_)
          have hI := mInv_c hI (k := 25) (j := (y1_2 : Int32).toNatClampNeg) (x := z13_0) (show 0 ≤ (z13_0 : Int32).toInt ∧ (z13_0 : Int32).toInt ≤ 1 from by omega)
          have hfc := fr_c hfc (k := 25) (j := (y1_2 : Int32).toNatClampNeg) (x := z13_0) (by decide +kernel)
          refine lv_aload_n hx hb dX12_giveState_72 rfl (lv_at hl 1 rfl) ?_
          refine mget_26 hx hb hts (fun _ h => List.mem_cons_of_mem _ (List.mem_append_right _ h)) hown hK hP (hts (.fieldLink RX12 59 "TalePlayModel" "nLocked" "[Z") (List.mem_cons_of_mem _ (List.mem_append_left _ (List.mem_of_getElem? (i := 7) rfl)))) dX12_giveState_73 ?_
          refine lv_iload_n hx hb dX12_giveState_76 rfl (lv_at hl 0 rfl) ?_
          refine lv_aload_n hx hb dX12_giveState_77 rfl (lv_at hl 1 rfl) ?_
          refine mget_53 hx hb hts (fun _ h => List.mem_cons_of_mem _ (List.mem_append_right _ h)) hown hK hP (hts (.fieldLink RX12 114 "TalePlayModel" "stateShut" "[B") (List.mem_cons_of_mem _ (List.mem_append_left _ (List.mem_of_getElem? (i := 6) rfl)))) dX12_giveState_78 ?_
          refine lv_bipush (v := 30) hx hb dX12_giveState_81 (by decide +kernel) ?_
          refine lv_iload_n hx hb dX12_giveState_83 rfl (lv_at hl 2 rfl) ?_
          refine lv_imul hx hb dX12_giveState_84 ?_
          refine lv_topi (fun x14 ex14 => ?_)
          have tx14 := ti_mul (a := 30) (b := s1.toInt) ex14 (by decide +kernel) rfl (by omega) (by omega)
          refine lv_iload_n hx hb dX12_giveState_85 rfl (lv_at hl 0 rfl) ?_
          refine lv_iadd hx hb dX12_giveState_86 ?_
          refine lv_topi (fun x15 ex15 => ?_)
          have tx15 := ti_add (a := (30 * s1.toInt)) (b := y1_2.toInt) ex15 tx14 rfl (by omega) (by omega)
          refine mld_53 hx hb hK hP (vp_in_iff.mpr (by have h9 : x15.toInt = ((30 * s1.toInt) + y1_2.toInt) := tx15; omega)) dX12_giveState_87 (fun x16 ex16 => ?_)
          have rx16 : 0 ≤ x16.toInt ∧ x16.toInt ≤ 3 := by rw [ex16]; exact hI.2 53 _
          refine lv_iconst (v := 2) hx hb dX12_giveState_88 (by decide +kernel) ?_
          refine lv_iand hx hb dX12_giveState_89 ?_
          refine lv_topi (fun x17 ex17 => ?_)
          refine lv_iconst (v := 2) hx hb dX12_giveState_90 (by decide +kernel) ?_
          have jn18 : ∀ (z18_0 : Int32), (z18_0.toInt = 0 ∨ z18_0.toInt = 1) → ∀ (H : Heap) (locs : List Loc) (ls : Array Slot), va_P D vwCl (mW o a t i1 q1 (updA (updA (updA c1 23 (y1_2 : Int32).toNatClampNeg x5) 24 (y1_2 : Int32).toNatClampNeg x8) 25 (y1_2 : Int32).toNatClampNeg z13_0) d1) H → va_D A (mW o a t i1 q1 (updA (updA (updA c1 23 (y1_2 : Int32).toNatClampNeg x5) 24 (y1_2 : Int32).toNatClampNeg x8) 25 (y1_2 : Int32).toNatClampNeg z13_0) d1) → va_S A s.heap H locs → lv_has ls 3 [(2, .int y1_2), (0, .ref o), (1, .int s1)] → W p l e (headSpec wm_X12_giveState ({ frames := 0, cells := 0, slots := 0, locals := 0 })).room s m ([.ref o, .int s1] : List Value).toArray below meth cd H locs 0 0 (MQ below (va_Qv (fun (u : MS) => True ∧ mInv u.1 u.2.2.1 ∧ (∀ k, k ∉ ([] : List Nat) → u.1 k = i k) ∧ (∀ k, k ∉ ([23, 24, 25, 26] : List Nat) → u.2.2.1 k = c k) ∧ (GB (u.2.2.1 23) (u.2.2.1 24) (c 51) (c 52) s1.toInt.toNat (i 5).toInt)) (oC D A (fun u : MS => mW o a t u.1 u.2.1 u.2.2.1 u.2.2.2) (fun _ => [])) A) ([.ref o, .int s1] : List Value).toArray s 0 0 A) (F0 m 99 ls [.int z18_0, .int y1_2, .ref (a 26)]) := by
            intro z18_0 hs18_0 H locs ls hP hD hS hl
            refine mst_26 hx hb hK hP hD hS (vp_in_iff.mpr (by have h9 : y1_2.toInt = y1_2.toInt := rfl; omega)) (nb_z (show 0 ≤ (z18_0 : Int32).toInt ∧ (z18_0 : Int32).toInt ≤ 1 from by omega)) dX12_giveState_99 (fun H locs hP hD hS => ?_)
            have hI := mInv_c hI (k := 26) (j := (y1_2 : Int32).toNatClampNeg) (x := z18_0) (show 0 ≤ (z18_0 : Int32).toInt ∧ (z18_0 : Int32).toInt ≤ 1 from by omega)
            have hfc := fr_c hfc (k := 26) (j := (y1_2 : Int32).toNatClampNeg) (x := z18_0) (by decide +kernel)
            obtain ⟨x19, ex19⟩ : ∃ y : Int32, y = y1_2 + 1 := ⟨_, rfl⟩
            have tx19 := ti_add (a := y1_2.toInt) (b := 1) ex19 rfl (by decide +kernel) (by omega) (by omega)
            refine lv_iinc (v := x19) (lv' := [(2, .int x19), (0, .ref o), (1, .int s1)]) hx hb dX12_giveState_100 hl (k := 0) rfl (by rw [ex19]; rfl) (by decide +kernel) rfl (fun ls hl => ?_)
            refine lv_goto (tgt := 2) hx hb dX12_giveState_103 (by decide +kernel) ?_
            exact ih1 i1 q1 (updA (updA (updA (updA c1 23 (y1_2 : Int32).toNatClampNeg x5) 24 (y1_2 : Int32).toNatClampNeg x8) 25 (y1_2 : Int32).toNatClampNeg z13_0) 26 (y1_2 : Int32).toNatClampNeg z18_0) d1 x19 hI (fr_w hfi (by decide +kernel)) (fr_w hfc (by decide +kernel)) (show 0 ≤ x19.toInt ∧ x19.toInt ≤ 30 ∧ x19.toInt ≤ (i 5).toInt from by have h50 : x19.toInt = (y1_2.toInt + 1) := tx19; omega) (show GB ((updA (updA (updA (updA c1 23 (y1_2 : Int32).toNatClampNeg x5) 24 (y1_2 : Int32).toNatClampNeg x8) 25 (y1_2 : Int32).toNatClampNeg z13_0) 26 (y1_2 : Int32).toNatClampNeg z18_0) 23) ((updA (updA (updA (updA c1 23 (y1_2 : Int32).toNatClampNeg x5) 24 (y1_2 : Int32).toNatClampNeg x8) 25 (y1_2 : Int32).toNatClampNeg z13_0) 26 (y1_2 : Int32).toNatClampNeg z18_0) 24) (c 51) (c 52) s1.toInt.toNat x19.toInt from GB_a (T := s1) (a := x4) (b := x7) hz1_0 (by omega) (by omega) tx19 (by have h9 := tx4; omega) (by have h9 := tx7; omega) (Eq.trans (show x5 = c1 51 _ from ex5) (congrFun (hfc0 51 (by decide +kernel)) _)) (Eq.trans (show x8 = c1 52 _ from ex8) (congrFun (hfc0 52 (by decide +kernel)) _))) (by have h50 : x19.toInt = (y1_2.toInt + 1) := tx19; omega) _ _ _ hP hD hS (lv_sub hl [0, 1, 2] rfl)
          refine lv_icmp_ne (tgt := 98) hx hb dX12_giveState_91 (by decide +kernel) (fun c20 => ?_) (fun c20 => ?_)
          · have f20 := mt (ti_eq (a := x17.toInt) (b := 2) rfl (by decide +kernel)).mpr c20
            refine lv_iconst (v := 0) hx hb dX12_giveState_98 (by decide +kernel) ?_
            exact jn18  (0 : Int32) (show (0 : Int32).toInt = 0 ∨ (0 : Int32).toInt = 1 from by decide +kernel) _ _ _ hP hD hS (lv_sub hl [0, 1, 2] rfl)
          · have f20 := (ti_eq (a := x17.toInt) (b := 2) rfl (by decide +kernel)).mp c20
            refine lv_iconst (v := 1) hx hb dX12_giveState_94 (by decide +kernel) ?_
            refine lv_goto (tgt := 99) hx hb dX12_giveState_95 (by decide +kernel) ?_
            exact jn18  (1 : Int32) (show (1 : Int32).toInt = 0 ∨ (1 : Int32).toInt = 1 from by decide +kernel) _ _ _ hP hD hS (lv_sub hl [0, 1, 2] rfl)
        refine lv_icmp_ne (tgt := 70) hx hb dX12_giveState_63 (by decide +kernel) (fun c21 => ?_) (fun c21 => ?_)
        · have f21 := mt (ti_eq (a := x12.toInt) (b := 1) rfl (by decide +kernel)).mpr c21
          refine lv_iconst (v := 0) hx hb dX12_giveState_70 (by decide +kernel) ?_
          exact jn13  (0 : Int32) (show (0 : Int32).toInt = 0 ∨ (0 : Int32).toInt = 1 from by decide +kernel) _ _ _ hP hD hS (lv_sub hl [0, 1, 2] rfl)
        · have f21 := (ti_eq (a := x12.toInt) (b := 1) rfl (by decide +kernel)).mp c21
          refine lv_iconst (v := 1) hx hb dX12_giveState_66 (by decide +kernel) ?_
          refine lv_goto (tgt := 71) hx hb dX12_giveState_67 (by decide +kernel) ?_
          exact jn13  (1 : Int32) (show (1 : Int32).toInt = 0 ∨ (1 : Int32).toInt = 1 from by decide +kernel) _ _ _ hP hD hS (lv_sub hl [0, 1, 2] rfl)
  exact lp1 _ i q c d (0 : Int32) hI (fr_w hfi (by decide +kernel)) (fr_w hfc (by decide +kernel)) (show 0 ≤ (0 : Int32).toInt ∧ (0 : Int32).toInt ≤ 30 ∧ (0 : Int32).toInt ≤ (i 5).toInt from by have h50 : (0 : Int32).toInt = 0 := (by decide +kernel); omega) (show GB (c 23) (c 24) (c 51) (c 52) s1.toInt.toNat (0 : Int32).toInt from GB_0 (by decide +kernel)) (Nat.lt_succ_self _) _ _ _ hP hD hS (lv_sub hl [0, 1, 2] rfl)

def wm_X12_found : List Cond := .code yX12_found cX12_found 6 (some .int) :: (([.fieldLink RX12 158 "TalePlayModel" "soughtMany" "I", .fieldLink RX12 117 "TalePlayModel" "stateFrom" "[I", .fieldLink RX12 123 "TalePlayModel" "soughtRow" "[I", .fieldLink RX12 120 "TalePlayModel" "stateAct" "[I"] : List Cond) ++ wsX120)
set_option maxHeartbeats 4000000 in
set_option maxRecDepth 100000 in
theorem s_X12_found (l : Launch) (D : va_G) (sz : Nat) (o : Nat) (a : Nat → Nat) (t : Nat → ClassId) (i : Nat → Int32) (q : Int64) (c : Nat → Nat → Int32) (d : Nat → Nat → Int64) (s1 : Int32) (hI : mInv i c) (hs1 : 0 ≤ s1.toInt ∧ s1.toInt ≤ 299) : Met l yX12_found wm_X12_found ({ frames := 0, cells := 0, slots := 0, locals := 0 }) (va_Pc [.ref o, .int s1] (pB D sz (mW o a t i q c d) (mT t))) (va_Qi (fun (r : Int32) (u : MS) => (0 ≤ r.toInt ∧ r.toInt ≤ 300) ∧ mInv u.1 u.2.2.1 ∧ (∀ k, k ∉ ([57] : List Nat) → u.1 k = i k) ∧ (∀ k, k ∉ ([56] : List Nat) → u.2.2.1 k = c k)) (oC D (va_A (mW o a t i q c d) sz) (fun u : MS => mW o a t u.1 u.2.1 u.2.2.1 u.2.2.2) (fun _ => [])) (va_A (mW o a t i q c d) sz)) 0 0 (va_A (mW o a t i q c d) sz) := by
  refine Met.ofW (cc := cX12_found) (maxL := 6) (ret := (some .int)) (by decide +kernel) rfl ?_
  intro p e s m args below meth cd s₁ B hml hv
  obtain ⟨rfl, hsz, hP, hK, hD0⟩ := hv
  have hx := B.exec
  have hb := B.bytes
  have hr := B.returns
  have hts := atoms_spec (ws := wm_X12_found) B.pre
  have hown : s.vm.findClass RX12 = some m.cls := findClass_of_methodNamed B.named
  have hlocks := B.notSynchronized
  subst hsz
  have hD := hD0.self (sz := s.heap.size)
  generalize hAe : va_A (mW o a t i q c d) s.heap.size = A at hD ⊢
  have hA : ∀ q : Nat, s.heap.size ≤ q → A q := fun q h => by rw [← hAe]; exact Or.inr h
  have hS : va_S A s.heap s.heap [] := va_S.rf
  have hfi : ∀ k, k ∉ ([] : List Nat) → i k = i k := fun _ _ => rfl
  have hfc : ∀ k, k ∉ ([] : List Nat) → c k = c k := fun _ _ => rfl
  have hl := lv_entry ([.ref o, .int s1]) (n := 6) (Nat.le_of_ble_eq_true rfl)
  rw [lg_entry_eq]
  generalize (lg_sl ([.ref o, .int s1]) ++ List.replicate (6 - (lg_sl ([.ref o, .int s1])).length) Slot.unset).toArray = ls at hl ⊢
  have hl : lv_has ls 6 [(0, .ref o), (1, .int s1)] := hl
  have hlf := mI_fr hI
  have hcl : cl (c 54) s1.toInt ≤ s1.toInt.toNat := cF_le hlf 300 s1.toInt
  refine lv_iconst (v := 0) hx hb dX12_found_0 (by decide +kernel) ?_
  refine lv_istore_n (lv' := [(2, .int 0), (0, .ref o), (1, .int s1)]) hx hb dX12_found_1 rfl hl (by decide +kernel) rfl (fun ls hl => ?_)
  refine lv_iload_n hx hb dX12_found_2 rfl (lv_at hl 2 rfl) ?_
  refine lv_istore_n (lv' := [(3, .int s1), (2, .int 0), (0, .ref o), (1, .int s1)]) hx hb dX12_found_3 rfl hl (by decide +kernel) rfl (fun ls hl => ?_)
  have lp1 : ∀ (fu : Nat) (y1_3 : Int32) (y1_2 : Int32), (y1_3.toInt = -9 ∨ (0 ≤ y1_3.toInt ∧ y1_3.toInt ≤ 299)) → (0 ≤ y1_2.toInt ∧ y1_2.toInt ≤ 300) → (y1_2.toInt + ((cl (c 54) y1_3.toInt : Nat) : Int) = ((cl (c 54) s1.toInt : Nat) : Int)) → (y1_3.toInt + 10).toNat < fu → ∀ (H : Heap) (locs : List Loc) (ls : Array Slot), va_P D vwCl (mW o a t i q c d) H → va_D A (mW o a t i q c d) → va_S A s.heap H locs → lv_has ls 6 [(3, .int y1_3), (2, .int y1_2), (0, .ref o), (1, .int s1)] → W p l e (headSpec wm_X12_found ({ frames := 0, cells := 0, slots := 0, locals := 0 })).room s m ([.ref o, .int s1] : List Value).toArray below meth cd H locs 0 0 (MQ below (va_Qi (fun (r : Int32) (u : MS) => (0 ≤ r.toInt ∧ r.toInt ≤ 300) ∧ mInv u.1 u.2.2.1 ∧ (∀ k, k ∉ ([57] : List Nat) → u.1 k = i k) ∧ (∀ k, k ∉ ([56] : List Nat) → u.2.2.1 k = c k)) (oC D A (fun u : MS => mW o a t u.1 u.2.1 u.2.2.1 u.2.2.2) (fun _ => [])) A) ([.ref o, .int s1] : List Value).toArray s 0 0 A) (F0 m 4 ls []) := by
    intro fu
    induction fu with
    | zero => intro y1_3 y1_2 hy1_3 hy1_2 hz1_0 hm; exact absurd hm (Nat.not_lt_zero _)
    | succ fu ih =>
      intro y1_3 y1_2 hy1_3 hy1_2 hz1_0 hm H locs ls hP hD hS hl
      have ih1 := ih
      refine lv_iload_n hx hb dX12_found_4 rfl (lv_at hl 0 rfl) ?_
      refine lv_if_le (tgt := 21) hx hb dX12_found_5 (by decide +kernel) (fun c2 => ?_) (fun c2 => ?_)
      · have f2 := (ti_le (a := y1_3.toInt) (b := 0) rfl (by decide +kernel)).mp c2
        have hc0 : cl (c 54) y1_3.toInt = 0 := cl_0 (by omega)
        refine lv_aload_n hx hb dX12_found_21 rfl (lv_at hl 2 rfl) ?_
        refine lv_iload_n hx hb dX12_found_22 rfl (lv_at hl 1 rfl) ?_
        refine mput_57 hx hb hts (fun _ h => List.mem_cons_of_mem _ (List.mem_append_right _ h)) hown hK hP hD hS (hts (.fieldLink RX12 158 "TalePlayModel" "soughtMany" "I") (List.mem_cons_of_mem _ (List.mem_append_left _ (List.mem_of_getElem? (i := 0) rfl)))) rfl rfl dX12_found_23 (fun H locs hP hD hS => ?_)
        have hI := mInv_i hI (k := 57) (v := y1_2) (show (y1_2 : Int32).toInt = -9 ∨ (0 ≤ (y1_2 : Int32).toInt ∧ (y1_2 : Int32).toInt ≤ 300) from by omega)
        have hfi : ∀ k, k ∉ ([57] : List Nat) → (upd i 57 y1_2) k = i k := fr_iz hfi (by decide +kernel) (by decide +kernel)
        refine lv_iload_n hx hb dX12_found_26 rfl (lv_at hl 1 rfl) ?_
        refine lv_istore_n (lv' := [(3, .int y1_2), (2, .int y1_2), (0, .ref o), (1, .int s1)]) hx hb dX12_found_27 rfl hl (by decide +kernel) rfl (fun ls hl => ?_)
        refine lv_iload_n hx hb dX12_found_28 rfl (lv_at hl 3 rfl) ?_
        refine lv_istore (lv' := [(4, .int s1), (3, .int y1_2), (2, .int y1_2), (0, .ref o), (1, .int s1)]) hx hb dX12_found_29 hl (by decide +kernel) rfl (fun ls hl => ?_)
        have lp3 : ∀ (fu : Nat) (i3 : Nat → Int32) (q3 : Int64) (c3 : Nat → Nat → Int32) (d3 : Nat → Nat → Int64) (y3_4 : Int32) (y3_3 : Int32), mInv i3 c3 → (∀ k, k ∉ ([57] : List Nat) → i3 k = i k) → (∀ k, k ∉ ([56] : List Nat) → c3 k = c k) → (y3_4.toInt = -9 ∨ (0 ≤ y3_4.toInt ∧ y3_4.toInt ≤ 299)) → (0 ≤ y3_3.toInt ∧ y3_3.toInt ≤ 300) → (y3_3.toInt = ((cl (c 54) y3_4.toInt : Nat) : Int)) → (y3_4.toInt + 10).toNat < fu → ∀ (H : Heap) (locs : List Loc) (ls : Array Slot), va_P D vwCl (mW o a t i3 q3 c3 d3) H → va_D A (mW o a t i3 q3 c3 d3) → va_S A s.heap H locs → lv_has ls 6 [(4, .int y3_4), (3, .int y3_3), (2, .int y1_2), (0, .ref o), (1, .int s1)] → W p l e (headSpec wm_X12_found ({ frames := 0, cells := 0, slots := 0, locals := 0 })).room s m ([.ref o, .int s1] : List Value).toArray below meth cd H locs 0 0 (MQ below (va_Qi (fun (r : Int32) (u : MS) => (0 ≤ r.toInt ∧ r.toInt ≤ 300) ∧ mInv u.1 u.2.2.1 ∧ (∀ k, k ∉ ([57] : List Nat) → u.1 k = i k) ∧ (∀ k, k ∉ ([56] : List Nat) → u.2.2.1 k = c k)) (oC D A (fun u : MS => mW o a t u.1 u.2.1 u.2.2.1 u.2.2.2) (fun _ => [])) A) ([.ref o, .int s1] : List Value).toArray s 0 0 A) (F0 m 31 ls []) := by
          intro fu
          induction fu with
          | zero => intro i3 q3 c3 d3 y3_4 y3_3 hI hfi hfc hy3_4 hy3_3 hz3_0 hm; exact absurd hm (Nat.not_lt_zero _)
          | succ fu ih =>
            intro i3 q3 c3 d3 y3_4 y3_3 hI hfi hfc hy3_4 hy3_3 hz3_0 hm H locs ls hP hD hS hl
            have ih3 := ih
            refine lv_iload hx hb dX12_found_31 (lv_at hl 0 rfl) ?_
            refine lv_if_le (tgt := 89) hx hb dX12_found_33 (by decide +kernel) (fun c4 => ?_) (fun c4 => ?_)
            · have f4 := (ti_le (a := y3_4.toInt) (b := 0) rfl (by decide +kernel)).mp c4
              refine lv_iload_n hx hb dX12_found_89 rfl (lv_at hl 2 rfl) ?_
              exact rw_iret (i3, q3, c3, d3) hx hb hr hlocks hS (hK.sub (tys' := []) [] rfl) hP hD dX12_found_90 ⟨(show 0 ≤ y1_2.toInt ∧ y1_2.toInt ≤ 300 from by omega), hI, fr_w hfi (by decide +kernel), fr_w hfc (by decide +kernel)⟩
            · have f4 := mt (ti_le (a := y3_4.toInt) (b := 0) rfl (by decide +kernel)).mpr c4
              have hcp : 1 ≤ cl (c 54) y3_4.toInt := by unfold cl cF; rw [if_neg (by omega)]; omega
              obtain ⟨x5, ex5⟩ : ∃ y : Int32, y = y3_3 + (-1) := ⟨_, rfl⟩
              have tx5 := ti_add (a := y3_3.toInt) (b := (-1)) ex5 rfl (by decide +kernel) (by omega) (by omega)
              refine lv_iinc (v := x5) (lv' := [(3, .int x5), (4, .int y3_4), (2, .int y1_2), (0, .ref o), (1, .int s1)]) hx hb dX12_found_36 hl (k := 1) rfl (by rw [ex5]; rfl) (by decide +kernel) rfl (fun ls hl => ?_)
              refine lv_iconst (v := 0) hx hb dX12_found_39 (by decide +kernel) ?_
              refine lv_istore (lv' := [(5, .int 0), (3, .int x5), (4, .int y3_4), (2, .int y1_2), (0, .ref o), (1, .int s1)]) hx hb dX12_found_40 hl (by decide +kernel) rfl (fun ls hl => ?_)
              have lp6 : ∀ (fu : Nat) (i6 : Nat → Int32) (q6 : Int64) (c6 : Nat → Nat → Int32) (d6 : Nat → Nat → Int64) (y6_5 : Int32), mInv i6 c6 → (∀ k, k ∉ ([57] : List Nat) → i6 k = i k) → (∀ k, k ∉ ([56] : List Nat) → c6 k = c k) → (0 ≤ y6_5.toInt ∧ y6_5.toInt ≤ 3) → (3 - y6_5.toInt).toNat < fu → ∀ (H : Heap) (locs : List Loc) (ls : Array Slot), va_P D vwCl (mW o a t i6 q6 c6 d6) H → va_D A (mW o a t i6 q6 c6 d6) → va_S A s.heap H locs → lv_has ls 6 [(5, .int y6_5), (3, .int x5), (4, .int y3_4), (2, .int y1_2), (0, .ref o), (1, .int s1)] → W p l e (headSpec wm_X12_found ({ frames := 0, cells := 0, slots := 0, locals := 0 })).room s m ([.ref o, .int s1] : List Value).toArray below meth cd H locs 0 0 (MQ below (va_Qi (fun (r : Int32) (u : MS) => (0 ≤ r.toInt ∧ r.toInt ≤ 300) ∧ mInv u.1 u.2.2.1 ∧ (∀ k, k ∉ ([57] : List Nat) → u.1 k = i k) ∧ (∀ k, k ∉ ([56] : List Nat) → u.2.2.1 k = c k)) (oC D A (fun u : MS => mW o a t u.1 u.2.1 u.2.2.1 u.2.2.2) (fun _ => [])) A) ([.ref o, .int s1] : List Value).toArray s 0 0 A) (F0 m 42 ls []) := by
                intro fu
                induction fu with
                | zero => intro i6 q6 c6 d6 y6_5 hI hfi hfc hy6_5 hm; exact absurd hm (Nat.not_lt_zero _)
                | succ fu ih =>
                  intro i6 q6 c6 d6 y6_5 hI hfi hfc hy6_5 hm H locs ls hP hD hS hl
                  have ih6 := ih
                  refine lv_iload hx hb dX12_found_42 (lv_at hl 0 rfl) ?_
                  refine lv_iconst (v := 3) hx hb dX12_found_44 (by decide +kernel) ?_
                  refine lv_icmp_ge (tgt := 77) hx hb dX12_found_45 (by decide +kernel) (fun c7 => ?_) (fun c7 => ?_)
                  · have f7 := (ti_le (a := 3) (b := y6_5.toInt) (by decide +kernel) rfl).mp c7
                    refine lv_aload_n hx hb dX12_found_77 rfl (lv_at hl 4 rfl) ?_
                    refine mget_54 hx hb hts (fun _ h => List.mem_cons_of_mem _ (List.mem_append_right _ h)) hown hK hP (hts (.fieldLink RX12 117 "TalePlayModel" "stateFrom" "[I") (List.mem_cons_of_mem _ (List.mem_append_left _ (List.mem_of_getElem? (i := 1) rfl)))) dX12_found_78 ?_
                    refine lv_iload hx hb dX12_found_81 (lv_at hl 2 rfl) ?_
                    refine mld_54 hx hb hK hP (vp_in_iff.mpr (by have h9 : y3_4.toInt = y3_4.toInt := rfl; omega)) dX12_found_83 (fun x8 ex8 => ?_)
                    have rx8 : x8.toInt = -9 ∨ (0 ≤ x8.toInt ∧ x8.toInt ≤ 299 ∧ (x8.toInt = 0 ∨ x8.toInt < (((y3_4 : Int32).toNatClampNeg : Nat) : Int))) := by rw [ex8]; exact hI.2 54 _
                    have rc8 : (((y3_4 : Int32).toNatClampNeg : Nat) : Int) = (y3_4 : Int32).toInt := cl_nn (by have h9 : y3_4.toInt = y3_4.toInt := rfl; omega)
                    refine lv_istore (lv' := [(4, .int x8), (5, .int y6_5), (3, .int x5), (2, .int y1_2), (0, .ref o), (1, .int s1)]) hx hb dX12_found_84 hl (by decide +kernel) rfl (fun ls hl => ?_)
                    have hcs := cl_s (fr := c 54) hlf (k := y3_4) (y := x8) (by omega) (by omega) (by rw [ex8, show c6 54 = c 54 from hfc 54 (by decide +kernel)])
                    refine lv_goto (tgt := 31) hx hb dX12_found_86 (by decide +kernel) ?_
                    exact ih3 i6 q6 c6 d6 x8 x5 hI (fr_w hfi (by decide +kernel)) (fr_w hfc (by decide +kernel)) (show x8.toInt = -9 ∨ (0 ≤ x8.toInt ∧ x8.toInt ≤ 299) from by have h52 : x5.toInt = (y3_3.toInt + (-1)) := tx5; omega) (show 0 ≤ x5.toInt ∧ x5.toInt ≤ 300 from by have h52 : x5.toInt = (y3_3.toInt + (-1)) := tx5; omega) (show x5.toInt = ((cl (c 54) x8.toInt : Nat) : Int) from by have h52 : x5.toInt = (y3_3.toInt + (-1)) := tx5; omega) (by have h52 : x5.toInt = (y3_3.toInt + (-1)) := tx5; omega) _ _ _ hP hD hS (lv_sub hl [0, 2, 3, 4, 5] rfl)
                  · have f7 := mt (ti_le (a := 3) (b := y6_5.toInt) (by decide +kernel) rfl).mpr c7
                    refine lv_aload_n hx hb dX12_found_48 rfl (lv_at hl 4 rfl) ?_
                    refine mget_56 hx hb hts (fun _ h => List.mem_cons_of_mem _ (List.mem_append_right _ h)) hown hK hP (hts (.fieldLink RX12 123 "TalePlayModel" "soughtRow" "[I") (List.mem_cons_of_mem _ (List.mem_append_left _ (List.mem_of_getElem? (i := 2) rfl)))) dX12_found_49 ?_
                    refine lv_iconst (v := 3) hx hb dX12_found_52 (by decide +kernel) ?_
                    refine lv_iload_n hx hb dX12_found_53 rfl (lv_at hl 1 rfl) ?_
                    refine lv_imul hx hb dX12_found_54 ?_
                    refine lv_topi (fun x9 ex9 => ?_)
                    have tx9 := ti_mul (a := 3) (b := (y3_3.toInt + (-1))) ex9 (by decide +kernel) tx5 (by omega) (by omega)
                    refine lv_iload hx hb dX12_found_55 (lv_at hl 0 rfl) ?_
                    refine lv_iadd hx hb dX12_found_57 ?_
                    refine lv_topi (fun x10 ex10 => ?_)
                    have tx10 := ti_add (a := (3 * (y3_3.toInt + (-1)))) (b := y6_5.toInt) ex10 tx9 rfl (by omega) (by omega)
                    refine lv_aload_n hx hb dX12_found_58 rfl (lv_at hl 4 rfl) ?_
                    refine mget_55 hx hb hts (fun _ h => List.mem_cons_of_mem _ (List.mem_append_right _ h)) hown hK hP (hts (.fieldLink RX12 120 "TalePlayModel" "stateAct" "[I") (List.mem_cons_of_mem _ (List.mem_append_left _ (List.mem_of_getElem? (i := 3) rfl)))) dX12_found_59 ?_
                    refine lv_iconst (v := 3) hx hb dX12_found_62 (by decide +kernel) ?_
                    refine lv_iload hx hb dX12_found_63 (lv_at hl 2 rfl) ?_
                    refine lv_imul hx hb dX12_found_65 ?_
                    refine lv_topi (fun x11 ex11 => ?_)
                    have tx11 := ti_mul (a := 3) (b := y3_4.toInt) ex11 (by decide +kernel) rfl (by omega) (by omega)
                    refine lv_iload hx hb dX12_found_66 (lv_at hl 0 rfl) ?_
                    refine lv_iadd hx hb dX12_found_68 ?_
                    refine lv_topi (fun x12 ex12 => ?_)
                    have tx12 := ti_add (a := (3 * y3_4.toInt)) (b := y6_5.toInt) ex12 tx11 rfl (by omega) (by omega)
                    refine mld_55 hx hb hK hP (vp_in_iff.mpr (by have h9 : x12.toInt = ((3 * y3_4.toInt) + y6_5.toInt) := tx12; omega)) dX12_found_69 (fun x13 ex13 => ?_)
                    have rx13 : 0 ≤ x13.toInt ∧ x13.toInt ≤ 29 := by rw [ex13]; exact hI.2 55 _
                    refine mst_56 hx hb hK hP hD hS (vp_in_iff.mpr (by have h9 : x10.toInt = ((3 * (y3_3.toInt + (-1))) + y6_5.toInt) := tx10; omega)) dX12_found_70 (fun H locs hP hD hS => ?_)
                    have hI := mInv_c hI (k := 56) (j := (x10 : Int32).toNatClampNeg) (x := x13) (show 0 ≤ (x13 : Int32).toInt ∧ (x13 : Int32).toInt ≤ 29 from by omega)
                    have hfc := fr_c hfc (k := 56) (j := (x10 : Int32).toNatClampNeg) (x := x13) (by decide +kernel)
                    obtain ⟨x14, ex14⟩ : ∃ y : Int32, y = y6_5 + 1 := ⟨_, rfl⟩
                    have tx14 := ti_add (a := y6_5.toInt) (b := 1) ex14 rfl (by decide +kernel) (by omega) (by omega)
                    refine lv_iinc (v := x14) (lv' := [(5, .int x14), (3, .int x5), (4, .int y3_4), (2, .int y1_2), (0, .ref o), (1, .int s1)]) hx hb dX12_found_71 hl (k := 0) rfl (by rw [ex14]; rfl) (by decide +kernel) rfl (fun ls hl => ?_)
                    refine lv_goto (tgt := 42) hx hb dX12_found_74 (by decide +kernel) ?_
                    exact ih6 i6 q6 (updA c6 56 (x10 : Int32).toNatClampNeg x13) d6 x14 hI (fr_w hfi (by decide +kernel)) (fr_w hfc (by decide +kernel)) (show 0 ≤ x14.toInt ∧ x14.toInt ≤ 3 from by have h50 : x14.toInt = (y6_5.toInt + 1) := tx14; have h51 : x5.toInt = (y3_3.toInt + (-1)) := tx5; omega) (by have h50 : x14.toInt = (y6_5.toInt + 1) := tx14; have h51 : x5.toInt = (y3_3.toInt + (-1)) := tx5; omega) _ _ _ hP hD hS (lv_sub hl [0, 1, 2, 3, 4, 5] rfl)
              exact lp6 _ i3 q3 c3 d3 (0 : Int32) hI (fr_w hfi (by decide +kernel)) (fr_w hfc (by decide +kernel)) (show 0 ≤ (0 : Int32).toInt ∧ (0 : Int32).toInt ≤ 3 from by have h50 : (0 : Int32).toInt = 0 := (by decide +kernel); have h51 : x5.toInt = (y3_3.toInt + (-1)) := tx5; omega) (Nat.lt_succ_self _) _ _ _ hP hD hS (lv_sub hl [0, 1, 2, 3, 4, 5] rfl)
        exact lp3 _ (upd i 57 y1_2) q c d s1 y1_2 hI (fr_w hfi (by decide +kernel)) (fr_w hfc (by decide +kernel)) (show s1.toInt = -9 ∨ (0 ≤ s1.toInt ∧ s1.toInt ≤ 299) from by omega) (show 0 ≤ y1_2.toInt ∧ y1_2.toInt ≤ 300 from by omega) (show y1_2.toInt = ((cl (c 54) s1.toInt : Nat) : Int) from by omega) (Nat.lt_succ_self _) _ _ _ hP hD hS (lv_sub hl [0, 1, 2, 3, 4] rfl)
      · have f2 := mt (ti_le (a := y1_3.toInt) (b := 0) rfl (by decide +kernel)).mpr c2
        obtain ⟨x15, ex15⟩ : ∃ y : Int32, y = y1_2 + 1 := ⟨_, rfl⟩
        have tx15 := ti_add (a := y1_2.toInt) (b := 1) ex15 rfl (by decide +kernel) (by omega) (by omega)
        refine lv_iinc (v := x15) (lv' := [(2, .int x15), (3, .int y1_3), (0, .ref o), (1, .int s1)]) hx hb dX12_found_8 hl (k := 1) rfl (by rw [ex15]; rfl) (by decide +kernel) rfl (fun ls hl => ?_)
        refine lv_aload_n hx hb dX12_found_11 rfl (lv_at hl 2 rfl) ?_
        refine mget_54 hx hb hts (fun _ h => List.mem_cons_of_mem _ (List.mem_append_right _ h)) hown hK hP (hts (.fieldLink RX12 117 "TalePlayModel" "stateFrom" "[I") (List.mem_cons_of_mem _ (List.mem_append_left _ (List.mem_of_getElem? (i := 1) rfl)))) dX12_found_12 ?_
        refine lv_iload_n hx hb dX12_found_15 rfl (lv_at hl 1 rfl) ?_
        refine mld_54 hx hb hK hP (vp_in_iff.mpr (by have h9 : y1_3.toInt = y1_3.toInt := rfl; omega)) dX12_found_16 (fun x16 ex16 => ?_)
        have rx16 : x16.toInt = -9 ∨ (0 ≤ x16.toInt ∧ x16.toInt ≤ 299 ∧ (x16.toInt = 0 ∨ x16.toInt < (((y1_3 : Int32).toNatClampNeg : Nat) : Int))) := by rw [ex16]; exact hI.2 54 _
        have rc16 : (((y1_3 : Int32).toNatClampNeg : Nat) : Int) = (y1_3 : Int32).toInt := cl_nn (by have h9 : y1_3.toInt = y1_3.toInt := rfl; omega)
        have hcs := cl_s (fr := c 54) hlf (k := y1_3) (by omega) (by omega) ex16
        refine lv_istore_n (lv' := [(3, .int x16), (2, .int x15), (0, .ref o), (1, .int s1)]) hx hb dX12_found_17 rfl hl (by decide +kernel) rfl (fun ls hl => ?_)
        refine lv_goto (tgt := 4) hx hb dX12_found_18 (by decide +kernel) ?_
        exact ih1 x16 x15 (show x16.toInt = -9 ∨ (0 ≤ x16.toInt ∧ x16.toInt ≤ 299) from by have h51 : x15.toInt = (y1_2.toInt + 1) := tx15; omega) (show 0 ≤ x15.toInt ∧ x15.toInt ≤ 300 from by have h51 : x15.toInt = (y1_2.toInt + 1) := tx15; omega) (show x15.toInt + ((cl (c 54) x16.toInt : Nat) : Int) = ((cl (c 54) s1.toInt : Nat) : Int) from by have h51 : x15.toInt = (y1_2.toInt + 1) := tx15; omega) (by have h51 : x15.toInt = (y1_2.toInt + 1) := tx15; omega) _ _ _ hP hD hS (lv_sub hl [0, 1, 2, 3] rfl)
  exact lp1 _ s1 (0 : Int32) (show s1.toInt = -9 ∨ (0 ≤ s1.toInt ∧ s1.toInt ≤ 299) from by have h51 : (0 : Int32).toInt = 0 := (by decide +kernel); omega) (show 0 ≤ (0 : Int32).toInt ∧ (0 : Int32).toInt ≤ 300 from by decide +kernel) (show (0 : Int32).toInt + ((cl (c 54) s1.toInt : Nat) : Int) = ((cl (c 54) s1.toInt : Nat) : Int) from by have h51 : (0 : Int32).toInt = 0 := (by decide +kernel); omega) (Nat.lt_succ_self _) _ _ _ hP hD hS (lv_sub hl [0, 1, 2, 3] rfl)

