def wm_X12_keepState : List Cond := .code yX12_keepState cX12_keepState 3 none :: (([.fieldLink RX12 177 "TalePlayModel" "objects" "I", .fieldLink RX12 107 "TalePlayModel" "stateForm" "[B", .fieldLink RX12 50 "TalePlayModel" "nForm" "[I", .fieldLink RX12 111 "TalePlayModel" "stateAt" "[B", .fieldLink RX12 53 "TalePlayModel" "nAt" "[I", .fieldLink RX12 114 "TalePlayModel" "stateShut" "[B", .fieldLink RX12 56 "TalePlayModel" "nOpen" "[Z", .fieldLink RX12 59 "TalePlayModel" "nLocked" "[Z"] : List Cond) ++ wsX120)
set_option maxHeartbeats 4000000 in
set_option maxRecDepth 100000 in
theorem s_X12_keepState (l : Launch) (D : va_G) (sz : Nat) (o : Nat) (a : Nat → Nat) (t : Nat → ClassId) (i : Nat → Int32) (q : Int64) (c : Nat → Nat → Int32) (d : Nat → Nat → Int64) (s1 : Int32) (hI : mInv i c) (hs1 : 0 ≤ s1.toInt ∧ s1.toInt ≤ 300) : Met l yX12_keepState wm_X12_keepState ({ frames := 0, cells := 0, slots := 0, locals := 0 }) (va_Pc [.ref o, .int s1] (pB D sz (mW o a t i q c d) (mT t))) (va_Qv (fun (u : MS) => True ∧ mInv u.1 u.2.2.1 ∧ (∀ k, k ∉ ([] : List Nat) → u.1 k = i k) ∧ (∀ k, k ∉ ([51, 52, 53] : List Nat) → u.2.2.1 k = c k) ∧ (RW (u.2.2.1 51) (u.2.2.1 52) (c 51) (c 52) (c 23) (c 24) s1.toInt.toNat (i 5).toInt)) (oC D (va_A (mW o a t i q c d) sz) (fun u : MS => mW o a t u.1 u.2.1 u.2.2.1 u.2.2.2) (fun _ => [])) (va_A (mW o a t i q c d) sz)) 0 0 (va_A (mW o a t i q c d) sz) := by
  refine Met.ofW (cc := cX12_keepState) (maxL := 3) (ret := none) (by decide) rfl ?_
  intro p e s m args below meth cd s₁ B hml hv
  obtain ⟨rfl, hsz, hP, hK, hD0⟩ := hv
  have hx := B.exec
  have hb := B.bytes
  have hr := B.returns
  have hts := atoms_spec (ws := wm_X12_keepState) B.pre
  have hown : s.vm.findClass RX12 = some m.cls := findClass_of_methodNamed B.named
  have hlocks := B.notSynchronized
  subst hsz
  have hD := hD0.self (sz := s.heap.size)
  generalize hAe : va_A (mW o a t i q c d) s.heap.size = A at hD ⊢
  have hA : ∀ q : Nat, s.heap.size ≤ q → A q := fun q h => by rw [← hAe]; exact Or.inr h
  have hS : va_S A s.heap s.heap [] := va_S.rf
  have hfi : ∀ k, k ∉ ([] : List Nat) → i k = i k := fun _ _ => rfl
  have hfc : ∀ k, k ∉ ([] : List Nat) → c k = c k := fun _ _ => rfl
  have hl := lv_entry ([.ref o, .int s1]) (n := 3) (Nat.le_of_ble_eq_true rfl)
  rw [lg_entry_eq]
  generalize (lg_sl ([.ref o, .int s1]) ++ List.replicate (3 - (lg_sl ([.ref o, .int s1])).length) Slot.unset).toArray = ls at hl ⊢
  have hl : lv_has ls 3 [(0, .ref o), (1, .int s1)] := hl
  have rb5_i : 0 ≤ (i 5).toInt ∧ (i 5).toInt ≤ 30 := hI.1 5
  refine lv_iconst (v := 0) hx hb dX12_keepState_0 (by decide) ?_
  refine lv_istore_n (lv' := [(2, .int 0), (0, .ref o), (1, .int s1)]) hx hb dX12_keepState_1 rfl hl (by decide) rfl (fun ls hl => ?_)
  have lp1 : ∀ (fu : Nat) (i1 : Nat → Int32) (q1 : Int64) (c1 : Nat → Nat → Int32) (d1 : Nat → Nat → Int64) (y1_2 : Int32), mInv i1 c1 → (∀ k, k ∉ ([] : List Nat) → i1 k = i k) → (∀ k, k ∉ ([51, 52, 53] : List Nat) → c1 k = c k) → (0 ≤ y1_2.toInt ∧ y1_2.toInt ≤ 30 ∧ y1_2.toInt ≤ (i 5).toInt) → (RW (c1 51) (c1 52) (c 51) (c 52) (c 23) (c 24) s1.toInt.toNat y1_2.toInt) → (30 - y1_2.toInt).toNat < fu → ∀ (H : Heap) (locs : List Loc) (ls : Array Slot), va_P D vwCl (mW o a t i1 q1 c1 d1) H → va_D A (mW o a t i1 q1 c1 d1) → va_S A s.heap H locs → lv_has ls 3 [(2, .int y1_2), (0, .ref o), (1, .int s1)] → W p l e (headSpec wm_X12_keepState ({ frames := 0, cells := 0, slots := 0, locals := 0 })).room s m ([.ref o, .int s1] : List Value).toArray below meth cd H locs 0 0 (MQ below (va_Qv (fun (u : MS) => True ∧ mInv u.1 u.2.2.1 ∧ (∀ k, k ∉ ([] : List Nat) → u.1 k = i k) ∧ (∀ k, k ∉ ([51, 52, 53] : List Nat) → u.2.2.1 k = c k) ∧ (RW (u.2.2.1 51) (u.2.2.1 52) (c 51) (c 52) (c 23) (c 24) s1.toInt.toNat (i 5).toInt)) (oC D A (fun u : MS => mW o a t u.1 u.2.1 u.2.2.1 u.2.2.2) (fun _ => [])) A) ([.ref o, .int s1] : List Value).toArray s 0 0 A) (F0 m 2 ls []) := by
    intro fu
    induction fu with
    | zero => intro i1 q1 c1 d1 y1_2 hI hfi hfc hy1_2 hz1_0 hm; exact absurd hm (Nat.not_lt_zero _)
    | succ fu ih =>
      intro i1 q1 c1 d1 y1_2 hI hfi hfc hy1_2 hz1_0 hm H locs ls hP hD hS hl
      have ih1 := ih
      refine lv_iload_n hx hb dX12_keepState_2 rfl (lv_at hl 0 rfl) ?_
      refine lv_aload_n hx hb dX12_keepState_3 rfl (lv_at hl 1 rfl) ?_
      refine mget_5 (v := (i1 5)) rfl hx hb hts (fun _ h => List.mem_cons_of_mem _ (List.mem_append_right _ h)) hown hK hP (hts (.fieldLink RX12 177 "TalePlayModel" "objects" "I") (by decide +kernel)) dX12_keepState_4 ?_
      have rb5_i1 : 0 ≤ (i1 5).toInt ∧ (i1 5).toInt ≤ 30 := hI.1 5
      have re5_i1 : (i1 5).toInt = (i 5).toInt := congrArg Int32.toInt (hfi 5 (by decide))
      refine lv_icmp_ge (tgt := 93) hx hb dX12_keepState_7 (by decide) (fun c2 => ?_) (fun c2 => ?_)
      · have f2 := (ti_le (a := (i1 5).toInt) (b := y1_2.toInt) rfl rfl).mp c2
        exact rw_vret (i1, q1, c1, d1) hx hb hr hlocks hS (hK.sub (tys' := []) [] rfl) hP hD dX12_keepState_93 ⟨trivial, hI, fr_w hfi (by decide), fr_w hfc (by decide), (show RW (c1 51) (c1 52) (c 51) (c 52) (c 23) (c 24) s1.toInt.toNat (i 5).toInt from by rw [show (i 5).toInt = y1_2.toInt by omega]; exact hz1_0)⟩
      · have f2 := mt (ti_le (a := (i1 5).toInt) (b := y1_2.toInt) rfl rfl).mpr c2
        have hfc0 := hfc
        refine lv_aload_n hx hb dX12_keepState_10 rfl (lv_at hl 1 rfl) ?_
        refine mget_51 hx hb hts (fun _ h => List.mem_cons_of_mem _ (List.mem_append_right _ h)) hown hK hP (hts (.fieldLink RX12 107 "TalePlayModel" "stateForm" "[B") (by decide +kernel)) dX12_keepState_11 ?_
        refine lv_bipush (v := 30) hx hb dX12_keepState_14 (by decide) ?_
        refine lv_iload_n hx hb dX12_keepState_16 rfl (lv_at hl 2 rfl) ?_
        refine lv_imul hx hb dX12_keepState_17 ?_
        refine lv_topi (fun x3 ex3 => ?_)
        have tx3 := ti_mul (a := 30) (b := s1.toInt) ex3 (by decide) rfl (by omega) (by omega)
        refine lv_iload_n hx hb dX12_keepState_18 rfl (lv_at hl 0 rfl) ?_
        refine lv_iadd hx hb dX12_keepState_19 ?_
        refine lv_topi (fun x4 ex4 => ?_)
        have tx4 := ti_add (a := (30 * s1.toInt)) (b := y1_2.toInt) ex4 tx3 rfl (by omega) (by omega)
        refine lv_aload_n hx hb dX12_keepState_20 rfl (lv_at hl 1 rfl) ?_
        refine mget_23 hx hb hts (fun _ h => List.mem_cons_of_mem _ (List.mem_append_right _ h)) hown hK hP (hts (.fieldLink RX12 50 "TalePlayModel" "nForm" "[I") (by decide +kernel)) dX12_keepState_21 ?_
        refine lv_iload_n hx hb dX12_keepState_24 rfl (lv_at hl 0 rfl) ?_
        refine mld_23 hx hb hK hP (vp_in_iff.mpr (by have h9 : y1_2.toInt = y1_2.toInt := rfl; omega)) dX12_keepState_25 (fun x5 ex5 => ?_)
        have rx5 : x5.toInt = -9 ∨ (0 ≤ x5.toInt ∧ x5.toInt ≤ 4) := by rw [ex5]; exact hI.2 23 _
        refine lv_i2b (v := x5) hx hb dX12_keepState_26 (nb_i (show -128 ≤ (x5 : Int32).toInt ∧ (x5 : Int32).toInt ≤ 127 from by omega)) ?_
        refine mst_51 hx hb hK hP hD hS (vp_in_iff.mpr (by have h9 : x4.toInt = ((30 * s1.toInt) + y1_2.toInt) := tx4; omega)) (nb_b (show -128 ≤ (x5 : Int32).toInt ∧ (x5 : Int32).toInt ≤ 127 from by omega)) dX12_keepState_27 (fun H locs hP hD hS => ?_)
        have hI := mInv_c hI (k := 51) (j := (x4 : Int32).toNatClampNeg) (x := x5) (show (x5 : Int32).toInt = -9 ∨ (0 ≤ (x5 : Int32).toInt ∧ (x5 : Int32).toInt ≤ 4) from by omega)
        have hfc := fr_c hfc (k := 51) (j := (x4 : Int32).toNatClampNeg) (x := x5) (by decide)
        refine lv_aload_n hx hb dX12_keepState_28 rfl (lv_at hl 1 rfl) ?_
        refine mget_52 hx hb hts (fun _ h => List.mem_cons_of_mem _ (List.mem_append_right _ h)) hown hK hP (hts (.fieldLink RX12 111 "TalePlayModel" "stateAt" "[B") (by decide +kernel)) dX12_keepState_29 ?_
        refine lv_bipush (v := 30) hx hb dX12_keepState_32 (by decide) ?_
        refine lv_iload_n hx hb dX12_keepState_34 rfl (lv_at hl 2 rfl) ?_
        refine lv_imul hx hb dX12_keepState_35 ?_
        refine lv_topi (fun x6 ex6 => ?_)
        have tx6 := ti_mul (a := 30) (b := s1.toInt) ex6 (by decide) rfl (by omega) (by omega)
        refine lv_iload_n hx hb dX12_keepState_36 rfl (lv_at hl 0 rfl) ?_
        refine lv_iadd hx hb dX12_keepState_37 ?_
        refine lv_topi (fun x7 ex7 => ?_)
        have tx7 := ti_add (a := (30 * s1.toInt)) (b := y1_2.toInt) ex7 tx6 rfl (by omega) (by omega)
        refine lv_aload_n hx hb dX12_keepState_38 rfl (lv_at hl 1 rfl) ?_
        refine mget_24 hx hb hts (fun _ h => List.mem_cons_of_mem _ (List.mem_append_right _ h)) hown hK hP (hts (.fieldLink RX12 53 "TalePlayModel" "nAt" "[I") (by decide +kernel)) dX12_keepState_39 ?_
        refine lv_iload_n hx hb dX12_keepState_42 rfl (lv_at hl 0 rfl) ?_
        refine mld_24 hx hb hK hP (vp_in_iff.mpr (by have h9 : y1_2.toInt = y1_2.toInt := rfl; omega)) dX12_keepState_43 (fun x8 ex8 => ?_)
        have rx8 : x8.toInt = -9 ∨ (0 ≤ x8.toInt ∧ x8.toInt ≤ 29) := by rw [ex8]; exact hI.2 24 _
        refine lv_i2b (v := x8) hx hb dX12_keepState_44 (nb_i (show -128 ≤ (x8 : Int32).toInt ∧ (x8 : Int32).toInt ≤ 127 from by omega)) ?_
        refine mst_52 hx hb hK hP hD hS (vp_in_iff.mpr (by have h9 : x7.toInt = ((30 * s1.toInt) + y1_2.toInt) := tx7; omega)) (nb_b (show -128 ≤ (x8 : Int32).toInt ∧ (x8 : Int32).toInt ≤ 127 from by omega)) dX12_keepState_45 (fun H locs hP hD hS => ?_)
        have hI := mInv_c hI (k := 52) (j := (x7 : Int32).toNatClampNeg) (x := x8) (show (x8 : Int32).toInt = -9 ∨ (0 ≤ (x8 : Int32).toInt ∧ (x8 : Int32).toInt ≤ 29) from by omega)
        have hfc := fr_c hfc (k := 52) (j := (x7 : Int32).toNatClampNeg) (x := x8) (by decide)
        refine lv_aload_n hx hb dX12_keepState_46 rfl (lv_at hl 1 rfl) ?_
        refine mget_53 hx hb hts (fun _ h => List.mem_cons_of_mem _ (List.mem_append_right _ h)) hown hK hP (hts (.fieldLink RX12 114 "TalePlayModel" "stateShut" "[B") (by decide +kernel)) dX12_keepState_47 ?_
        refine lv_bipush (v := 30) hx hb dX12_keepState_50 (by decide) ?_
        refine lv_iload_n hx hb dX12_keepState_52 rfl (lv_at hl 2 rfl) ?_
        refine lv_imul hx hb dX12_keepState_53 ?_
        refine lv_topi (fun x9 ex9 => ?_)
        have tx9 := ti_mul (a := 30) (b := s1.toInt) ex9 (by decide) rfl (by omega) (by omega)
        refine lv_iload_n hx hb dX12_keepState_54 rfl (lv_at hl 0 rfl) ?_
        refine lv_iadd hx hb dX12_keepState_55 ?_
        refine lv_topi (fun x10 ex10 => ?_)
        have tx10 := ti_add (a := (30 * s1.toInt)) (b := y1_2.toInt) ex10 tx9 rfl (by omega) (by omega)
        refine lv_aload_n hx hb dX12_keepState_56 rfl (lv_at hl 1 rfl) ?_
        refine mget_25 hx hb hts (fun _ h => List.mem_cons_of_mem _ (List.mem_append_right _ h)) hown hK hP (hts (.fieldLink RX12 56 "TalePlayModel" "nOpen" "[Z") (by decide +kernel)) dX12_keepState_57 ?_
        refine lv_iload_n hx hb dX12_keepState_60 rfl (lv_at hl 0 rfl) ?_
        refine mld_25 hx hb hK hP (vp_in_iff.mpr (by have h9 : y1_2.toInt = y1_2.toInt := rfl; omega)) dX12_keepState_61 (fun x11 ex11 => ?_)
        have rx11 : 0 ≤ x11.toInt ∧ x11.toInt ≤ 1 := by rw [ex11]; exact hI.2 25 _
        have jn12 : ∀ (z12_0 : Int32), (z12_0.toInt = 0 ∨ z12_0.toInt = 1) → ∀ (H : Heap) (locs : List Loc) (ls : Array Slot), va_P D vwCl (mW o a t i1 q1 (updA (updA c1 51 (x4 : Int32).toNatClampNeg x5) 52 (x7 : Int32).toNatClampNeg x8) d1) H → va_D A (mW o a t i1 q1 (updA (updA c1 51 (x4 : Int32).toNatClampNeg x5) 52 (x7 : Int32).toNatClampNeg x8) d1) → va_S A s.heap H locs → lv_has ls 3 [(2, .int y1_2), (0, .ref o), (1, .int s1)] → W p l e (headSpec wm_X12_keepState ({ frames := 0, cells := 0, slots := 0, locals := 0 })).room s m ([.ref o, .int s1] : List Value).toArray below meth cd H locs 0 0 (MQ below (va_Qv (fun (u : MS) => True ∧ mInv u.1 u.2.2.1 ∧ (∀ k, k ∉ ([] : List Nat) → u.1 k = i k) ∧ (∀ k, k ∉ ([51, 52, 53] : List Nat) → u.2.2.1 k = c k) ∧ (RW (u.2.2.1 51) (u.2.2.1 52) (c 51) (c 52) (c 23) (c 24) s1.toInt.toNat (i 5).toInt)) (oC D A (fun u : MS => mW o a t u.1 u.2.1 u.2.2.1 u.2.2.2) (fun _ => [])) A) ([.ref o, .int s1] : List Value).toArray s 0 0 A) (F0 m 70 ls [.int z12_0, .int x10, .ref (a 53)]) := by
          intro z12_0 hs12_0 H locs ls hP hD hS hl
          refine lv_aload_n hx hb dX12_keepState_70 rfl (lv_at hl 1 rfl) ?_
          refine mget_26 hx hb hts (fun _ h => List.mem_cons_of_mem _ (List.mem_append_right _ h)) hown hK hP (hts (.fieldLink RX12 59 "TalePlayModel" "nLocked" "[Z") (by decide +kernel)) dX12_keepState_71 ?_
          refine lv_iload_n hx hb dX12_keepState_74 rfl (lv_at hl 0 rfl) ?_
          refine mld_26 hx hb hK hP (vp_in_iff.mpr (by have h9 : y1_2.toInt = y1_2.toInt := rfl; omega)) dX12_keepState_75 (fun x13 ex13 => ?_)
          have rx13 : 0 ≤ x13.toInt ∧ x13.toInt ≤ 1 := by rw [ex13]; exact hI.2 26 _
          have jn14 : ∀ (z14_0 : Int32), (z14_0.toInt = 0 ∨ z14_0.toInt = 2) → ∀ (H : Heap) (locs : List Loc) (ls : Array Slot), va_P D vwCl (mW o a t i1 q1 (updA (updA c1 51 (x4 : Int32).toNatClampNeg x5) 52 (x7 : Int32).toNatClampNeg x8) d1) H → va_D A (mW o a t i1 q1 (updA (updA c1 51 (x4 : Int32).toNatClampNeg x5) 52 (x7 : Int32).toNatClampNeg x8) d1) → va_S A s.heap H locs → lv_has ls 3 [(2, .int y1_2), (0, .ref o), (1, .int s1)] → W p l e (headSpec wm_X12_keepState ({ frames := 0, cells := 0, slots := 0, locals := 0 })).room s m ([.ref o, .int s1] : List Value).toArray below meth cd H locs 0 0 (MQ below (va_Qv (fun (u : MS) => True ∧ mInv u.1 u.2.2.1 ∧ (∀ k, k ∉ ([] : List Nat) → u.1 k = i k) ∧ (∀ k, k ∉ ([51, 52, 53] : List Nat) → u.2.2.1 k = c k) ∧ (RW (u.2.2.1 51) (u.2.2.1 52) (c 51) (c 52) (c 23) (c 24) s1.toInt.toNat (i 5).toInt)) (oC D A (fun u : MS => mW o a t u.1 u.2.1 u.2.2.1 u.2.2.2) (fun _ => [])) A) ([.ref o, .int s1] : List Value).toArray s 0 0 A) (F0 m 84 ls [.int z14_0, .int z12_0, .int x10, .ref (a 53)]) := by
            intro z14_0 hs14_0 H locs ls hP hD hS hl
            refine lv_iadd hx hb dX12_keepState_84 ?_
            refine lv_topi (fun x15 ex15 => ?_)
            have tx15 := ti_add (a := z12_0.toInt) (b := z14_0.toInt) ex15 rfl rfl (by omega) (by omega)
            refine lv_i2b (v := x15) hx hb dX12_keepState_85 (nb_i (show -128 ≤ (x15 : Int32).toInt ∧ (x15 : Int32).toInt ≤ 127 from by have h9 : x15.toInt = (z12_0.toInt + z14_0.toInt) := tx15; omega)) ?_
            refine mst_53 hx hb hK hP hD hS (vp_in_iff.mpr (by have h9 : x10.toInt = ((30 * s1.toInt) + y1_2.toInt) := tx10; omega)) (nb_b (show -128 ≤ (x15 : Int32).toInt ∧ (x15 : Int32).toInt ≤ 127 from by have h9 : x15.toInt = (z12_0.toInt + z14_0.toInt) := tx15; omega)) dX12_keepState_86 (fun H locs hP hD hS => ?_)
            have hI := mInv_c hI (k := 53) (j := (x10 : Int32).toNatClampNeg) (x := x15) (show 0 ≤ (x15 : Int32).toInt ∧ (x15 : Int32).toInt ≤ 3 from by have h9 : x15.toInt = (z12_0.toInt + z14_0.toInt) := tx15; omega)
            have hfc := fr_c hfc (k := 53) (j := (x10 : Int32).toNatClampNeg) (x := x15) (by decide)
            obtain ⟨x16, ex16⟩ : ∃ y : Int32, y = y1_2 + 1 := ⟨_, rfl⟩
            have tx16 := ti_add (a := y1_2.toInt) (b := 1) ex16 rfl (by decide) (by omega) (by omega)
            refine lv_iinc (v := x16) (lv' := [(2, .int x16), (0, .ref o), (1, .int s1)]) hx hb dX12_keepState_87 hl (k := 0) rfl (by rw [ex16]; rfl) (by decide) rfl (fun ls hl => ?_)
            refine lv_goto (tgt := 2) hx hb dX12_keepState_90 (by decide) ?_
            exact ih1 i1 q1 (updA (updA (updA c1 51 (x4 : Int32).toNatClampNeg x5) 52 (x7 : Int32).toNatClampNeg x8) 53 (x10 : Int32).toNatClampNeg x15) d1 x16 hI (fr_w hfi (by decide)) (fr_w hfc (by decide)) (show 0 ≤ x16.toInt ∧ x16.toInt ≤ 30 ∧ x16.toInt ≤ (i 5).toInt from by have h50 : x16.toInt = (y1_2.toInt + 1) := tx16; omega) (show RW ((updA (updA (updA c1 51 (x4 : Int32).toNatClampNeg x5) 52 (x7 : Int32).toNatClampNeg x8) 53 (x10 : Int32).toNatClampNeg x15) 51) ((updA (updA (updA c1 51 (x4 : Int32).toNatClampNeg x5) 52 (x7 : Int32).toNatClampNeg x8) 53 (x10 : Int32).toNatClampNeg x15) 52) (c 51) (c 52) (c 23) (c 24) s1.toInt.toNat x16.toInt from RW_a (T := s1) hz1_0 (by omega) (by omega) tx16 (by have h9 := tx4; omega) (by have h9 := tx7; omega) (Eq.trans (show x5 = c1 23 _ from ex5) (congrFun (hfc0 23 (by decide)) _)) (Eq.trans (show x8 = c1 24 _ from ex8) (congrFun (hfc0 24 (by decide)) _))) (by have h50 : x16.toInt = (y1_2.toInt + 1) := tx16; omega) _ _ _ hP hD hS (lv_sub hl [0, 1, 2] rfl)
          refine lv_if_eq (tgt := 83) hx hb dX12_keepState_76 (by decide) (fun c17 => ?_) (fun c17 => ?_)
          · have f17 := (ti_eq (a := x13.toInt) (b := 0) rfl (by decide)).mp c17
            refine lv_iconst (v := 0) hx hb dX12_keepState_83 (by decide) ?_
            exact jn14  (0 : Int32) (show (0 : Int32).toInt = 0 ∨ (0 : Int32).toInt = 2 from by have h53 : (0 : Int32).toInt = 0 := (by decide); omega) _ _ _ hP hD hS (lv_sub hl [0, 1, 2] rfl)
          · have f17 := mt (ti_eq (a := x13.toInt) (b := 0) rfl (by decide)).mpr c17
            refine lv_iconst (v := 2) hx hb dX12_keepState_79 (by decide) ?_
            refine lv_goto (tgt := 84) hx hb dX12_keepState_80 (by decide) ?_
            exact jn14  (2 : Int32) (show (2 : Int32).toInt = 0 ∨ (2 : Int32).toInt = 2 from by have h53 : (2 : Int32).toInt = 2 := (by decide); omega) _ _ _ hP hD hS (lv_sub hl [0, 1, 2] rfl)
        refine lv_if_eq (tgt := 69) hx hb dX12_keepState_62 (by decide) (fun c18 => ?_) (fun c18 => ?_)
        · have f18 := (ti_eq (a := x11.toInt) (b := 0) rfl (by decide)).mp c18
          refine lv_iconst (v := 0) hx hb dX12_keepState_69 (by decide) ?_
          exact jn12  (0 : Int32) (show (0 : Int32).toInt = 0 ∨ (0 : Int32).toInt = 1 from by have h53 : (0 : Int32).toInt = 0 := (by decide); omega) _ _ _ hP hD hS (lv_sub hl [0, 1, 2] rfl)
        · have f18 := mt (ti_eq (a := x11.toInt) (b := 0) rfl (by decide)).mpr c18
          refine lv_iconst (v := 1) hx hb dX12_keepState_65 (by decide) ?_
          refine lv_goto (tgt := 70) hx hb dX12_keepState_66 (by decide) ?_
          exact jn12  (1 : Int32) (show (1 : Int32).toInt = 0 ∨ (1 : Int32).toInt = 1 from by have h53 : (1 : Int32).toInt = 1 := (by decide); omega) _ _ _ hP hD hS (lv_sub hl [0, 1, 2] rfl)
  exact lp1 _ i q c d (0 : Int32) hI (fr_w hfi (by decide)) (fr_w hfc (by decide)) (show 0 ≤ (0 : Int32).toInt ∧ (0 : Int32).toInt ≤ 30 ∧ (0 : Int32).toInt ≤ (i 5).toInt from by have h50 : (0 : Int32).toInt = 0 := (by decide); omega) (show RW (c 51) (c 52) (c 51) (c 52) (c 23) (c 24) s1.toInt.toNat (0 : Int32).toInt from RW_0 (by decide)) (Nat.lt_succ_self _) _ _ _ hP hD hS (lv_sub hl [0, 1, 2] rfl)

def wm_X12_giveState : List Cond := .code yX12_giveState cX12_giveState 3 none :: (([.fieldLink RX12 177 "TalePlayModel" "objects" "I", .fieldLink RX12 50 "TalePlayModel" "nForm" "[I", .fieldLink RX12 107 "TalePlayModel" "stateForm" "[B", .fieldLink RX12 53 "TalePlayModel" "nAt" "[I", .fieldLink RX12 111 "TalePlayModel" "stateAt" "[B", .fieldLink RX12 56 "TalePlayModel" "nOpen" "[Z", .fieldLink RX12 114 "TalePlayModel" "stateShut" "[B", .fieldLink RX12 59 "TalePlayModel" "nLocked" "[Z"] : List Cond) ++ wsX120)
set_option maxHeartbeats 4000000 in
set_option maxRecDepth 100000 in
theorem s_X12_giveState (l : Launch) (D : va_G) (sz : Nat) (o : Nat) (a : Nat → Nat) (t : Nat → ClassId) (i : Nat → Int32) (q : Int64) (c : Nat → Nat → Int32) (d : Nat → Nat → Int64) (s1 : Int32) (hI : mInv i c) (hs1 : 0 ≤ s1.toInt ∧ s1.toInt ≤ 300) : Met l yX12_giveState wm_X12_giveState ({ frames := 0, cells := 0, slots := 0, locals := 0 }) (va_Pc [.ref o, .int s1] (pB D sz (mW o a t i q c d) (mT t))) (va_Qv (fun (u : MS) => True ∧ mInv u.1 u.2.2.1 ∧ (∀ k, k ∉ ([] : List Nat) → u.1 k = i k) ∧ (∀ k, k ∉ ([23, 24, 25, 26] : List Nat) → u.2.2.1 k = c k) ∧ (GB (u.2.2.1 23) (u.2.2.1 24) (c 51) (c 52) s1.toInt.toNat (i 5).toInt)) (oC D (va_A (mW o a t i q c d) sz) (fun u : MS => mW o a t u.1 u.2.1 u.2.2.1 u.2.2.2) (fun _ => [])) (va_A (mW o a t i q c d) sz)) 0 0 (va_A (mW o a t i q c d) sz) := by
  refine Met.ofW (cc := cX12_giveState) (maxL := 3) (ret := none) (by decide) rfl ?_
  intro p e s m args below meth cd s₁ B hml hv
  obtain ⟨rfl, hsz, hP, hK, hD0⟩ := hv
  have hx := B.exec
  have hb := B.bytes
  have hr := B.returns
  have hts := atoms_spec (ws := wm_X12_giveState) B.pre
  have hown : s.vm.findClass RX12 = some m.cls := findClass_of_methodNamed B.named
  have hlocks := B.notSynchronized
  subst hsz
  have hD := hD0.self (sz := s.heap.size)
  generalize hAe : va_A (mW o a t i q c d) s.heap.size = A at hD ⊢
  have hA : ∀ q : Nat, s.heap.size ≤ q → A q := fun q h => by rw [← hAe]; exact Or.inr h
  have hS : va_S A s.heap s.heap [] := va_S.rf
  have hfi : ∀ k, k ∉ ([] : List Nat) → i k = i k := fun _ _ => rfl
  have hfc : ∀ k, k ∉ ([] : List Nat) → c k = c k := fun _ _ => rfl
  have hl := lv_entry ([.ref o, .int s1]) (n := 3) (Nat.le_of_ble_eq_true rfl)
  rw [lg_entry_eq]
  generalize (lg_sl ([.ref o, .int s1]) ++ List.replicate (3 - (lg_sl ([.ref o, .int s1])).length) Slot.unset).toArray = ls at hl ⊢
  have hl : lv_has ls 3 [(0, .ref o), (1, .int s1)] := hl
  have rb5_i : 0 ≤ (i 5).toInt ∧ (i 5).toInt ≤ 30 := hI.1 5
  refine lv_iconst (v := 0) hx hb dX12_giveState_0 (by decide) ?_
  refine lv_istore_n (lv' := [(2, .int 0), (0, .ref o), (1, .int s1)]) hx hb dX12_giveState_1 rfl hl (by decide) rfl (fun ls hl => ?_)
  have lp1 : ∀ (fu : Nat) (i1 : Nat → Int32) (q1 : Int64) (c1 : Nat → Nat → Int32) (d1 : Nat → Nat → Int64) (y1_2 : Int32), mInv i1 c1 → (∀ k, k ∉ ([] : List Nat) → i1 k = i k) → (∀ k, k ∉ ([23, 24, 25, 26] : List Nat) → c1 k = c k) → (0 ≤ y1_2.toInt ∧ y1_2.toInt ≤ 30 ∧ y1_2.toInt ≤ (i 5).toInt) → (GB (c1 23) (c1 24) (c 51) (c 52) s1.toInt.toNat y1_2.toInt) → (30 - y1_2.toInt).toNat < fu → ∀ (H : Heap) (locs : List Loc) (ls : Array Slot), va_P D vwCl (mW o a t i1 q1 c1 d1) H → va_D A (mW o a t i1 q1 c1 d1) → va_S A s.heap H locs → lv_has ls 3 [(2, .int y1_2), (0, .ref o), (1, .int s1)] → W p l e (headSpec wm_X12_giveState ({ frames := 0, cells := 0, slots := 0, locals := 0 })).room s m ([.ref o, .int s1] : List Value).toArray below meth cd H locs 0 0 (MQ below (va_Qv (fun (u : MS) => True ∧ mInv u.1 u.2.2.1 ∧ (∀ k, k ∉ ([] : List Nat) → u.1 k = i k) ∧ (∀ k, k ∉ ([23, 24, 25, 26] : List Nat) → u.2.2.1 k = c k) ∧ (GB (u.2.2.1 23) (u.2.2.1 24) (c 51) (c 52) s1.toInt.toNat (i 5).toInt)) (oC D A (fun u : MS => mW o a t u.1 u.2.1 u.2.2.1 u.2.2.2) (fun _ => [])) A) ([.ref o, .int s1] : List Value).toArray s 0 0 A) (F0 m 2 ls []) := by
    intro fu
    induction fu with
    | zero => intro i1 q1 c1 d1 y1_2 hI hfi hfc hy1_2 hz1_0 hm; exact absurd hm (Nat.not_lt_zero _)
    | succ fu ih =>
      intro i1 q1 c1 d1 y1_2 hI hfi hfc hy1_2 hz1_0 hm H locs ls hP hD hS hl
      have ih1 := ih
      refine lv_iload_n hx hb dX12_giveState_2 rfl (lv_at hl 0 rfl) ?_
      refine lv_aload_n hx hb dX12_giveState_3 rfl (lv_at hl 1 rfl) ?_
      refine mget_5 (v := (i1 5)) rfl hx hb hts (fun _ h => List.mem_cons_of_mem _ (List.mem_append_right _ h)) hown hK hP (hts (.fieldLink RX12 177 "TalePlayModel" "objects" "I") (by decide +kernel)) dX12_giveState_4 ?_
      have rb5_i1 : 0 ≤ (i1 5).toInt ∧ (i1 5).toInt ≤ 30 := hI.1 5
      have re5_i1 : (i1 5).toInt = (i 5).toInt := congrArg Int32.toInt (hfi 5 (by decide))
      refine lv_icmp_ge (tgt := 106) hx hb dX12_giveState_7 (by decide) (fun c2 => ?_) (fun c2 => ?_)
      · have f2 := (ti_le (a := (i1 5).toInt) (b := y1_2.toInt) rfl rfl).mp c2
        exact rw_vret (i1, q1, c1, d1) hx hb hr hlocks hS (hK.sub (tys' := []) [] rfl) hP hD dX12_giveState_106 ⟨trivial, hI, fr_w hfi (by decide), fr_w hfc (by decide), (show GB (c1 23) (c1 24) (c 51) (c 52) s1.toInt.toNat (i 5).toInt from by rw [show (i 5).toInt = y1_2.toInt by omega]; exact hz1_0)⟩
      · have f2 := mt (ti_le (a := (i1 5).toInt) (b := y1_2.toInt) rfl rfl).mpr c2
        have hfc0 := hfc
        refine lv_aload_n hx hb dX12_giveState_10 rfl (lv_at hl 1 rfl) ?_
        refine mget_23 hx hb hts (fun _ h => List.mem_cons_of_mem _ (List.mem_append_right _ h)) hown hK hP (hts (.fieldLink RX12 50 "TalePlayModel" "nForm" "[I") (by decide +kernel)) dX12_giveState_11 ?_
        refine lv_iload_n hx hb dX12_giveState_14 rfl (lv_at hl 0 rfl) ?_
        refine lv_aload_n hx hb dX12_giveState_15 rfl (lv_at hl 1 rfl) ?_
        refine mget_51 hx hb hts (fun _ h => List.mem_cons_of_mem _ (List.mem_append_right _ h)) hown hK hP (hts (.fieldLink RX12 107 "TalePlayModel" "stateForm" "[B") (by decide +kernel)) dX12_giveState_16 ?_
        refine lv_bipush (v := 30) hx hb dX12_giveState_19 (by decide) ?_
        refine lv_iload_n hx hb dX12_giveState_21 rfl (lv_at hl 2 rfl) ?_
        refine lv_imul hx hb dX12_giveState_22 ?_
        refine lv_topi (fun x3 ex3 => ?_)
        have tx3 := ti_mul (a := 30) (b := s1.toInt) ex3 (by decide) rfl (by omega) (by omega)
        refine lv_iload_n hx hb dX12_giveState_23 rfl (lv_at hl 0 rfl) ?_
        refine lv_iadd hx hb dX12_giveState_24 ?_
        refine lv_topi (fun x4 ex4 => ?_)
        have tx4 := ti_add (a := (30 * s1.toInt)) (b := y1_2.toInt) ex4 tx3 rfl (by omega) (by omega)
        refine mld_51 hx hb hK hP (vp_in_iff.mpr (by have h9 : x4.toInt = ((30 * s1.toInt) + y1_2.toInt) := tx4; omega)) dX12_giveState_25 (fun x5 ex5 => ?_)
        have rx5 : x5.toInt = -9 ∨ (0 ≤ x5.toInt ∧ x5.toInt ≤ 4) := by rw [ex5]; exact hI.2 51 _
        refine mst_23 hx hb hK hP hD hS (vp_in_iff.mpr (by have h9 : y1_2.toInt = y1_2.toInt := rfl; omega)) dX12_giveState_26 (fun H locs hP hD hS => ?_)
        have hI := mInv_c hI (k := 23) (j := (y1_2 : Int32).toNatClampNeg) (x := x5) (show (x5 : Int32).toInt = -9 ∨ (0 ≤ (x5 : Int32).toInt ∧ (x5 : Int32).toInt ≤ 4) from by omega)
        have hfc := fr_c hfc (k := 23) (j := (y1_2 : Int32).toNatClampNeg) (x := x5) (by decide)
        refine lv_aload_n hx hb dX12_giveState_27 rfl (lv_at hl 1 rfl) ?_
        refine mget_24 hx hb hts (fun _ h => List.mem_cons_of_mem _ (List.mem_append_right _ h)) hown hK hP (hts (.fieldLink RX12 53 "TalePlayModel" "nAt" "[I") (by decide +kernel)) dX12_giveState_28 ?_
        refine lv_iload_n hx hb dX12_giveState_31 rfl (lv_at hl 0 rfl) ?_
        refine lv_aload_n hx hb dX12_giveState_32 rfl (lv_at hl 1 rfl) ?_
        refine mget_52 hx hb hts (fun _ h => List.mem_cons_of_mem _ (List.mem_append_right _ h)) hown hK hP (hts (.fieldLink RX12 111 "TalePlayModel" "stateAt" "[B") (by decide +kernel)) dX12_giveState_33 ?_
        refine lv_bipush (v := 30) hx hb dX12_giveState_36 (by decide) ?_
        refine lv_iload_n hx hb dX12_giveState_38 rfl (lv_at hl 2 rfl) ?_
        refine lv_imul hx hb dX12_giveState_39 ?_
        refine lv_topi (fun x6 ex6 => ?_)
        have tx6 := ti_mul (a := 30) (b := s1.toInt) ex6 (by decide) rfl (by omega) (by omega)
        refine lv_iload_n hx hb dX12_giveState_40 rfl (lv_at hl 0 rfl) ?_
        refine lv_iadd hx hb dX12_giveState_41 ?_
        refine lv_topi (fun x7 ex7 => ?_)
        have tx7 := ti_add (a := (30 * s1.toInt)) (b := y1_2.toInt) ex7 tx6 rfl (by omega) (by omega)
        refine mld_52 hx hb hK hP (vp_in_iff.mpr (by have h9 : x7.toInt = ((30 * s1.toInt) + y1_2.toInt) := tx7; omega)) dX12_giveState_42 (fun x8 ex8 => ?_)
        have rx8 : x8.toInt = -9 ∨ (0 ≤ x8.toInt ∧ x8.toInt ≤ 29) := by rw [ex8]; exact hI.2 52 _
        refine mst_24 hx hb hK hP hD hS (vp_in_iff.mpr (by have h9 : y1_2.toInt = y1_2.toInt := rfl; omega)) dX12_giveState_43 (fun H locs hP hD hS => ?_)
        have hI := mInv_c hI (k := 24) (j := (y1_2 : Int32).toNatClampNeg) (x := x8) (show (x8 : Int32).toInt = -9 ∨ (0 ≤ (x8 : Int32).toInt ∧ (x8 : Int32).toInt ≤ 29) from by omega)
        have hfc := fr_c hfc (k := 24) (j := (y1_2 : Int32).toNatClampNeg) (x := x8) (by decide)
        refine lv_aload_n hx hb dX12_giveState_44 rfl (lv_at hl 1 rfl) ?_
        refine mget_25 hx hb hts (fun _ h => List.mem_cons_of_mem _ (List.mem_append_right _ h)) hown hK hP (hts (.fieldLink RX12 56 "TalePlayModel" "nOpen" "[Z") (by decide +kernel)) dX12_giveState_45 ?_
        refine lv_iload_n hx hb dX12_giveState_48 rfl (lv_at hl 0 rfl) ?_
        refine lv_aload_n hx hb dX12_giveState_49 rfl (lv_at hl 1 rfl) ?_
        refine mget_53 hx hb hts (fun _ h => List.mem_cons_of_mem _ (List.mem_append_right _ h)) hown hK hP (hts (.fieldLink RX12 114 "TalePlayModel" "stateShut" "[B") (by decide +kernel)) dX12_giveState_50 ?_
        refine lv_bipush (v := 30) hx hb dX12_giveState_53 (by decide) ?_
        refine lv_iload_n hx hb dX12_giveState_55 rfl (lv_at hl 2 rfl) ?_
        refine lv_imul hx hb dX12_giveState_56 ?_
        refine lv_topi (fun x9 ex9 => ?_)
        have tx9 := ti_mul (a := 30) (b := s1.toInt) ex9 (by decide) rfl (by omega) (by omega)
        refine lv_iload_n hx hb dX12_giveState_57 rfl (lv_at hl 0 rfl) ?_
        refine lv_iadd hx hb dX12_giveState_58 ?_
        refine lv_topi (fun x10 ex10 => ?_)
        have tx10 := ti_add (a := (30 * s1.toInt)) (b := y1_2.toInt) ex10 tx9 rfl (by omega) (by omega)
        refine mld_53 hx hb hK hP (vp_in_iff.mpr (by have h9 : x10.toInt = ((30 * s1.toInt) + y1_2.toInt) := tx10; omega)) dX12_giveState_59 (fun x11 ex11 => ?_)
        have rx11 : 0 ≤ x11.toInt ∧ x11.toInt ≤ 3 := by rw [ex11]; exact hI.2 53 _
        refine lv_iconst (v := 1) hx hb dX12_giveState_60 (by decide) ?_
        refine lv_iand hx hb dX12_giveState_61 ?_
        refine lv_topi (fun x12 ex12 => ?_)
        refine lv_iconst (v := 1) hx hb dX12_giveState_62 (by decide) ?_
        have jn13 : ∀ (z13_0 : Int32), (z13_0.toInt = 0 ∨ z13_0.toInt = 1) → ∀ (H : Heap) (locs : List Loc) (ls : Array Slot), va_P D vwCl (mW o a t i1 q1 (updA (updA c1 23 (y1_2 : Int32).toNatClampNeg x5) 24 (y1_2 : Int32).toNatClampNeg x8) d1) H → va_D A (mW o a t i1 q1 (updA (updA c1 23 (y1_2 : Int32).toNatClampNeg x5) 24 (y1_2 : Int32).toNatClampNeg x8) d1) → va_S A s.heap H locs → lv_has ls 3 [(2, .int y1_2), (0, .ref o), (1, .int s1)] → W p l e (headSpec wm_X12_giveState ({ frames := 0, cells := 0, slots := 0, locals := 0 })).room s m ([.ref o, .int s1] : List Value).toArray below meth cd H locs 0 0 (MQ below (va_Qv (fun (u : MS) => True ∧ mInv u.1 u.2.2.1 ∧ (∀ k, k ∉ ([] : List Nat) → u.1 k = i k) ∧ (∀ k, k ∉ ([23, 24, 25, 26] : List Nat) → u.2.2.1 k = c k) ∧ (GB (u.2.2.1 23) (u.2.2.1 24) (c 51) (c 52) s1.toInt.toNat (i 5).toInt)) (oC D A (fun u : MS => mW o a t u.1 u.2.1 u.2.2.1 u.2.2.2) (fun _ => [])) A) ([.ref o, .int s1] : List Value).toArray s 0 0 A) (F0 m 71 ls [.int z13_0, .int y1_2, .ref (a 25)]) := by
          intro z13_0 hs13_0 H locs ls hP hD hS hl
          refine mst_25 hx hb hK hP hD hS (vp_in_iff.mpr (by have h9 : y1_2.toInt = y1_2.toInt := rfl; omega)) (nb_z (show 0 ≤ (z13_0 : Int32).toInt ∧ (z13_0 : Int32).toInt ≤ 1 from by omega)) dX12_giveState_71 (fun H locs hP hD hS => ?_)
          have hI := mInv_c hI (k := 25) (j := (y1_2 : Int32).toNatClampNeg) (x := z13_0) (show 0 ≤ (z13_0 : Int32).toInt ∧ (z13_0 : Int32).toInt ≤ 1 from by omega)
          have hfc := fr_c hfc (k := 25) (j := (y1_2 : Int32).toNatClampNeg) (x := z13_0) (by decide)
          refine lv_aload_n hx hb dX12_giveState_72 rfl (lv_at hl 1 rfl) ?_
          refine mget_26 hx hb hts (fun _ h => List.mem_cons_of_mem _ (List.mem_append_right _ h)) hown hK hP (hts (.fieldLink RX12 59 "TalePlayModel" "nLocked" "[Z") (by decide +kernel)) dX12_giveState_73 ?_
          refine lv_iload_n hx hb dX12_giveState_76 rfl (lv_at hl 0 rfl) ?_
          refine lv_aload_n hx hb dX12_giveState_77 rfl (lv_at hl 1 rfl) ?_
          refine mget_53 hx hb hts (fun _ h => List.mem_cons_of_mem _ (List.mem_append_right _ h)) hown hK hP (hts (.fieldLink RX12 114 "TalePlayModel" "stateShut" "[B") (by decide +kernel)) dX12_giveState_78 ?_
          refine lv_bipush (v := 30) hx hb dX12_giveState_81 (by decide) ?_
          refine lv_iload_n hx hb dX12_giveState_83 rfl (lv_at hl 2 rfl) ?_
          refine lv_imul hx hb dX12_giveState_84 ?_
          refine lv_topi (fun x14 ex14 => ?_)
          have tx14 := ti_mul (a := 30) (b := s1.toInt) ex14 (by decide) rfl (by omega) (by omega)
          refine lv_iload_n hx hb dX12_giveState_85 rfl (lv_at hl 0 rfl) ?_
          refine lv_iadd hx hb dX12_giveState_86 ?_
          refine lv_topi (fun x15 ex15 => ?_)
          have tx15 := ti_add (a := (30 * s1.toInt)) (b := y1_2.toInt) ex15 tx14 rfl (by omega) (by omega)
          refine mld_53 hx hb hK hP (vp_in_iff.mpr (by have h9 : x15.toInt = ((30 * s1.toInt) + y1_2.toInt) := tx15; omega)) dX12_giveState_87 (fun x16 ex16 => ?_)
          have rx16 : 0 ≤ x16.toInt ∧ x16.toInt ≤ 3 := by rw [ex16]; exact hI.2 53 _
          refine lv_iconst (v := 2) hx hb dX12_giveState_88 (by decide) ?_
          refine lv_iand hx hb dX12_giveState_89 ?_
          refine lv_topi (fun x17 ex17 => ?_)
          refine lv_iconst (v := 2) hx hb dX12_giveState_90 (by decide) ?_
          have jn18 : ∀ (z18_0 : Int32), (z18_0.toInt = 0 ∨ z18_0.toInt = 1) → ∀ (H : Heap) (locs : List Loc) (ls : Array Slot), va_P D vwCl (mW o a t i1 q1 (updA (updA (updA c1 23 (y1_2 : Int32).toNatClampNeg x5) 24 (y1_2 : Int32).toNatClampNeg x8) 25 (y1_2 : Int32).toNatClampNeg z13_0) d1) H → va_D A (mW o a t i1 q1 (updA (updA (updA c1 23 (y1_2 : Int32).toNatClampNeg x5) 24 (y1_2 : Int32).toNatClampNeg x8) 25 (y1_2 : Int32).toNatClampNeg z13_0) d1) → va_S A s.heap H locs → lv_has ls 3 [(2, .int y1_2), (0, .ref o), (1, .int s1)] → W p l e (headSpec wm_X12_giveState ({ frames := 0, cells := 0, slots := 0, locals := 0 })).room s m ([.ref o, .int s1] : List Value).toArray below meth cd H locs 0 0 (MQ below (va_Qv (fun (u : MS) => True ∧ mInv u.1 u.2.2.1 ∧ (∀ k, k ∉ ([] : List Nat) → u.1 k = i k) ∧ (∀ k, k ∉ ([23, 24, 25, 26] : List Nat) → u.2.2.1 k = c k) ∧ (GB (u.2.2.1 23) (u.2.2.1 24) (c 51) (c 52) s1.toInt.toNat (i 5).toInt)) (oC D A (fun u : MS => mW o a t u.1 u.2.1 u.2.2.1 u.2.2.2) (fun _ => [])) A) ([.ref o, .int s1] : List Value).toArray s 0 0 A) (F0 m 99 ls [.int z18_0, .int y1_2, .ref (a 26)]) := by
            intro z18_0 hs18_0 H locs ls hP hD hS hl
            refine mst_26 hx hb hK hP hD hS (vp_in_iff.mpr (by have h9 : y1_2.toInt = y1_2.toInt := rfl; omega)) (nb_z (show 0 ≤ (z18_0 : Int32).toInt ∧ (z18_0 : Int32).toInt ≤ 1 from by omega)) dX12_giveState_99 (fun H locs hP hD hS => ?_)
            have hI := mInv_c hI (k := 26) (j := (y1_2 : Int32).toNatClampNeg) (x := z18_0) (show 0 ≤ (z18_0 : Int32).toInt ∧ (z18_0 : Int32).toInt ≤ 1 from by omega)
            have hfc := fr_c hfc (k := 26) (j := (y1_2 : Int32).toNatClampNeg) (x := z18_0) (by decide)
            obtain ⟨x19, ex19⟩ : ∃ y : Int32, y = y1_2 + 1 := ⟨_, rfl⟩
            have tx19 := ti_add (a := y1_2.toInt) (b := 1) ex19 rfl (by decide) (by omega) (by omega)
            refine lv_iinc (v := x19) (lv' := [(2, .int x19), (0, .ref o), (1, .int s1)]) hx hb dX12_giveState_100 hl (k := 0) rfl (by rw [ex19]; rfl) (by decide) rfl (fun ls hl => ?_)
            refine lv_goto (tgt := 2) hx hb dX12_giveState_103 (by decide) ?_
            exact ih1 i1 q1 (updA (updA (updA (updA c1 23 (y1_2 : Int32).toNatClampNeg x5) 24 (y1_2 : Int32).toNatClampNeg x8) 25 (y1_2 : Int32).toNatClampNeg z13_0) 26 (y1_2 : Int32).toNatClampNeg z18_0) d1 x19 hI (fr_w hfi (by decide)) (fr_w hfc (by decide)) (show 0 ≤ x19.toInt ∧ x19.toInt ≤ 30 ∧ x19.toInt ≤ (i 5).toInt from by have h50 : x19.toInt = (y1_2.toInt + 1) := tx19; omega) (show GB ((updA (updA (updA (updA c1 23 (y1_2 : Int32).toNatClampNeg x5) 24 (y1_2 : Int32).toNatClampNeg x8) 25 (y1_2 : Int32).toNatClampNeg z13_0) 26 (y1_2 : Int32).toNatClampNeg z18_0) 23) ((updA (updA (updA (updA c1 23 (y1_2 : Int32).toNatClampNeg x5) 24 (y1_2 : Int32).toNatClampNeg x8) 25 (y1_2 : Int32).toNatClampNeg z13_0) 26 (y1_2 : Int32).toNatClampNeg z18_0) 24) (c 51) (c 52) s1.toInt.toNat x19.toInt from GB_a (T := s1) (a := x4) (b := x7) hz1_0 (by omega) (by omega) tx19 (by have h9 := tx4; omega) (by have h9 := tx7; omega) (Eq.trans (show x5 = c1 51 _ from ex5) (congrFun (hfc0 51 (by decide)) _)) (Eq.trans (show x8 = c1 52 _ from ex8) (congrFun (hfc0 52 (by decide)) _))) (by have h50 : x19.toInt = (y1_2.toInt + 1) := tx19; omega) _ _ _ hP hD hS (lv_sub hl [0, 1, 2] rfl)
          refine lv_icmp_ne (tgt := 98) hx hb dX12_giveState_91 (by decide) (fun c20 => ?_) (fun c20 => ?_)
          · have f20 := mt (ti_eq (a := x17.toInt) (b := 2) rfl (by decide)).mpr c20
            refine lv_iconst (v := 0) hx hb dX12_giveState_98 (by decide) ?_
            exact jn18  (0 : Int32) (show (0 : Int32).toInt = 0 ∨ (0 : Int32).toInt = 1 from by have h53 : (0 : Int32).toInt = 0 := (by decide); omega) _ _ _ hP hD hS (lv_sub hl [0, 1, 2] rfl)
          · have f20 := (ti_eq (a := x17.toInt) (b := 2) rfl (by decide)).mp c20
            refine lv_iconst (v := 1) hx hb dX12_giveState_94 (by decide) ?_
            refine lv_goto (tgt := 99) hx hb dX12_giveState_95 (by decide) ?_
            exact jn18  (1 : Int32) (show (1 : Int32).toInt = 0 ∨ (1 : Int32).toInt = 1 from by have h53 : (1 : Int32).toInt = 1 := (by decide); omega) _ _ _ hP hD hS (lv_sub hl [0, 1, 2] rfl)
        refine lv_icmp_ne (tgt := 70) hx hb dX12_giveState_63 (by decide) (fun c21 => ?_) (fun c21 => ?_)
        · have f21 := mt (ti_eq (a := x12.toInt) (b := 1) rfl (by decide)).mpr c21
          refine lv_iconst (v := 0) hx hb dX12_giveState_70 (by decide) ?_
          exact jn13  (0 : Int32) (show (0 : Int32).toInt = 0 ∨ (0 : Int32).toInt = 1 from by have h53 : (0 : Int32).toInt = 0 := (by decide); omega) _ _ _ hP hD hS (lv_sub hl [0, 1, 2] rfl)
        · have f21 := (ti_eq (a := x12.toInt) (b := 1) rfl (by decide)).mp c21
          refine lv_iconst (v := 1) hx hb dX12_giveState_66 (by decide) ?_
          refine lv_goto (tgt := 71) hx hb dX12_giveState_67 (by decide) ?_
          exact jn13  (1 : Int32) (show (1 : Int32).toInt = 0 ∨ (1 : Int32).toInt = 1 from by have h53 : (1 : Int32).toInt = 1 := (by decide); omega) _ _ _ hP hD hS (lv_sub hl [0, 1, 2] rfl)
  exact lp1 _ i q c d (0 : Int32) hI (fr_w hfi (by decide)) (fr_w hfc (by decide)) (show 0 ≤ (0 : Int32).toInt ∧ (0 : Int32).toInt ≤ 30 ∧ (0 : Int32).toInt ≤ (i 5).toInt from by have h50 : (0 : Int32).toInt = 0 := (by decide); omega) (show GB (c 23) (c 24) (c 51) (c 52) s1.toInt.toNat (0 : Int32).toInt from GB_0 (by decide)) (Nat.lt_succ_self _) _ _ _ hP hD hS (lv_sub hl [0, 1, 2] rfl)

def wm_X12_found : List Cond := .code yX12_found cX12_found 6 (some .int) :: (([.fieldLink RX12 158 "TalePlayModel" "soughtMany" "I", .fieldLink RX12 117 "TalePlayModel" "stateFrom" "[I", .fieldLink RX12 123 "TalePlayModel" "soughtRow" "[I", .fieldLink RX12 120 "TalePlayModel" "stateAct" "[I"] : List Cond) ++ wsX120)
set_option maxHeartbeats 4000000 in
set_option maxRecDepth 100000 in
theorem s_X12_found (l : Launch) (D : va_G) (sz : Nat) (o : Nat) (a : Nat → Nat) (t : Nat → ClassId) (i : Nat → Int32) (q : Int64) (c : Nat → Nat → Int32) (d : Nat → Nat → Int64) (s1 : Int32) (hI : mInv i c) (hs1 : 0 ≤ s1.toInt ∧ s1.toInt ≤ 299) : Met l yX12_found wm_X12_found ({ frames := 0, cells := 0, slots := 0, locals := 0 }) (va_Pc [.ref o, .int s1] (pB D sz (mW o a t i q c d) (mT t))) (va_Qi (fun (r : Int32) (u : MS) => (0 ≤ r.toInt ∧ r.toInt ≤ 300) ∧ mInv u.1 u.2.2.1 ∧ (∀ k, k ∉ ([57] : List Nat) → u.1 k = i k) ∧ (∀ k, k ∉ ([56] : List Nat) → u.2.2.1 k = c k)) (oC D (va_A (mW o a t i q c d) sz) (fun u : MS => mW o a t u.1 u.2.1 u.2.2.1 u.2.2.2) (fun _ => [])) (va_A (mW o a t i q c d) sz)) 0 0 (va_A (mW o a t i q c d) sz) := by
  refine Met.ofW (cc := cX12_found) (maxL := 6) (ret := (some .int)) (by decide) rfl ?_
  intro p e s m args below meth cd s₁ B hml hv
  obtain ⟨rfl, hsz, hP, hK, hD0⟩ := hv
  have hx := B.exec
  have hb := B.bytes
  have hr := B.returns
  have hts := atoms_spec (ws := wm_X12_found) B.pre
  have hown : s.vm.findClass RX12 = some m.cls := findClass_of_methodNamed B.named
  have hlocks := B.notSynchronized
  subst hsz
  have hD := hD0.self (sz := s.heap.size)
  generalize hAe : va_A (mW o a t i q c d) s.heap.size = A at hD ⊢
  have hA : ∀ q : Nat, s.heap.size ≤ q → A q := fun q h => by rw [← hAe]; exact Or.inr h
  have hS : va_S A s.heap s.heap [] := va_S.rf
  have hfi : ∀ k, k ∉ ([] : List Nat) → i k = i k := fun _ _ => rfl
  have hfc : ∀ k, k ∉ ([] : List Nat) → c k = c k := fun _ _ => rfl
  have hl := lv_entry ([.ref o, .int s1]) (n := 6) (Nat.le_of_ble_eq_true rfl)
  rw [lg_entry_eq]
  generalize (lg_sl ([.ref o, .int s1]) ++ List.replicate (6 - (lg_sl ([.ref o, .int s1])).length) Slot.unset).toArray = ls at hl ⊢
  have hl : lv_has ls 6 [(0, .ref o), (1, .int s1)] := hl
  have hlf := mI_fr hI
  have hcl : cl (c 54) s1.toInt ≤ s1.toInt.toNat := cF_le hlf 300 s1.toInt
  refine lv_iconst (v := 0) hx hb dX12_found_0 (by decide) ?_
  refine lv_istore_n (lv' := [(2, .int 0), (0, .ref o), (1, .int s1)]) hx hb dX12_found_1 rfl hl (by decide) rfl (fun ls hl => ?_)
  refine lv_iload_n hx hb dX12_found_2 rfl (lv_at hl 2 rfl) ?_
  refine lv_istore_n (lv' := [(3, .int s1), (2, .int 0), (0, .ref o), (1, .int s1)]) hx hb dX12_found_3 rfl hl (by decide) rfl (fun ls hl => ?_)
  have lp1 : ∀ (fu : Nat) (y1_3 : Int32) (y1_2 : Int32), (y1_3.toInt = -9 ∨ (0 ≤ y1_3.toInt ∧ y1_3.toInt ≤ 299)) → (0 ≤ y1_2.toInt ∧ y1_2.toInt ≤ 300) → (y1_2.toInt + ((cl (c 54) y1_3.toInt : Nat) : Int) = ((cl (c 54) s1.toInt : Nat) : Int)) → (y1_3.toInt + 10).toNat < fu → ∀ (H : Heap) (locs : List Loc) (ls : Array Slot), va_P D vwCl (mW o a t i q c d) H → va_D A (mW o a t i q c d) → va_S A s.heap H locs → lv_has ls 6 [(3, .int y1_3), (2, .int y1_2), (0, .ref o), (1, .int s1)] → W p l e (headSpec wm_X12_found ({ frames := 0, cells := 0, slots := 0, locals := 0 })).room s m ([.ref o, .int s1] : List Value).toArray below meth cd H locs 0 0 (MQ below (va_Qi (fun (r : Int32) (u : MS) => (0 ≤ r.toInt ∧ r.toInt ≤ 300) ∧ mInv u.1 u.2.2.1 ∧ (∀ k, k ∉ ([57] : List Nat) → u.1 k = i k) ∧ (∀ k, k ∉ ([56] : List Nat) → u.2.2.1 k = c k)) (oC D A (fun u : MS => mW o a t u.1 u.2.1 u.2.2.1 u.2.2.2) (fun _ => [])) A) ([.ref o, .int s1] : List Value).toArray s 0 0 A) (F0 m 4 ls []) := by
    intro fu
    induction fu with
    | zero => intro y1_3 y1_2 hy1_3 hy1_2 hz1_0 hm; exact absurd hm (Nat.not_lt_zero _)
    | succ fu ih =>
      intro y1_3 y1_2 hy1_3 hy1_2 hz1_0 hm H locs ls hP hD hS hl
      have ih1 := ih
      refine lv_iload_n hx hb dX12_found_4 rfl (lv_at hl 0 rfl) ?_
      refine lv_if_le (tgt := 21) hx hb dX12_found_5 (by decide) (fun c2 => ?_) (fun c2 => ?_)
      · have f2 := (ti_le (a := y1_3.toInt) (b := 0) rfl (by decide)).mp c2
        have hc0 : cl (c 54) y1_3.toInt = 0 := cl_0 (by omega)
        refine lv_aload_n hx hb dX12_found_21 rfl (lv_at hl 2 rfl) ?_
        refine lv_iload_n hx hb dX12_found_22 rfl (lv_at hl 1 rfl) ?_
        refine mput_57 hx hb hts (fun _ h => List.mem_cons_of_mem _ (List.mem_append_right _ h)) hown hK hP hD hS (hts (.fieldLink RX12 158 "TalePlayModel" "soughtMany" "I") (by decide +kernel)) rfl rfl dX12_found_23 (fun H locs hP hD hS => ?_)
        have hI := mInv_i hI (k := 57) (v := y1_2) (show (y1_2 : Int32).toInt = -9 ∨ (0 ≤ (y1_2 : Int32).toInt ∧ (y1_2 : Int32).toInt ≤ 300) from by omega)
        have hfi : ∀ k, k ∉ ([57] : List Nat) → (upd i 57 y1_2) k = i k := fr_iz hfi (by decide) (by decide)
        refine lv_iload_n hx hb dX12_found_26 rfl (lv_at hl 1 rfl) ?_
        refine lv_istore_n (lv' := [(3, .int y1_2), (2, .int y1_2), (0, .ref o), (1, .int s1)]) hx hb dX12_found_27 rfl hl (by decide) rfl (fun ls hl => ?_)
        refine lv_iload_n hx hb dX12_found_28 rfl (lv_at hl 3 rfl) ?_
        refine lv_istore (lv' := [(4, .int s1), (3, .int y1_2), (2, .int y1_2), (0, .ref o), (1, .int s1)]) hx hb dX12_found_29 hl (by decide) rfl (fun ls hl => ?_)
        have lp3 : ∀ (fu : Nat) (i3 : Nat → Int32) (q3 : Int64) (c3 : Nat → Nat → Int32) (d3 : Nat → Nat → Int64) (y3_4 : Int32) (y3_3 : Int32), mInv i3 c3 → (∀ k, k ∉ ([57] : List Nat) → i3 k = i k) → (∀ k, k ∉ ([56] : List Nat) → c3 k = c k) → (y3_4.toInt = -9 ∨ (0 ≤ y3_4.toInt ∧ y3_4.toInt ≤ 299)) → (0 ≤ y3_3.toInt ∧ y3_3.toInt ≤ 300) → (y3_3.toInt = ((cl (c 54) y3_4.toInt : Nat) : Int)) → (y3_4.toInt + 10).toNat < fu → ∀ (H : Heap) (locs : List Loc) (ls : Array Slot), va_P D vwCl (mW o a t i3 q3 c3 d3) H → va_D A (mW o a t i3 q3 c3 d3) → va_S A s.heap H locs → lv_has ls 6 [(4, .int y3_4), (3, .int y3_3), (2, .int y1_2), (0, .ref o), (1, .int s1)] → W p l e (headSpec wm_X12_found ({ frames := 0, cells := 0, slots := 0, locals := 0 })).room s m ([.ref o, .int s1] : List Value).toArray below meth cd H locs 0 0 (MQ below (va_Qi (fun (r : Int32) (u : MS) => (0 ≤ r.toInt ∧ r.toInt ≤ 300) ∧ mInv u.1 u.2.2.1 ∧ (∀ k, k ∉ ([57] : List Nat) → u.1 k = i k) ∧ (∀ k, k ∉ ([56] : List Nat) → u.2.2.1 k = c k)) (oC D A (fun u : MS => mW o a t u.1 u.2.1 u.2.2.1 u.2.2.2) (fun _ => [])) A) ([.ref o, .int s1] : List Value).toArray s 0 0 A) (F0 m 31 ls []) := by
          intro fu
          induction fu with
          | zero => intro i3 q3 c3 d3 y3_4 y3_3 hI hfi hfc hy3_4 hy3_3 hz3_0 hm; exact absurd hm (Nat.not_lt_zero _)
          | succ fu ih =>
            intro i3 q3 c3 d3 y3_4 y3_3 hI hfi hfc hy3_4 hy3_3 hz3_0 hm H locs ls hP hD hS hl
            have ih3 := ih
            refine lv_iload hx hb dX12_found_31 (lv_at hl 0 rfl) ?_
            refine lv_if_le (tgt := 89) hx hb dX12_found_33 (by decide) (fun c4 => ?_) (fun c4 => ?_)
            · have f4 := (ti_le (a := y3_4.toInt) (b := 0) rfl (by decide)).mp c4
              refine lv_iload_n hx hb dX12_found_89 rfl (lv_at hl 2 rfl) ?_
              exact rw_iret (i3, q3, c3, d3) hx hb hr hlocks hS (hK.sub (tys' := []) [] rfl) hP hD dX12_found_90 ⟨(show 0 ≤ y1_2.toInt ∧ y1_2.toInt ≤ 300 from by omega), hI, fr_w hfi (by decide), fr_w hfc (by decide)⟩
            · have f4 := mt (ti_le (a := y3_4.toInt) (b := 0) rfl (by decide)).mpr c4
              have hcp : 1 ≤ cl (c 54) y3_4.toInt := by unfold cl cF; rw [if_neg (by omega)]; omega
              obtain ⟨x5, ex5⟩ : ∃ y : Int32, y = y3_3 + (-1) := ⟨_, rfl⟩
              have tx5 := ti_add (a := y3_3.toInt) (b := (-1)) ex5 rfl (by decide) (by omega) (by omega)
              refine lv_iinc (v := x5) (lv' := [(3, .int x5), (4, .int y3_4), (2, .int y1_2), (0, .ref o), (1, .int s1)]) hx hb dX12_found_36 hl (k := 1) rfl (by rw [ex5]; rfl) (by decide) rfl (fun ls hl => ?_)
              refine lv_iconst (v := 0) hx hb dX12_found_39 (by decide) ?_
              refine lv_istore (lv' := [(5, .int 0), (3, .int x5), (4, .int y3_4), (2, .int y1_2), (0, .ref o), (1, .int s1)]) hx hb dX12_found_40 hl (by decide) rfl (fun ls hl => ?_)
              have lp6 : ∀ (fu : Nat) (i6 : Nat → Int32) (q6 : Int64) (c6 : Nat → Nat → Int32) (d6 : Nat → Nat → Int64) (y6_5 : Int32), mInv i6 c6 → (∀ k, k ∉ ([57] : List Nat) → i6 k = i k) → (∀ k, k ∉ ([56] : List Nat) → c6 k = c k) → (0 ≤ y6_5.toInt ∧ y6_5.toInt ≤ 3) → (3 - y6_5.toInt).toNat < fu → ∀ (H : Heap) (locs : List Loc) (ls : Array Slot), va_P D vwCl (mW o a t i6 q6 c6 d6) H → va_D A (mW o a t i6 q6 c6 d6) → va_S A s.heap H locs → lv_has ls 6 [(5, .int y6_5), (3, .int x5), (4, .int y3_4), (2, .int y1_2), (0, .ref o), (1, .int s1)] → W p l e (headSpec wm_X12_found ({ frames := 0, cells := 0, slots := 0, locals := 0 })).room s m ([.ref o, .int s1] : List Value).toArray below meth cd H locs 0 0 (MQ below (va_Qi (fun (r : Int32) (u : MS) => (0 ≤ r.toInt ∧ r.toInt ≤ 300) ∧ mInv u.1 u.2.2.1 ∧ (∀ k, k ∉ ([57] : List Nat) → u.1 k = i k) ∧ (∀ k, k ∉ ([56] : List Nat) → u.2.2.1 k = c k)) (oC D A (fun u : MS => mW o a t u.1 u.2.1 u.2.2.1 u.2.2.2) (fun _ => [])) A) ([.ref o, .int s1] : List Value).toArray s 0 0 A) (F0 m 42 ls []) := by
                intro fu
                induction fu with
                | zero => intro i6 q6 c6 d6 y6_5 hI hfi hfc hy6_5 hm; exact absurd hm (Nat.not_lt_zero _)
                | succ fu ih =>
                  intro i6 q6 c6 d6 y6_5 hI hfi hfc hy6_5 hm H locs ls hP hD hS hl
                  have ih6 := ih
                  refine lv_iload hx hb dX12_found_42 (lv_at hl 0 rfl) ?_
                  refine lv_iconst (v := 3) hx hb dX12_found_44 (by decide) ?_
                  refine lv_icmp_ge (tgt := 77) hx hb dX12_found_45 (by decide) (fun c7 => ?_) (fun c7 => ?_)
                  · have f7 := (ti_le (a := 3) (b := y6_5.toInt) (by decide) rfl).mp c7
                    refine lv_aload_n hx hb dX12_found_77 rfl (lv_at hl 4 rfl) ?_
                    refine mget_54 hx hb hts (fun _ h => List.mem_cons_of_mem _ (List.mem_append_right _ h)) hown hK hP (hts (.fieldLink RX12 117 "TalePlayModel" "stateFrom" "[I") (by decide +kernel)) dX12_found_78 ?_
                    refine lv_iload hx hb dX12_found_81 (lv_at hl 2 rfl) ?_
                    refine mld_54 hx hb hK hP (vp_in_iff.mpr (by have h9 : y3_4.toInt = y3_4.toInt := rfl; omega)) dX12_found_83 (fun x8 ex8 => ?_)
                    have rx8 : x8.toInt = -9 ∨ (0 ≤ x8.toInt ∧ x8.toInt ≤ 299 ∧ (x8.toInt = 0 ∨ x8.toInt < (((y3_4 : Int32).toNatClampNeg : Nat) : Int))) := by rw [ex8]; exact hI.2 54 _
                    have rc8 : (((y3_4 : Int32).toNatClampNeg : Nat) : Int) = (y3_4 : Int32).toInt := cl_nn (by have h9 : y3_4.toInt = y3_4.toInt := rfl; omega)
                    refine lv_istore (lv' := [(4, .int x8), (5, .int y6_5), (3, .int x5), (2, .int y1_2), (0, .ref o), (1, .int s1)]) hx hb dX12_found_84 hl (by decide) rfl (fun ls hl => ?_)
                    have hcs := cl_s (fr := c 54) hlf (k := y3_4) (y := x8) (by omega) (by omega) (by rw [ex8, show c6 54 = c 54 from hfc 54 (by decide)])
                    refine lv_goto (tgt := 31) hx hb dX12_found_86 (by decide) ?_
                    exact ih3 i6 q6 c6 d6 x8 x5 hI (fr_w hfi (by decide)) (fr_w hfc (by decide)) (show x8.toInt = -9 ∨ (0 ≤ x8.toInt ∧ x8.toInt ≤ 299) from by have h52 : x5.toInt = (y3_3.toInt + (-1)) := tx5; omega) (show 0 ≤ x5.toInt ∧ x5.toInt ≤ 300 from by have h52 : x5.toInt = (y3_3.toInt + (-1)) := tx5; omega) (show x5.toInt = ((cl (c 54) x8.toInt : Nat) : Int) from by have h52 : x5.toInt = (y3_3.toInt + (-1)) := tx5; omega) (by have h52 : x5.toInt = (y3_3.toInt + (-1)) := tx5; omega) _ _ _ hP hD hS (lv_sub hl [0, 2, 3, 4, 5] rfl)
                  · have f7 := mt (ti_le (a := 3) (b := y6_5.toInt) (by decide) rfl).mpr c7
                    refine lv_aload_n hx hb dX12_found_48 rfl (lv_at hl 4 rfl) ?_
                    refine mget_56 hx hb hts (fun _ h => List.mem_cons_of_mem _ (List.mem_append_right _ h)) hown hK hP (hts (.fieldLink RX12 123 "TalePlayModel" "soughtRow" "[I") (by decide +kernel)) dX12_found_49 ?_
                    refine lv_iconst (v := 3) hx hb dX12_found_52 (by decide) ?_
                    refine lv_iload_n hx hb dX12_found_53 rfl (lv_at hl 1 rfl) ?_
                    refine lv_imul hx hb dX12_found_54 ?_
                    refine lv_topi (fun x9 ex9 => ?_)
                    have tx9 := ti_mul (a := 3) (b := (y3_3.toInt + (-1))) ex9 (by decide) tx5 (by omega) (by omega)
                    refine lv_iload hx hb dX12_found_55 (lv_at hl 0 rfl) ?_
                    refine lv_iadd hx hb dX12_found_57 ?_
                    refine lv_topi (fun x10 ex10 => ?_)
                    have tx10 := ti_add (a := (3 * (y3_3.toInt + (-1)))) (b := y6_5.toInt) ex10 tx9 rfl (by omega) (by omega)
                    refine lv_aload_n hx hb dX12_found_58 rfl (lv_at hl 4 rfl) ?_
                    refine mget_55 hx hb hts (fun _ h => List.mem_cons_of_mem _ (List.mem_append_right _ h)) hown hK hP (hts (.fieldLink RX12 120 "TalePlayModel" "stateAct" "[I") (by decide +kernel)) dX12_found_59 ?_
                    refine lv_iconst (v := 3) hx hb dX12_found_62 (by decide) ?_
                    refine lv_iload hx hb dX12_found_63 (lv_at hl 2 rfl) ?_
                    refine lv_imul hx hb dX12_found_65 ?_
                    refine lv_topi (fun x11 ex11 => ?_)
                    have tx11 := ti_mul (a := 3) (b := y3_4.toInt) ex11 (by decide) rfl (by omega) (by omega)
                    refine lv_iload hx hb dX12_found_66 (lv_at hl 0 rfl) ?_
                    refine lv_iadd hx hb dX12_found_68 ?_
                    refine lv_topi (fun x12 ex12 => ?_)
                    have tx12 := ti_add (a := (3 * y3_4.toInt)) (b := y6_5.toInt) ex12 tx11 rfl (by omega) (by omega)
                    refine mld_55 hx hb hK hP (vp_in_iff.mpr (by have h9 : x12.toInt = ((3 * y3_4.toInt) + y6_5.toInt) := tx12; omega)) dX12_found_69 (fun x13 ex13 => ?_)
                    have rx13 : 0 ≤ x13.toInt ∧ x13.toInt ≤ 29 := by rw [ex13]; exact hI.2 55 _
                    refine mst_56 hx hb hK hP hD hS (vp_in_iff.mpr (by have h9 : x10.toInt = ((3 * (y3_3.toInt + (-1))) + y6_5.toInt) := tx10; omega)) dX12_found_70 (fun H locs hP hD hS => ?_)
                    have hI := mInv_c hI (k := 56) (j := (x10 : Int32).toNatClampNeg) (x := x13) (show 0 ≤ (x13 : Int32).toInt ∧ (x13 : Int32).toInt ≤ 29 from by omega)
                    have hfc := fr_c hfc (k := 56) (j := (x10 : Int32).toNatClampNeg) (x := x13) (by decide)
                    obtain ⟨x14, ex14⟩ : ∃ y : Int32, y = y6_5 + 1 := ⟨_, rfl⟩
                    have tx14 := ti_add (a := y6_5.toInt) (b := 1) ex14 rfl (by decide) (by omega) (by omega)
                    refine lv_iinc (v := x14) (lv' := [(5, .int x14), (3, .int x5), (4, .int y3_4), (2, .int y1_2), (0, .ref o), (1, .int s1)]) hx hb dX12_found_71 hl (k := 0) rfl (by rw [ex14]; rfl) (by decide) rfl (fun ls hl => ?_)
                    refine lv_goto (tgt := 42) hx hb dX12_found_74 (by decide) ?_
                    exact ih6 i6 q6 (updA c6 56 (x10 : Int32).toNatClampNeg x13) d6 x14 hI (fr_w hfi (by decide)) (fr_w hfc (by decide)) (show 0 ≤ x14.toInt ∧ x14.toInt ≤ 3 from by have h50 : x14.toInt = (y6_5.toInt + 1) := tx14; have h51 : x5.toInt = (y3_3.toInt + (-1)) := tx5; omega) (by have h50 : x14.toInt = (y6_5.toInt + 1) := tx14; have h51 : x5.toInt = (y3_3.toInt + (-1)) := tx5; omega) _ _ _ hP hD hS (lv_sub hl [0, 1, 2, 3, 4, 5] rfl)
              exact lp6 _ i3 q3 c3 d3 (0 : Int32) hI (fr_w hfi (by decide)) (fr_w hfc (by decide)) (show 0 ≤ (0 : Int32).toInt ∧ (0 : Int32).toInt ≤ 3 from by have h50 : (0 : Int32).toInt = 0 := (by decide); have h51 : x5.toInt = (y3_3.toInt + (-1)) := tx5; omega) (Nat.lt_succ_self _) _ _ _ hP hD hS (lv_sub hl [0, 1, 2, 3, 4, 5] rfl)
        exact lp3 _ (upd i 57 y1_2) q c d s1 y1_2 hI (fr_w hfi (by decide)) (fr_w hfc (by decide)) (show s1.toInt = -9 ∨ (0 ≤ s1.toInt ∧ s1.toInt ≤ 299) from by omega) (show 0 ≤ y1_2.toInt ∧ y1_2.toInt ≤ 300 from by omega) (show y1_2.toInt = ((cl (c 54) s1.toInt : Nat) : Int) from by omega) (Nat.lt_succ_self _) _ _ _ hP hD hS (lv_sub hl [0, 1, 2, 3, 4] rfl)
      · have f2 := mt (ti_le (a := y1_3.toInt) (b := 0) rfl (by decide)).mpr c2
        obtain ⟨x15, ex15⟩ : ∃ y : Int32, y = y1_2 + 1 := ⟨_, rfl⟩
        have tx15 := ti_add (a := y1_2.toInt) (b := 1) ex15 rfl (by decide) (by omega) (by omega)
        refine lv_iinc (v := x15) (lv' := [(2, .int x15), (3, .int y1_3), (0, .ref o), (1, .int s1)]) hx hb dX12_found_8 hl (k := 1) rfl (by rw [ex15]; rfl) (by decide) rfl (fun ls hl => ?_)
        refine lv_aload_n hx hb dX12_found_11 rfl (lv_at hl 2 rfl) ?_
        refine mget_54 hx hb hts (fun _ h => List.mem_cons_of_mem _ (List.mem_append_right _ h)) hown hK hP (hts (.fieldLink RX12 117 "TalePlayModel" "stateFrom" "[I") (by decide +kernel)) dX12_found_12 ?_
        refine lv_iload_n hx hb dX12_found_15 rfl (lv_at hl 1 rfl) ?_
        refine mld_54 hx hb hK hP (vp_in_iff.mpr (by have h9 : y1_3.toInt = y1_3.toInt := rfl; omega)) dX12_found_16 (fun x16 ex16 => ?_)
        have rx16 : x16.toInt = -9 ∨ (0 ≤ x16.toInt ∧ x16.toInt ≤ 299 ∧ (x16.toInt = 0 ∨ x16.toInt < (((y1_3 : Int32).toNatClampNeg : Nat) : Int))) := by rw [ex16]; exact hI.2 54 _
        have rc16 : (((y1_3 : Int32).toNatClampNeg : Nat) : Int) = (y1_3 : Int32).toInt := cl_nn (by have h9 : y1_3.toInt = y1_3.toInt := rfl; omega)
        have hcs := cl_s (fr := c 54) hlf (k := y1_3) (by omega) (by omega) ex16
        refine lv_istore_n (lv' := [(3, .int x16), (2, .int x15), (0, .ref o), (1, .int s1)]) hx hb dX12_found_17 rfl hl (by decide) rfl (fun ls hl => ?_)
        refine lv_goto (tgt := 4) hx hb dX12_found_18 (by decide) ?_
        exact ih1 x16 x15 (show x16.toInt = -9 ∨ (0 ≤ x16.toInt ∧ x16.toInt ≤ 299) from by have h51 : x15.toInt = (y1_2.toInt + 1) := tx15; omega) (show 0 ≤ x15.toInt ∧ x15.toInt ≤ 300 from by have h51 : x15.toInt = (y1_2.toInt + 1) := tx15; omega) (show x15.toInt + ((cl (c 54) x16.toInt : Nat) : Int) = ((cl (c 54) s1.toInt : Nat) : Int) from by have h51 : x15.toInt = (y1_2.toInt + 1) := tx15; omega) (by have h51 : x15.toInt = (y1_2.toInt + 1) := tx15; omega) _ _ _ hP hD hS (lv_sub hl [0, 1, 2, 3] rfl)
  exact lp1 _ s1 (0 : Int32) (show s1.toInt = -9 ∨ (0 ≤ s1.toInt ∧ s1.toInt ≤ 299) from by have h51 : (0 : Int32).toInt = 0 := (by decide); omega) (show 0 ≤ (0 : Int32).toInt ∧ (0 : Int32).toInt ≤ 300 from by have h51 : (0 : Int32).toInt = 0 := (by decide); omega) (show (0 : Int32).toInt + ((cl (c 54) s1.toInt : Nat) : Int) = ((cl (c 54) s1.toInt : Nat) : Int) from by have h51 : (0 : Int32).toInt = 0 := (by decide); omega) (Nat.lt_succ_self _) _ _ _ hP hD hS (lv_sub hl [0, 1, 2, 3] rfl)

def wm_X12_tried : List Cond := .code yX12_tried cX12_tried 7 (some .boolean) :: (([.methodLink RX12 398 yX12_whyNot, .instanceMethod yX12_whyNot, .selects RX12 yX12_whyNot yX12_whyNot, .initialized RX12, .code yX12_whyNot cX12_whyNot 4 (some .int), .methodLink RX12 361 yX12_whyNotGo, .instanceMethod yX12_whyNotGo, .selects RX12 yX12_whyNotGo yX12_whyNotGo, .code yX12_whyNotGo cX12_whyNotGo 2 (some .int), .methodLink RX12 348 yX12_isInRoom, .instanceMethod yX12_isInRoom, .selects RX12 yX12_isInRoom yX12_isInRoom, .code yX12_isInRoom cX12_isInRoom 1 (some .boolean), .fieldLink RX12 50 "TalePlayModel" "nForm" "[I", .fieldLink RX12 155 "TalePlayModel" "player" "I", .fieldLink RX12 101 "TalePlayModel" "isRoom" "[Z", .fieldLink RX12 53 "TalePlayModel" "nAt" "[I", .methodLink RX12 281 yX12_findExit, .instanceMethod yX12_findExit, .selects RX12 yX12_findExit yX12_findExit, .code yX12_findExit cX12_findExit 6 (some .boolean), .fieldLink RX12 263 "TalePlayModel" "leads" "I", .fieldLink RX12 266 "TalePlayModel" "byDoor" "I", .fieldLink RX12 269 "TalePlayModel" "bySentence" "I", .fieldLink RX12 272 "TalePlayModel" "isImplied" "Z", .fieldLink RX12 202 "TalePlayModel" "sentences" "I", .fieldLink RX12 28 "TalePlayModel" "left" "[I", .fieldLink RX12 31 "TalePlayModel" "middle" "[I", .methodLink RX12 184 yX12_isOf, .instanceMethod yX12_isOf, .selects RX12 yX12_isOf yX12_isOf, .code yX12_isOf cX12_isOf 4 (some .boolean), .fieldLink RX12 19 "TalePlayModel" "kindOf" "[I", .fieldLink RX12 13 "TalePlayModel" "parentOf" "[I", .methodLink RX12 276 yX12_otherSide, .instanceMethod yX12_otherSide, .selects RX12 yX12_otherSide yX12_otherSide, .code yX12_otherSide cX12_otherSide 4 (some .int), .fieldLink RX12 37 "TalePlayModel" "isSaid" "[Z", .fieldLink RX12 25 "TalePlayModel" "form" "[I", .fieldLink RX12 34 "TalePlayModel" "right" "[I", .fieldLink RX12 56 "TalePlayModel" "nOpen" "[Z", .methodLink RX12 364 yX12_whyNotTake, .instanceMethod yX12_whyNotTake, .selects RX12 yX12_whyNotTake yX12_whyNotTake, .code yX12_whyNotTake cX12_whyNotTake 4 (some .int), .fieldLink RX12 86 "TalePlayModel" "seen" "[Z", .methodLink RX12 352 yX12_isUpFrom, .instanceMethod yX12_isUpFrom, .selects RX12 yX12_isUpFrom yX12_isUpFrom, .code yX12_isUpFrom cX12_isUpFrom 4 (some .boolean), .methodLink RX12 355 yX12_holds, .instanceMethod yX12_holds, .selects RX12 yX12_holds yX12_holds, .code yX12_holds cX12_holds 2 (some .boolean), .methodLink RX12 194 yX12_isGoods, .instanceMethod yX12_isGoods, .selects RX12 yX12_isGoods yX12_isGoods, .code yX12_isGoods cX12_isGoods 2 (some .boolean), .methodLink RX12 188 yX12_isMovable, .instanceMethod yX12_isMovable, .selects RX12 yX12_isMovable yX12_isMovable, .code yX12_isMovable cX12_isMovable 2 (some .boolean), .methodLink RX12 256 yX12_saidFlag, .instanceMethod yX12_saidFlag, .selects RX12 yX12_saidFlag yX12_saidFlag, .code yX12_saidFlag cX12_saidFlag 4 (some .int), .methodLink RX12 216 yX12_saidSo, .instanceMethod yX12_saidSo, .selects RX12 yX12_saidSo yX12_saidSo, .code yX12_saidSo cX12_saidSo 6 (some .int), .fieldLink RX12 16 "TalePlayModel" "defaults" "[I", .fieldLink RX12 89 "TalePlayModel" "reached" "[Z", .methodLink RX12 315 yX12_bulkOf, .instanceMethod yX12_bulkOf, .selects RX12 yX12_bulkOf yX12_bulkOf, .code yX12_bulkOf cX12_bulkOf 6 (some .int), .methodLink RX12 306 yX12_beginBulk, .instanceMethod yX12_beginBulk, .selects RX12 yX12_beginBulk yX12_beginBulk, .code yX12_beginBulk cX12_beginBulk 3 (some .int), .fieldLink RX12 80 "TalePlayModel" "pile" "[I", .fieldLink RX12 83 "TalePlayModel" "nextIn" "[I", .methodLink RX12 300 yX12_body, .instanceMethod yX12_body, .selects RX12 yX12_body yX12_body, .code yX12_body cX12_body 2 none, .fieldLink RX12 294 "TalePlayModel" "traces" "Z", .fieldLink RX12 297 "TalePlayModel" "traced" "I", .fieldLink RX12 77 "TalePlayModel" "trace" "[I", .fieldLink RX12 22 "TalePlayModel" "sizeOf" "[I", .fieldLink RX12 177 "TalePlayModel" "objects" "I", .methodLink RX12 309 yX12_formNow, .instanceMethod yX12_formNow, .selects RX12 yX12_formNow yX12_formNow, .code yX12_formNow cX12_formNow 3 (some .int), .methodLink RX12 208 yX12_placing, .instanceMethod yX12_placing, .selects RX12 yX12_placing yX12_placing, .code yX12_placing cX12_placing 3 (some .int), .methodLink RX12 312 yX12_atNow, .instanceMethod yX12_atNow, .selects RX12 yX12_atNow yX12_atNow, .code yX12_atNow cX12_atNow 3 (some .int), .fieldLink RX12 303 "TalePlayModel" "isNought" "Z", .methodLink RX12 367 yX12_whyNotPut, .instanceMethod yX12_whyNotPut, .selects RX12 yX12_whyNotPut yX12_whyNotPut, .code yX12_whyNotPut cX12_whyNotPut 4 (some .int), .methodLink RX12 358 yX12_lying, .instanceMethod yX12_lying, .selects RX12 yX12_lying yX12_lying, .code yX12_lying cX12_lying 5 (some .int), .fieldLink RX12 98 "TalePlayModel" "isBox" "[Z", .methodLink RX12 371 yX12_whyNotTurn, .instanceMethod yX12_whyNotTurn, .selects RX12 yX12_whyNotTurn yX12_whyNotTurn, .code yX12_whyNotTurn cX12_whyNotTurn 4 (some .int), .methodLink RX12 191 yX12_isShutter, .instanceMethod yX12_isShutter, .selects RX12 yX12_isShutter yX12_isShutter, .code yX12_isShutter cX12_isShutter 2 (some .boolean), .methodLink RX12 260 yX12_keyOf, .instanceMethod yX12_keyOf, .selects RX12 yX12_keyOf yX12_keyOf, .code yX12_keyOf cX12_keyOf 3 (some .int), .fieldLink RX12 59 "TalePlayModel" "nLocked" "[Z", .methodLink RX12 375 yX12_whyNotEnter, .instanceMethod yX12_whyNotEnter, .selects RX12 yX12_whyNotEnter yX12_whyNotEnter, .code yX12_whyNotEnter cX12_whyNotEnter 2 (some .int), .methodLink RX12 378 yX12_whyNotLeave, .instanceMethod yX12_whyNotLeave, .selects RX12 yX12_whyNotLeave yX12_whyNotLeave, .code yX12_whyNotLeave cX12_whyNotLeave 2 (some .int), .methodLink RX12 401 yX12_acts, .instanceMethod yX12_acts, .selects RX12 yX12_acts yX12_acts, .code yX12_acts cX12_acts 5 none, .methodLink RX12 381 yX12_lay, .instanceMethod yX12_lay, .selects RX12 yX12_lay yX12_lay, .code yX12_lay cX12_lay 4 none, .fieldLink RX12 410 "TalePlayModel" "states" "I", .methodLink RX12 425 yX12_giveState, .instanceMethod yX12_giveState, .selects RX12 yX12_giveState yX12_giveState, .code yX12_giveState cX12_giveState 3 none, .fieldLink RX12 107 "TalePlayModel" "stateForm" "[B", .fieldLink RX12 111 "TalePlayModel" "stateAt" "[B", .fieldLink RX12 114 "TalePlayModel" "stateShut" "[B", .methodLink RX12 416 yX12_keepState, .instanceMethod yX12_keepState, .selects RX12 yX12_keepState yX12_keepState, .code yX12_keepState cX12_keepState 3 none, .fieldLink RX12 117 "TalePlayModel" "stateFrom" "[I", .fieldLink RX12 120 "TalePlayModel" "stateAct" "[I", .methodLink RX12 389 yX12_hasSecond, .static yX12_hasSecond, .code yX12_hasSecond cX12_hasSecond 1 (some .boolean), .fieldLink RX12 419 "TalePlayModel" "goalX" "I", .fieldLink RX12 422 "TalePlayModel" "goalY" "I", .methodLink RX12 413 yX12_isState, .instanceMethod yX12_isState, .selects RX12 yX12_isState yX12_isState, .code yX12_isState cX12_isState 3 (some .boolean)] : List Cond) ++ wsX120)
set_option maxRecDepth 20000 in
theorem gm_X12_tried_X12_whyNot : GoodIn wm_X12_tried (wsV RX12 398 RX12 yX12_whyNot wm_X12_whyNot) := goodIn_app (goodIn_of _ (by decide +kernel)) (goodIn_r _ [5, 6, 7, 8, 4, 9, 10, 11, 12, 13, 14, 15, 16, 17, 18, 19, 20, 21, 22, 23, 24, 25, 26, 27, 28, 29, 30, 31, 32, 33, 34, 35, 36, 37, 38, 39, 40, 41, 42, 43, 44, 45, 46, 47, 48, 49, 50, 51, 52, 53, 54, 55, 56, 57, 58, 59, 60, 61, 62, 63, 64, 65, 66, 67, 68, 69, 70, 71, 72, 73, 74, 75, 76, 77, 78, 79, 80, 81, 82, 83, 84, 85, 86, 87, 88, 89, 90, 91, 92, 93, 94, 95, 96, 97, 98, 99, 100, 101, 102, 103, 104, 105, 106, 107, 108, 109, 110, 111, 112, 113, 114, 115, 116, 117, 118, 119, 120, 121, 122, 123, 124, 125, 126, 127, 128, 129, 130, 131, 132, 133, 134, 135, 167, 168, 169, 170, 171, 172, 173, 174, 175, 176, 177, 178, 179, 180, 181, 182, 183, 184, 185, 186, 187, 188, 189, 190, 191, 192, 193, 194, 195, 196, 197, 198, 199, 200, 201, 202, 203, 204, 205, 206, 207, 208, 209, 210, 211, 212, 213, 214, 215, 216, 217, 218, 219, 220, 221, 222, 223, 224, 225, 226, 227, 228, 229, 230, 231, 232, 233, 234, 235] (by decide +kernel) (by decide +kernel))
set_option maxRecDepth 20000 in
theorem gm_X12_tried_X12_acts : GoodIn wm_X12_tried (wsV RX12 401 RX12 yX12_acts wm_X12_acts) := goodIn_app (goodIn_of _ (by decide +kernel)) (goodIn_r _ [139, 17, 15, 18, 19, 20, 4, 21, 22, 23, 24, 25, 26, 27, 28, 29, 30, 31, 32, 33, 34, 35, 36, 37, 38, 39, 40, 41, 140, 141, 142, 143, 14, 42, 127, 114, 167, 168, 169, 170, 171, 172, 173, 174, 175, 176, 177, 178, 179, 180, 181, 182, 183, 184, 185, 186, 187, 188, 189, 190, 191, 192, 193, 194, 195, 196, 197, 198, 199, 200, 201, 202, 203, 204, 205, 206, 207, 208, 209, 210, 211, 212, 213, 214, 215, 216, 217, 218, 219, 220, 221, 222, 223, 224, 225, 226, 227, 228, 229, 230, 231, 232, 233, 234, 235] (by decide +kernel) (by decide +kernel))
set_option maxRecDepth 20000 in
theorem gm_X12_tried_X12_giveState : GoodIn wm_X12_tried (wsV RX12 425 RX12 yX12_giveState wm_X12_giveState) := goodIn_app (goodIn_of _ (by decide +kernel)) (goodIn_r _ [148, 92, 14, 149, 17, 150, 42, 151, 127, 167, 168, 169, 170, 171, 172, 173, 174, 175, 176, 177, 178, 179, 180, 181, 182, 183, 184, 185, 186, 187, 188, 189, 190, 191, 192, 193, 194, 195, 196, 197, 198, 199, 200, 201, 202, 203, 204, 205, 206, 207, 208, 209, 210, 211, 212, 213, 214, 215, 216, 217, 218, 219, 220, 221, 222, 223, 224, 225, 226, 227, 228, 229, 230, 231, 232, 233, 234, 235] (by decide +kernel) (by decide +kernel))
set_option maxRecDepth 20000 in
theorem gm_X12_tried_X12_keepState : GoodIn wm_X12_tried (wsV RX12 416 RX12 yX12_keepState wm_X12_keepState) := goodIn_app (goodIn_of _ (by decide +kernel)) (goodIn_r _ [155, 92, 149, 14, 150, 17, 151, 42, 127, 167, 168, 169, 170, 171, 172, 173, 174, 175, 176, 177, 178, 179, 180, 181, 182, 183, 184, 185, 186, 187, 188, 189, 190, 191, 192, 193, 194, 195, 196, 197, 198, 199, 200, 201, 202, 203, 204, 205, 206, 207, 208, 209, 210, 211, 212, 213, 214, 215, 216, 217, 218, 219, 220, 221, 222, 223, 224, 225, 226, 227, 228, 229, 230, 231, 232, 233, 234, 235] (by decide +kernel) (by decide +kernel))
set_option maxRecDepth 20000 in
theorem gm_X12_tried_X12_hasSecond : GoodIn wm_X12_tried (va_wsS RX12 389 yX12_hasSecond wm_X12_hasSecond) := goodIn_app (goodIn_of _ (by decide +kernel)) (goodIn_r _ [160] (by decide +kernel) (by decide +kernel))
set_option maxRecDepth 20000 in
theorem gm_X12_tried_X12_isState : GoodIn wm_X12_tried (wsV RX12 413 RX12 yX12_isState wm_X12_isState) := goodIn_app (goodIn_of _ (by decide +kernel)) (goodIn_r _ [166, 92, 149, 14, 150, 17, 151, 42, 127, 167, 168, 169, 170, 171, 172, 173, 174, 175, 176, 177, 178, 179, 180, 181, 182, 183, 184, 185, 186, 187, 188, 189, 190, 191, 192, 193, 194, 195, 196, 197, 198, 199, 200, 201, 202, 203, 204, 205, 206, 207, 208, 209, 210, 211, 212, 213, 214, 215, 216, 217, 218, 219, 220, 221, 222, 223, 224, 225, 226, 227, 228, 229, 230, 231, 232, 233, 234, 235] (by decide +kernel) (by decide +kernel))
set_option maxHeartbeats 4000000 in
set_option maxRecDepth 100000 in
theorem s_X12_tried (l : Launch) (D : va_G) (sz : Nat) (o : Nat) (a : Nat → Nat) (t : Nat → ClassId) (i : Nat → Int32) (q : Int64) (c : Nat → Nat → Int32) (d : Nat → Nat → Int64) (s1 : Int32) (v1 : Int32) (w1 : Int32) (w2 : Int32) (hI : mInv i c) (hs1 : 0 ≤ s1.toInt ∧ s1.toInt < (i 50).toInt ∧ (i 50).toInt < 300) (hv1 : 0 ≤ v1.toInt ∧ v1.toInt ≤ 11) (hx0 : v1.toInt = 0 → 0 ≤ w1.toInt ∧ w1.toInt ≤ 9) (hx1 : 1 ≤ v1.toInt ∧ v1.toInt ≤ 10 → 0 ≤ w1.toInt ∧ w1.toInt < (i 5).toInt) (hy : v1.toInt = 3 ∨ v1.toInt = 4 ∨ v1.toInt = 7 ∨ v1.toInt = 8 → 0 ≤ w2.toInt ∧ w2.toInt < (i 5).toInt) (hs_T : TI (i 5).toInt (fun z => Kd (c 3) (c 6) z 0) (i 22).toInt (c 23) (c 24)) (hs_C : Cc (c 3) (c 6) (c 47) (c 48) (c 49) (i 5).toInt) (hs_S : SJ (c 3) (c 6) (c 9) (c 10) (c 11) (c 13) (i 2).toInt (i 5).toInt (i 8).toInt) (hs_P : Kd (c 3) (c 6) (i 22).toInt 5) (hs_R : RQ (c 44) (c 49) (nF (i 5).toInt (c 23) (c 24)) (i 22).toInt (i 5).toInt) (hs_Q : SQ (c 3) (c 6) (c 51) (c 52) (i 5).toInt (i 22).toInt (i 50).toInt) (hs_B : GB (c 23) (c 24) (c 51) (c 52) s1.toInt.toNat (i 5).toInt) : Met l yX12_tried wm_X12_tried ({ frames := 5, cells := 0, slots := 0, locals := 116 }) (va_Pc [.ref o, .int s1, .int v1, .int w1, .int w2] (pB D sz (mW o a t i q c d) (mT t))) (va_Qi (fun (r : Int32) (u : MS) => (0 ≤ r.toInt ∧ r.toInt ≤ 1) ∧ mInv u.1 u.2.2.1 ∧ (∀ k, k ∉ ([16, 17, 18, 19, 35, 36, 50] : List Nat) → u.1 k = i k) ∧ (∀ k, k ∉ ([23, 24, 25, 26, 34, 38, 39, 51, 52, 53, 54, 55] : List Nat) → u.2.2.1 k = c k) ∧ (SQ (u.2.2.1 3) (u.2.2.1 6) (u.2.2.1 51) (u.2.2.1 52) (u.1 5).toInt (u.1 22).toInt (u.1 50).toInt) ∧ (GB (u.2.2.1 23) (u.2.2.1 24) (u.2.2.1 51) (u.2.2.1 52) s1.toInt.toNat (u.1 5).toInt) ∧ (RQ (u.2.2.1 44) (u.2.2.1 49) (nF (u.1 5).toInt (u.2.2.1 23) (u.2.2.1 24)) (u.1 22).toInt (u.1 5).toInt) ∧ (TI (u.1 5).toInt (fun z => Kd (u.2.2.1 3) (u.2.2.1 6) z 0) (u.1 22).toInt (u.2.2.1 23) (u.2.2.1 24)) ∧ ((i 50).toInt ≤ (u.1 50).toInt ∧ (u.1 50).toInt ≤ (i 50).toInt + 1)) (oC D (va_A (mW o a t i q c d) sz) (fun u : MS => mW o a t u.1 u.2.1 u.2.2.1 u.2.2.2) (fun _ => [])) (va_A (mW o a t i q c d) sz)) 0 0 (va_A (mW o a t i q c d) sz) := by
  refine Met.ofW (cc := cX12_tried) (maxL := 7) (ret := (some .boolean)) (by decide) rfl ?_
  intro p e s m args below meth cd s₁ B hml hv
  obtain ⟨rfl, hsz, hP, hK, hD0⟩ := hv
  have hx := B.exec
  have hb := B.bytes
  have hr := B.returns
  have hts := atoms_spec (ws := wm_X12_tried) B.pre
  have hown : s.vm.findClass RX12 = some m.cls := findClass_of_methodNamed B.named
  have hlocks := B.notSynchronized
  subst hsz
  have hD := hD0.self (sz := s.heap.size)
  generalize hAe : va_A (mW o a t i q c d) s.heap.size = A at hD ⊢
  have hA : ∀ q : Nat, s.heap.size ≤ q → A q := fun q h => by rw [← hAe]; exact Or.inr h
  have hS : va_S A s.heap s.heap [] := va_S.rf
  have hfi : ∀ k, k ∉ ([] : List Nat) → i k = i k := fun _ _ => rfl
  have hfc : ∀ k, k ∉ ([] : List Nat) → c k = c k := fun _ _ => rfl
  have hl := lv_entry ([.ref o, .int s1, .int v1, .int w1, .int w2]) (n := 7) (Nat.le_of_ble_eq_true rfl)
  rw [lg_entry_eq]
  generalize (lg_sl ([.ref o, .int s1, .int v1, .int w1, .int w2]) ++ List.replicate (7 - (lg_sl ([.ref o, .int s1, .int v1, .int w1, .int w2])).length) Slot.unset).toArray = ls at hl ⊢
  have hl : lv_has ls 7 [(0, .ref o), (1, .int s1), (2, .int v1), (3, .int w1), (4, .int w2)] := hl
  have rb5_i : 0 ≤ (i 5).toInt ∧ (i 5).toInt ≤ 30 := hI.1 5
  have rb50_i : 0 ≤ (i 50).toInt ∧ (i 50).toInt ≤ 300 := hI.1 50
  have rb22_i : (i 22).toInt = -9 ∨ (0 ≤ (i 22).toInt ∧ (i 22).toInt ≤ 29) := hI.1 22
  have hs_G : Acy (gF (c 9) (c 10) (c 11) (c 13) (c 23) (c 24) (i 8).toInt (i 5).toInt (i 22).toInt) := gF_acyT hs_T
  refine lv_aload_n hx hb dX12_tried_0 rfl (lv_at hl 0 rfl) ?_
  refine lv_iload_n hx hb dX12_tried_1 rfl (lv_at hl 2 rfl) ?_
  refine lv_iload_n hx hb dX12_tried_2 rfl (lv_at hl 3 rfl) ?_
  refine lv_iload hx hb dX12_tried_3 (lv_at hl 4 rfl) ?_
  have rb8_i : 0 ≤ (i 8).toInt ∧ (i 8).toInt ≤ 200 := hI.1 8
  refine al_calli (va_runV (As := [.int v1, .int w1, .int w2]) (rest := []) ⟨hx, hb, hml, hown, hts⟩ (s_X12_whyNot l D s.heap.size o a t i q c d v1 w1 w2 hI (show 0 ≤ v1.toInt ∧ v1.toInt ≤ 12 from by omega) (show v1.toInt = 0 → 0 ≤ w1.toInt ∧ w1.toInt ≤ 9 from by omega) (show 1 ≤ v1.toInt ∧ v1.toInt ≤ 10 → 0 ≤ w1.toInt ∧ w1.toInt < ((i 5) : Int32).toInt from by omega) (show v1.toInt = 3 ∨ v1.toInt = 4 ∨ v1.toInt = 7 ∨ v1.toInt = 8 → 0 ≤ w2.toInt ∧ w2.toInt < ((i 5) : Int32).toInt from by omega) hs_T hs_C hs_G) (cwV 3 hts gm_X12_tried_X12_whyNot rfl rfl rfl (by decide +kernel) ⟨Nat.le_of_ble_eq_true rfl, Nat.le_of_ble_eq_true rfl⟩) (pB_V hK hP hD (ci := 12) (q0 := 0) rfl rfl) rfl rfl hl.1 rfl (lv_room (Nat.le_of_ble_eq_true rfl)) dX12_tried_5 ⟨Nat.le_of_ble_eq_true rfl, Nat.le_of_ble_eq_true rfl⟩) hS hA hP hD (fun r1 u1 H locs hw1 hP hD hS => ?_)
  obtain ⟨i1, q1, c1, d1⟩ := u1
  have hw1 : ((0 ≤ r1.toInt ∧ r1.toInt ≤ 21) ∧ (Im (r1.toInt = 0) (AC (c 3) (c 6) (c 9) (c 10) (c 11) (c 12) (c 13) (c 23) (c 24) (c 44) (i 8).toInt (i 5).toInt (i 22).toInt v1.toInt w1.toInt w2.toInt))) ∧ mInv i1 c1 ∧ (∀ k, k ∉ ([16, 17, 18, 19, 35, 36] : List Nat) → i1 k = i k) ∧ (∀ k, k ∉ ([34, 38, 39] : List Nat) → c1 k = c k) := hw1
  obtain ⟨hw1, hI, hei1, hec1⟩ := hw1
  obtain ⟨hw1, hr1_0⟩ := hw1
  have hr1_0 : Im (r1.toInt = 0) (AC (c 3) (c 6) (c 9) (c 10) (c 11) (c 12) (c 13) (c 23) (c 24) (c 44) (i 8).toInt (i 5).toInt (i 22).toInt v1.toInt w1.toInt w2.toInt) := hr1_0
  have hfi : ∀ k, k ∉ ([16, 17, 18, 19, 35, 36] : List Nat) → i1 k = i k := fr_z hfi hei1 (by decide) (by decide)
  have hfc : ∀ k, k ∉ ([34, 38, 39] : List Nat) → c1 k = c k := fr_z hfc hec1 (by decide) (by decide)
  have hP : va_P D vwCl (mW o a t i1 q1 c1 d1) H := hP
  have hD : va_D A (mW o a t i1 q1 c1 d1) := hD
  refine lv_if_le (tgt := 13) hx hb dX12_tried_8 (by decide) (fun c2 => ?_) (fun c2 => ?_)
  · have f2 := (ti_le (a := r1.toInt) (b := 0) rfl (by decide)).mp c2
    have hs_A : AC (c 3) (c 6) (c 9) (c 10) (c 11) (c 12) (c 13) (c 23) (c 24) (c 44) (i 8).toInt (i 5).toInt (i 22).toInt v1.toInt w1.toInt w2.toInt := hr1_0 (by omega)
    refine lv_aload_n hx hb dX12_tried_13 rfl (lv_at hl 0 rfl) ?_
    refine lv_iload_n hx hb dX12_tried_14 rfl (lv_at hl 2 rfl) ?_
    refine lv_iload_n hx hb dX12_tried_15 rfl (lv_at hl 3 rfl) ?_
    refine lv_iload hx hb dX12_tried_16 (lv_at hl 4 rfl) ?_
    have rb2_i1 : 6 ≤ (i1 2).toInt ∧ (i1 2).toInt ≤ 24 := hI.1 2
    have re2_i1 : (i1 2).toInt = (i 2).toInt := congrArg Int32.toInt (hfi 2 (by decide))
    have rb5_i1 : 0 ≤ (i1 5).toInt ∧ (i1 5).toInt ≤ 30 := hI.1 5
    have re5_i1 : (i1 5).toInt = (i 5).toInt := congrArg Int32.toInt (hfi 5 (by decide))
    have rb8_i1 : 0 ≤ (i1 8).toInt ∧ (i1 8).toInt ≤ 200 := hI.1 8
    have re8_i1 : (i1 8).toInt = (i 8).toInt := congrArg Int32.toInt (hfi 8 (by decide))
    have rb22_i1 : (i1 22).toInt = -9 ∨ (0 ≤ (i1 22).toInt ∧ (i1 22).toInt ≤ 29) := hI.1 22
    have re22_i1 : (i1 22).toInt = (i 22).toInt := congrArg Int32.toInt (hfi 22 (by decide))
    refine al_callv (va_runV (As := [.int v1, .int w1, .int w2]) (rest := []) ⟨hx, hb, hml, hown, hts⟩ (s_X12_acts l D H.size o a t i1 q1 c1 d1 v1 w1 w2 hI (show 0 ≤ v1.toInt ∧ v1.toInt ≤ 12 from by omega) (show v1.toInt = 0 → 0 ≤ w1.toInt ∧ w1.toInt ≤ 9 from by omega) (show 1 ≤ v1.toInt ∧ v1.toInt ≤ 10 → 0 ≤ w1.toInt ∧ w1.toInt < ((i1 5) : Int32).toInt from by omega) (show v1.toInt = 3 ∨ v1.toInt = 4 ∨ v1.toInt = 7 ∨ v1.toInt = 8 → 0 ≤ w2.toInt ∧ w2.toInt < ((i1 5) : Int32).toInt from by omega) (by rw [show c1 3 = c 3 from hfc 3 (by decide), show c1 6 = c 6 from hfc 6 (by decide), show c1 23 = c 23 from hfc 23 (by decide), show c1 24 = c 24 from hfc 24 (by decide), show i1 5 = i 5 from hfi 5 (by decide), show i1 22 = i 22 from hfi 22 (by decide)]; exact hs_T) (by rw [show c1 3 = c 3 from hfc 3 (by decide), show c1 6 = c 6 from hfc 6 (by decide), show c1 47 = c 47 from hfc 47 (by decide), show c1 48 = c 48 from hfc 48 (by decide), show c1 49 = c 49 from hfc 49 (by decide), show i1 5 = i 5 from hfi 5 (by decide)]; exact hs_C) (by rw [show c1 3 = c 3 from hfc 3 (by decide), show c1 6 = c 6 from hfc 6 (by decide), show c1 9 = c 9 from hfc 9 (by decide), show c1 10 = c 10 from hfc 10 (by decide), show c1 11 = c 11 from hfc 11 (by decide), show c1 13 = c 13 from hfc 13 (by decide), show i1 2 = i 2 from hfi 2 (by decide), show i1 5 = i 5 from hfi 5 (by decide), show i1 8 = i 8 from hfi 8 (by decide)]; exact hs_S) (by rw [show c1 3 = c 3 from hfc 3 (by decide), show c1 6 = c 6 from hfc 6 (by decide), show i1 22 = i 22 from hfi 22 (by decide)]; exact hs_P) (by rw [show c1 23 = c 23 from hfc 23 (by decide), show c1 24 = c 24 from hfc 24 (by decide), show c1 44 = c 44 from hfc 44 (by decide), show c1 49 = c 49 from hfc 49 (by decide), show i1 5 = i 5 from hfi 5 (by decide), show i1 22 = i 22 from hfi 22 (by decide)]; exact hs_R) (by rw [show c1 3 = c 3 from hfc 3 (by decide), show c1 6 = c 6 from hfc 6 (by decide), show c1 9 = c 9 from hfc 9 (by decide), show c1 10 = c 10 from hfc 10 (by decide), show c1 11 = c 11 from hfc 11 (by decide), show c1 12 = c 12 from hfc 12 (by decide), show c1 13 = c 13 from hfc 13 (by decide), show c1 23 = c 23 from hfc 23 (by decide), show c1 24 = c 24 from hfc 24 (by decide), show c1 44 = c 44 from hfc 44 (by decide), show i1 5 = i 5 from hfi 5 (by decide), show i1 8 = i 8 from hfi 8 (by decide), show i1 22 = i 22 from hfi 22 (by decide)]; exact hs_A)) (cwV 3 hts gm_X12_tried_X12_acts rfl rfl rfl (by decide +kernel) ⟨Nat.le_of_ble_eq_true rfl, Nat.le_of_ble_eq_true rfl⟩) (pB_V hK hP hD (ci := 12) (q0 := 0) rfl rfl) rfl rfl hl.1 rfl (lv_room (Nat.le_of_ble_eq_true rfl)) dX12_tried_18 ⟨Nat.le_of_ble_eq_true rfl, Nat.le_of_ble_eq_true rfl⟩) hS hA hP hD (fun u3 H locs hw3 hP hD hS => ?_)
    obtain ⟨i3, q3, c3, d3⟩ := u3
    have hw3 : True ∧ mInv i3 c3 ∧ (∀ k, k ∉ ([16, 17, 18, 19] : List Nat) → i3 k = i1 k) ∧ (∀ k, k ∉ ([23, 24, 25, 26] : List Nat) → c3 k = c1 k) ∧ (TI (i1 5).toInt (fun z => Kd (c1 3) (c1 6) z 0) (i1 22).toInt (c3 23) (c3 24)) := hw3
    obtain ⟨hw3, hI, hei3, hec3, hxp3_0⟩ := hw3
    have hxp3_0 : TI (i 5).toInt (fun z => Kd (c 3) (c 6) z 0) (i 22).toInt (c3 23) (c3 24) := by have h9 := hxp3_0; rw [show c1 3 = c 3 from hfc 3 (by decide), show c1 6 = c 6 from hfc 6 (by decide), show i1 5 = i 5 from hfi 5 (by decide), show i1 22 = i 22 from hfi 22 (by decide)] at h9; exact h9
    have hfi : ∀ k, k ∉ ([16, 17, 18, 19, 35, 36] : List Nat) → i3 k = i k := fr_z hfi hei3 (by decide) (by decide)
    have hfc : ∀ k, k ∉ ([23, 24, 25, 26, 34, 38, 39] : List Nat) → c3 k = c k := fr_z hfc hec3 (by decide) (by decide)
    have hP : va_P D vwCl (mW o a t i3 q3 c3 d3) H := hP
    have hD : va_D A (mW o a t i3 q3 c3 d3) := hD
    have hs_N := hxp3_0
    refine lv_iconst (v := 1) hx hb dX12_tried_21 (by decide) ?_
    refine lv_istore (lv' := [(5, .int 1), (0, .ref o), (1, .int s1), (2, .int v1), (3, .int w1), (4, .int w2)]) hx hb dX12_tried_22 hl (by decide) rfl (fun ls hl => ?_)
    refine lv_iconst (v := 0) hx hb dX12_tried_24 (by decide) ?_
    refine lv_istore (lv' := [(6, .int 0), (5, .int 1), (0, .ref o), (1, .int s1), (2, .int v1), (3, .int w1), (4, .int w2)]) hx hb dX12_tried_25 hl (by decide) rfl (fun ls hl => ?_)
    have lp4 : ∀ (fu : Nat) (y4_6 : Int32) (y4_5 : Int32), (0 ≤ y4_6.toInt ∧ y4_6.toInt ≤ 300) → (0 ≤ y4_5.toInt ∧ y4_5.toInt ≤ 1) → (300 - y4_6.toInt).toNat < fu → ∀ (H : Heap) (locs : List Loc) (ls : Array Slot), va_P D vwCl (mW o a t i3 q3 c3 d3) H → va_D A (mW o a t i3 q3 c3 d3) → va_S A s.heap H locs → lv_has ls 7 [(6, .int y4_6), (5, .int y4_5), (0, .ref o), (1, .int s1), (2, .int v1), (3, .int w1), (4, .int w2)] → W p l e (headSpec wm_X12_tried ({ frames := 5, cells := 0, slots := 0, locals := 116 })).room s m ([.ref o, .int s1, .int v1, .int w1, .int w2] : List Value).toArray below meth cd H locs 0 0 (MQ below (va_Qi (fun (r : Int32) (u : MS) => (0 ≤ r.toInt ∧ r.toInt ≤ 1) ∧ mInv u.1 u.2.2.1 ∧ (∀ k, k ∉ ([16, 17, 18, 19, 35, 36, 50] : List Nat) → u.1 k = i k) ∧ (∀ k, k ∉ ([23, 24, 25, 26, 34, 38, 39, 51, 52, 53, 54, 55] : List Nat) → u.2.2.1 k = c k) ∧ (SQ (u.2.2.1 3) (u.2.2.1 6) (u.2.2.1 51) (u.2.2.1 52) (u.1 5).toInt (u.1 22).toInt (u.1 50).toInt) ∧ (GB (u.2.2.1 23) (u.2.2.1 24) (u.2.2.1 51) (u.2.2.1 52) s1.toInt.toNat (u.1 5).toInt) ∧ (RQ (u.2.2.1 44) (u.2.2.1 49) (nF (u.1 5).toInt (u.2.2.1 23) (u.2.2.1 24)) (u.1 22).toInt (u.1 5).toInt) ∧ (TI (u.1 5).toInt (fun z => Kd (u.2.2.1 3) (u.2.2.1 6) z 0) (u.1 22).toInt (u.2.2.1 23) (u.2.2.1 24)) ∧ ((i 50).toInt ≤ (u.1 50).toInt ∧ (u.1 50).toInt ≤ (i 50).toInt + 1)) (oC D A (fun u : MS => mW o a t u.1 u.2.1 u.2.2.1 u.2.2.2) (fun _ => [])) A) ([.ref o, .int s1, .int v1, .int w1, .int w2] : List Value).toArray s 0 0 A) (F0 m 27 ls []) := by
      intro fu
      induction fu with
      | zero => intro y4_6 y4_5 hy4_6 hy4_5 hm; exact absurd hm (Nat.not_lt_zero _)
      | succ fu ih =>
        intro y4_6 y4_5 hy4_6 hy4_5 hm H locs ls hP hD hS hl
        have ih4 := ih
        refine lv_iload hx hb dX12_tried_27 (lv_at hl 0 rfl) ?_
        refine lv_aload_n hx hb dX12_tried_29 rfl (lv_at hl 2 rfl) ?_
        refine mget_50 (v := (i3 50)) rfl hx hb hts (fun _ h => List.mem_cons_of_mem _ (List.mem_append_right _ h)) hown hK hP (hts (.fieldLink RX12 410 "TalePlayModel" "states" "I") (by decide +kernel)) dX12_tried_30 ?_
        have rb50_i3 : 0 ≤ (i3 50).toInt ∧ (i3 50).toInt ≤ 300 := hI.1 50
        have re50_i3 : (i3 50).toInt = (i 50).toInt := congrArg Int32.toInt (hfi 50 (by decide))
        have jn5 : ∀ (H : Heap) (locs : List Loc) (ls : Array Slot), va_P D vwCl (mW o a t i3 q3 c3 d3) H → va_D A (mW o a t i3 q3 c3 d3) → va_S A s.heap H locs → lv_has ls 7 [(6, .int y4_6), (5, .int y4_5), (0, .ref o), (1, .int s1), (2, .int v1), (3, .int w1), (4, .int w2)] → W p l e (headSpec wm_X12_tried ({ frames := 5, cells := 0, slots := 0, locals := 116 })).room s m ([.ref o, .int s1, .int v1, .int w1, .int w2] : List Value).toArray below meth cd H locs 0 0 (MQ below (va_Qi (fun (r : Int32) (u : MS) => (0 ≤ r.toInt ∧ r.toInt ≤ 1) ∧ mInv u.1 u.2.2.1 ∧ (∀ k, k ∉ ([16, 17, 18, 19, 35, 36, 50] : List Nat) → u.1 k = i k) ∧ (∀ k, k ∉ ([23, 24, 25, 26, 34, 38, 39, 51, 52, 53, 54, 55] : List Nat) → u.2.2.1 k = c k) ∧ (SQ (u.2.2.1 3) (u.2.2.1 6) (u.2.2.1 51) (u.2.2.1 52) (u.1 5).toInt (u.1 22).toInt (u.1 50).toInt) ∧ (GB (u.2.2.1 23) (u.2.2.1 24) (u.2.2.1 51) (u.2.2.1 52) s1.toInt.toNat (u.1 5).toInt) ∧ (RQ (u.2.2.1 44) (u.2.2.1 49) (nF (u.1 5).toInt (u.2.2.1 23) (u.2.2.1 24)) (u.1 22).toInt (u.1 5).toInt) ∧ (TI (u.1 5).toInt (fun z => Kd (u.2.2.1 3) (u.2.2.1 6) z 0) (u.1 22).toInt (u.2.2.1 23) (u.2.2.1 24)) ∧ ((i 50).toInt ≤ (u.1 50).toInt ∧ (u.1 50).toInt ≤ (i 50).toInt + 1)) (oC D A (fun u : MS => mW o a t u.1 u.2.1 u.2.2.1 u.2.2.2) (fun _ => [])) A) ([.ref o, .int s1, .int v1, .int w1, .int w2] : List Value).toArray s 0 0 A) (F0 m 63 ls []) := by
          intro H locs ls hP hD hS hl
          refine lv_iconst (v := 0) hx hb dX12_tried_63 (by decide) ?_
          refine lv_istore (lv' := [(6, .int 0), (5, .int y4_5), (0, .ref o), (1, .int s1), (2, .int v1), (3, .int w1), (4, .int w2)]) hx hb dX12_tried_64 hl (by decide) rfl (fun ls hl => ?_)
          refine lv_iload hx hb dX12_tried_66 (lv_at hl 1 rfl) ?_
          have jn6 : ∀ (i6 : Nat → Int32) (q6 : Int64) (c6 : Nat → Nat → Int32) (d6 : Nat → Nat → Int64) (y6_6 : Int32), mInv i6 c6 → (∀ k, k ∉ ([16, 17, 18, 19, 35, 36, 50] : List Nat) → i6 k = i k) → (∀ k, k ∉ ([23, 24, 25, 26, 34, 38, 39, 51, 52, 53, 54, 55] : List Nat) → c6 k = c k) → (TI (i 5).toInt (fun z => Kd (c 3) (c 6) z 0) (i 22).toInt (c6 23) (c6 24)) → (0 ≤ y6_6.toInt ∧ y6_6.toInt ≤ 1) → (SQ (c 3) (c 6) (c6 51) (c6 52) (i 5).toInt (i 22).toInt ((i6 50) : Int32).toInt) → (SR (c6 51) (c6 52) (c 51) (c 52) s1.toInt.toNat) → ((i 50).toInt ≤ ((i6 50) : Int32).toInt ∧ ((i6 50) : Int32).toInt ≤ (i 50).toInt + 1) → ∀ (H : Heap) (locs : List Loc) (ls : Array Slot), va_P D vwCl (mW o a t i6 q6 c6 d6) H → va_D A (mW o a t i6 q6 c6 d6) → va_S A s.heap H locs → lv_has ls 7 [(5, .int y4_5), (0, .ref o), (1, .int s1), (2, .int v1), (3, .int w1), (4, .int w2), (6, .int y6_6)] → W p l e (headSpec wm_X12_tried ({ frames := 5, cells := 0, slots := 0, locals := 116 })).room s m ([.ref o, .int s1, .int v1, .int w1, .int w2] : List Value).toArray below meth cd H locs 0 0 (MQ below (va_Qi (fun (r : Int32) (u : MS) => (0 ≤ r.toInt ∧ r.toInt ≤ 1) ∧ mInv u.1 u.2.2.1 ∧ (∀ k, k ∉ ([16, 17, 18, 19, 35, 36, 50] : List Nat) → u.1 k = i k) ∧ (∀ k, k ∉ ([23, 24, 25, 26, 34, 38, 39, 51, 52, 53, 54, 55] : List Nat) → u.2.2.1 k = c k) ∧ (SQ (u.2.2.1 3) (u.2.2.1 6) (u.2.2.1 51) (u.2.2.1 52) (u.1 5).toInt (u.1 22).toInt (u.1 50).toInt) ∧ (GB (u.2.2.1 23) (u.2.2.1 24) (u.2.2.1 51) (u.2.2.1 52) s1.toInt.toNat (u.1 5).toInt) ∧ (RQ (u.2.2.1 44) (u.2.2.1 49) (nF (u.1 5).toInt (u.2.2.1 23) (u.2.2.1 24)) (u.1 22).toInt (u.1 5).toInt) ∧ (TI (u.1 5).toInt (fun z => Kd (u.2.2.1 3) (u.2.2.1 6) z 0) (u.1 22).toInt (u.2.2.1 23) (u.2.2.1 24)) ∧ ((i 50).toInt ≤ (u.1 50).toInt ∧ (u.1 50).toInt ≤ (i 50).toInt + 1)) (oC D A (fun u : MS => mW o a t u.1 u.2.1 u.2.2.1 u.2.2.2) (fun _ => [])) A) ([.ref o, .int s1, .int v1, .int w1, .int w2] : List Value).toArray s 0 0 A) (F0 m 198 ls []) := by
            intro i6 q6 c6 d6 y6_6 hI hfi hfc hs_N hy6_6 hz6_0 hz6_1 hz6_2 H locs ls hP hD hS hl
            refine lv_aload_n hx hb dX12_tried_198 rfl (lv_at hl 1 rfl) ?_
            refine lv_iload_n hx hb dX12_tried_199 rfl (lv_at hl 2 rfl) ?_
            have rb5_i6 : 0 ≤ (i6 5).toInt ∧ (i6 5).toInt ≤ 30 := hI.1 5
            have re5_i6 : (i6 5).toInt = (i 5).toInt := congrArg Int32.toInt (hfi 5 (by decide))
            refine al_callv (va_runV (As := [.int s1]) (rest := []) ⟨hx, hb, hml, hown, hts⟩ (s_X12_giveState l D H.size o a t i6 q6 c6 d6 s1 hI (show 0 ≤ s1.toInt ∧ s1.toInt ≤ 300 from by omega)) (cwV 1 hts gm_X12_tried_X12_giveState rfl rfl rfl (by decide +kernel) ⟨Nat.le_of_ble_eq_true rfl, Nat.le_of_ble_eq_true rfl⟩) (pB_V hK hP hD (ci := 12) (q0 := 0) rfl rfl) rfl rfl hl.1 rfl (lv_room (Nat.le_of_ble_eq_true rfl)) dX12_tried_200 ⟨Nat.le_of_ble_eq_true rfl, Nat.le_of_ble_eq_true rfl⟩) hS hA hP hD (fun u7 H locs hw7 hP hD hS => ?_)
            obtain ⟨i7, q7, c7, d7⟩ := u7
            have hw7 : True ∧ mInv i7 c7 ∧ (∀ k, k ∉ ([] : List Nat) → i7 k = i6 k) ∧ (∀ k, k ∉ ([23, 24, 25, 26] : List Nat) → c7 k = c6 k) ∧ (GB (c7 23) (c7 24) (c6 51) (c6 52) s1.toInt.toNat (i6 5).toInt) := hw7
            obtain ⟨hw7, hI, hei7, hec7, hxp7_0⟩ := hw7
            have hxp7_0 : GB (c7 23) (c7 24) (c6 51) (c6 52) s1.toInt.toNat (i 5).toInt := by have h9 := hxp7_0; rw [show i6 5 = i 5 from hfi 5 (by decide)] at h9; exact h9
            have hfi : ∀ k, k ∉ ([16, 17, 18, 19, 35, 36, 50] : List Nat) → i7 k = i k := fr_z hfi hei7 (by decide) (by decide)
            have hfc : ∀ k, k ∉ ([23, 24, 25, 26, 34, 38, 39, 51, 52, 53, 54, 55] : List Nat) → c7 k = c k := fr_z hfc hec7 (by decide) (by decide)
            have hP : va_P D vwCl (mW o a t i7 q7 c7 d7) H := hP
            have hD : va_D A (mW o a t i7 q7 c7 d7) := hD
            refine lv_iload hx hb dX12_tried_203 (lv_at hl 6 rfl) ?_
            exact rw_zret (i7, q7, c7, d7) hx hb hr hlocks hS (hK.sub (tys' := []) [] rfl) hP hD (nb_n (show 0 ≤ y6_6.toInt ∧ y6_6.toInt ≤ 1 from by omega)) dX12_tried_205 ⟨(show 0 ≤ y6_6.toInt ∧ y6_6.toInt ≤ 1 from by omega), hI, fr_w hfi (by decide), fr_w hfc (by decide), (show SQ (c7 3) (c7 6) (c7 51) (c7 52) ((i7 5) : Int32).toInt ((i7 22) : Int32).toInt ((i7 50) : Int32).toInt from by rw [show c7 3 = c 3 from hfc 3 (by decide), show c7 6 = c 6 from hfc 6 (by decide), show c7 51 = c6 51 from hec7 51 (by decide), show c7 52 = c6 52 from hec7 52 (by decide), show i7 5 = i 5 from hfi 5 (by decide), show i7 22 = i 22 from hfi 22 (by decide), show i7 50 = i6 50 from hei7 50 (by decide)]; exact hz6_0), (show GB (c7 23) (c7 24) (c7 51) (c7 52) s1.toInt.toNat ((i7 5) : Int32).toInt from by rw [show c7 51 = c6 51 from hec7 51 (by decide), show c7 52 = c6 52 from hec7 52 (by decide), show i7 5 = i 5 from hfi 5 (by decide)]; exact hxp7_0), (show RQ (c7 44) (c7 49) (nF ((i7 5) : Int32).toInt (c7 23) (c7 24)) ((i7 22) : Int32).toInt ((i7 5) : Int32).toInt from by rw [show c7 44 = c 44 from hfc 44 (by decide), show c7 49 = c 49 from hfc 49 (by decide), show i7 5 = i 5 from hfi 5 (by decide), show i7 22 = i 22 from hfi 22 (by decide)]; exact RQ_f (nF_ext (GB_e hs_B hxp7_0 hz6_1 (by omega))) hs_R), (show TI ((i7 5) : Int32).toInt (fun z => Kd (c7 3) (c7 6) z 0) ((i7 22) : Int32).toInt (c7 23) (c7 24) from by rw [show c7 3 = c 3 from hfc 3 (by decide), show c7 6 = c 6 from hfc 6 (by decide), show i7 5 = i 5 from hfi 5 (by decide), show i7 22 = i 22 from hfi 22 (by decide)]; exact TI_ext hs_T (GB_e hs_B hxp7_0 hz6_1 (by omega))), (show (i 50).toInt ≤ ((i7 50) : Int32).toInt ∧ ((i7 50) : Int32).toInt ≤ (i 50).toInt + 1 from by rw [show i7 50 = i6 50 from hei7 50 (by decide)]; exact hz6_2)⟩
          refine lv_if_eq (tgt := 198) hx hb dX12_tried_68 (by decide) (fun c8 => ?_) (fun c8 => ?_)
          · have f8 := (ti_eq (a := y4_5.toInt) (b := 0) rfl (by decide)).mp c8
            exact jn6 i3 q3 c3 d3 (0 : Int32)  hI (fr_w hfi (by decide)) (fr_w hfc (by decide)) hs_N (show 0 ≤ (0 : Int32).toInt ∧ (0 : Int32).toInt ≤ 1 from by have h50 : (0 : Int32).toInt = 0 := (by decide); omega) (show SQ (c 3) (c 6) (c3 51) (c3 52) (i 5).toInt (i 22).toInt ((i3 50) : Int32).toInt from by rw [show c3 3 = c 3 from hfc 3 (by decide), show c3 6 = c 6 from hfc 6 (by decide), show c3 51 = c 51 from hfc 51 (by decide), show c3 52 = c 52 from hfc 52 (by decide), show i3 5 = i 5 from hfi 5 (by decide), show i3 22 = i 22 from hfi 22 (by decide), show i3 50 = i 50 from hfi 50 (by decide)]; exact hs_Q) (show SR (c3 51) (c3 52) (c 51) (c 52) s1.toInt.toNat from by rw [show c3 51 = c 51 from hfc 51 (by decide), show c3 52 = c 52 from hfc 52 (by decide)]; exact SR_r) (show (i 50).toInt ≤ ((i3 50) : Int32).toInt ∧ ((i3 50) : Int32).toInt ≤ (i 50).toInt + 1 from by have h50 : (0 : Int32).toInt = 0 := (by decide); omega) _ _ _ hP hD hS (lv_sub hl [1, 2, 3, 4, 5, 6, 0] rfl)
          · have f8 := mt (ti_eq (a := y4_5.toInt) (b := 0) rfl (by decide)).mpr c8
            refine lv_aload_n hx hb dX12_tried_71 rfl (lv_at hl 2 rfl) ?_
            refine lv_aload_n hx hb dX12_tried_72 rfl (lv_at hl 2 rfl) ?_
            refine mget_50 (v := (i3 50)) rfl hx hb hts (fun _ h => List.mem_cons_of_mem _ (List.mem_append_right _ h)) hown hK hP (hts (.fieldLink RX12 410 "TalePlayModel" "states" "I") (by decide +kernel)) dX12_tried_73 ?_
            have rb5_i3 : 0 ≤ (i3 5).toInt ∧ (i3 5).toInt ≤ 30 := hI.1 5
            have re5_i3 : (i3 5).toInt = (i 5).toInt := congrArg Int32.toInt (hfi 5 (by decide))
            refine al_callv (va_runV (As := [.int (i3 50)]) (rest := []) ⟨hx, hb, hml, hown, hts⟩ (s_X12_keepState l D H.size o a t i3 q3 c3 d3 (i3 50) hI (show 0 ≤ (i3 50).toInt ∧ (i3 50).toInt ≤ 300 from by omega)) (cwV 1 hts gm_X12_tried_X12_keepState rfl rfl rfl (by decide +kernel) ⟨Nat.le_of_ble_eq_true rfl, Nat.le_of_ble_eq_true rfl⟩) (pB_V hK hP hD (ci := 12) (q0 := 0) rfl rfl) rfl rfl hl.1 rfl (lv_room (Nat.le_of_ble_eq_true rfl)) dX12_tried_76 ⟨Nat.le_of_ble_eq_true rfl, Nat.le_of_ble_eq_true rfl⟩) hS hA hP hD (fun u9 H locs hw9 hP hD hS => ?_)
            obtain ⟨i9, q9, c9, d9⟩ := u9
            have hw9 : True ∧ mInv i9 c9 ∧ (∀ k, k ∉ ([] : List Nat) → i9 k = i3 k) ∧ (∀ k, k ∉ ([51, 52, 53] : List Nat) → c9 k = c3 k) ∧ (RW (c9 51) (c9 52) (c3 51) (c3 52) (c3 23) (c3 24) (i3 50).toInt.toNat (i3 5).toInt) := hw9
            obtain ⟨hw9, hI, hei9, hec9, hxp9_0⟩ := hw9
            have hxp9_0 : RW (c9 51) (c9 52) (c 51) (c 52) (c3 23) (c3 24) (i3 50).toInt.toNat (i 5).toInt := by have h9 := hxp9_0; rw [show c3 51 = c 51 from hfc 51 (by decide), show c3 52 = c 52 from hfc 52 (by decide), show i3 5 = i 5 from hfi 5 (by decide)] at h9; exact h9
            have hfi : ∀ k, k ∉ ([16, 17, 18, 19, 35, 36] : List Nat) → i9 k = i k := fr_z hfi hei9 (by decide) (by decide)
            have hfc : ∀ k, k ∉ ([23, 24, 25, 26, 34, 38, 39, 51, 52, 53] : List Nat) → c9 k = c k := fr_z hfc hec9 (by decide) (by decide)
            have hP : va_P D vwCl (mW o a t i9 q9 c9 d9) H := hP
            have hD : va_D A (mW o a t i9 q9 c9 d9) := hD
            have hs_N : TI (i 5).toInt (fun z => Kd (c 3) (c 6) z 0) (i 22).toInt (c9 23) (c9 24) := by rw [show c9 23 = c3 23 from hec9 23 (by decide), show c9 24 = c3 24 from hec9 24 (by decide)]; exact hs_N
            refine lv_aload_n hx hb dX12_tried_79 rfl (lv_at hl 2 rfl) ?_
            refine mget_54 hx hb hts (fun _ h => List.mem_cons_of_mem _ (List.mem_append_right _ h)) hown hK hP (hts (.fieldLink RX12 117 "TalePlayModel" "stateFrom" "[I") (by decide +kernel)) dX12_tried_80 ?_
            refine lv_aload_n hx hb dX12_tried_83 rfl (lv_at hl 2 rfl) ?_
            refine mget_50 (v := (i9 50)) rfl hx hb hts (fun _ h => List.mem_cons_of_mem _ (List.mem_append_right _ h)) hown hK hP (hts (.fieldLink RX12 410 "TalePlayModel" "states" "I") (by decide +kernel)) dX12_tried_84 ?_
            have rb50_i9 : 0 ≤ (i9 50).toInt ∧ (i9 50).toInt ≤ 300 := hI.1 50
            have re50_i9 : (i9 50).toInt = (i 50).toInt := congrArg Int32.toInt (hfi 50 (by decide))
            refine lv_iload_n hx hb dX12_tried_87 rfl (lv_at hl 3 rfl) ?_
            have rc10 : ((((i9 50) : Int32).toNatClampNeg : Nat) : Int) = ((i9 50) : Int32).toInt := cl_nn (by have h9 : (i9 50).toInt = (i9 50).toInt := rfl; omega)
            refine mst_54 hx hb hK hP hD hS (vp_in_iff.mpr (by have h9 : (i9 50).toInt = (i9 50).toInt := rfl; omega)) dX12_tried_88 (fun H locs hP hD hS => ?_)
            have hI := mInv_c hI (k := 54) (j := ((i9 50) : Int32).toNatClampNeg) (x := s1) (show (s1 : Int32).toInt = -9 ∨ (0 ≤ (s1 : Int32).toInt ∧ (s1 : Int32).toInt ≤ 299 ∧ ((s1 : Int32).toInt = 0 ∨ (s1 : Int32).toInt < ((((i9 50) : Int32).toNatClampNeg : Nat) : Int))) from by omega)
            have hfc : ∀ k, k ∉ ([23, 24, 25, 26, 34, 38, 39, 51, 52, 53, 54] : List Nat) → (updA c9 54 ((i9 50) : Int32).toNatClampNeg s1) k = c k := fr_cz hfc (by decide) (by decide)
            refine lv_aload_n hx hb dX12_tried_89 rfl (lv_at hl 2 rfl) ?_
            refine mget_55 hx hb hts (fun _ h => List.mem_cons_of_mem _ (List.mem_append_right _ h)) hown hK hP (hts (.fieldLink RX12 120 "TalePlayModel" "stateAct" "[I") (by decide +kernel)) dX12_tried_90 ?_
            refine lv_iconst (v := 3) hx hb dX12_tried_93 (by decide) ?_
            refine lv_aload_n hx hb dX12_tried_94 rfl (lv_at hl 2 rfl) ?_
            refine mget_50 (v := (i9 50)) rfl hx hb hts (fun _ h => List.mem_cons_of_mem _ (List.mem_append_right _ h)) hown hK hP (hts (.fieldLink RX12 410 "TalePlayModel" "states" "I") (by decide +kernel)) dX12_tried_95 ?_
            refine lv_imul hx hb dX12_tried_98 ?_
            refine lv_topi (fun x11 ex11 => ?_)
            have tx11 := ti_mul (a := 3) (b := (i9 50).toInt) ex11 (by decide) rfl (by omega) (by omega)
            refine lv_iload_n hx hb dX12_tried_99 rfl (lv_at hl 4 rfl) ?_
            refine mst_55 hx hb hK hP hD hS (vp_in_iff.mpr (by have h9 : x11.toInt = (3 * (i9 50).toInt) := tx11; omega)) dX12_tried_100 (fun H locs hP hD hS => ?_)
            have hI := mInv_c hI (k := 55) (j := (x11 : Int32).toNatClampNeg) (x := v1) (show 0 ≤ (v1 : Int32).toInt ∧ (v1 : Int32).toInt ≤ 29 from by omega)
            have hfc : ∀ k, k ∉ ([23, 24, 25, 26, 34, 38, 39, 51, 52, 53, 54, 55] : List Nat) → (updA (updA c9 54 ((i9 50) : Int32).toNatClampNeg s1) 55 (x11 : Int32).toNatClampNeg v1) k = c k := fr_cz hfc (by decide) (by decide)
            refine lv_aload_n hx hb dX12_tried_101 rfl (lv_at hl 2 rfl) ?_
            refine mget_55 hx hb hts (fun _ h => List.mem_cons_of_mem _ (List.mem_append_right _ h)) hown hK hP (hts (.fieldLink RX12 120 "TalePlayModel" "stateAct" "[I") (by decide +kernel)) dX12_tried_102 ?_
            refine lv_iconst (v := 3) hx hb dX12_tried_105 (by decide) ?_
            refine lv_aload_n hx hb dX12_tried_106 rfl (lv_at hl 2 rfl) ?_
            refine mget_50 (v := (i9 50)) rfl hx hb hts (fun _ h => List.mem_cons_of_mem _ (List.mem_append_right _ h)) hown hK hP (hts (.fieldLink RX12 410 "TalePlayModel" "states" "I") (by decide +kernel)) dX12_tried_107 ?_
            refine lv_imul hx hb dX12_tried_110 ?_
            refine lv_topi (fun x12 ex12 => ?_)
            have tx12 := ti_mul (a := 3) (b := (i9 50).toInt) ex12 (by decide) rfl (by omega) (by omega)
            refine lv_iconst (v := 1) hx hb dX12_tried_111 (by decide) ?_
            refine lv_iadd hx hb dX12_tried_112 ?_
            refine lv_topi (fun x13 ex13 => ?_)
            have tx13 := ti_add (a := (3 * (i9 50).toInt)) (b := 1) ex13 tx12 (by decide) (by omega) (by omega)
            refine lv_iload_n hx hb dX12_tried_113 rfl (lv_at hl 4 rfl) ?_
            refine lv_bipush (v := 11) hx hb dX12_tried_114 (by decide) ?_
            have jn14 : ∀ (z14_0 : Int32), (0 ≤ z14_0.toInt ∧ z14_0.toInt ≤ 29) → ∀ (H : Heap) (locs : List Loc) (ls : Array Slot), va_P D vwCl (mW o a t i9 q9 (updA (updA c9 54 ((i9 50) : Int32).toNatClampNeg s1) 55 (x11 : Int32).toNatClampNeg v1) d9) H → va_D A (mW o a t i9 q9 (updA (updA c9 54 ((i9 50) : Int32).toNatClampNeg s1) 55 (x11 : Int32).toNatClampNeg v1) d9) → va_S A s.heap H locs → lv_has ls 7 [(6, .int 0), (5, .int y4_5), (0, .ref o), (1, .int s1), (2, .int v1), (3, .int w1), (4, .int w2)] → W p l e (headSpec wm_X12_tried ({ frames := 5, cells := 0, slots := 0, locals := 116 })).room s m ([.ref o, .int s1, .int v1, .int w1, .int w2] : List Value).toArray below meth cd H locs 0 0 (MQ below (va_Qi (fun (r : Int32) (u : MS) => (0 ≤ r.toInt ∧ r.toInt ≤ 1) ∧ mInv u.1 u.2.2.1 ∧ (∀ k, k ∉ ([16, 17, 18, 19, 35, 36, 50] : List Nat) → u.1 k = i k) ∧ (∀ k, k ∉ ([23, 24, 25, 26, 34, 38, 39, 51, 52, 53, 54, 55] : List Nat) → u.2.2.1 k = c k) ∧ (SQ (u.2.2.1 3) (u.2.2.1 6) (u.2.2.1 51) (u.2.2.1 52) (u.1 5).toInt (u.1 22).toInt (u.1 50).toInt) ∧ (GB (u.2.2.1 23) (u.2.2.1 24) (u.2.2.1 51) (u.2.2.1 52) s1.toInt.toNat (u.1 5).toInt) ∧ (RQ (u.2.2.1 44) (u.2.2.1 49) (nF (u.1 5).toInt (u.2.2.1 23) (u.2.2.1 24)) (u.1 22).toInt (u.1 5).toInt) ∧ (TI (u.1 5).toInt (fun z => Kd (u.2.2.1 3) (u.2.2.1 6) z 0) (u.1 22).toInt (u.2.2.1 23) (u.2.2.1 24)) ∧ ((i 50).toInt ≤ (u.1 50).toInt ∧ (u.1 50).toInt ≤ (i 50).toInt + 1)) (oC D A (fun u : MS => mW o a t u.1 u.2.1 u.2.2.1 u.2.2.2) (fun _ => [])) A) ([.ref o, .int s1, .int v1, .int w1, .int w2] : List Value).toArray s 0 0 A) (F0 m 124 ls [.int z14_0, .int x13, .ref (a 55)]) := by
              intro z14_0 hs14_0 H locs ls hP hD hS hl
              refine mst_55 hx hb hK hP hD hS (vp_in_iff.mpr (by have h9 : x13.toInt = ((3 * (i9 50).toInt) + 1) := tx13; omega)) dX12_tried_124 (fun H locs hP hD hS => ?_)
              have hI := mInv_c hI (k := 55) (j := (x13 : Int32).toNatClampNeg) (x := z14_0) (show 0 ≤ (z14_0 : Int32).toInt ∧ (z14_0 : Int32).toInt ≤ 29 from by omega)
              have hfc := fr_c hfc (k := 55) (j := (x13 : Int32).toNatClampNeg) (x := z14_0) (by decide)
              refine lv_aload_n hx hb dX12_tried_125 rfl (lv_at hl 2 rfl) ?_
              refine mget_55 hx hb hts (fun _ h => List.mem_cons_of_mem _ (List.mem_append_right _ h)) hown hK hP (hts (.fieldLink RX12 120 "TalePlayModel" "stateAct" "[I") (by decide +kernel)) dX12_tried_126 ?_
              refine lv_iconst (v := 3) hx hb dX12_tried_129 (by decide) ?_
              refine lv_aload_n hx hb dX12_tried_130 rfl (lv_at hl 2 rfl) ?_
              refine mget_50 (v := (i9 50)) rfl hx hb hts (fun _ h => List.mem_cons_of_mem _ (List.mem_append_right _ h)) hown hK hP (hts (.fieldLink RX12 410 "TalePlayModel" "states" "I") (by decide +kernel)) dX12_tried_131 ?_
              refine lv_imul hx hb dX12_tried_134 ?_
              refine lv_topi (fun x15 ex15 => ?_)
              have tx15 := ti_mul (a := 3) (b := (i9 50).toInt) ex15 (by decide) rfl (by omega) (by omega)
              refine lv_iconst (v := 2) hx hb dX12_tried_135 (by decide) ?_
              refine lv_iadd hx hb dX12_tried_136 ?_
              refine lv_topi (fun x16 ex16 => ?_)
              have tx16 := ti_add (a := (3 * (i9 50).toInt)) (b := 2) ex16 tx15 (by decide) (by omega) (by omega)
              refine lv_iload_n hx hb dX12_tried_137 rfl (lv_at hl 4 rfl) ?_
              have hPc := hP.sub (ws' := []) [] rfl
              have hKc := hK.sub (tys' := []) [] rfl
              refine ro_calli (va_runS (As := [.int v1]) (rest := [.int x16, .ref (a 55)]) ⟨hx, hb, hml, hown, hts⟩ (c_X12_hasSecond l D H.size v1) (va_cwS 1 hts gm_X12_tried_X12_hasSecond rfl rfl rfl (by decide +kernel) ⟨Nat.le_of_ble_eq_true rfl, Nat.le_of_ble_eq_true rfl⟩) (pA_S hKc hPc) rfl rfl hl.1 rfl (lv_room (Nat.le_of_ble_eq_true rfl)) dX12_tried_138 ⟨Nat.le_of_ble_eq_true rfl, Nat.le_of_ble_eq_true rfl⟩) hS hA hP (fun r17 u17 H locs hw17 hP hS => ?_)
              have hw17 : r17 = if (v1.toInt = 3 ∨ v1.toInt = 4 ∨ v1.toInt = 7 ∨ v1.toInt = 8) then 1 else 0 := hw17
              have jn18 : ∀ (z18_0 : Int32), (0 ≤ z18_0.toInt ∧ z18_0.toInt ≤ 29) → ∀ (H : Heap) (locs : List Loc) (ls : Array Slot), va_P D vwCl (mW o a t i9 q9 (updA (updA (updA c9 54 ((i9 50) : Int32).toNatClampNeg s1) 55 (x11 : Int32).toNatClampNeg v1) 55 (x13 : Int32).toNatClampNeg z14_0) d9) H → va_D A (mW o a t i9 q9 (updA (updA (updA c9 54 ((i9 50) : Int32).toNatClampNeg s1) 55 (x11 : Int32).toNatClampNeg v1) 55 (x13 : Int32).toNatClampNeg z14_0) d9) → va_S A s.heap H locs → lv_has ls 7 [(6, .int 0), (5, .int y4_5), (0, .ref o), (1, .int s1), (2, .int v1), (3, .int w1), (4, .int w2)] → W p l e (headSpec wm_X12_tried ({ frames := 5, cells := 0, slots := 0, locals := 116 })).room s m ([.ref o, .int s1, .int v1, .int w1, .int w2] : List Value).toArray below meth cd H locs 0 0 (MQ below (va_Qi (fun (r : Int32) (u : MS) => (0 ≤ r.toInt ∧ r.toInt ≤ 1) ∧ mInv u.1 u.2.2.1 ∧ (∀ k, k ∉ ([16, 17, 18, 19, 35, 36, 50] : List Nat) → u.1 k = i k) ∧ (∀ k, k ∉ ([23, 24, 25, 26, 34, 38, 39, 51, 52, 53, 54, 55] : List Nat) → u.2.2.1 k = c k) ∧ (SQ (u.2.2.1 3) (u.2.2.1 6) (u.2.2.1 51) (u.2.2.1 52) (u.1 5).toInt (u.1 22).toInt (u.1 50).toInt) ∧ (GB (u.2.2.1 23) (u.2.2.1 24) (u.2.2.1 51) (u.2.2.1 52) s1.toInt.toNat (u.1 5).toInt) ∧ (RQ (u.2.2.1 44) (u.2.2.1 49) (nF (u.1 5).toInt (u.2.2.1 23) (u.2.2.1 24)) (u.1 22).toInt (u.1 5).toInt) ∧ (TI (u.1 5).toInt (fun z => Kd (u.2.2.1 3) (u.2.2.1 6) z 0) (u.1 22).toInt (u.2.2.1 23) (u.2.2.1 24)) ∧ ((i 50).toInt ≤ (u.1 50).toInt ∧ (u.1 50).toInt ≤ (i 50).toInt + 1)) (oC D A (fun u : MS => mW o a t u.1 u.2.1 u.2.2.1 u.2.2.2) (fun _ => [])) A) ([.ref o, .int s1, .int v1, .int w1, .int w2] : List Value).toArray s 0 0 A) (F0 m 150 ls [.int z18_0, .int x16, .ref (a 55)]) := by
                intro z18_0 hs18_0 H locs ls hP hD hS hl
                refine mst_55 hx hb hK hP hD hS (vp_in_iff.mpr (by have h9 : x16.toInt = ((3 * (i9 50).toInt) + 2) := tx16; omega)) dX12_tried_150 (fun H locs hP hD hS => ?_)
                have hI := mInv_c hI (k := 55) (j := (x16 : Int32).toNatClampNeg) (x := z18_0) (show 0 ≤ (z18_0 : Int32).toInt ∧ (z18_0 : Int32).toInt ≤ 29 from by omega)
                have hfc := fr_c hfc (k := 55) (j := (x16 : Int32).toNatClampNeg) (x := z18_0) (by decide)
                refine lv_aload_n hx hb dX12_tried_151 rfl (lv_at hl 2 rfl) ?_
                refine lv_dup hx hb dX12_tried_152 rfl ?_
                refine mget_50 (v := (i9 50)) rfl hx hb hts (fun _ h => List.mem_cons_of_mem _ (List.mem_append_right _ h)) hown hK hP (hts (.fieldLink RX12 410 "TalePlayModel" "states" "I") (by decide +kernel)) dX12_tried_153 ?_
                refine lv_iconst (v := 1) hx hb dX12_tried_156 (by decide) ?_
                refine lv_iadd hx hb dX12_tried_157 ?_
                refine lv_topi (fun x19 ex19 => ?_)
                have tx19 := ti_add (a := (i9 50).toInt) (b := 1) ex19 rfl (by decide) (by omega) (by omega)
                refine mput_50 hx hb hts (fun _ h => List.mem_cons_of_mem _ (List.mem_append_right _ h)) hown hK hP hD hS (hts (.fieldLink RX12 410 "TalePlayModel" "states" "I") (by decide +kernel)) rfl rfl dX12_tried_158 (fun H locs hP hD hS => ?_)
                have hI := mInv_i hI (k := 50) (v := x19) (show 0 ≤ (x19 : Int32).toInt ∧ (x19 : Int32).toInt ≤ 300 from by have h9 : x19.toInt = ((i9 50).toInt + 1) := tx19; omega)
                have hfi : ∀ k, k ∉ ([16, 17, 18, 19, 35, 36, 50] : List Nat) → (upd i9 50 x19) k = i k := fr_iz hfi (by decide) (by decide)
                refine lv_aload_n hx hb dX12_tried_161 rfl (lv_at hl 2 rfl) ?_
                refine mget_23 hx hb hts (fun _ h => List.mem_cons_of_mem _ (List.mem_append_right _ h)) hown hK hP (hts (.fieldLink RX12 50 "TalePlayModel" "nForm" "[I") (by decide +kernel)) dX12_tried_162 ?_
                refine lv_aload_n hx hb dX12_tried_165 rfl (lv_at hl 2 rfl) ?_
                refine mget_58 (i := (upd i9 50 x19)) (v := (i9 58)) rfl hx hb hts (fun _ h => List.mem_cons_of_mem _ (List.mem_append_right _ h)) hown hK hP (hts (.fieldLink RX12 419 "TalePlayModel" "goalX" "I") (by decide +kernel)) dX12_tried_166 ?_
                have rb58_i9 : 0 ≤ (i9 58).toInt ∧ (i9 58).toInt ≤ 29 := hI.1 58
                have re58_i9 : (i9 58).toInt = (i 58).toInt := congrArg Int32.toInt (hfi 58 (by decide))
                refine mld_23 hx hb hK hP (vp_in_iff.mpr (by have h9 : (i9 58).toInt = (i9 58).toInt := rfl; omega)) dX12_tried_169 (fun x20 ex20 => ?_)
                have rx20 : x20.toInt = -9 ∨ (0 ≤ x20.toInt ∧ x20.toInt ≤ 4) := by rw [ex20]; exact hI.2 23 _
                refine lv_bipush (v := (-9)) hx hb dX12_tried_170 (by decide) ?_
                have jn21 : ∀ (z21_0 : Int32), (z21_0.toInt = 0 ∨ z21_0.toInt = 1) → ∀ (H : Heap) (locs : List Loc) (ls : Array Slot), va_P D vwCl (mW o a t (upd i9 50 x19) q9 (updA (updA (updA (updA c9 54 ((i9 50) : Int32).toNatClampNeg s1) 55 (x11 : Int32).toNatClampNeg v1) 55 (x13 : Int32).toNatClampNeg z14_0) 55 (x16 : Int32).toNatClampNeg z18_0) d9) H → va_D A (mW o a t (upd i9 50 x19) q9 (updA (updA (updA (updA c9 54 ((i9 50) : Int32).toNatClampNeg s1) 55 (x11 : Int32).toNatClampNeg v1) 55 (x13 : Int32).toNatClampNeg z14_0) 55 (x16 : Int32).toNatClampNeg z18_0) d9) → va_S A s.heap H locs → lv_has ls 7 [(6, .int 0), (5, .int y4_5), (0, .ref o), (1, .int s1), (2, .int v1), (3, .int w1), (4, .int w2)] → W p l e (headSpec wm_X12_tried ({ frames := 5, cells := 0, slots := 0, locals := 116 })).room s m ([.ref o, .int s1, .int v1, .int w1, .int w2] : List Value).toArray below meth cd H locs 0 0 (MQ below (va_Qi (fun (r : Int32) (u : MS) => (0 ≤ r.toInt ∧ r.toInt ≤ 1) ∧ mInv u.1 u.2.2.1 ∧ (∀ k, k ∉ ([16, 17, 18, 19, 35, 36, 50] : List Nat) → u.1 k = i k) ∧ (∀ k, k ∉ ([23, 24, 25, 26, 34, 38, 39, 51, 52, 53, 54, 55] : List Nat) → u.2.2.1 k = c k) ∧ (SQ (u.2.2.1 3) (u.2.2.1 6) (u.2.2.1 51) (u.2.2.1 52) (u.1 5).toInt (u.1 22).toInt (u.1 50).toInt) ∧ (GB (u.2.2.1 23) (u.2.2.1 24) (u.2.2.1 51) (u.2.2.1 52) s1.toInt.toNat (u.1 5).toInt) ∧ (RQ (u.2.2.1 44) (u.2.2.1 49) (nF (u.1 5).toInt (u.2.2.1 23) (u.2.2.1 24)) (u.1 22).toInt (u.1 5).toInt) ∧ (TI (u.1 5).toInt (fun z => Kd (u.2.2.1 3) (u.2.2.1 6) z 0) (u.1 22).toInt (u.2.2.1 23) (u.2.2.1 24)) ∧ ((i 50).toInt ≤ (u.1 50).toInt ∧ (u.1 50).toInt ≤ (i 50).toInt + 1)) (oC D A (fun u : MS => mW o a t u.1 u.2.1 u.2.2.1 u.2.2.2) (fun _ => [])) A) ([.ref o, .int s1, .int v1, .int w1, .int w2] : List Value).toArray s 0 0 A) (F0 m 196 ls [.int z21_0]) := by
                  intro z21_0 hs21_0 H locs ls hP hD hS hl
                  refine lv_istore (lv' := [(6, .int z21_0), (5, .int y4_5), (0, .ref o), (1, .int s1), (2, .int v1), (3, .int w1), (4, .int w2)]) hx hb dX12_tried_196 hl (by decide) rfl (fun ls hl => ?_)
                  exact jn6 (upd i9 50 x19) q9 (updA (updA (updA (updA c9 54 ((i9 50) : Int32).toNatClampNeg s1) 55 (x11 : Int32).toNatClampNeg v1) 55 (x13 : Int32).toNatClampNeg z14_0) 55 (x16 : Int32).toNatClampNeg z18_0) d9 z21_0  hI (fr_w hfi (by decide)) (fr_w hfc (by decide)) hs_N (show 0 ≤ z21_0.toInt ∧ z21_0.toInt ≤ 1 from by have h60 : x19.toInt = ((i9 50).toInt + 1) := tx19; omega) (show SQ (c 3) (c 6) ((updA (updA (updA (updA c9 54 ((i9 50) : Int32).toNatClampNeg s1) 55 (x11 : Int32).toNatClampNeg v1) 55 (x13 : Int32).toNatClampNeg z14_0) 55 (x16 : Int32).toNatClampNeg z18_0) 51) ((updA (updA (updA (updA c9 54 ((i9 50) : Int32).toNatClampNeg s1) 55 (x11 : Int32).toNatClampNeg v1) 55 (x13 : Int32).toNatClampNeg z14_0) 55 (x16 : Int32).toNatClampNeg z18_0) 52) (i 5).toInt (i 22).toInt (x19 : Int32).toInt from SQ_a (T := i 50) hs_Q hs_N (by omega) (by omega) hxp9_0 (by have h9 := tx19; omega)) (show SR ((updA (updA (updA (updA c9 54 ((i9 50) : Int32).toNatClampNeg s1) 55 (x11 : Int32).toNatClampNeg v1) 55 (x13 : Int32).toNatClampNeg z14_0) 55 (x16 : Int32).toNatClampNeg z18_0) 51) ((updA (updA (updA (updA c9 54 ((i9 50) : Int32).toNatClampNeg s1) 55 (x11 : Int32).toNatClampNeg v1) 55 (x13 : Int32).toNatClampNeg z14_0) 55 (x16 : Int32).toNatClampNeg z18_0) 52) (c 51) (c 52) s1.toInt.toNat from SR_w hxp9_0 (by omega)) (show (i 50).toInt ≤ (x19 : Int32).toInt ∧ (x19 : Int32).toInt ≤ (i 50).toInt + 1 from by have h60 : x19.toInt = ((i9 50).toInt + 1) := tx19; omega) _ _ _ hP hD hS (lv_sub hl [1, 2, 3, 4, 5, 6, 0] rfl)
                have jn22 : ∀ (H : Heap) (locs : List Loc) (ls : Array Slot), va_P D vwCl (mW o a t (upd i9 50 x19) q9 (updA (updA (updA (updA c9 54 ((i9 50) : Int32).toNatClampNeg s1) 55 (x11 : Int32).toNatClampNeg v1) 55 (x13 : Int32).toNatClampNeg z14_0) 55 (x16 : Int32).toNatClampNeg z18_0) d9) H → va_D A (mW o a t (upd i9 50 x19) q9 (updA (updA (updA (updA c9 54 ((i9 50) : Int32).toNatClampNeg s1) 55 (x11 : Int32).toNatClampNeg v1) 55 (x13 : Int32).toNatClampNeg z14_0) 55 (x16 : Int32).toNatClampNeg z18_0) d9) → va_S A s.heap H locs → lv_has ls 7 [(6, .int 0), (5, .int y4_5), (0, .ref o), (1, .int s1), (2, .int v1), (3, .int w1), (4, .int w2)] → W p l e (headSpec wm_X12_tried ({ frames := 5, cells := 0, slots := 0, locals := 116 })).room s m ([.ref o, .int s1, .int v1, .int w1, .int w2] : List Value).toArray below meth cd H locs 0 0 (MQ below (va_Qi (fun (r : Int32) (u : MS) => (0 ≤ r.toInt ∧ r.toInt ≤ 1) ∧ mInv u.1 u.2.2.1 ∧ (∀ k, k ∉ ([16, 17, 18, 19, 35, 36, 50] : List Nat) → u.1 k = i k) ∧ (∀ k, k ∉ ([23, 24, 25, 26, 34, 38, 39, 51, 52, 53, 54, 55] : List Nat) → u.2.2.1 k = c k) ∧ (SQ (u.2.2.1 3) (u.2.2.1 6) (u.2.2.1 51) (u.2.2.1 52) (u.1 5).toInt (u.1 22).toInt (u.1 50).toInt) ∧ (GB (u.2.2.1 23) (u.2.2.1 24) (u.2.2.1 51) (u.2.2.1 52) s1.toInt.toNat (u.1 5).toInt) ∧ (RQ (u.2.2.1 44) (u.2.2.1 49) (nF (u.1 5).toInt (u.2.2.1 23) (u.2.2.1 24)) (u.1 22).toInt (u.1 5).toInt) ∧ (TI (u.1 5).toInt (fun z => Kd (u.2.2.1 3) (u.2.2.1 6) z 0) (u.1 22).toInt (u.2.2.1 23) (u.2.2.1 24)) ∧ ((i 50).toInt ≤ (u.1 50).toInt ∧ (u.1 50).toInt ≤ (i 50).toInt + 1)) (oC D A (fun u : MS => mW o a t u.1 u.2.1 u.2.2.1 u.2.2.2) (fun _ => [])) A) ([.ref o, .int s1, .int v1, .int w1, .int w2] : List Value).toArray s 0 0 A) (F0 m 195 ls []) := by
                  intro H locs ls hP hD hS hl
                  refine lv_iconst (v := 0) hx hb dX12_tried_195 (by decide) ?_
                  exact jn21  (0 : Int32) (show (0 : Int32).toInt = 0 ∨ (0 : Int32).toInt = 1 from by have h50 : (0 : Int32).toInt = 0 := (by decide); have h57 : (0 : Int32).toInt = 0 := (by decide); have h60 : x19.toInt = ((i9 50).toInt + 1) := tx19; omega) _ _ _ hP hD hS (lv_sub hl [0, 1, 2, 3, 4, 5, 6] rfl)
                refine lv_icmp_eq (tgt := 195) hx hb dX12_tried_172 (by decide) (fun c23 => ?_) (fun c23 => ?_)
                · have f23 := (ti_eq (a := x20.toInt) (b := (-9)) rfl (by decide)).mp c23
                  exact jn22    _ _ _ hP hD hS (lv_sub hl [0, 1, 2, 3, 4, 5, 6] rfl)
                · have f23 := mt (ti_eq (a := x20.toInt) (b := (-9)) rfl (by decide)).mpr c23
                  refine lv_aload_n hx hb dX12_tried_175 rfl (lv_at hl 2 rfl) ?_
                  refine mget_24 hx hb hts (fun _ h => List.mem_cons_of_mem _ (List.mem_append_right _ h)) hown hK hP (hts (.fieldLink RX12 53 "TalePlayModel" "nAt" "[I") (by decide +kernel)) dX12_tried_176 ?_
                  refine lv_aload_n hx hb dX12_tried_179 rfl (lv_at hl 2 rfl) ?_
                  refine mget_58 (i := (upd i9 50 x19)) (v := (i9 58)) rfl hx hb hts (fun _ h => List.mem_cons_of_mem _ (List.mem_append_right _ h)) hown hK hP (hts (.fieldLink RX12 419 "TalePlayModel" "goalX" "I") (by decide +kernel)) dX12_tried_180 ?_
                  refine mld_24 hx hb hK hP (vp_in_iff.mpr (by have h9 : (i9 58).toInt = (i9 58).toInt := rfl; omega)) dX12_tried_183 (fun x24 ex24 => ?_)
                  have rx24 : x24.toInt = -9 ∨ (0 ≤ x24.toInt ∧ x24.toInt ≤ 29) := by rw [ex24]; exact hI.2 24 _
                  refine lv_aload_n hx hb dX12_tried_184 rfl (lv_at hl 2 rfl) ?_
                  refine mget_59 (i := (upd i9 50 x19)) (v := (i9 59)) rfl hx hb hts (fun _ h => List.mem_cons_of_mem _ (List.mem_append_right _ h)) hown hK hP (hts (.fieldLink RX12 422 "TalePlayModel" "goalY" "I") (by decide +kernel)) dX12_tried_185 ?_
                  have rb59_i9 : 0 ≤ (i9 59).toInt ∧ (i9 59).toInt ≤ 29 := hI.1 59
                  have re59_i9 : (i9 59).toInt = (i 59).toInt := congrArg Int32.toInt (hfi 59 (by decide))
                  refine lv_icmp_ne (tgt := 195) hx hb dX12_tried_188 (by decide) (fun c25 => ?_) (fun c25 => ?_)
                  · have f25 := mt (ti_eq (a := x24.toInt) (b := (i9 59).toInt) rfl rfl).mpr c25
                    exact jn22    _ _ _ hP hD hS (lv_sub hl [0, 1, 2, 3, 4, 5, 6] rfl)
                  · have f25 := (ti_eq (a := x24.toInt) (b := (i9 59).toInt) rfl rfl).mp c25
                    refine lv_iconst (v := 1) hx hb dX12_tried_191 (by decide) ?_
                    refine lv_goto (tgt := 196) hx hb dX12_tried_192 (by decide) ?_
                    exact jn21  (1 : Int32) (show (1 : Int32).toInt = 0 ∨ (1 : Int32).toInt = 1 from by have h50 : (0 : Int32).toInt = 0 := (by decide); have h57 : (1 : Int32).toInt = 1 := (by decide); have h60 : x19.toInt = ((i9 50).toInt + 1) := tx19; omega) _ _ _ hP hD hS (lv_sub hl [0, 1, 2, 3, 4, 5, 6] rfl)
              refine lv_if_eq (tgt := 149) hx hb dX12_tried_141 (by decide) (fun c26 => ?_) (fun c26 => ?_)
              · have f26 := fl_f hw17 c26
                refine lv_iconst (v := 0) hx hb dX12_tried_149 (by decide) ?_
                exact jn18  (0 : Int32) (show 0 ≤ (0 : Int32).toInt ∧ (0 : Int32).toInt ≤ 29 from by have h50 : (0 : Int32).toInt = 0 := (by decide); have h57 : (0 : Int32).toInt = 0 := (by decide); omega) _ _ _ hP hD hS (lv_sub hl [0, 1, 2, 3, 4, 5, 6] rfl)
              · have f26 := fl_t hw17 c26
                refine lv_iload hx hb dX12_tried_144 (lv_at hl 6 rfl) ?_
                refine lv_goto (tgt := 150) hx hb dX12_tried_146 (by decide) ?_
                exact jn18  w2 (show 0 ≤ w2.toInt ∧ w2.toInt ≤ 29 from by have h50 : (0 : Int32).toInt = 0 := (by decide); omega) _ _ _ hP hD hS (lv_sub hl [0, 1, 2, 3, 4, 5, 6] rfl)
            refine lv_icmp_ge (tgt := 123) hx hb dX12_tried_116 (by decide) (fun c27 => ?_) (fun c27 => ?_)
            · have f27 := (ti_le (a := 11) (b := v1.toInt) (by decide) rfl).mp c27
              refine lv_iconst (v := 0) hx hb dX12_tried_123 (by decide) ?_
              exact jn14  (0 : Int32) (show 0 ≤ (0 : Int32).toInt ∧ (0 : Int32).toInt ≤ 29 from by have h50 : (0 : Int32).toInt = 0 := (by decide); have h57 : (0 : Int32).toInt = 0 := (by decide); omega) _ _ _ hP hD hS (lv_sub hl [0, 1, 2, 3, 4, 5, 6] rfl)
            · have f27 := mt (ti_le (a := 11) (b := v1.toInt) (by decide) rfl).mpr c27
              refine lv_iload_n hx hb dX12_tried_119 rfl (lv_at hl 5 rfl) ?_
              refine lv_goto (tgt := 124) hx hb dX12_tried_120 (by decide) ?_
              exact jn14  w1 (show 0 ≤ w1.toInt ∧ w1.toInt ≤ 29 from by have h50 : (0 : Int32).toInt = 0 := (by decide); omega) _ _ _ hP hD hS (lv_sub hl [0, 1, 2, 3, 4, 5, 6] rfl)
        refine lv_icmp_ge (tgt := 63) hx hb dX12_tried_33 (by decide) (fun c28 => ?_) (fun c28 => ?_)
        · have f28 := (ti_le (a := (i3 50).toInt) (b := y4_6.toInt) rfl rfl).mp c28
          exact jn5    _ _ _ hP hD hS (lv_sub hl [0, 1, 2, 3, 4, 5, 6] rfl)
        · have f28 := mt (ti_le (a := (i3 50).toInt) (b := y4_6.toInt) rfl rfl).mpr c28
          refine lv_iload hx hb dX12_tried_36 (lv_at hl 1 rfl) ?_
          refine lv_if_eq (tgt := 63) hx hb dX12_tried_38 (by decide) (fun c29 => ?_) (fun c29 => ?_)
          · have f29 := (ti_eq (a := y4_5.toInt) (b := 0) rfl (by decide)).mp c29
            exact jn5    _ _ _ hP hD hS (lv_sub hl [0, 1, 2, 3, 4, 5, 6] rfl)
          · have f29 := mt (ti_eq (a := y4_5.toInt) (b := 0) rfl (by decide)).mpr c29
            refine lv_aload_n hx hb dX12_tried_41 rfl (lv_at hl 2 rfl) ?_
            refine lv_iload hx hb dX12_tried_42 (lv_at hl 0 rfl) ?_
            refine ro_calli (va_runV (As := [.int y4_6]) (rest := []) ⟨hx, hb, hml, hown, hts⟩ (s_X12_isState l D H.size o a t i3 q3 c3 d3 y4_6 hI (show 0 ≤ y4_6.toInt ∧ y4_6.toInt ≤ 300 from by omega)) (cwV 1 hts gm_X12_tried_X12_isState rfl rfl rfl (by decide +kernel) ⟨Nat.le_of_ble_eq_true rfl, Nat.le_of_ble_eq_true rfl⟩) (pA_V hK hP (ci := 12) (q0 := 0) rfl rfl) rfl rfl hl.1 rfl (lv_room (Nat.le_of_ble_eq_true rfl)) dX12_tried_44 ⟨Nat.le_of_ble_eq_true rfl, Nat.le_of_ble_eq_true rfl⟩) hS hA hP (fun r30 u30 H locs hw30 hP hS => ?_)
            have hw30 : (0 ≤ r30.toInt ∧ r30.toInt ≤ 1) := hw30
            have jn31 : ∀ (z31_0 : Int32), (0 ≤ z31_0.toInt ∧ z31_0.toInt ≤ 1) → ∀ (H : Heap) (locs : List Loc) (ls : Array Slot), va_P D vwCl (mW o a t i3 q3 c3 d3) H → va_D A (mW o a t i3 q3 c3 d3) → va_S A s.heap H locs → lv_has ls 7 [(6, .int y4_6), (5, .int y4_5), (0, .ref o), (1, .int s1), (2, .int v1), (3, .int w1), (4, .int w2)] → W p l e (headSpec wm_X12_tried ({ frames := 5, cells := 0, slots := 0, locals := 116 })).room s m ([.ref o, .int s1, .int v1, .int w1, .int w2] : List Value).toArray below meth cd H locs 0 0 (MQ below (va_Qi (fun (r : Int32) (u : MS) => (0 ≤ r.toInt ∧ r.toInt ≤ 1) ∧ mInv u.1 u.2.2.1 ∧ (∀ k, k ∉ ([16, 17, 18, 19, 35, 36, 50] : List Nat) → u.1 k = i k) ∧ (∀ k, k ∉ ([23, 24, 25, 26, 34, 38, 39, 51, 52, 53, 54, 55] : List Nat) → u.2.2.1 k = c k) ∧ (SQ (u.2.2.1 3) (u.2.2.1 6) (u.2.2.1 51) (u.2.2.1 52) (u.1 5).toInt (u.1 22).toInt (u.1 50).toInt) ∧ (GB (u.2.2.1 23) (u.2.2.1 24) (u.2.2.1 51) (u.2.2.1 52) s1.toInt.toNat (u.1 5).toInt) ∧ (RQ (u.2.2.1 44) (u.2.2.1 49) (nF (u.1 5).toInt (u.2.2.1 23) (u.2.2.1 24)) (u.1 22).toInt (u.1 5).toInt) ∧ (TI (u.1 5).toInt (fun z => Kd (u.2.2.1 3) (u.2.2.1 6) z 0) (u.1 22).toInt (u.2.2.1 23) (u.2.2.1 24)) ∧ ((i 50).toInt ≤ (u.1 50).toInt ∧ (u.1 50).toInt ≤ (i 50).toInt + 1)) (oC D A (fun u : MS => mW o a t u.1 u.2.1 u.2.2.1 u.2.2.2) (fun _ => [])) A) ([.ref o, .int s1, .int v1, .int w1, .int w2] : List Value).toArray s 0 0 A) (F0 m 55 ls [.int z31_0]) := by
              intro z31_0 hs31_0 H locs ls hP hD hS hl
              refine lv_istore (lv' := [(5, .int z31_0), (6, .int y4_6), (0, .ref o), (1, .int s1), (2, .int v1), (3, .int w1), (4, .int w2)]) hx hb dX12_tried_55 hl (by decide) rfl (fun ls hl => ?_)
              obtain ⟨x32, ex32⟩ : ∃ y : Int32, y = y4_6 + 1 := ⟨_, rfl⟩
              have tx32 := ti_add (a := y4_6.toInt) (b := 1) ex32 rfl (by decide) (by omega) (by omega)
              refine lv_iinc (v := x32) (lv' := [(6, .int x32), (5, .int z31_0), (0, .ref o), (1, .int s1), (2, .int v1), (3, .int w1), (4, .int w2)]) hx hb dX12_tried_57 hl (k := 1) rfl (by rw [ex32]; rfl) (by decide) rfl (fun ls hl => ?_)
              refine lv_goto (tgt := 27) hx hb dX12_tried_60 (by decide) ?_
              exact ih4 x32 z31_0 (show 0 ≤ x32.toInt ∧ x32.toInt ≤ 300 from by have h50 : x32.toInt = (y4_6.toInt + 1) := tx32; omega) (show 0 ≤ z31_0.toInt ∧ z31_0.toInt ≤ 1 from by have h50 : x32.toInt = (y4_6.toInt + 1) := tx32; omega) (by have h50 : x32.toInt = (y4_6.toInt + 1) := tx32; omega) _ _ _ hP hD hS (lv_sub hl [0, 1, 2, 3, 4, 5, 6] rfl)
            refine lv_if_ne (tgt := 54) hx hb dX12_tried_47 (by decide) (fun c33 => ?_) (fun c33 => ?_)
            · have f33 := mt (ti_eq (a := r30.toInt) (b := 0) rfl (by decide)).mpr c33
              refine lv_iconst (v := 0) hx hb dX12_tried_54 (by decide) ?_
              exact jn31  (0 : Int32) (show 0 ≤ (0 : Int32).toInt ∧ (0 : Int32).toInt ≤ 1 from by have h57 : (0 : Int32).toInt = 0 := (by decide); omega) _ _ _ hP hD hS (lv_sub hl [0, 1, 2, 3, 4, 5, 6] rfl)
            · have f33 := (ti_eq (a := r30.toInt) (b := 0) rfl (by decide)).mp c33
              refine lv_iconst (v := 1) hx hb dX12_tried_50 (by decide) ?_
              refine lv_goto (tgt := 55) hx hb dX12_tried_51 (by decide) ?_
              exact jn31  (1 : Int32) (show 0 ≤ (1 : Int32).toInt ∧ (1 : Int32).toInt ≤ 1 from by have h57 : (1 : Int32).toInt = 1 := (by decide); omega) _ _ _ hP hD hS (lv_sub hl [0, 1, 2, 3, 4, 5, 6] rfl)
    exact lp4 _ (0 : Int32) (1 : Int32) (show 0 ≤ (0 : Int32).toInt ∧ (0 : Int32).toInt ≤ 300 from by have h50 : (0 : Int32).toInt = 0 := (by decide); have h51 : (1 : Int32).toInt = 1 := (by decide); omega) (show 0 ≤ (1 : Int32).toInt ∧ (1 : Int32).toInt ≤ 1 from by have h50 : (0 : Int32).toInt = 0 := (by decide); have h51 : (1 : Int32).toInt = 1 := (by decide); omega) (Nat.lt_succ_self _) _ _ _ hP hD hS (lv_sub hl [0, 1, 2, 3, 4, 5, 6] rfl)
  · have f2 := mt (ti_le (a := r1.toInt) (b := 0) rfl (by decide)).mpr c2
    refine lv_iconst (v := 0) hx hb dX12_tried_11 (by decide) ?_
    exact rw_zret (i1, q1, c1, d1) hx hb hr hlocks hS (hK.sub (tys' := []) [] rfl) hP hD rfl dX12_tried_12 ⟨(show 0 ≤ (0 : Int32).toInt ∧ (0 : Int32).toInt ≤ 1 from by have h9 : (0 : Int32).toInt = 0 := (by decide); omega), hI, fr_w hfi (by decide), fr_w hfc (by decide), (show SQ (c1 3) (c1 6) (c1 51) (c1 52) ((i1 5) : Int32).toInt ((i1 22) : Int32).toInt ((i1 50) : Int32).toInt from by rw [show c1 3 = c 3 from hfc 3 (by decide), show c1 6 = c 6 from hfc 6 (by decide), show c1 51 = c 51 from hfc 51 (by decide), show c1 52 = c 52 from hfc 52 (by decide), show i1 5 = i 5 from hfi 5 (by decide), show i1 22 = i 22 from hfi 22 (by decide), show i1 50 = i 50 from hfi 50 (by decide)]; exact hs_Q), (show GB (c1 23) (c1 24) (c1 51) (c1 52) s1.toInt.toNat ((i1 5) : Int32).toInt from by rw [show c1 23 = c 23 from hfc 23 (by decide), show c1 24 = c 24 from hfc 24 (by decide), show c1 51 = c 51 from hfc 51 (by decide), show c1 52 = c 52 from hfc 52 (by decide), show i1 5 = i 5 from hfi 5 (by decide)]; exact hs_B), (show RQ (c1 44) (c1 49) (nF ((i1 5) : Int32).toInt (c1 23) (c1 24)) ((i1 22) : Int32).toInt ((i1 5) : Int32).toInt from by rw [show c1 23 = c 23 from hfc 23 (by decide), show c1 24 = c 24 from hfc 24 (by decide), show c1 44 = c 44 from hfc 44 (by decide), show c1 49 = c 49 from hfc 49 (by decide), show i1 5 = i 5 from hfi 5 (by decide), show i1 22 = i 22 from hfi 22 (by decide)]; exact hs_R), (show TI ((i1 5) : Int32).toInt (fun z => Kd (c1 3) (c1 6) z 0) ((i1 22) : Int32).toInt (c1 23) (c1 24) from by rw [show c1 3 = c 3 from hfc 3 (by decide), show c1 6 = c 6 from hfc 6 (by decide), show c1 23 = c 23 from hfc 23 (by decide), show c1 24 = c 24 from hfc 24 (by decide), show i1 5 = i 5 from hfi 5 (by decide), show i1 22 = i 22 from hfi 22 (by decide)]; exact hs_T), (show (i 50).toInt ≤ ((i1 50) : Int32).toInt ∧ ((i1 50) : Int32).toInt ≤ (i 50).toInt + 1 from by have h9 : (i1 50) = i 50 := hfi 50 (by decide); rw [h9]; omega)⟩

def wm_X12_triedAll : List Cond := .code yX12_triedAll cX12_triedAll 7 (some .boolean) :: (([.methodLink RX12 425 yX12_giveState, .instanceMethod yX12_giveState, .selects RX12 yX12_giveState yX12_giveState, .initialized RX12, .code yX12_giveState cX12_giveState 3 none, .fieldLink RX12 177 "TalePlayModel" "objects" "I", .fieldLink RX12 50 "TalePlayModel" "nForm" "[I", .fieldLink RX12 107 "TalePlayModel" "stateForm" "[B", .fieldLink RX12 53 "TalePlayModel" "nAt" "[I", .fieldLink RX12 111 "TalePlayModel" "stateAt" "[B", .fieldLink RX12 56 "TalePlayModel" "nOpen" "[Z", .fieldLink RX12 114 "TalePlayModel" "stateShut" "[B", .fieldLink RX12 59 "TalePlayModel" "nLocked" "[Z", .methodLink RX12 395 yX12_lookAround, .instanceMethod yX12_lookAround, .selects RX12 yX12_lookAround yX12_lookAround, .code yX12_lookAround cX12_lookAround 3 none, .methodLink RX12 331 yX12_shellOf, .instanceMethod yX12_shellOf, .selects RX12 yX12_shellOf yX12_shellOf, .code yX12_shellOf cX12_shellOf 3 (some .int), .fieldLink RX12 155 "TalePlayModel" "player" "I", .fieldLink RX12 101 "TalePlayModel" "isRoom" "[Z", .methodLink RX12 324 yX12_shuts, .instanceMethod yX12_shuts, .selects RX12 yX12_shuts yX12_shuts, .code yX12_shuts cX12_shuts 3 (some .boolean), .fieldLink RX12 98 "TalePlayModel" "isBox" "[Z", .fieldLink RX12 95 "TalePlayModel" "glass" "[Z", .fieldLink RX12 335 "TalePlayModel" "shell" "I", .fieldLink RX12 338 "TalePlayModel" "handShell" "I", .fieldLink RX12 341 "TalePlayModel" "isLight" "Z", .fieldLink RX12 86 "TalePlayModel" "seen" "[Z", .fieldLink RX12 89 "TalePlayModel" "reached" "[Z", .methodLink RX12 344 yX12_isInView, .instanceMethod yX12_isInView, .selects RX12 yX12_isInView yX12_isInView, .code yX12_isInView cX12_isInView 5 (some .boolean), .fieldLink RX12 104 "TalePlayModel" "isDoor" "[Z", .methodLink RX12 328 yX12_isSide, .instanceMethod yX12_isSide, .selects RX12 yX12_isSide yX12_isSide, .code yX12_isSide cX12_isSide 4 (some .boolean), .fieldLink RX12 202 "TalePlayModel" "sentences" "I", .fieldLink RX12 37 "TalePlayModel" "isSaid" "[Z", .fieldLink RX12 25 "TalePlayModel" "form" "[I", .fieldLink RX12 31 "TalePlayModel" "middle" "[I", .fieldLink RX12 28 "TalePlayModel" "left" "[I", .fieldLink RX12 92 "TalePlayModel" "lit" "[Z", .methodLink RX12 389 yX12_hasSecond, .static yX12_hasSecond, .code yX12_hasSecond cX12_hasSecond 1 (some .boolean), .fieldLink RX12 410 "TalePlayModel" "states" "I", .methodLink RX12 428 yX12_tried, .instanceMethod yX12_tried, .selects RX12 yX12_tried yX12_tried, .code yX12_tried cX12_tried 7 (some .boolean), .methodLink RX12 398 yX12_whyNot, .instanceMethod yX12_whyNot, .selects RX12 yX12_whyNot yX12_whyNot, .code yX12_whyNot cX12_whyNot 4 (some .int), .methodLink RX12 361 yX12_whyNotGo, .instanceMethod yX12_whyNotGo, .selects RX12 yX12_whyNotGo yX12_whyNotGo, .code yX12_whyNotGo cX12_whyNotGo 2 (some .int), .methodLink RX12 348 yX12_isInRoom, .instanceMethod yX12_isInRoom, .selects RX12 yX12_isInRoom yX12_isInRoom, .code yX12_isInRoom cX12_isInRoom 1 (some .boolean), .methodLink RX12 281 yX12_findExit, .instanceMethod yX12_findExit, .selects RX12 yX12_findExit yX12_findExit, .code yX12_findExit cX12_findExit 6 (some .boolean), .fieldLink RX12 263 "TalePlayModel" "leads" "I", .fieldLink RX12 266 "TalePlayModel" "byDoor" "I", .fieldLink RX12 269 "TalePlayModel" "bySentence" "I", .fieldLink RX12 272 "TalePlayModel" "isImplied" "Z", .methodLink RX12 184 yX12_isOf, .instanceMethod yX12_isOf, .selects RX12 yX12_isOf yX12_isOf, .code yX12_isOf cX12_isOf 4 (some .boolean), .fieldLink RX12 19 "TalePlayModel" "kindOf" "[I", .fieldLink RX12 13 "TalePlayModel" "parentOf" "[I", .methodLink RX12 276 yX12_otherSide, .instanceMethod yX12_otherSide, .selects RX12 yX12_otherSide yX12_otherSide, .code yX12_otherSide cX12_otherSide 4 (some .int), .fieldLink RX12 34 "TalePlayModel" "right" "[I", .methodLink RX12 364 yX12_whyNotTake, .instanceMethod yX12_whyNotTake, .selects RX12 yX12_whyNotTake yX12_whyNotTake, .code yX12_whyNotTake cX12_whyNotTake 4 (some .int), .methodLink RX12 352 yX12_isUpFrom, .instanceMethod yX12_isUpFrom, .selects RX12 yX12_isUpFrom yX12_isUpFrom, .code yX12_isUpFrom cX12_isUpFrom 4 (some .boolean), .methodLink RX12 355 yX12_holds, .instanceMethod yX12_holds, .selects RX12 yX12_holds yX12_holds, .code yX12_holds cX12_holds 2 (some .boolean), .methodLink RX12 194 yX12_isGoods, .instanceMethod yX12_isGoods, .selects RX12 yX12_isGoods yX12_isGoods, .code yX12_isGoods cX12_isGoods 2 (some .boolean), .methodLink RX12 188 yX12_isMovable, .instanceMethod yX12_isMovable, .selects RX12 yX12_isMovable yX12_isMovable, .code yX12_isMovable cX12_isMovable 2 (some .boolean), .methodLink RX12 256 yX12_saidFlag, .instanceMethod yX12_saidFlag, .selects RX12 yX12_saidFlag yX12_saidFlag, .code yX12_saidFlag cX12_saidFlag 4 (some .int), .methodLink RX12 216 yX12_saidSo, .instanceMethod yX12_saidSo, .selects RX12 yX12_saidSo yX12_saidSo, .code yX12_saidSo cX12_saidSo 6 (some .int), .fieldLink RX12 16 "TalePlayModel" "defaults" "[I", .methodLink RX12 315 yX12_bulkOf, .instanceMethod yX12_bulkOf, .selects RX12 yX12_bulkOf yX12_bulkOf, .code yX12_bulkOf cX12_bulkOf 6 (some .int), .methodLink RX12 306 yX12_beginBulk, .instanceMethod yX12_beginBulk, .selects RX12 yX12_beginBulk yX12_beginBulk, .code yX12_beginBulk cX12_beginBulk 3 (some .int), .fieldLink RX12 80 "TalePlayModel" "pile" "[I", .fieldLink RX12 83 "TalePlayModel" "nextIn" "[I", .methodLink RX12 300 yX12_body, .instanceMethod yX12_body, .selects RX12 yX12_body yX12_body, .code yX12_body cX12_body 2 none, .fieldLink RX12 294 "TalePlayModel" "traces" "Z", .fieldLink RX12 297 "TalePlayModel" "traced" "I", .fieldLink RX12 77 "TalePlayModel" "trace" "[I", .fieldLink RX12 22 "TalePlayModel" "sizeOf" "[I", .methodLink RX12 309 yX12_formNow, .instanceMethod yX12_formNow, .selects RX12 yX12_formNow yX12_formNow, .code yX12_formNow cX12_formNow 3 (some .int), .methodLink RX12 208 yX12_placing, .instanceMethod yX12_placing, .selects RX12 yX12_placing yX12_placing, .code yX12_placing cX12_placing 3 (some .int), .methodLink RX12 312 yX12_atNow, .instanceMethod yX12_atNow, .selects RX12 yX12_atNow yX12_atNow, .code yX12_atNow cX12_atNow 3 (some .int), .fieldLink RX12 303 "TalePlayModel" "isNought" "Z", .methodLink RX12 367 yX12_whyNotPut, .instanceMethod yX12_whyNotPut, .selects RX12 yX12_whyNotPut yX12_whyNotPut, .code yX12_whyNotPut cX12_whyNotPut 4 (some .int), .methodLink RX12 358 yX12_lying, .instanceMethod yX12_lying, .selects RX12 yX12_lying yX12_lying, .code yX12_lying cX12_lying 5 (some .int), .methodLink RX12 371 yX12_whyNotTurn, .instanceMethod yX12_whyNotTurn, .selects RX12 yX12_whyNotTurn yX12_whyNotTurn, .code yX12_whyNotTurn cX12_whyNotTurn 4 (some .int), .methodLink RX12 191 yX12_isShutter, .instanceMethod yX12_isShutter, .selects RX12 yX12_isShutter yX12_isShutter, .code yX12_isShutter cX12_isShutter 2 (some .boolean), .methodLink RX12 260 yX12_keyOf, .instanceMethod yX12_keyOf, .selects RX12 yX12_keyOf yX12_keyOf, .code yX12_keyOf cX12_keyOf 3 (some .int), .methodLink RX12 375 yX12_whyNotEnter, .instanceMethod yX12_whyNotEnter, .selects RX12 yX12_whyNotEnter yX12_whyNotEnter, .code yX12_whyNotEnter cX12_whyNotEnter 2 (some .int), .methodLink RX12 378 yX12_whyNotLeave, .instanceMethod yX12_whyNotLeave, .selects RX12 yX12_whyNotLeave yX12_whyNotLeave, .code yX12_whyNotLeave cX12_whyNotLeave 2 (some .int), .methodLink RX12 401 yX12_acts, .instanceMethod yX12_acts, .selects RX12 yX12_acts yX12_acts, .code yX12_acts cX12_acts 5 none, .methodLink RX12 381 yX12_lay, .instanceMethod yX12_lay, .selects RX12 yX12_lay yX12_lay, .code yX12_lay cX12_lay 4 none, .methodLink RX12 416 yX12_keepState, .instanceMethod yX12_keepState, .selects RX12 yX12_keepState yX12_keepState, .code yX12_keepState cX12_keepState 3 none, .fieldLink RX12 117 "TalePlayModel" "stateFrom" "[I", .fieldLink RX12 120 "TalePlayModel" "stateAct" "[I", .fieldLink RX12 419 "TalePlayModel" "goalX" "I", .fieldLink RX12 422 "TalePlayModel" "goalY" "I", .methodLink RX12 413 yX12_isState, .instanceMethod yX12_isState, .selects RX12 yX12_isState yX12_isState, .code yX12_isState cX12_isState 3 (some .boolean)] : List Cond) ++ wsX120)
set_option maxRecDepth 20000 in
theorem gm_X12_triedAll_X12_giveState : GoodIn wm_X12_triedAll (wsV RX12 425 RX12 yX12_giveState wm_X12_giveState) := goodIn_app (goodIn_of _ (by decide +kernel)) (goodIn_r _ [5, 6, 7, 8, 9, 10, 11, 12, 13, 197, 198, 199, 200, 201, 202, 203, 204, 205, 206, 207, 208, 209, 210, 211, 212, 213, 214, 215, 216, 217, 218, 219, 220, 221, 222, 223, 224, 225, 226, 227, 228, 229, 230, 231, 232, 233, 234, 235, 236, 237, 238, 239, 240, 241, 242, 243, 244, 245, 246, 247, 248, 249, 250, 251, 252, 253, 254, 255, 256, 257, 258, 259, 260, 261, 262, 263, 264, 265] (by decide +kernel) (by decide +kernel))
set_option maxRecDepth 20000 in
theorem gm_X12_triedAll_X12_lookAround : GoodIn wm_X12_triedAll (wsV RX12 395 RX12 yX12_lookAround wm_X12_lookAround) := goodIn_app (goodIn_of _ (by decide +kernel)) (goodIn_r _ [17, 18, 19, 20, 4, 21, 9, 22, 23, 24, 25, 26, 27, 28, 11, 29, 30, 31, 32, 6, 33, 34, 35, 36, 37, 38, 39, 7, 40, 41, 42, 43, 44, 45, 46, 47, 48, 49, 197, 198, 199, 200, 201, 202, 203, 204, 205, 206, 207, 208, 209, 210, 211, 212, 213, 214, 215, 216, 217, 218, 219, 220, 221, 222, 223, 224, 225, 226, 227, 228, 229, 230, 231, 232, 233, 234, 235, 236, 237, 238, 239, 240, 241, 242, 243, 244, 245, 246, 247, 248, 249, 250, 251, 252, 253, 254, 255, 256, 257, 258, 259, 260, 261, 262, 263, 264, 265] (by decide +kernel) (by decide +kernel))
set_option maxRecDepth 20000 in
theorem gm_X12_triedAll_X12_hasSecond : GoodIn wm_X12_triedAll (va_wsS RX12 389 yX12_hasSecond wm_X12_hasSecond) := goodIn_app (goodIn_of _ (by decide +kernel)) (goodIn_r _ [52] (by decide +kernel) (by decide +kernel))
set_option maxRecDepth 20000 in
theorem gm_X12_triedAll_X12_tried : GoodIn wm_X12_triedAll (wsV RX12 428 RX12 yX12_tried wm_X12_tried) := goodIn_app (goodIn_of _ (by decide +kernel)) (goodIn_r _ [57, 58, 59, 60, 4, 61, 62, 63, 64, 65, 66, 67, 68, 69, 7, 22, 23, 9, 70, 71, 72, 73, 74, 75, 76, 77, 44, 48, 47, 78, 79, 80, 81, 82, 83, 84, 85, 86, 87, 45, 46, 88, 11, 89, 90, 91, 92, 33, 93, 94, 95, 96, 97, 98, 99, 100, 101, 102, 103, 104, 105, 106, 107, 108, 109, 110, 111, 112, 113, 114, 115, 116, 117, 34, 118, 119, 120, 121, 122, 123, 124, 125, 126, 127, 128, 129, 130, 131, 132, 133, 134, 135, 6, 136, 137, 138, 139, 140, 141, 142, 143, 144, 145, 146, 147, 148, 149, 150, 151, 152, 153, 154, 155, 156, 28, 157, 158, 159, 160, 161, 162, 163, 164, 165, 166, 167, 168, 13, 169, 170, 171, 172, 173, 174, 175, 176, 177, 178, 179, 180, 181, 182, 183, 184, 53, 1, 2, 3, 5, 8, 10, 12, 185, 186, 187, 188, 189, 190, 50, 51, 52, 191, 192, 193, 194, 195, 196, 197, 198, 199, 200, 201, 202, 203, 204, 205, 206, 207, 208, 209, 210, 211, 212, 213, 214, 215, 216, 217, 218, 219, 220, 221, 222, 223, 224, 225, 226, 227, 228, 229, 230, 231, 232, 233, 234, 235, 236, 237, 238, 239, 240, 241, 242, 243, 244, 245, 246, 247, 248, 249, 250, 251, 252, 253, 254, 255, 256, 257, 258, 259, 260, 261, 262, 263, 264, 265] (by decide +kernel) (by decide +kernel))
set_option maxHeartbeats 4000000 in
set_option maxRecDepth 100000 in
theorem s_X12_triedAll (l : Launch) (D : va_G) (sz : Nat) (o : Nat) (a : Nat → Nat) (t : Nat → ClassId) (i : Nat → Int32) (q : Int64) (c : Nat → Nat → Int32) (d : Nat → Nat → Int64) (s1 : Int32) (hI : mInv i c) (hs1 : 0 ≤ s1.toInt ∧ s1.toInt < (i 50).toInt ∧ (i 50).toInt < 300) (hp : 0 ≤ (i 22).toInt) (hs_C : Cc (c 3) (c 6) (c 47) (c 48) (c 49) (i 5).toInt) (hs_S : SJ (c 3) (c 6) (c 9) (c 10) (c 11) (c 13) (i 2).toInt (i 5).toInt (i 8).toInt) (hs_P : Kd (c 3) (c 6) (i 22).toInt 5) (hs_Q : SQ (c 3) (c 6) (c 51) (c 52) (i 5).toInt (i 22).toInt (i 50).toInt) : Met l yX12_triedAll wm_X12_triedAll ({ frames := 6, cells := 0, slots := 0, locals := 142 }) (va_Pc [.ref o, .int s1] (pB D sz (mW o a t i q c d) (mT t))) (va_Qi (fun (r : Int32) (u : MS) => (0 ≤ r.toInt ∧ r.toInt ≤ 1) ∧ mInv u.1 u.2.2.1 ∧ (∀ k, k ∉ ([16, 17, 18, 19, 35, 36, 40, 41, 42, 50] : List Nat) → u.1 k = i k) ∧ (∀ k, k ∉ ([23, 24, 25, 26, 34, 38, 39, 43, 44, 51, 52, 53, 54, 55] : List Nat) → u.2.2.1 k = c k) ∧ (SQ (u.2.2.1 3) (u.2.2.1 6) (u.2.2.1 51) (u.2.2.1 52) (u.1 5).toInt (u.1 22).toInt (u.1 50).toInt) ∧ ((i 50).toInt ≤ (u.1 50).toInt)) (oC D (va_A (mW o a t i q c d) sz) (fun u : MS => mW o a t u.1 u.2.1 u.2.2.1 u.2.2.2) (fun _ => [])) (va_A (mW o a t i q c d) sz)) 0 0 (va_A (mW o a t i q c d) sz) := by
  refine Met.ofW (cc := cX12_triedAll) (maxL := 7) (ret := (some .boolean)) (by decide) rfl ?_
  intro p e s m args below meth cd s₁ B hml hv
  obtain ⟨rfl, hsz, hP, hK, hD0⟩ := hv
  have hx := B.exec
  have hb := B.bytes
  have hr := B.returns
  have hts := atoms_spec (ws := wm_X12_triedAll) B.pre
  have hown : s.vm.findClass RX12 = some m.cls := findClass_of_methodNamed B.named
  have hlocks := B.notSynchronized
  subst hsz
  have hD := hD0.self (sz := s.heap.size)
  generalize hAe : va_A (mW o a t i q c d) s.heap.size = A at hD ⊢
  have hA : ∀ q : Nat, s.heap.size ≤ q → A q := fun q h => by rw [← hAe]; exact Or.inr h
  have hS : va_S A s.heap s.heap [] := va_S.rf
  have hfi : ∀ k, k ∉ ([] : List Nat) → i k = i k := fun _ _ => rfl
  have hfc : ∀ k, k ∉ ([] : List Nat) → c k = c k := fun _ _ => rfl
  have hl := lv_entry ([.ref o, .int s1]) (n := 7) (Nat.le_of_ble_eq_true rfl)
  rw [lg_entry_eq]
  generalize (lg_sl ([.ref o, .int s1]) ++ List.replicate (7 - (lg_sl ([.ref o, .int s1])).length) Slot.unset).toArray = ls at hl ⊢
  have hl : lv_has ls 7 [(0, .ref o), (1, .int s1)] := hl
  have rb5_i : 0 ≤ (i 5).toInt ∧ (i 5).toInt ≤ 30 := hI.1 5
  have rb22_i : (i 22).toInt = -9 ∨ (0 ≤ (i 22).toInt ∧ (i 22).toInt ≤ 29) := hI.1 22
  have rb50_i : 0 ≤ (i 50).toInt ∧ (i 50).toInt ≤ 300 := hI.1 50
  refine lv_aload_n hx hb dX12_triedAll_0 rfl (lv_at hl 0 rfl) ?_
  refine lv_iload_n hx hb dX12_triedAll_1 rfl (lv_at hl 1 rfl) ?_
  refine al_callv (va_runV (As := [.int s1]) (rest := []) ⟨hx, hb, hml, hown, hts⟩ (s_X12_giveState l D s.heap.size o a t i q c d s1 hI (show 0 ≤ s1.toInt ∧ s1.toInt ≤ 300 from by omega)) (cwV 1 hts gm_X12_triedAll_X12_giveState rfl rfl rfl (by decide +kernel) ⟨Nat.le_of_ble_eq_true rfl, Nat.le_of_ble_eq_true rfl⟩) (pB_V hK hP hD (ci := 12) (q0 := 0) rfl rfl) rfl rfl hl.1 rfl (lv_room (Nat.le_of_ble_eq_true rfl)) dX12_triedAll_2 ⟨Nat.le_of_ble_eq_true rfl, Nat.le_of_ble_eq_true rfl⟩) hS hA hP hD (fun u1 H locs hw1 hP hD hS => ?_)
  obtain ⟨i1, q1, c1, d1⟩ := u1
  have hw1 : True ∧ mInv i1 c1 ∧ (∀ k, k ∉ ([] : List Nat) → i1 k = i k) ∧ (∀ k, k ∉ ([23, 24, 25, 26] : List Nat) → c1 k = c k) ∧ (GB (c1 23) (c1 24) (c 51) (c 52) s1.toInt.toNat (i 5).toInt) := hw1
  obtain ⟨hw1, hI, hei1, hec1, hxp1_0⟩ := hw1
  have hxp1_0 : GB (c1 23) (c1 24) (c 51) (c 52) s1.toInt.toNat (i 5).toInt := hxp1_0
  have hfi : ∀ k, k ∉ ([] : List Nat) → i1 k = i k := fr_z hfi hei1 (by decide) (by decide)
  have hfc : ∀ k, k ∉ ([23, 24, 25, 26] : List Nat) → c1 k = c k := fr_z hfc hec1 (by decide) (by decide)
  have hP : va_P D vwCl (mW o a t i1 q1 c1 d1) H := hP
  have hD : va_D A (mW o a t i1 q1 c1 d1) := hD
  have hs_B : GB (c1 23) (c1 24) (c1 51) (c1 52) s1.toInt.toNat (i 5).toInt := by rw [show c1 51 = c 51 from hfc 51 (by decide), show c1 52 = c 52 from hfc 52 (by decide)]; exact hxp1_0
  have hs_T : TI (i 5).toInt (fun z => Kd (c 3) (c 6) z 0) (i 22).toInt (c1 23) (c1 24) := TI_ext (hs_Q s1.toInt.toNat (Or.inl (by omega))) hxp1_0
  have hs_Q : SQ (c 3) (c 6) (c1 51) (c1 52) (i 5).toInt (i 22).toInt ((i1 50) : Int32).toInt := by rw [show c1 51 = c 51 from hfc 51 (by decide), show c1 52 = c 52 from hfc 52 (by decide), show i1 50 = i 50 from hfi 50 (by decide)]; exact hs_Q
  refine lv_aload_n hx hb dX12_triedAll_5 rfl (lv_at hl 0 rfl) ?_
  have rb5_i1 : 0 ≤ (i1 5).toInt ∧ (i1 5).toInt ≤ 30 := hI.1 5
  have re5_i1 : (i1 5).toInt = (i 5).toInt := congrArg Int32.toInt (hfi 5 (by decide))
  have rb22_i1 : (i1 22).toInt = -9 ∨ (0 ≤ (i1 22).toInt ∧ (i1 22).toInt ≤ 29) := hI.1 22
  have re22_i1 : (i1 22).toInt = (i 22).toInt := congrArg Int32.toInt (hfi 22 (by decide))
  refine al_callv (va_runV (As := []) (rest := []) ⟨hx, hb, hml, hown, hts⟩ (s_X12_lookAround l D H.size o a t i1 q1 c1 d1  hI (by rw [show c1 3 = c 3 from hfc 3 (by decide), show c1 6 = c 6 from hfc 6 (by decide), show i1 5 = i 5 from hfi 5 (by decide), show i1 22 = i 22 from hfi 22 (by decide)]; exact hs_T) (by rw [show c1 3 = c 3 from hfc 3 (by decide), show c1 6 = c 6 from hfc 6 (by decide), show c1 47 = c 47 from hfc 47 (by decide), show c1 48 = c 48 from hfc 48 (by decide), show c1 49 = c 49 from hfc 49 (by decide), show i1 5 = i 5 from hfi 5 (by decide)]; exact hs_C)) (cwV 0 hts gm_X12_triedAll_X12_lookAround rfl rfl rfl (by decide +kernel) ⟨Nat.le_of_ble_eq_true rfl, Nat.le_of_ble_eq_true rfl⟩) (pB_V hK hP hD (ci := 12) (q0 := 0) rfl rfl) rfl rfl hl.1 rfl (lv_room (Nat.le_of_ble_eq_true rfl)) dX12_triedAll_6 ⟨Nat.le_of_ble_eq_true rfl, Nat.le_of_ble_eq_true rfl⟩) hS hA hP hD (fun u2 H locs hw2 hP hD hS => ?_)
  obtain ⟨i2, q2, c2, d2⟩ := u2
  have hw2 : True ∧ mInv i2 c2 ∧ (∀ k, k ∉ ([40, 41, 42] : List Nat) → i2 k = i1 k) ∧ (∀ k, k ∉ ([43, 44] : List Nat) → c2 k = c1 k) ∧ (RQ (c2 44) (c1 49) (nF (i1 5).toInt (c1 23) (c1 24)) (i1 22).toInt (i1 5).toInt) := hw2
  obtain ⟨hw2, hI, hei2, hec2, hxp2_0⟩ := hw2
  have hxp2_0 : RQ (c2 44) (c 49) (nF (i 5).toInt (c1 23) (c1 24)) (i 22).toInt (i 5).toInt := by have h9 := hxp2_0; rw [show c1 49 = c 49 from hfc 49 (by decide), show i1 5 = i 5 from hfi 5 (by decide), show i1 22 = i 22 from hfi 22 (by decide)] at h9; exact h9
  have hfi : ∀ k, k ∉ ([40, 41, 42] : List Nat) → i2 k = i k := fr_z hfi hei2 (by decide) (by decide)
  have hfc : ∀ k, k ∉ ([23, 24, 25, 26, 43, 44] : List Nat) → c2 k = c k := fr_z hfc hec2 (by decide) (by decide)
  have hP : va_P D vwCl (mW o a t i2 q2 c2 d2) H := hP
  have hD : va_D A (mW o a t i2 q2 c2 d2) := hD
  have hs_T : TI (i 5).toInt (fun z => Kd (c 3) (c 6) z 0) (i 22).toInt (c2 23) (c2 24) := by rw [show c2 23 = c1 23 from hec2 23 (by decide), show c2 24 = c1 24 from hec2 24 (by decide)]; exact hs_T
  have hs_B : GB (c2 23) (c2 24) (c2 51) (c2 52) s1.toInt.toNat (i 5).toInt := by rw [show c2 23 = c1 23 from hec2 23 (by decide), show c2 24 = c1 24 from hec2 24 (by decide), show c2 51 = c1 51 from hec2 51 (by decide), show c2 52 = c1 52 from hec2 52 (by decide)]; exact hs_B
  have hs_Q : SQ (c 3) (c 6) (c2 51) (c2 52) (i 5).toInt (i 22).toInt ((i2 50) : Int32).toInt := by rw [show c2 51 = c1 51 from hec2 51 (by decide), show c2 52 = c1 52 from hec2 52 (by decide), show i2 50 = i1 50 from hei2 50 (by decide)]; exact hs_Q
  have hs_R : RQ (c2 44) (c2 49) (nF (i 5).toInt (c2 23) (c2 24)) (i 22).toInt (i 5).toInt := by rw [show c2 49 = c 49 from hfc 49 (by decide), show c2 23 = c1 23 from hec2 23 (by decide), show c2 24 = c1 24 from hec2 24 (by decide)]; exact hxp2_0
  refine lv_iconst (v := 0) hx hb dX12_triedAll_9 (by decide) ?_
  refine lv_istore_n (lv' := [(2, .int 0), (0, .ref o), (1, .int s1)]) hx hb dX12_triedAll_10 rfl hl (by decide) rfl (fun ls hl => ?_)
  have lp3 : ∀ (fu : Nat) (i3 : Nat → Int32) (q3 : Int64) (c3 : Nat → Nat → Int32) (d3 : Nat → Nat → Int64) (y3_2 : Int32), mInv i3 c3 → (∀ k, k ∉ ([16, 17, 18, 19, 35, 36, 40, 41, 42, 50] : List Nat) → i3 k = i k) → (∀ k, k ∉ ([23, 24, 25, 26, 34, 38, 39, 43, 44, 51, 52, 53, 54, 55] : List Nat) → c3 k = c k) → (TI (i 5).toInt (fun z => Kd (c 3) (c 6) z 0) (i 22).toInt (c3 23) (c3 24)) → (GB (c3 23) (c3 24) (c3 51) (c3 52) s1.toInt.toNat (i 5).toInt) → (SQ (c 3) (c 6) (c3 51) (c3 52) (i 5).toInt (i 22).toInt ((i3 50) : Int32).toInt) → (RQ (c3 44) (c3 49) (nF (i 5).toInt (c3 23) (c3 24)) (i 22).toInt (i 5).toInt) → (0 ≤ y3_2.toInt ∧ y3_2.toInt ≤ 12) → (s1.toInt < ((i3 50) : Int32).toInt ∧ (i 50).toInt ≤ ((i3 50) : Int32).toInt) → (12 - y3_2.toInt).toNat < fu → ∀ (H : Heap) (locs : List Loc) (ls : Array Slot), va_P D vwCl (mW o a t i3 q3 c3 d3) H → va_D A (mW o a t i3 q3 c3 d3) → va_S A s.heap H locs → lv_has ls 7 [(2, .int y3_2), (0, .ref o), (1, .int s1)] → W p l e (headSpec wm_X12_triedAll ({ frames := 6, cells := 0, slots := 0, locals := 142 })).room s m ([.ref o, .int s1] : List Value).toArray below meth cd H locs 0 0 (MQ below (va_Qi (fun (r : Int32) (u : MS) => (0 ≤ r.toInt ∧ r.toInt ≤ 1) ∧ mInv u.1 u.2.2.1 ∧ (∀ k, k ∉ ([16, 17, 18, 19, 35, 36, 40, 41, 42, 50] : List Nat) → u.1 k = i k) ∧ (∀ k, k ∉ ([23, 24, 25, 26, 34, 38, 39, 43, 44, 51, 52, 53, 54, 55] : List Nat) → u.2.2.1 k = c k) ∧ (SQ (u.2.2.1 3) (u.2.2.1 6) (u.2.2.1 51) (u.2.2.1 52) (u.1 5).toInt (u.1 22).toInt (u.1 50).toInt) ∧ ((i 50).toInt ≤ (u.1 50).toInt)) (oC D A (fun u : MS => mW o a t u.1 u.2.1 u.2.2.1 u.2.2.2) (fun _ => [])) A) ([.ref o, .int s1] : List Value).toArray s 0 0 A) (F0 m 11 ls []) := by
    intro fu
    induction fu with
    | zero => intro i3 q3 c3 d3 y3_2 hI hfi hfc hs_T hs_B hs_Q hs_R hy3_2 hz3_0 hm; exact absurd hm (Nat.not_lt_zero _)
    | succ fu ih =>
      intro i3 q3 c3 d3 y3_2 hI hfi hfc hs_T hs_B hs_Q hs_R hy3_2 hz3_0 hm H locs ls hP hD hS hl
      have ih3 := ih
      refine lv_iload_n hx hb dX12_triedAll_11 rfl (lv_at hl 0 rfl) ?_
      refine lv_bipush (v := 12) hx hb dX12_triedAll_12 (by decide) ?_
      refine lv_icmp_ge (tgt := 120) hx hb dX12_triedAll_14 (by decide) (fun c4 => ?_) (fun c4 => ?_)
      · have f4 := (ti_le (a := 12) (b := y3_2.toInt) (by decide) rfl).mp c4
        refine lv_iconst (v := 0) hx hb dX12_triedAll_120 (by decide) ?_
        exact rw_zret (i3, q3, c3, d3) hx hb hr hlocks hS (hK.sub (tys' := []) [] rfl) hP hD rfl dX12_triedAll_121 ⟨(show 0 ≤ (0 : Int32).toInt ∧ (0 : Int32).toInt ≤ 1 from by have h9 : (0 : Int32).toInt = 0 := (by decide); omega), hI, fr_w hfi (by decide), fr_w hfc (by decide), (show SQ (c3 3) (c3 6) (c3 51) (c3 52) ((i3 5) : Int32).toInt ((i3 22) : Int32).toInt ((i3 50) : Int32).toInt from by rw [show c3 3 = c 3 from hfc 3 (by decide), show c3 6 = c 6 from hfc 6 (by decide), show i3 5 = i 5 from hfi 5 (by decide), show i3 22 = i 22 from hfi 22 (by decide)]; exact hs_Q), (show (i 50).toInt ≤ ((i3 50) : Int32).toInt from by have h51 : (0 : Int32).toInt = 0 := (by decide); omega)⟩
      · have f4 := mt (ti_le (a := 12) (b := y3_2.toInt) (by decide) rfl).mpr c4
        refine lv_iload_n hx hb dX12_triedAll_17 rfl (lv_at hl 0 rfl) ?_
        have jn5 : ∀ (z5_0 : Int32), ((y3_2.toInt = 0 → z5_0.toInt = 10) ∧ (1 ≤ y3_2.toInt ∧ y3_2.toInt ≤ 10 → z5_0.toInt = (i 5).toInt) ∧ 0 ≤ z5_0.toInt ∧ z5_0.toInt ≤ 30) → ∀ (H : Heap) (locs : List Loc) (ls : Array Slot), va_P D vwCl (mW o a t i3 q3 c3 d3) H → va_D A (mW o a t i3 q3 c3 d3) → va_S A s.heap H locs → lv_has ls 7 [(2, .int y3_2), (0, .ref o), (1, .int s1)] → W p l e (headSpec wm_X12_triedAll ({ frames := 6, cells := 0, slots := 0, locals := 142 })).room s m ([.ref o, .int s1] : List Value).toArray below meth cd H locs 0 0 (MQ below (va_Qi (fun (r : Int32) (u : MS) => (0 ≤ r.toInt ∧ r.toInt ≤ 1) ∧ mInv u.1 u.2.2.1 ∧ (∀ k, k ∉ ([16, 17, 18, 19, 35, 36, 40, 41, 42, 50] : List Nat) → u.1 k = i k) ∧ (∀ k, k ∉ ([23, 24, 25, 26, 34, 38, 39, 43, 44, 51, 52, 53, 54, 55] : List Nat) → u.2.2.1 k = c k) ∧ (SQ (u.2.2.1 3) (u.2.2.1 6) (u.2.2.1 51) (u.2.2.1 52) (u.1 5).toInt (u.1 22).toInt (u.1 50).toInt) ∧ ((i 50).toInt ≤ (u.1 50).toInt)) (oC D A (fun u : MS => mW o a t u.1 u.2.1 u.2.2.1 u.2.2.2) (fun _ => [])) A) ([.ref o, .int s1] : List Value).toArray s 0 0 A) (F0 m 40 ls [.int z5_0]) := by
          intro z5_0 hz5_0 H locs ls hP hD hS hl
          refine lv_istore_n (lv' := [(3, .int z5_0), (2, .int y3_2), (0, .ref o), (1, .int s1)]) hx hb dX12_triedAll_40 rfl hl (by decide) rfl (fun ls hl => ?_)
          refine lv_iconst (v := 0) hx hb dX12_triedAll_41 (by decide) ?_
          refine lv_istore (lv' := [(4, .int 0), (3, .int z5_0), (2, .int y3_2), (0, .ref o), (1, .int s1)]) hx hb dX12_triedAll_42 hl (by decide) rfl (fun ls hl => ?_)
          have lp6 : ∀ (fu : Nat) (i6 : Nat → Int32) (q6 : Int64) (c6 : Nat → Nat → Int32) (d6 : Nat → Nat → Int64) (y6_4 : Int32), mInv i6 c6 → (∀ k, k ∉ ([16, 17, 18, 19, 35, 36, 40, 41, 42, 50] : List Nat) → i6 k = i k) → (∀ k, k ∉ ([23, 24, 25, 26, 34, 38, 39, 43, 44, 51, 52, 53, 54, 55] : List Nat) → c6 k = c k) → (TI (i 5).toInt (fun z => Kd (c 3) (c 6) z 0) (i 22).toInt (c6 23) (c6 24)) → (GB (c6 23) (c6 24) (c6 51) (c6 52) s1.toInt.toNat (i 5).toInt) → (SQ (c 3) (c 6) (c6 51) (c6 52) (i 5).toInt (i 22).toInt ((i6 50) : Int32).toInt) → (RQ (c6 44) (c6 49) (nF (i 5).toInt (c6 23) (c6 24)) (i 22).toInt (i 5).toInt) → (0 ≤ y6_4.toInt ∧ y6_4.toInt ≤ 30) → (s1.toInt < ((i6 50) : Int32).toInt ∧ (i 50).toInt ≤ ((i6 50) : Int32).toInt) → (30 - y6_4.toInt).toNat < fu → ∀ (H : Heap) (locs : List Loc) (ls : Array Slot), va_P D vwCl (mW o a t i6 q6 c6 d6) H → va_D A (mW o a t i6 q6 c6 d6) → va_S A s.heap H locs → lv_has ls 7 [(4, .int y6_4), (3, .int z5_0), (2, .int y3_2), (0, .ref o), (1, .int s1)] → W p l e (headSpec wm_X12_triedAll ({ frames := 6, cells := 0, slots := 0, locals := 142 })).room s m ([.ref o, .int s1] : List Value).toArray below meth cd H locs 0 0 (MQ below (va_Qi (fun (r : Int32) (u : MS) => (0 ≤ r.toInt ∧ r.toInt ≤ 1) ∧ mInv u.1 u.2.2.1 ∧ (∀ k, k ∉ ([16, 17, 18, 19, 35, 36, 40, 41, 42, 50] : List Nat) → u.1 k = i k) ∧ (∀ k, k ∉ ([23, 24, 25, 26, 34, 38, 39, 43, 44, 51, 52, 53, 54, 55] : List Nat) → u.2.2.1 k = c k) ∧ (SQ (u.2.2.1 3) (u.2.2.1 6) (u.2.2.1 51) (u.2.2.1 52) (u.1 5).toInt (u.1 22).toInt (u.1 50).toInt) ∧ ((i 50).toInt ≤ (u.1 50).toInt)) (oC D A (fun u : MS => mW o a t u.1 u.2.1 u.2.2.1 u.2.2.2) (fun _ => [])) A) ([.ref o, .int s1] : List Value).toArray s 0 0 A) (F0 m 44 ls []) := by
            intro fu
            induction fu with
            | zero => intro i6 q6 c6 d6 y6_4 hI hfi hfc hs_T hs_B hs_Q hs_R hy6_4 hz6_0 hm; exact absurd hm (Nat.not_lt_zero _)
            | succ fu ih =>
              intro i6 q6 c6 d6 y6_4 hI hfi hfc hs_T hs_B hs_Q hs_R hy6_4 hz6_0 hm H locs ls hP hD hS hl
              have ih6 := ih
              refine lv_iload hx hb dX12_triedAll_44 (lv_at hl 0 rfl) ?_
              refine lv_iload_n hx hb dX12_triedAll_46 rfl (lv_at hl 1 rfl) ?_
              refine lv_icmp_ge (tgt := 114) hx hb dX12_triedAll_47 (by decide) (fun c7 => ?_) (fun c7 => ?_)
              · have f7 := (ti_le (a := z5_0.toInt) (b := y6_4.toInt) rfl rfl).mp c7
                obtain ⟨x8, ex8⟩ : ∃ y : Int32, y = y3_2 + 1 := ⟨_, rfl⟩
                have tx8 := ti_add (a := y3_2.toInt) (b := 1) ex8 rfl (by decide) (by omega) (by omega)
                refine lv_iinc (v := x8) (lv' := [(2, .int x8), (4, .int y6_4), (3, .int z5_0), (0, .ref o), (1, .int s1)]) hx hb dX12_triedAll_114 hl (k := 2) rfl (by rw [ex8]; rfl) (by decide) rfl (fun ls hl => ?_)
                refine lv_goto (tgt := 11) hx hb dX12_triedAll_117 (by decide) ?_
                exact ih3 i6 q6 c6 d6 x8 hI (fr_w hfi (by decide)) (fr_w hfc (by decide)) hs_T hs_B hs_Q hs_R (show 0 ≤ x8.toInt ∧ x8.toInt ≤ 12 from by have h50 : x8.toInt = (y3_2.toInt + 1) := tx8; omega) (show s1.toInt < ((i6 50) : Int32).toInt ∧ (i 50).toInt ≤ ((i6 50) : Int32).toInt from by have h50 : x8.toInt = (y3_2.toInt + 1) := tx8; omega) (by have h50 : x8.toInt = (y3_2.toInt + 1) := tx8; omega) _ _ _ hP hD hS (lv_sub hl [0, 3, 4] rfl)
              · have f7 := mt (ti_le (a := z5_0.toInt) (b := y6_4.toInt) rfl rfl).mpr c7
                refine lv_iload_n hx hb dX12_triedAll_50 rfl (lv_at hl 2 rfl) ?_
                have hPc := hP.sub (ws' := []) [] rfl
                have hKc := hK.sub (tys' := []) [] rfl
                refine ro_calli (va_runS (As := [.int y3_2]) (rest := []) ⟨hx, hb, hml, hown, hts⟩ (c_X12_hasSecond l D H.size y3_2) (va_cwS 1 hts gm_X12_triedAll_X12_hasSecond rfl rfl rfl (by decide +kernel) ⟨Nat.le_of_ble_eq_true rfl, Nat.le_of_ble_eq_true rfl⟩) (pA_S hKc hPc) rfl rfl hl.1 rfl (lv_room (Nat.le_of_ble_eq_true rfl)) dX12_triedAll_51 ⟨Nat.le_of_ble_eq_true rfl, Nat.le_of_ble_eq_true rfl⟩) hS hA hP (fun r9 u9 H locs hw9 hP hS => ?_)
                have hw9 : r9 = if (y3_2.toInt = 3 ∨ y3_2.toInt = 4 ∨ y3_2.toInt = 7 ∨ y3_2.toInt = 8) then 1 else 0 := hw9
                have jn10 : ∀ (z10_0 : Int32), ((y3_2.toInt = 3 ∨ y3_2.toInt = 4 ∨ y3_2.toInt = 7 ∨ y3_2.toInt = 8 → z10_0.toInt = (i 5).toInt) ∧ 0 ≤ z10_0.toInt ∧ z10_0.toInt ≤ 30) → ∀ (H : Heap) (locs : List Loc) (ls : Array Slot), va_P D vwCl (mW o a t i6 q6 c6 d6) H → va_D A (mW o a t i6 q6 c6 d6) → va_S A s.heap H locs → lv_has ls 7 [(4, .int y6_4), (3, .int z5_0), (2, .int y3_2), (0, .ref o), (1, .int s1)] → W p l e (headSpec wm_X12_triedAll ({ frames := 6, cells := 0, slots := 0, locals := 142 })).room s m ([.ref o, .int s1] : List Value).toArray below meth cd H locs 0 0 (MQ below (va_Qi (fun (r : Int32) (u : MS) => (0 ≤ r.toInt ∧ r.toInt ≤ 1) ∧ mInv u.1 u.2.2.1 ∧ (∀ k, k ∉ ([16, 17, 18, 19, 35, 36, 40, 41, 42, 50] : List Nat) → u.1 k = i k) ∧ (∀ k, k ∉ ([23, 24, 25, 26, 34, 38, 39, 43, 44, 51, 52, 53, 54, 55] : List Nat) → u.2.2.1 k = c k) ∧ (SQ (u.2.2.1 3) (u.2.2.1 6) (u.2.2.1 51) (u.2.2.1 52) (u.1 5).toInt (u.1 22).toInt (u.1 50).toInt) ∧ ((i 50).toInt ≤ (u.1 50).toInt)) (oC D A (fun u : MS => mW o a t u.1 u.2.1 u.2.2.1 u.2.2.2) (fun _ => [])) A) ([.ref o, .int s1] : List Value).toArray s 0 0 A) (F0 m 65 ls [.int z10_0]) := by
                  intro z10_0 hz10_0 H locs ls hP hD hS hl
                  refine lv_istore (lv' := [(5, .int z10_0), (4, .int y6_4), (3, .int z5_0), (2, .int y3_2), (0, .ref o), (1, .int s1)]) hx hb dX12_triedAll_65 hl (by decide) rfl (fun ls hl => ?_)
                  refine lv_iconst (v := 0) hx hb dX12_triedAll_67 (by decide) ?_
                  refine lv_istore (lv' := [(6, .int 0), (5, .int z10_0), (4, .int y6_4), (3, .int z5_0), (2, .int y3_2), (0, .ref o), (1, .int s1)]) hx hb dX12_triedAll_68 hl (by decide) rfl (fun ls hl => ?_)
                  have lp11 : ∀ (fu : Nat) (i11 : Nat → Int32) (q11 : Int64) (c11 : Nat → Nat → Int32) (d11 : Nat → Nat → Int64) (y11_6 : Int32), mInv i11 c11 → (∀ k, k ∉ ([16, 17, 18, 19, 35, 36, 40, 41, 42, 50] : List Nat) → i11 k = i k) → (∀ k, k ∉ ([23, 24, 25, 26, 34, 38, 39, 43, 44, 51, 52, 53, 54, 55] : List Nat) → c11 k = c k) → (TI (i 5).toInt (fun z => Kd (c 3) (c 6) z 0) (i 22).toInt (c11 23) (c11 24)) → (GB (c11 23) (c11 24) (c11 51) (c11 52) s1.toInt.toNat (i 5).toInt) → (SQ (c 3) (c 6) (c11 51) (c11 52) (i 5).toInt (i 22).toInt ((i11 50) : Int32).toInt) → (RQ (c11 44) (c11 49) (nF (i 5).toInt (c11 23) (c11 24)) (i 22).toInt (i 5).toInt) → (0 ≤ y11_6.toInt ∧ y11_6.toInt ≤ 30) → (s1.toInt < ((i11 50) : Int32).toInt ∧ (i 50).toInt ≤ ((i11 50) : Int32).toInt) → (30 - y11_6.toInt).toNat < fu → ∀ (H : Heap) (locs : List Loc) (ls : Array Slot), va_P D vwCl (mW o a t i11 q11 c11 d11) H → va_D A (mW o a t i11 q11 c11 d11) → va_S A s.heap H locs → lv_has ls 7 [(6, .int y11_6), (5, .int z10_0), (4, .int y6_4), (3, .int z5_0), (2, .int y3_2), (0, .ref o), (1, .int s1)] → W p l e (headSpec wm_X12_triedAll ({ frames := 6, cells := 0, slots := 0, locals := 142 })).room s m ([.ref o, .int s1] : List Value).toArray below meth cd H locs 0 0 (MQ below (va_Qi (fun (r : Int32) (u : MS) => (0 ≤ r.toInt ∧ r.toInt ≤ 1) ∧ mInv u.1 u.2.2.1 ∧ (∀ k, k ∉ ([16, 17, 18, 19, 35, 36, 40, 41, 42, 50] : List Nat) → u.1 k = i k) ∧ (∀ k, k ∉ ([23, 24, 25, 26, 34, 38, 39, 43, 44, 51, 52, 53, 54, 55] : List Nat) → u.2.2.1 k = c k) ∧ (SQ (u.2.2.1 3) (u.2.2.1 6) (u.2.2.1 51) (u.2.2.1 52) (u.1 5).toInt (u.1 22).toInt (u.1 50).toInt) ∧ ((i 50).toInt ≤ (u.1 50).toInt)) (oC D A (fun u : MS => mW o a t u.1 u.2.1 u.2.2.1 u.2.2.2) (fun _ => [])) A) ([.ref o, .int s1] : List Value).toArray s 0 0 A) (F0 m 70 ls []) := by
                    intro fu
                    induction fu with
                    | zero => intro i11 q11 c11 d11 y11_6 hI hfi hfc hs_T hs_B hs_Q hs_R hy11_6 hz11_0 hm; exact absurd hm (Nat.not_lt_zero _)
                    | succ fu ih =>
                      intro i11 q11 c11 d11 y11_6 hI hfi hfc hs_T hs_B hs_Q hs_R hy11_6 hz11_0 hm H locs ls hP hD hS hl
                      have ih11 := ih
                      refine lv_iload hx hb dX12_triedAll_70 (lv_at hl 0 rfl) ?_
                      refine lv_iload hx hb dX12_triedAll_72 (lv_at hl 1 rfl) ?_
                      have jn12 : (s1.toInt < ((i11 50) : Int32).toInt ∧ (i 50).toInt ≤ ((i11 50) : Int32).toInt) → ∀ (H : Heap) (locs : List Loc) (ls : Array Slot), va_P D vwCl (mW o a t i11 q11 c11 d11) H → va_D A (mW o a t i11 q11 c11 d11) → va_S A s.heap H locs → lv_has ls 7 [(6, .int y11_6), (5, .int z10_0), (4, .int y6_4), (3, .int z5_0), (2, .int y3_2), (0, .ref o), (1, .int s1)] → W p l e (headSpec wm_X12_triedAll ({ frames := 6, cells := 0, slots := 0, locals := 142 })).room s m ([.ref o, .int s1] : List Value).toArray below meth cd H locs 0 0 (MQ below (va_Qi (fun (r : Int32) (u : MS) => (0 ≤ r.toInt ∧ r.toInt ≤ 1) ∧ mInv u.1 u.2.2.1 ∧ (∀ k, k ∉ ([16, 17, 18, 19, 35, 36, 40, 41, 42, 50] : List Nat) → u.1 k = i k) ∧ (∀ k, k ∉ ([23, 24, 25, 26, 34, 38, 39, 43, 44, 51, 52, 53, 54, 55] : List Nat) → u.2.2.1 k = c k) ∧ (SQ (u.2.2.1 3) (u.2.2.1 6) (u.2.2.1 51) (u.2.2.1 52) (u.1 5).toInt (u.1 22).toInt (u.1 50).toInt) ∧ ((i 50).toInt ≤ (u.1 50).toInt)) (oC D A (fun u : MS => mW o a t u.1 u.2.1 u.2.2.1 u.2.2.2) (fun _ => [])) A) ([.ref o, .int s1] : List Value).toArray s 0 0 A) (F0 m 108 ls []) := by
                        intro hz12_0 H locs ls hP hD hS hl
                        obtain ⟨x13, ex13⟩ : ∃ y : Int32, y = y6_4 + 1 := ⟨_, rfl⟩
                        have tx13 := ti_add (a := y6_4.toInt) (b := 1) ex13 rfl (by decide) (by omega) (by omega)
                        refine lv_iinc (v := x13) (lv' := [(4, .int x13), (6, .int y11_6), (5, .int z10_0), (3, .int z5_0), (2, .int y3_2), (0, .ref o), (1, .int s1)]) hx hb dX12_triedAll_108 hl (k := 2) rfl (by rw [ex13]; rfl) (by decide) rfl (fun ls hl => ?_)
                        refine lv_goto (tgt := 44) hx hb dX12_triedAll_111 (by decide) ?_
                        exact ih6 i11 q11 c11 d11 x13 hI (fr_w hfi (by decide)) (fr_w hfc (by decide)) hs_T hs_B hs_Q hs_R (show 0 ≤ x13.toInt ∧ x13.toInt ≤ 30 from by have h50 : x13.toInt = (y6_4.toInt + 1) := tx13; omega) (show s1.toInt < ((i11 50) : Int32).toInt ∧ (i 50).toInt ≤ ((i11 50) : Int32).toInt from by have h50 : x13.toInt = (y6_4.toInt + 1) := tx13; omega) (by have h50 : x13.toInt = (y6_4.toInt + 1) := tx13; omega) _ _ _ hP hD hS (lv_sub hl [0, 3, 4, 5, 6] rfl)
                      refine lv_icmp_ge (tgt := 108) hx hb dX12_triedAll_74 (by decide) (fun c14 => ?_) (fun c14 => ?_)
                      · have f14 := (ti_le (a := z10_0.toInt) (b := y11_6.toInt) rfl rfl).mp c14
                        exact jn12   (show s1.toInt < ((i11 50) : Int32).toInt ∧ (i 50).toInt ≤ ((i11 50) : Int32).toInt from by omega) _ _ _ hP hD hS (lv_sub hl [0, 1, 2, 3, 4, 5, 6] rfl)
                      · have f14 := mt (ti_le (a := z10_0.toInt) (b := y11_6.toInt) rfl rfl).mpr c14
                        refine lv_aload_n hx hb dX12_triedAll_77 rfl (lv_at hl 5 rfl) ?_
                        refine mget_50 (v := (i11 50)) rfl hx hb hts (fun _ h => List.mem_cons_of_mem _ (List.mem_append_right _ h)) hown hK hP (hts (.fieldLink RX12 410 "TalePlayModel" "states" "I") (by decide +kernel)) dX12_triedAll_78 ?_
                        have rb50_i11 : 0 ≤ (i11 50).toInt ∧ (i11 50).toInt ≤ 300 := hI.1 50
                        refine lv_sipush (v := 300) hx hb dX12_triedAll_81 (by decide) ?_
                        refine lv_icmp_ge (tgt := 108) hx hb dX12_triedAll_84 (by decide) (fun c15 => ?_) (fun c15 => ?_)
                        · have f15 := (ti_le (a := 300) (b := (i11 50).toInt) (by decide) rfl).mp c15
                          exact jn12   (show s1.toInt < ((i11 50) : Int32).toInt ∧ (i 50).toInt ≤ ((i11 50) : Int32).toInt from by omega) _ _ _ hP hD hS (lv_sub hl [0, 1, 2, 3, 4, 5, 6] rfl)
                        · have f15 := mt (ti_le (a := 300) (b := (i11 50).toInt) (by decide) rfl).mpr c15
                          refine lv_aload_n hx hb dX12_triedAll_87 rfl (lv_at hl 5 rfl) ?_
                          refine lv_iload_n hx hb dX12_triedAll_88 rfl (lv_at hl 6 rfl) ?_
                          refine lv_iload_n hx hb dX12_triedAll_89 rfl (lv_at hl 4 rfl) ?_
                          refine lv_iload hx hb dX12_triedAll_90 (lv_at hl 2 rfl) ?_
                          refine lv_iload hx hb dX12_triedAll_92 (lv_at hl 0 rfl) ?_
                          have rb2_i11 : 6 ≤ (i11 2).toInt ∧ (i11 2).toInt ≤ 24 := hI.1 2
                          have re2_i11 : (i11 2).toInt = (i 2).toInt := congrArg Int32.toInt (hfi 2 (by decide))
                          have rb5_i11 : 0 ≤ (i11 5).toInt ∧ (i11 5).toInt ≤ 30 := hI.1 5
                          have re5_i11 : (i11 5).toInt = (i 5).toInt := congrArg Int32.toInt (hfi 5 (by decide))
                          have rb8_i11 : 0 ≤ (i11 8).toInt ∧ (i11 8).toInt ≤ 200 := hI.1 8
                          have re8_i11 : (i11 8).toInt = (i 8).toInt := congrArg Int32.toInt (hfi 8 (by decide))
                          have rb22_i11 : (i11 22).toInt = -9 ∨ (0 ≤ (i11 22).toInt ∧ (i11 22).toInt ≤ 29) := hI.1 22
                          have re22_i11 : (i11 22).toInt = (i 22).toInt := congrArg Int32.toInt (hfi 22 (by decide))
                          refine al_calli (va_runV (As := [.int s1, .int y3_2, .int y6_4, .int y11_6]) (rest := []) ⟨hx, hb, hml, hown, hts⟩ (s_X12_tried l D H.size o a t i11 q11 c11 d11 s1 y3_2 y6_4 y11_6 hI (show 0 ≤ s1.toInt ∧ s1.toInt < ((i11 50) : Int32).toInt ∧ ((i11 50) : Int32).toInt < 300 from by omega) (show 0 ≤ y3_2.toInt ∧ y3_2.toInt ≤ 11 from by omega) (show y3_2.toInt = 0 → 0 ≤ y6_4.toInt ∧ y6_4.toInt ≤ 9 from by omega) (show 1 ≤ y3_2.toInt ∧ y3_2.toInt ≤ 10 → 0 ≤ y6_4.toInt ∧ y6_4.toInt < ((i11 5) : Int32).toInt from by omega) (show y3_2.toInt = 3 ∨ y3_2.toInt = 4 ∨ y3_2.toInt = 7 ∨ y3_2.toInt = 8 → 0 ≤ y11_6.toInt ∧ y11_6.toInt < ((i11 5) : Int32).toInt from by omega) (by rw [show c11 3 = c 3 from hfc 3 (by decide), show c11 6 = c 6 from hfc 6 (by decide), show i11 5 = i 5 from hfi 5 (by decide), show i11 22 = i 22 from hfi 22 (by decide)]; exact hs_T) (by rw [show c11 3 = c 3 from hfc 3 (by decide), show c11 6 = c 6 from hfc 6 (by decide), show c11 47 = c 47 from hfc 47 (by decide), show c11 48 = c 48 from hfc 48 (by decide), show c11 49 = c 49 from hfc 49 (by decide), show i11 5 = i 5 from hfi 5 (by decide)]; exact hs_C) (by rw [show c11 3 = c 3 from hfc 3 (by decide), show c11 6 = c 6 from hfc 6 (by decide), show c11 9 = c 9 from hfc 9 (by decide), show c11 10 = c 10 from hfc 10 (by decide), show c11 11 = c 11 from hfc 11 (by decide), show c11 13 = c 13 from hfc 13 (by decide), show i11 2 = i 2 from hfi 2 (by decide), show i11 5 = i 5 from hfi 5 (by decide), show i11 8 = i 8 from hfi 8 (by decide)]; exact hs_S) (by rw [show c11 3 = c 3 from hfc 3 (by decide), show c11 6 = c 6 from hfc 6 (by decide), show i11 22 = i 22 from hfi 22 (by decide)]; exact hs_P) (by rw [show c11 49 = c 49 from hfc 49 (by decide), show i11 5 = i 5 from hfi 5 (by decide), show i11 22 = i 22 from hfi 22 (by decide)]; exact hs_R) (by rw [show c11 3 = c 3 from hfc 3 (by decide), show c11 6 = c 6 from hfc 6 (by decide), show i11 5 = i 5 from hfi 5 (by decide), show i11 22 = i 22 from hfi 22 (by decide)]; exact hs_Q) (by rw [show i11 5 = i 5 from hfi 5 (by decide)]; exact hs_B)) (cwV 4 hts gm_X12_triedAll_X12_tried rfl rfl rfl (by decide +kernel) ⟨Nat.le_of_ble_eq_true rfl, Nat.le_of_ble_eq_true rfl⟩) (pB_V hK hP hD (ci := 12) (q0 := 0) rfl rfl) rfl rfl hl.1 rfl (lv_room (Nat.le_of_ble_eq_true rfl)) dX12_triedAll_94 ⟨Nat.le_of_ble_eq_true rfl, Nat.le_of_ble_eq_true rfl⟩) hS hA hP hD (fun r16 u16 H locs hw16 hP hD hS => ?_)
                          obtain ⟨i16, q16, c16, d16⟩ := u16
                          have hw16 : (0 ≤ r16.toInt ∧ r16.toInt ≤ 1) ∧ mInv i16 c16 ∧ (∀ k, k ∉ ([16, 17, 18, 19, 35, 36, 50] : List Nat) → i16 k = i11 k) ∧ (∀ k, k ∉ ([23, 24, 25, 26, 34, 38, 39, 51, 52, 53, 54, 55] : List Nat) → c16 k = c11 k) ∧ (SQ (c16 3) (c16 6) (c16 51) (c16 52) (i16 5).toInt (i16 22).toInt (i16 50).toInt) ∧ (GB (c16 23) (c16 24) (c16 51) (c16 52) s1.toInt.toNat (i16 5).toInt) ∧ (RQ (c16 44) (c16 49) (nF (i16 5).toInt (c16 23) (c16 24)) (i16 22).toInt (i16 5).toInt) ∧ (TI (i16 5).toInt (fun z => Kd (c16 3) (c16 6) z 0) (i16 22).toInt (c16 23) (c16 24)) ∧ ((i11 50).toInt ≤ (i16 50).toInt ∧ (i16 50).toInt ≤ (i11 50).toInt + 1) := hw16
                          obtain ⟨hw16, hI, hei16, hec16, hxp16_0, hxp16_1, hxp16_2, hxp16_3, hxp16_4⟩ := hw16
                          have hxp16_0 : SQ (c16 3) (c16 6) (c16 51) (c16 52) (i16 5).toInt (i16 22).toInt (i16 50).toInt := hxp16_0
                          have hxp16_1 : GB (c16 23) (c16 24) (c16 51) (c16 52) s1.toInt.toNat (i16 5).toInt := hxp16_1
                          have hxp16_2 : RQ (c16 44) (c16 49) (nF (i16 5).toInt (c16 23) (c16 24)) (i16 22).toInt (i16 5).toInt := hxp16_2
                          have hxp16_3 : TI (i16 5).toInt (fun z => Kd (c16 3) (c16 6) z 0) (i16 22).toInt (c16 23) (c16 24) := hxp16_3
                          have hxp16_4 : (i11 50).toInt ≤ (i16 50).toInt ∧ (i16 50).toInt ≤ (i11 50).toInt + 1 := hxp16_4
                          have hfi : ∀ k, k ∉ ([16, 17, 18, 19, 35, 36, 40, 41, 42, 50] : List Nat) → i16 k = i k := fr_z hfi hei16 (by decide) (by decide)
                          have hfc : ∀ k, k ∉ ([23, 24, 25, 26, 34, 38, 39, 43, 44, 51, 52, 53, 54, 55] : List Nat) → c16 k = c k := fr_z hfc hec16 (by decide) (by decide)
                          have hP : va_P D vwCl (mW o a t i16 q16 c16 d16) H := hP
                          have hD : va_D A (mW o a t i16 q16 c16 d16) := hD
                          have hs_Q : SQ (c 3) (c 6) (c16 51) (c16 52) (i 5).toInt (i 22).toInt ((i16 50) : Int32).toInt := by have h9 := hxp16_0; rw [show c16 3 = c 3 from hfc 3 (by decide), show c16 6 = c 6 from hfc 6 (by decide), show i16 5 = i 5 from hfi 5 (by decide), show i16 22 = i 22 from hfi 22 (by decide)] at h9; exact h9
                          have hs_B : GB (c16 23) (c16 24) (c16 51) (c16 52) s1.toInt.toNat (i 5).toInt := by have h9 := hxp16_1; rw [show i16 5 = i 5 from hfi 5 (by decide)] at h9; exact h9
                          have hs_R : RQ (c16 44) (c16 49) (nF (i 5).toInt (c16 23) (c16 24)) (i 22).toInt (i 5).toInt := by have h9 := hxp16_2; rw [show i16 5 = i 5 from hfi 5 (by decide), show i16 22 = i 22 from hfi 22 (by decide)] at h9; exact h9
                          have hs_T : TI (i 5).toInt (fun z => Kd (c 3) (c 6) z 0) (i 22).toInt (c16 23) (c16 24) := by have h9 := hxp16_3; rw [show c16 3 = c 3 from hfc 3 (by decide), show c16 6 = c 6 from hfc 6 (by decide), show i16 5 = i 5 from hfi 5 (by decide), show i16 22 = i 22 from hfi 22 (by decide)] at h9; exact h9
                          refine lv_if_eq (tgt := 102) hx hb dX12_triedAll_97 (by decide) (fun c17 => ?_) (fun c17 => ?_)
                          · have f17 := (ti_eq (a := r16.toInt) (b := 0) rfl (by decide)).mp c17
                            obtain ⟨x18, ex18⟩ : ∃ y : Int32, y = y11_6 + 1 := ⟨_, rfl⟩
                            have tx18 := ti_add (a := y11_6.toInt) (b := 1) ex18 rfl (by decide) (by omega) (by omega)
                            refine lv_iinc (v := x18) (lv' := [(6, .int x18), (5, .int z10_0), (4, .int y6_4), (3, .int z5_0), (2, .int y3_2), (0, .ref o), (1, .int s1)]) hx hb dX12_triedAll_102 hl (k := 0) rfl (by rw [ex18]; rfl) (by decide) rfl (fun ls hl => ?_)
                            refine lv_goto (tgt := 70) hx hb dX12_triedAll_105 (by decide) ?_
                            exact ih11 i16 q16 c16 d16 x18 hI (fr_w hfi (by decide)) (fr_w hfc (by decide)) hs_T hs_B hs_Q hs_R (show 0 ≤ x18.toInt ∧ x18.toInt ≤ 30 from by have h50 : x18.toInt = (y11_6.toInt + 1) := tx18; omega) (show s1.toInt < ((i16 50) : Int32).toInt ∧ (i 50).toInt ≤ ((i16 50) : Int32).toInt from by have h50 : x18.toInt = (y11_6.toInt + 1) := tx18; omega) (by have h50 : x18.toInt = (y11_6.toInt + 1) := tx18; omega) _ _ _ hP hD hS (lv_sub hl [0, 1, 2, 3, 4, 5, 6] rfl)
                          · have f17 := mt (ti_eq (a := r16.toInt) (b := 0) rfl (by decide)).mpr c17
                            refine lv_iconst (v := 1) hx hb dX12_triedAll_100 (by decide) ?_
                            exact rw_zret (i16, q16, c16, d16) hx hb hr hlocks hS (hK.sub (tys' := []) [] rfl) hP hD rfl dX12_triedAll_101 ⟨(show 0 ≤ (1 : Int32).toInt ∧ (1 : Int32).toInt ≤ 1 from by have h9 : (1 : Int32).toInt = 1 := (by decide); omega), hI, fr_w hfi (by decide), fr_w hfc (by decide), (show SQ (c16 3) (c16 6) (c16 51) (c16 52) ((i16 5) : Int32).toInt ((i16 22) : Int32).toInt ((i16 50) : Int32).toInt from by rw [show c16 3 = c 3 from hfc 3 (by decide), show c16 6 = c 6 from hfc 6 (by decide), show i16 5 = i 5 from hfi 5 (by decide), show i16 22 = i 22 from hfi 22 (by decide)]; exact hs_Q), (show (i 50).toInt ≤ ((i16 50) : Int32).toInt from by have h51 : (1 : Int32).toInt = 1 := (by decide); omega)⟩
                  exact lp11 _ i6 q6 c6 d6 (0 : Int32) hI (fr_w hfi (by decide)) (fr_w hfc (by decide)) hs_T hs_B hs_Q hs_R (show 0 ≤ (0 : Int32).toInt ∧ (0 : Int32).toInt ≤ 30 from by have h50 : (0 : Int32).toInt = 0 := (by decide); omega) (show s1.toInt < ((i6 50) : Int32).toInt ∧ (i 50).toInt ≤ ((i6 50) : Int32).toInt from by have h50 : (0 : Int32).toInt = 0 := (by decide); omega) (Nat.lt_succ_self _) _ _ _ hP hD hS (lv_sub hl [0, 1, 2, 3, 4, 5, 6] rfl)
                refine lv_if_eq (tgt := 64) hx hb dX12_triedAll_54 (by decide) (fun c19 => ?_) (fun c19 => ?_)
                · have f19 := fl_f hw9 c19
                  refine lv_iconst (v := 1) hx hb dX12_triedAll_64 (by decide) ?_
                  exact jn10  (1 : Int32) (show (y3_2.toInt = 3 ∨ y3_2.toInt = 4 ∨ y3_2.toInt = 7 ∨ y3_2.toInt = 8 → (1 : Int32).toInt = (i 5).toInt) ∧ 0 ≤ (1 : Int32).toInt ∧ (1 : Int32).toInt ≤ 30 from by have h55 : (1 : Int32).toInt = 1 := (by decide); omega) _ _ _ hP hD hS (lv_sub hl [0, 1, 2, 3, 4] rfl)
                · have f19 := fl_t hw9 c19
                  refine lv_aload_n hx hb dX12_triedAll_57 rfl (lv_at hl 3 rfl) ?_
                  refine mget_5 (v := (i6 5)) rfl hx hb hts (fun _ h => List.mem_cons_of_mem _ (List.mem_append_right _ h)) hown hK hP (hts (.fieldLink RX12 177 "TalePlayModel" "objects" "I") (by decide +kernel)) dX12_triedAll_58 ?_
                  have rb5_i6 : 0 ≤ (i6 5).toInt ∧ (i6 5).toInt ≤ 30 := hI.1 5
                  have re5_i6 : (i6 5).toInt = (i 5).toInt := congrArg Int32.toInt (hfi 5 (by decide))
                  refine lv_goto (tgt := 65) hx hb dX12_triedAll_61 (by decide) ?_
                  exact jn10  (i6 5) (show (y3_2.toInt = 3 ∨ y3_2.toInt = 4 ∨ y3_2.toInt = 7 ∨ y3_2.toInt = 8 → (i6 5).toInt = (i 5).toInt) ∧ 0 ≤ (i6 5).toInt ∧ (i6 5).toInt ≤ 30 from by omega) _ _ _ hP hD hS (lv_sub hl [0, 1, 2, 3, 4] rfl)
          exact lp6 _ i3 q3 c3 d3 (0 : Int32) hI (fr_w hfi (by decide)) (fr_w hfc (by decide)) hs_T hs_B hs_Q hs_R (show 0 ≤ (0 : Int32).toInt ∧ (0 : Int32).toInt ≤ 30 from by have h50 : (0 : Int32).toInt = 0 := (by decide); omega) (show s1.toInt < ((i3 50) : Int32).toInt ∧ (i 50).toInt ≤ ((i3 50) : Int32).toInt from by have h50 : (0 : Int32).toInt = 0 := (by decide); omega) (Nat.lt_succ_self _) _ _ _ hP hD hS (lv_sub hl [0, 1, 2, 3, 4] rfl)
        refine lv_if_ne (tgt := 26) hx hb dX12_triedAll_18 (by decide) (fun c20 => ?_) (fun c20 => ?_)
        · have f20 := mt (ti_eq (a := y3_2.toInt) (b := 0) rfl (by decide)).mpr c20
          refine lv_iload_n hx hb dX12_triedAll_26 rfl (lv_at hl 0 rfl) ?_
          refine lv_bipush (v := 11) hx hb dX12_triedAll_27 (by decide) ?_
          refine lv_icmp_ne (tgt := 36) hx hb dX12_triedAll_29 (by decide) (fun c21 => ?_) (fun c21 => ?_)
          · have f21 := mt (ti_eq (a := y3_2.toInt) (b := 11) rfl (by decide)).mpr c21
            refine lv_aload_n hx hb dX12_triedAll_36 rfl (lv_at hl 1 rfl) ?_
            refine mget_5 (v := (i3 5)) rfl hx hb hts (fun _ h => List.mem_cons_of_mem _ (List.mem_append_right _ h)) hown hK hP (hts (.fieldLink RX12 177 "TalePlayModel" "objects" "I") (by decide +kernel)) dX12_triedAll_37 ?_
            have rb5_i3 : 0 ≤ (i3 5).toInt ∧ (i3 5).toInt ≤ 30 := hI.1 5
            have re5_i3 : (i3 5).toInt = (i 5).toInt := congrArg Int32.toInt (hfi 5 (by decide))
            exact jn5  (i3 5) (show (y3_2.toInt = 0 → (i3 5).toInt = 10) ∧ (1 ≤ y3_2.toInt ∧ y3_2.toInt ≤ 10 → (i3 5).toInt = (i 5).toInt) ∧ 0 ≤ (i3 5).toInt ∧ (i3 5).toInt ≤ 30 from by omega) _ _ _ hP hD hS (lv_sub hl [0, 1, 2] rfl)
          · have f21 := (ti_eq (a := y3_2.toInt) (b := 11) rfl (by decide)).mp c21
            refine lv_iconst (v := 1) hx hb dX12_triedAll_32 (by decide) ?_
            refine lv_goto (tgt := 40) hx hb dX12_triedAll_33 (by decide) ?_
            exact jn5  (1 : Int32) (show (y3_2.toInt = 0 → (1 : Int32).toInt = 10) ∧ (1 ≤ y3_2.toInt ∧ y3_2.toInt ≤ 10 → (1 : Int32).toInt = (i 5).toInt) ∧ 0 ≤ (1 : Int32).toInt ∧ (1 : Int32).toInt ≤ 30 from by have h53 : (1 : Int32).toInt = 1 := (by decide); omega) _ _ _ hP hD hS (lv_sub hl [0, 1, 2] rfl)
        · have f20 := (ti_eq (a := y3_2.toInt) (b := 0) rfl (by decide)).mp c20
          refine lv_bipush (v := 10) hx hb dX12_triedAll_21 (by decide) ?_
          refine lv_goto (tgt := 40) hx hb dX12_triedAll_23 (by decide) ?_
          exact jn5  (10 : Int32) (show (y3_2.toInt = 0 → (10 : Int32).toInt = 10) ∧ (1 ≤ y3_2.toInt ∧ y3_2.toInt ≤ 10 → (10 : Int32).toInt = (i 5).toInt) ∧ 0 ≤ (10 : Int32).toInt ∧ (10 : Int32).toInt ≤ 30 from by have h53 : (10 : Int32).toInt = 10 := (by decide); omega) _ _ _ hP hD hS (lv_sub hl [0, 1, 2] rfl)
  exact lp3 _ i2 q2 c2 d2 (0 : Int32) hI (fr_w hfi (by decide)) (fr_w hfc (by decide)) hs_T hs_B hs_Q hs_R (show 0 ≤ (0 : Int32).toInt ∧ (0 : Int32).toInt ≤ 12 from by have h50 : (0 : Int32).toInt = 0 := (by decide); omega) (show s1.toInt < ((i2 50) : Int32).toInt ∧ (i 50).toInt ≤ ((i2 50) : Int32).toInt from by have h50 : (0 : Int32).toInt = 0 := (by decide); omega) (Nat.lt_succ_self _) _ _ _ hP hD hS (lv_sub hl [0, 1, 2] rfl)

def wm_X12_seek : List Cond := .code yX12_seek cX12_seek 6 (some .int) :: (([.methodLink RX12 180 yX12_isObject, .instanceMethod yX12_isObject, .selects RX12 yX12_isObject yX12_isObject, .initialized RX12, .code yX12_isObject cX12_isObject 2 (some .boolean), .fieldLink RX12 177 "TalePlayModel" "objects" "I", .methodLink RX12 166 yX12_in, .static yX12_in, .code yX12_in cX12_in 6 (some .boolean), .constantLong RX12 431 (300), .fieldLink RX12 155 "TalePlayModel" "player" "I", .methodLink RX12 392 yX12_lookAtKinds, .instanceMethod yX12_lookAtKinds, .selects RX12 yX12_lookAtKinds yX12_lookAtKinds, .code yX12_lookAtKinds cX12_lookAtKinds 2 none, .fieldLink RX12 92 "TalePlayModel" "lit" "[Z", .methodLink RX12 256 yX12_saidFlag, .instanceMethod yX12_saidFlag, .selects RX12 yX12_saidFlag yX12_saidFlag, .code yX12_saidFlag cX12_saidFlag 4 (some .int), .methodLink RX12 216 yX12_saidSo, .instanceMethod yX12_saidSo, .selects RX12 yX12_saidSo yX12_saidSo, .code yX12_saidSo cX12_saidSo 6 (some .int), .fieldLink RX12 202 "TalePlayModel" "sentences" "I", .fieldLink RX12 37 "TalePlayModel" "isSaid" "[Z", .fieldLink RX12 25 "TalePlayModel" "form" "[I", .fieldLink RX12 28 "TalePlayModel" "left" "[I", .fieldLink RX12 31 "TalePlayModel" "middle" "[I", .fieldLink RX12 34 "TalePlayModel" "right" "[I", .fieldLink RX12 19 "TalePlayModel" "kindOf" "[I", .methodLink RX12 184 yX12_isOf, .instanceMethod yX12_isOf, .selects RX12 yX12_isOf yX12_isOf, .code yX12_isOf cX12_isOf 4 (some .boolean), .fieldLink RX12 13 "TalePlayModel" "parentOf" "[I", .fieldLink RX12 16 "TalePlayModel" "defaults" "[I", .fieldLink RX12 98 "TalePlayModel" "isBox" "[Z", .fieldLink RX12 101 "TalePlayModel" "isRoom" "[Z", .fieldLink RX12 104 "TalePlayModel" "isDoor" "[Z", .fieldLink RX12 95 "TalePlayModel" "glass" "[Z", .fieldLink RX12 419 "TalePlayModel" "goalX" "I", .fieldLink RX12 422 "TalePlayModel" "goalY" "I", .fieldLink RX12 158 "TalePlayModel" "soughtMany" "I", .methodLink RX12 416 yX12_keepState, .instanceMethod yX12_keepState, .selects RX12 yX12_keepState yX12_keepState, .code yX12_keepState cX12_keepState 3 none, .fieldLink RX12 107 "TalePlayModel" "stateForm" "[B", .fieldLink RX12 50 "TalePlayModel" "nForm" "[I", .fieldLink RX12 111 "TalePlayModel" "stateAt" "[B", .fieldLink RX12 53 "TalePlayModel" "nAt" "[I", .fieldLink RX12 114 "TalePlayModel" "stateShut" "[B", .fieldLink RX12 56 "TalePlayModel" "nOpen" "[Z", .fieldLink RX12 59 "TalePlayModel" "nLocked" "[Z", .fieldLink RX12 117 "TalePlayModel" "stateFrom" "[I", .fieldLink RX12 410 "TalePlayModel" "states" "I", .methodLink RX12 425 yX12_giveState, .instanceMethod yX12_giveState, .selects RX12 yX12_giveState yX12_giveState, .code yX12_giveState cX12_giveState 3 none, .methodLink RX12 436 yX12_triedAll, .instanceMethod yX12_triedAll, .selects RX12 yX12_triedAll yX12_triedAll, .code yX12_triedAll cX12_triedAll 7 (some .boolean), .methodLink RX12 395 yX12_lookAround, .instanceMethod yX12_lookAround, .selects RX12 yX12_lookAround yX12_lookAround, .code yX12_lookAround cX12_lookAround 3 none, .methodLink RX12 331 yX12_shellOf, .instanceMethod yX12_shellOf, .selects RX12 yX12_shellOf yX12_shellOf, .code yX12_shellOf cX12_shellOf 3 (some .int), .methodLink RX12 324 yX12_shuts, .instanceMethod yX12_shuts, .selects RX12 yX12_shuts yX12_shuts, .code yX12_shuts cX12_shuts 3 (some .boolean), .fieldLink RX12 335 "TalePlayModel" "shell" "I", .fieldLink RX12 338 "TalePlayModel" "handShell" "I", .fieldLink RX12 341 "TalePlayModel" "isLight" "Z", .fieldLink RX12 86 "TalePlayModel" "seen" "[Z", .fieldLink RX12 89 "TalePlayModel" "reached" "[Z", .methodLink RX12 344 yX12_isInView, .instanceMethod yX12_isInView, .selects RX12 yX12_isInView yX12_isInView, .code yX12_isInView cX12_isInView 5 (some .boolean), .methodLink RX12 328 yX12_isSide, .instanceMethod yX12_isSide, .selects RX12 yX12_isSide yX12_isSide, .code yX12_isSide cX12_isSide 4 (some .boolean), .methodLink RX12 389 yX12_hasSecond, .static yX12_hasSecond, .code yX12_hasSecond cX12_hasSecond 1 (some .boolean), .methodLink RX12 428 yX12_tried, .instanceMethod yX12_tried, .selects RX12 yX12_tried yX12_tried, .code yX12_tried cX12_tried 7 (some .boolean), .methodLink RX12 398 yX12_whyNot, .instanceMethod yX12_whyNot, .selects RX12 yX12_whyNot yX12_whyNot, .code yX12_whyNot cX12_whyNot 4 (some .int), .methodLink RX12 361 yX12_whyNotGo, .instanceMethod yX12_whyNotGo, .selects RX12 yX12_whyNotGo yX12_whyNotGo, .code yX12_whyNotGo cX12_whyNotGo 2 (some .int), .methodLink RX12 348 yX12_isInRoom, .instanceMethod yX12_isInRoom, .selects RX12 yX12_isInRoom yX12_isInRoom, .code yX12_isInRoom cX12_isInRoom 1 (some .boolean), .methodLink RX12 281 yX12_findExit, .instanceMethod yX12_findExit, .selects RX12 yX12_findExit yX12_findExit, .code yX12_findExit cX12_findExit 6 (some .boolean), .fieldLink RX12 263 "TalePlayModel" "leads" "I", .fieldLink RX12 266 "TalePlayModel" "byDoor" "I", .fieldLink RX12 269 "TalePlayModel" "bySentence" "I", .fieldLink RX12 272 "TalePlayModel" "isImplied" "Z", .methodLink RX12 276 yX12_otherSide, .instanceMethod yX12_otherSide, .selects RX12 yX12_otherSide yX12_otherSide, .code yX12_otherSide cX12_otherSide 4 (some .int), .methodLink RX12 364 yX12_whyNotTake, .instanceMethod yX12_whyNotTake, .selects RX12 yX12_whyNotTake yX12_whyNotTake, .code yX12_whyNotTake cX12_whyNotTake 4 (some .int), .methodLink RX12 352 yX12_isUpFrom, .instanceMethod yX12_isUpFrom, .selects RX12 yX12_isUpFrom yX12_isUpFrom, .code yX12_isUpFrom cX12_isUpFrom 4 (some .boolean), .methodLink RX12 355 yX12_holds, .instanceMethod yX12_holds, .selects RX12 yX12_holds yX12_holds, .code yX12_holds cX12_holds 2 (some .boolean), .methodLink RX12 194 yX12_isGoods, .instanceMethod yX12_isGoods, .selects RX12 yX12_isGoods yX12_isGoods, .code yX12_isGoods cX12_isGoods 2 (some .boolean), .methodLink RX12 188 yX12_isMovable, .instanceMethod yX12_isMovable, .selects RX12 yX12_isMovable yX12_isMovable, .code yX12_isMovable cX12_isMovable 2 (some .boolean), .methodLink RX12 315 yX12_bulkOf, .instanceMethod yX12_bulkOf, .selects RX12 yX12_bulkOf yX12_bulkOf, .code yX12_bulkOf cX12_bulkOf 6 (some .int), .methodLink RX12 306 yX12_beginBulk, .instanceMethod yX12_beginBulk, .selects RX12 yX12_beginBulk yX12_beginBulk, .code yX12_beginBulk cX12_beginBulk 3 (some .int), .fieldLink RX12 80 "TalePlayModel" "pile" "[I", .fieldLink RX12 83 "TalePlayModel" "nextIn" "[I", .methodLink RX12 300 yX12_body, .instanceMethod yX12_body, .selects RX12 yX12_body yX12_body, .code yX12_body cX12_body 2 none, .fieldLink RX12 294 "TalePlayModel" "traces" "Z", .fieldLink RX12 297 "TalePlayModel" "traced" "I", .fieldLink RX12 77 "TalePlayModel" "trace" "[I", .fieldLink RX12 22 "TalePlayModel" "sizeOf" "[I", .methodLink RX12 309 yX12_formNow, .instanceMethod yX12_formNow, .selects RX12 yX12_formNow yX12_formNow, .code yX12_formNow cX12_formNow 3 (some .int), .methodLink RX12 208 yX12_placing, .instanceMethod yX12_placing, .selects RX12 yX12_placing yX12_placing, .code yX12_placing cX12_placing 3 (some .int), .methodLink RX12 312 yX12_atNow, .instanceMethod yX12_atNow, .selects RX12 yX12_atNow yX12_atNow, .code yX12_atNow cX12_atNow 3 (some .int), .fieldLink RX12 303 "TalePlayModel" "isNought" "Z", .methodLink RX12 367 yX12_whyNotPut, .instanceMethod yX12_whyNotPut, .selects RX12 yX12_whyNotPut yX12_whyNotPut, .code yX12_whyNotPut cX12_whyNotPut 4 (some .int), .methodLink RX12 358 yX12_lying, .instanceMethod yX12_lying, .selects RX12 yX12_lying yX12_lying, .code yX12_lying cX12_lying 5 (some .int), .methodLink RX12 371 yX12_whyNotTurn, .instanceMethod yX12_whyNotTurn, .selects RX12 yX12_whyNotTurn yX12_whyNotTurn, .code yX12_whyNotTurn cX12_whyNotTurn 4 (some .int), .methodLink RX12 191 yX12_isShutter, .instanceMethod yX12_isShutter, .selects RX12 yX12_isShutter yX12_isShutter, .code yX12_isShutter cX12_isShutter 2 (some .boolean), .methodLink RX12 260 yX12_keyOf, .instanceMethod yX12_keyOf, .selects RX12 yX12_keyOf yX12_keyOf, .code yX12_keyOf cX12_keyOf 3 (some .int), .methodLink RX12 375 yX12_whyNotEnter, .instanceMethod yX12_whyNotEnter, .selects RX12 yX12_whyNotEnter yX12_whyNotEnter, .code yX12_whyNotEnter cX12_whyNotEnter 2 (some .int), .methodLink RX12 378 yX12_whyNotLeave, .instanceMethod yX12_whyNotLeave, .selects RX12 yX12_whyNotLeave yX12_whyNotLeave, .code yX12_whyNotLeave cX12_whyNotLeave 2 (some .int), .methodLink RX12 401 yX12_acts, .instanceMethod yX12_acts, .selects RX12 yX12_acts yX12_acts, .code yX12_acts cX12_acts 5 none, .methodLink RX12 381 yX12_lay, .instanceMethod yX12_lay, .selects RX12 yX12_lay yX12_lay, .code yX12_lay cX12_lay 4 none, .fieldLink RX12 120 "TalePlayModel" "stateAct" "[I", .methodLink RX12 413 yX12_isState, .instanceMethod yX12_isState, .selects RX12 yX12_isState yX12_isState, .code yX12_isState cX12_isState 3 (some .boolean), .methodLink RX12 433 yX12_found, .instanceMethod yX12_found, .selects RX12 yX12_found yX12_found, .code yX12_found cX12_found 6 (some .int), .fieldLink RX12 123 "TalePlayModel" "soughtRow" "[I"] : List Cond) ++ wsX120)
set_option maxRecDepth 20000 in
theorem gm_X12_seek_X12_isObject : GoodIn wm_X12_seek (wsV RX12 180 RX12 yX12_isObject wm_X12_isObject) := goodIn_app (goodIn_of _ (by decide +kernel)) (goodIn_r _ [5, 6, 7, 8, 4, 9, 219, 220, 221, 222, 223, 224, 225, 226, 227, 228, 229, 230, 231, 232, 233, 234, 235, 236, 237, 238, 239, 240, 241, 242, 243, 244, 245, 246, 247, 248, 249, 250, 251, 252, 253, 254, 255, 256, 257, 258, 259, 260, 261, 262, 263, 264, 265, 266, 267, 268, 269, 270, 271, 272, 273, 274, 275, 276, 277, 278, 279, 280, 281, 282, 283, 284, 285, 286, 287] (by decide +kernel) (by decide +kernel))
set_option maxRecDepth 20000 in
theorem gm_X12_seek_X12_in : GoodIn wm_X12_seek (va_wsS RX12 166 yX12_in wm_X12_in) := goodIn_app (goodIn_of _ (by decide +kernel)) (goodIn_r _ [9] (by decide +kernel) (by decide +kernel))
set_option maxRecDepth 20000 in
theorem gm_X12_seek_X12_lookAtKinds : GoodIn wm_X12_seek (wsV RX12 392 RX12 yX12_lookAtKinds wm_X12_lookAtKinds) := goodIn_app (goodIn_of _ (by decide +kernel)) (goodIn_r _ [15, 6, 16, 17, 18, 19, 4, 20, 21, 22, 23, 24, 25, 26, 27, 28, 29, 30, 31, 32, 33, 34, 35, 36, 37, 38, 39, 40, 41, 219, 220, 221, 222, 223, 224, 225, 226, 227, 228, 229, 230, 231, 232, 233, 234, 235, 236, 237, 238, 239, 240, 241, 242, 243, 244, 245, 246, 247, 248, 249, 250, 251, 252, 253, 254, 255, 256, 257, 258, 259, 260, 261, 262, 263, 264, 265, 266, 267, 268, 269, 270, 271, 272, 273, 274, 275, 276, 277, 278, 279, 280, 281, 282, 283, 284, 285, 286, 287] (by decide +kernel) (by decide +kernel))
set_option maxRecDepth 20000 in
theorem gm_X12_seek_X12_keepState : GoodIn wm_X12_seek (wsV RX12 416 RX12 yX12_keepState wm_X12_keepState) := goodIn_app (goodIn_of _ (by decide +kernel)) (goodIn_r _ [48, 6, 49, 50, 51, 52, 53, 54, 55, 219, 220, 221, 222, 223, 224, 225, 226, 227, 228, 229, 230, 231, 232, 233, 234, 235, 236, 237, 238, 239, 240, 241, 242, 243, 244, 245, 246, 247, 248, 249, 250, 251, 252, 253, 254, 255, 256, 257, 258, 259, 260, 261, 262, 263, 264, 265, 266, 267, 268, 269, 270, 271, 272, 273, 274, 275, 276, 277, 278, 279, 280, 281, 282, 283, 284, 285, 286, 287] (by decide +kernel) (by decide +kernel))
set_option maxRecDepth 20000 in
theorem gm_X12_seek_X12_giveState : GoodIn wm_X12_seek (wsV RX12 425 RX12 yX12_giveState wm_X12_giveState) := goodIn_app (goodIn_of _ (by decide +kernel)) (goodIn_r _ [61, 6, 50, 49, 52, 51, 54, 53, 55, 219, 220, 221, 222, 223, 224, 225, 226, 227, 228, 229, 230, 231, 232, 233, 234, 235, 236, 237, 238, 239, 240, 241, 242, 243, 244, 245, 246, 247, 248, 249, 250, 251, 252, 253, 254, 255, 256, 257, 258, 259, 260, 261, 262, 263, 264, 265, 266, 267, 268, 269, 270, 271, 272, 273, 274, 275, 276, 277, 278, 279, 280, 281, 282, 283, 284, 285, 286, 287] (by decide +kernel) (by decide +kernel))
set_option maxRecDepth 20000 in
theorem gm_X12_seek_X12_triedAll : GoodIn wm_X12_seek (wsV RX12 436 RX12 yX12_triedAll wm_X12_triedAll) := goodIn_app (goodIn_of _ (by decide +kernel)) (goodIn_r _ [65, 58, 59, 60, 4, 61, 6, 50, 49, 52, 51, 54, 53, 55, 66, 67, 68, 69, 70, 71, 72, 73, 11, 39, 74, 75, 76, 77, 38, 41, 78, 79, 80, 81, 82, 83, 84, 85, 86, 40, 87, 88, 89, 90, 25, 26, 27, 29, 28, 16, 91, 92, 93, 57, 94, 95, 96, 97, 98, 99, 100, 101, 102, 103, 104, 105, 106, 107, 108, 109, 110, 111, 112, 113, 114, 115, 116, 117, 32, 33, 34, 35, 31, 36, 118, 119, 120, 121, 30, 122, 123, 124, 125, 126, 127, 128, 129, 130, 131, 132, 133, 134, 135, 136, 137, 138, 139, 140, 141, 17, 18, 19, 20, 21, 22, 23, 24, 37, 142, 143, 144, 145, 146, 147, 148, 149, 150, 151, 152, 153, 154, 155, 156, 157, 158, 159, 160, 161, 162, 163, 164, 165, 166, 167, 168, 169, 170, 171, 172, 173, 174, 175, 176, 177, 178, 179, 180, 181, 182, 183, 184, 185, 186, 187, 188, 189, 190, 191, 192, 193, 194, 195, 196, 197, 198, 199, 200, 201, 202, 203, 204, 205, 206, 207, 208, 45, 46, 47, 48, 56, 209, 42, 43, 210, 211, 212, 213, 219, 220, 221, 222, 223, 224, 225, 226, 227, 228, 229, 230, 231, 232, 233, 234, 235, 236, 237, 238, 239, 240, 241, 242, 243, 244, 245, 246, 247, 248, 249, 250, 251, 252, 253, 254, 255, 256, 257, 258, 259, 260, 261, 262, 263, 264, 265, 266, 267, 268, 269, 270, 271, 272, 273, 274, 275, 276, 277, 278, 279, 280, 281, 282, 283, 284, 285, 286, 287] (by decide +kernel) (by decide +kernel))
set_option maxRecDepth 20000 in
theorem gm_X12_seek_X12_found : GoodIn wm_X12_seek (wsV RX12 433 RX12 yX12_found wm_X12_found) := goodIn_app (goodIn_of _ (by decide +kernel)) (goodIn_r _ [217, 44, 56, 218, 209, 219, 220, 221, 222, 223, 224, 225, 226, 227, 228, 229, 230, 231, 232, 233, 234, 235, 236, 237, 238, 239, 240, 241, 242, 243, 244, 245, 246, 247, 248, 249, 250, 251, 252, 253, 254, 255, 256, 257, 258, 259, 260, 261, 262, 263, 264, 265, 266, 267, 268, 269, 270, 271, 272, 273, 274, 275, 276, 277, 278, 279, 280, 281, 282, 283, 284, 285, 286, 287] (by decide +kernel) (by decide +kernel))
set_option maxHeartbeats 4000000 in
set_option maxRecDepth 100000 in
theorem s_X12_seek (l : Launch) (D : va_G) (sz : Nat) (o : Nat) (a : Nat → Nat) (t : Nat → ClassId) (i : Nat → Int32) (q : Int64) (c : Nat → Nat → Int32) (d : Nat → Nat → Int64) (w1 : Int32) (w2 : Int32) (n1 : Int32) (hI : mInv i c) (hs_S : SJ (c 3) (c 6) (c 9) (c 10) (c 11) (c 13) (i 2).toInt (i 5).toInt (i 8).toInt) (hs_J : TJ (c 3) (c 6) (c 23) (c 24) (c 29) (c 30) (i 5).toInt (i 22).toInt (i 27).toInt) : Met l yX12_seek wm_X12_seek ({ frames := 7, cells := 0, slots := 0, locals := 168 }) (va_Pc [.ref o, .int w1, .int w2, .int n1] (pB D sz (mW o a t i q c d) (mT t))) (va_Qi (fun (r : Int32) (u : MS) => True ∧ mInv u.1 u.2.2.1 ∧ (∀ k, k ∉ ([16, 17, 18, 19, 35, 36, 40, 41, 42, 50, 57, 58, 59] : List Nat) → u.1 k = i k) ∧ (∀ k, k ∉ ([23, 24, 25, 26, 34, 38, 39, 43, 44, 45, 46, 47, 48, 49, 51, 52, 53, 54, 55, 56] : List Nat) → u.2.2.1 k = c k) ∧ (SJ (u.2.2.1 3) (u.2.2.1 6) (u.2.2.1 9) (u.2.2.1 10) (u.2.2.1 11) (u.2.2.1 13) (u.1 2).toInt (u.1 5).toInt (u.1 8).toInt) ∧ (TJ (u.2.2.1 3) (u.2.2.1 6) (u.2.2.1 23) (u.2.2.1 24) (u.2.2.1 29) (u.2.2.1 30) (u.1 5).toInt (u.1 22).toInt (u.1 27).toInt)) (oC D (va_A (mW o a t i q c d) sz) (fun u : MS => mW o a t u.1 u.2.1 u.2.2.1 u.2.2.2) (fun _ => [])) (va_A (mW o a t i q c d) sz)) 0 0 (va_A (mW o a t i q c d) sz) := by
  refine Met.ofW (cc := cX12_seek) (maxL := 6) (ret := (some .int)) (by decide) rfl ?_
  intro p e s m args below meth cd s₁ B hml hv
  obtain ⟨rfl, hsz, hP, hK, hD0⟩ := hv
  have hx := B.exec
  have hb := B.bytes
  have hr := B.returns
  have hts := atoms_spec (ws := wm_X12_seek) B.pre
  have hown : s.vm.findClass RX12 = some m.cls := findClass_of_methodNamed B.named
  have hlocks := B.notSynchronized
  subst hsz
  have hD := hD0.self (sz := s.heap.size)
  generalize hAe : va_A (mW o a t i q c d) s.heap.size = A at hD ⊢
  have hA : ∀ q : Nat, s.heap.size ≤ q → A q := fun q h => by rw [← hAe]; exact Or.inr h
  have hS : va_S A s.heap s.heap [] := va_S.rf
  have hfi : ∀ k, k ∉ ([] : List Nat) → i k = i k := fun _ _ => rfl
  have hfc : ∀ k, k ∉ ([] : List Nat) → c k = c k := fun _ _ => rfl
  have hl := lv_entry ([.ref o, .int w1, .int w2, .int n1]) (n := 6) (Nat.le_of_ble_eq_true rfl)
  rw [lg_entry_eq]
  generalize (lg_sl ([.ref o, .int w1, .int w2, .int n1]) ++ List.replicate (6 - (lg_sl ([.ref o, .int w1, .int w2, .int n1])).length) Slot.unset).toArray = ls at hl ⊢
  have hl : lv_has ls 6 [(0, .ref o), (1, .int w1), (2, .int w2), (3, .int n1)] := hl
  have rb5_i : 0 ≤ (i 5).toInt ∧ (i 5).toInt ≤ 30 := hI.1 5
  have rb22_i : (i 22).toInt = -9 ∨ (0 ≤ (i 22).toInt ∧ (i 22).toInt ≤ 29) := hI.1 22
  refine lv_aload_n hx hb dX12_seek_0 rfl (lv_at hl 0 rfl) ?_
  refine lv_iload_n hx hb dX12_seek_1 rfl (lv_at hl 1 rfl) ?_
  refine ro_calli (va_runV (As := [.int w1]) (rest := []) ⟨hx, hb, hml, hown, hts⟩ (s_X12_isObject l D s.heap.size o a t i q c d w1 hI ) (cwV 1 hts gm_X12_seek_X12_isObject rfl rfl rfl (by decide +kernel) ⟨Nat.le_of_ble_eq_true rfl, Nat.le_of_ble_eq_true rfl⟩) (pA_V hK hP (ci := 12) (q0 := 0) rfl rfl) rfl rfl hl.1 rfl (lv_room (Nat.le_of_ble_eq_true rfl)) dX12_seek_2 ⟨Nat.le_of_ble_eq_true rfl, Nat.le_of_ble_eq_true rfl⟩) hS hA hP (fun r1 u1 H locs hw1 hP hS => ?_)
  have hw1 : r1 = if (0 ≤ w1.toInt ∧ w1.toInt ≤ (i 5).toInt - 1) then 1 else 0 := hw1
  refine lv_if_eq (tgt := 28) hx hb dX12_seek_5 (by decide) (fun c2 => ?_) (fun c2 => ?_)
  · have f2 := fl_f hw1 c2
    refine lv_iconst (v := (-1)) hx hb dX12_seek_28 (by decide) ?_
    exact rw_iret (i, q, c, d) hx hb hr hlocks hS (hK.sub (tys' := []) [] rfl) hP hD dX12_seek_29 ⟨trivial, hI, fr_w hfi (by decide), fr_w hfc (by decide), (show SJ (c 3) (c 6) (c 9) (c 10) (c 11) (c 13) ((i 2) : Int32).toInt ((i 5) : Int32).toInt ((i 8) : Int32).toInt from hs_S), (show TJ (c 3) (c 6) (c 23) (c 24) (c 29) (c 30) ((i 5) : Int32).toInt ((i 22) : Int32).toInt ((i 27) : Int32).toInt from hs_J)⟩
  · have f2 := fl_t hw1 c2
    refine lv_aload_n hx hb dX12_seek_8 rfl (lv_at hl 0 rfl) ?_
    refine lv_iload_n hx hb dX12_seek_9 rfl (lv_at hl 2 rfl) ?_
    refine ro_calli (va_runV (As := [.int w2]) (rest := []) ⟨hx, hb, hml, hown, hts⟩ (s_X12_isObject l D H.size o a t i q c d w2 hI ) (cwV 1 hts gm_X12_seek_X12_isObject rfl rfl rfl (by decide +kernel) ⟨Nat.le_of_ble_eq_true rfl, Nat.le_of_ble_eq_true rfl⟩) (pA_V hK hP (ci := 12) (q0 := 0) rfl rfl) rfl rfl hl.1 rfl (lv_room (Nat.le_of_ble_eq_true rfl)) dX12_seek_10 ⟨Nat.le_of_ble_eq_true rfl, Nat.le_of_ble_eq_true rfl⟩) hS hA hP (fun r3 u3 H locs hw3 hP hS => ?_)
    have hw3 : r3 = if (0 ≤ w2.toInt ∧ w2.toInt ≤ (i 5).toInt - 1) then 1 else 0 := hw3
    refine lv_if_eq (tgt := 28) hx hb dX12_seek_13 (by decide) (fun c4 => ?_) (fun c4 => ?_)
    · have f4 := fl_f hw3 c4
      refine lv_iconst (v := (-1)) hx hb dX12_seek_28 (by decide) ?_
      exact rw_iret (i, q, c, d) hx hb hr hlocks hS (hK.sub (tys' := []) [] rfl) hP hD dX12_seek_29 ⟨trivial, hI, fr_w hfi (by decide), fr_w hfc (by decide), (show SJ (c 3) (c 6) (c 9) (c 10) (c 11) (c 13) ((i 2) : Int32).toInt ((i 5) : Int32).toInt ((i 8) : Int32).toInt from hs_S), (show TJ (c 3) (c 6) (c 23) (c 24) (c 29) (c 30) ((i 5) : Int32).toInt ((i 22) : Int32).toInt ((i 27) : Int32).toInt from hs_J)⟩
    · have f4 := fl_t hw3 c4
      refine lv_iload_n hx hb dX12_seek_16 rfl (lv_at hl 3 rfl) ?_
      refine lv_i2l (v := n1.toInt64) hx hb dX12_seek_17 rfl ?_
      refine lv_lconst (v := 0) hx hb dX12_seek_18 (by decide) ?_
      refine lv_ldc2 (v := 300) hx hb hown (hts (.constantLong RX12 431 (300)) (by decide +kernel)) dX12_seek_19 ?_
      have hPc := hP.sub (ws' := []) [] rfl
      have hKc := hK.sub (tys' := []) [] rfl
      refine ro_calli (va_runS (As := [.long n1.toInt64, .long 0, .long 300]) (rest := []) ⟨hx, hb, hml, hown, hts⟩ (c_X12_in l D H.size n1.toInt64 0 300 n1.toInt 0 300 ((Int32.toInt_toInt64 n1).trans rfl) (by decide) (by decide)) (va_cwS 3 hts gm_X12_seek_X12_in rfl rfl rfl (by decide +kernel) ⟨Nat.le_of_ble_eq_true rfl, Nat.le_of_ble_eq_true rfl⟩) (pA_S hKc hPc) rfl rfl hl.1 rfl (lv_room (Nat.le_of_ble_eq_true rfl)) dX12_seek_22 ⟨Nat.le_of_ble_eq_true rfl, Nat.le_of_ble_eq_true rfl⟩) hS hA hP (fun r5 u5 H locs hw5 hP hS => ?_)
      have hw5 : r5 = if (0 ≤ n1.toInt ∧ n1.toInt ≤ 300) then 1 else 0 := hw5
      refine lv_if_ne (tgt := 30) hx hb dX12_seek_25 (by decide) (fun c6 => ?_) (fun c6 => ?_)
      · have f6 := fl_t hw5 c6
        refine lv_aload_n hx hb dX12_seek_30 rfl (lv_at hl 0 rfl) ?_
        refine mget_22 (v := (i 22)) rfl hx hb hts (fun _ h => List.mem_cons_of_mem _ (List.mem_append_right _ h)) hown hK hP (hts (.fieldLink RX12 155 "TalePlayModel" "player" "I") (by decide +kernel)) dX12_seek_31 ?_
        refine lv_bipush (v := (-9)) hx hb dX12_seek_34 (by decide) ?_
        refine lv_icmp_ne (tgt := 42) hx hb dX12_seek_36 (by decide) (fun c7 => ?_) (fun c7 => ?_)
        · have f7 := mt (ti_eq (a := (i 22).toInt) (b := (-9)) rfl (by decide)).mpr c7
          have hs_T : TI (i 5).toInt (fun z => Kd (c 3) (c 6) z 0) (i 22).toInt (c 23) (c 24) := (hs_J (by omega)).2.1
          have hs_P : Kd (c 3) (c 6) (i 22).toInt 5 := (hs_J (by omega)).1
          have hs_G : Acy (gF (c 9) (c 10) (c 11) (c 13) (c 23) (c 24) (i 8).toInt (i 5).toInt (i 22).toInt) := gF_acy hs_S hs_J
          refine lv_aload_n hx hb dX12_seek_42 rfl (lv_at hl 0 rfl) ?_
          refine al_callv (va_runV (As := []) (rest := []) ⟨hx, hb, hml, hown, hts⟩ (s_X12_lookAtKinds l D H.size o a t i q c d  hI ) (cwV 0 hts gm_X12_seek_X12_lookAtKinds rfl rfl rfl (by decide +kernel) ⟨Nat.le_of_ble_eq_true rfl, Nat.le_of_ble_eq_true rfl⟩) (pB_V hK hP hD (ci := 12) (q0 := 0) rfl rfl) rfl rfl hl.1 rfl (lv_room (Nat.le_of_ble_eq_true rfl)) dX12_seek_43 ⟨Nat.le_of_ble_eq_true rfl, Nat.le_of_ble_eq_true rfl⟩) hS hA hP hD (fun u8 H locs hw8 hP hD hS => ?_)
          obtain ⟨i8, q8, c8, d8⟩ := u8
          have hw8 : True ∧ mInv i8 c8 ∧ (∀ k, k ∉ ([] : List Nat) → i8 k = i k) ∧ (∀ k, k ∉ ([45, 46, 47, 48, 49] : List Nat) → c8 k = c k) ∧ (Cc (c 3) (c 6) (c8 47) (c8 48) (c8 49) (i 5).toInt) := hw8
          obtain ⟨hw8, hI, hei8, hec8, hxp8_0⟩ := hw8
          have hxp8_0 : Cc (c 3) (c 6) (c8 47) (c8 48) (c8 49) (i 5).toInt := hxp8_0
          have hfi : ∀ k, k ∉ ([] : List Nat) → i8 k = i k := fr_z hfi hei8 (by decide) (by decide)
          have hfc : ∀ k, k ∉ ([45, 46, 47, 48, 49] : List Nat) → c8 k = c k := fr_z hfc hec8 (by decide) (by decide)
          have hP : va_P D vwCl (mW o a t i8 q8 c8 d8) H := hP
          have hD : va_D A (mW o a t i8 q8 c8 d8) := hD
          have hs_C := hxp8_0
          refine lv_aload_n hx hb dX12_seek_46 rfl (lv_at hl 0 rfl) ?_
          refine lv_iload_n hx hb dX12_seek_47 rfl (lv_at hl 1 rfl) ?_
          refine mput_58 hx hb hts (fun _ h => List.mem_cons_of_mem _ (List.mem_append_right _ h)) hown hK hP hD hS (hts (.fieldLink RX12 419 "TalePlayModel" "goalX" "I") (by decide +kernel)) rfl rfl dX12_seek_48 (fun H locs hP hD hS => ?_)
          have hI := mInv_i hI (k := 58) (v := w1) (show 0 ≤ (w1 : Int32).toInt ∧ (w1 : Int32).toInt ≤ 29 from by omega)
          have hfi : ∀ k, k ∉ ([58] : List Nat) → (upd i8 58 w1) k = i k := fr_iz hfi (by decide) (by decide)
          refine lv_aload_n hx hb dX12_seek_51 rfl (lv_at hl 0 rfl) ?_
          refine lv_iload_n hx hb dX12_seek_52 rfl (lv_at hl 2 rfl) ?_
          refine mput_59 hx hb hts (fun _ h => List.mem_cons_of_mem _ (List.mem_append_right _ h)) hown hK hP hD hS (hts (.fieldLink RX12 422 "TalePlayModel" "goalY" "I") (by decide +kernel)) rfl rfl dX12_seek_53 (fun H locs hP hD hS => ?_)
          have hI := mInv_i hI (k := 59) (v := w2) (show 0 ≤ (w2 : Int32).toInt ∧ (w2 : Int32).toInt ≤ 29 from by omega)
          have hfi : ∀ k, k ∉ ([58, 59] : List Nat) → (upd (upd i8 58 w1) 59 w2) k = i k := fr_iz hfi (by decide) (by decide)
          refine lv_aload_n hx hb dX12_seek_56 rfl (lv_at hl 0 rfl) ?_
          refine lv_bipush (v := (-9)) hx hb dX12_seek_57 (by decide) ?_
          refine mput_57 hx hb hts (fun _ h => List.mem_cons_of_mem _ (List.mem_append_right _ h)) hown hK hP hD hS (hts (.fieldLink RX12 158 "TalePlayModel" "soughtMany" "I") (by decide +kernel)) rfl rfl dX12_seek_59 (fun H locs hP hD hS => ?_)
          have hI := mInv_i hI (k := 57) (v := (-9)) (show ((-9) : Int32).toInt = -9 ∨ (0 ≤ ((-9) : Int32).toInt ∧ ((-9) : Int32).toInt ≤ 300) from by have h9 : ((-9) : Int32).toInt = -9 := (by decide); omega)
          have hfi : ∀ k, k ∉ ([57, 58, 59] : List Nat) → (upd (upd (upd i8 58 w1) 59 w2) 57 (-9)) k = i k := fr_iz hfi (by decide) (by decide)
          refine lv_aload_n hx hb dX12_seek_62 rfl (lv_at hl 0 rfl) ?_
          refine lv_sipush (v := 300) hx hb dX12_seek_63 (by decide) ?_
          have rb5_i8 : 0 ≤ (i8 5).toInt ∧ (i8 5).toInt ≤ 30 := hI.1 5
          have re5_i8 : (i8 5).toInt = (i 5).toInt := congrArg Int32.toInt (hfi 5 (by decide))
          refine al_callv (va_runV (As := [.int 300]) (rest := []) ⟨hx, hb, hml, hown, hts⟩ (s_X12_keepState l D H.size o a t (upd (upd (upd i8 58 w1) 59 w2) 57 (-9)) q8 c8 d8 300 hI (show 0 ≤ 300 ∧ 300 ≤ 300 from by have h90 : (300 : Int32).toInt = 300 := (by decide); have h62 : ((-9) : Int32).toInt = -9 := (by decide); omega)) (cwV 1 hts gm_X12_seek_X12_keepState rfl rfl rfl (by decide +kernel) ⟨Nat.le_of_ble_eq_true rfl, Nat.le_of_ble_eq_true rfl⟩) (pB_V hK hP hD (ci := 12) (q0 := 0) rfl rfl) rfl rfl hl.1 rfl (lv_room (Nat.le_of_ble_eq_true rfl)) dX12_seek_66 ⟨Nat.le_of_ble_eq_true rfl, Nat.le_of_ble_eq_true rfl⟩) hS hA hP hD (fun u9 H locs hw9 hP hD hS => ?_)
          obtain ⟨i9, q9, c9, d9⟩ := u9
          have hw9 : True ∧ mInv i9 c9 ∧ (∀ k, k ∉ ([] : List Nat) → i9 k = (upd (upd (upd i8 58 w1) 59 w2) 57 (-9)) k) ∧ (∀ k, k ∉ ([51, 52, 53] : List Nat) → c9 k = c8 k) ∧ (RW (c9 51) (c9 52) (c8 51) (c8 52) (c8 23) (c8 24) 300.toNat ((upd (upd (upd i8 58 w1) 59 w2) 57 (-9)) 5).toInt) := hw9
          obtain ⟨hw9, hI, hei9, hec9, hxp9_0⟩ := hw9
          have hxp9_0 : RW (c9 51) (c9 52) (c 51) (c 52) (c 23) (c 24) 300.toNat (i 5).toInt := by have h9 := hxp9_0; rw [show c8 23 = c 23 from hfc 23 (by decide), show c8 24 = c 24 from hfc 24 (by decide), show c8 51 = c 51 from hfc 51 (by decide), show c8 52 = c 52 from hfc 52 (by decide), show (upd (upd (upd i8 58 w1) 59 w2) 57 (-9)) 5 = i 5 from hfi 5 (by decide)] at h9; exact h9
          have hfi : ∀ k, k ∉ ([57, 58, 59] : List Nat) → i9 k = i k := fr_z hfi hei9 (by decide) (by decide)
          have hfc : ∀ k, k ∉ ([45, 46, 47, 48, 49, 51, 52, 53] : List Nat) → c9 k = c k := fr_z hfc hec9 (by decide) (by decide)
          have hP : va_P D vwCl (mW o a t i9 q9 c9 d9) H := hP
          have hD : va_D A (mW o a t i9 q9 c9 d9) := hD
          have hs_C : Cc (c 3) (c 6) (c9 47) (c9 48) (c9 49) (i 5).toInt := by rw [show c9 47 = c8 47 from hec9 47 (by decide), show c9 48 = c8 48 from hec9 48 (by decide), show c9 49 = c8 49 from hec9 49 (by decide)]; exact hs_C
          refine lv_aload_n hx hb dX12_seek_69 rfl (lv_at hl 0 rfl) ?_
          refine lv_iconst (v := 0) hx hb dX12_seek_70 (by decide) ?_
          have rb5_i9 : 0 ≤ (i9 5).toInt ∧ (i9 5).toInt ≤ 30 := hI.1 5
          have re5_i9 : (i9 5).toInt = (i 5).toInt := congrArg Int32.toInt (hfi 5 (by decide))
          refine al_callv (va_runV (As := [.int 0]) (rest := []) ⟨hx, hb, hml, hown, hts⟩ (s_X12_keepState l D H.size o a t i9 q9 c9 d9 0 hI (show 0 ≤ 0 ∧ 0 ≤ 300 from by have h90 : (0 : Int32).toInt = 0 := (by decide); omega)) (cwV 1 hts gm_X12_seek_X12_keepState rfl rfl rfl (by decide +kernel) ⟨Nat.le_of_ble_eq_true rfl, Nat.le_of_ble_eq_true rfl⟩) (pB_V hK hP hD (ci := 12) (q0 := 0) rfl rfl) rfl rfl hl.1 rfl (lv_room (Nat.le_of_ble_eq_true rfl)) dX12_seek_71 ⟨Nat.le_of_ble_eq_true rfl, Nat.le_of_ble_eq_true rfl⟩) hS hA hP hD (fun u10 H locs hw10 hP hD hS => ?_)
          obtain ⟨i10, q10, c10, d10⟩ := u10
          have hw10 : True ∧ mInv i10 c10 ∧ (∀ k, k ∉ ([] : List Nat) → i10 k = i9 k) ∧ (∀ k, k ∉ ([51, 52, 53] : List Nat) → c10 k = c9 k) ∧ (RW (c10 51) (c10 52) (c9 51) (c9 52) (c9 23) (c9 24) 0.toNat (i9 5).toInt) := hw10
          obtain ⟨hw10, hI, hei10, hec10, hxp10_0⟩ := hw10
          have hxp10_0 : RW (c10 51) (c10 52) (c9 51) (c9 52) (c 23) (c 24) 0.toNat (i 5).toInt := by have h9 := hxp10_0; rw [show c9 23 = c 23 from hfc 23 (by decide), show c9 24 = c 24 from hfc 24 (by decide), show i9 5 = i 5 from hfi 5 (by decide)] at h9; exact h9
          have hfi : ∀ k, k ∉ ([57, 58, 59] : List Nat) → i10 k = i k := fr_z hfi hei10 (by decide) (by decide)
          have hfc : ∀ k, k ∉ ([45, 46, 47, 48, 49, 51, 52, 53] : List Nat) → c10 k = c k := fr_z hfc hec10 (by decide) (by decide)
          have hP : va_P D vwCl (mW o a t i10 q10 c10 d10) H := hP
          have hD : va_D A (mW o a t i10 q10 c10 d10) := hD
          have hs_C : Cc (c 3) (c 6) (c10 47) (c10 48) (c10 49) (i 5).toInt := by rw [show c10 47 = c9 47 from hec10 47 (by decide), show c10 48 = c9 48 from hec10 48 (by decide), show c10 49 = c9 49 from hec10 49 (by decide)]; exact hs_C
          have hs_Q : SQ (c 3) (c 6) (c10 51) (c10 52) (i 5).toInt (i 22).toInt 1 := SQ_1 hs_T hxp9_0 hxp10_0 (by decide) (by decide) (by omega)
          refine lv_aload_n hx hb dX12_seek_74 rfl (lv_at hl 0 rfl) ?_
          refine mget_54 hx hb hts (fun _ h => List.mem_cons_of_mem _ (List.mem_append_right _ h)) hown hK hP (hts (.fieldLink RX12 117 "TalePlayModel" "stateFrom" "[I") (by decide +kernel)) dX12_seek_75 ?_
          refine lv_iconst (v := 0) hx hb dX12_seek_78 (by decide) ?_
          refine lv_bipush (v := (-9)) hx hb dX12_seek_79 (by decide) ?_
          refine mst_54 hx hb hK hP hD hS (show vp_in 0 300 from by unfold vp_in; decide) dX12_seek_81 (fun H locs hP hD hS => ?_)
          have hI := mInv_c hI (k := 54) (j := (0 : Int32).toNatClampNeg) (x := (-9)) (show ((-9) : Int32).toInt = -9 ∨ (0 ≤ ((-9) : Int32).toInt ∧ ((-9) : Int32).toInt ≤ 299 ∧ (((-9) : Int32).toInt = 0 ∨ ((-9) : Int32).toInt < (((0 : Int32).toNatClampNeg : Nat) : Int))) from by have h9 : ((-9) : Int32).toInt = -9 := (by decide); omega)
          have hfc : ∀ k, k ∉ ([45, 46, 47, 48, 49, 51, 52, 53, 54] : List Nat) → (updA c10 54 (0 : Int32).toNatClampNeg (-9)) k = c k := fr_cz hfc (by decide) (by decide)
          refine lv_aload_n hx hb dX12_seek_82 rfl (lv_at hl 0 rfl) ?_
          refine lv_iconst (v := 1) hx hb dX12_seek_83 (by decide) ?_
          refine mput_50 hx hb hts (fun _ h => List.mem_cons_of_mem _ (List.mem_append_right _ h)) hown hK hP hD hS (hts (.fieldLink RX12 410 "TalePlayModel" "states" "I") (by decide +kernel)) rfl rfl dX12_seek_84 (fun H locs hP hD hS => ?_)
          have hI := mInv_i hI (k := 50) (v := 1) (show 0 ≤ (1 : Int32).toInt ∧ (1 : Int32).toInt ≤ 300 from by have h9 : (1 : Int32).toInt = 1 := (by decide); omega)
          have hfi : ∀ k, k ∉ ([50, 57, 58, 59] : List Nat) → (upd i10 50 1) k = i k := fr_iz hfi (by decide) (by decide)
          have hs_Q : SQ (c 3) (c 6) ((updA c10 54 (0 : Int32).toNatClampNeg (-9)) 51) ((updA c10 54 (0 : Int32).toNatClampNeg (-9)) 52) (i 5).toInt (i 22).toInt (1 : Int32).toInt := by rw [show (1 : Int32).toInt = 1 by decide]; exact hs_Q
          refine lv_bipush (v := (-9)) hx hb dX12_seek_87 (by decide) ?_
          refine lv_istore (lv' := [(4, .int (-9)), (0, .ref o), (1, .int w1), (2, .int w2), (3, .int n1)]) hx hb dX12_seek_89 hl (by decide) rfl (fun ls hl => ?_)
          refine lv_aload_n hx hb dX12_seek_91 rfl (lv_at hl 1 rfl) ?_
          refine mget_23 hx hb hts (fun _ h => List.mem_cons_of_mem _ (List.mem_append_right _ h)) hown hK hP (hts (.fieldLink RX12 50 "TalePlayModel" "nForm" "[I") (by decide +kernel)) dX12_seek_92 ?_
          refine lv_iload_n hx hb dX12_seek_95 rfl (lv_at hl 2 rfl) ?_
          refine mld_23 hx hb hK hP (vp_in_iff.mpr (by have h9 : w1.toInt = w1.toInt := rfl; omega)) dX12_seek_96 (fun x11 ex11 => ?_)
          have rx11 : x11.toInt = -9 ∨ (0 ≤ x11.toInt ∧ x11.toInt ≤ 4) := by rw [ex11]; exact hI.2 23 _
          refine lv_bipush (v := (-9)) hx hb dX12_seek_97 (by decide) ?_
          have jn12 : ∀ (i12 : Nat → Int32) (q12 : Int64) (c12 : Nat → Nat → Int32) (d12 : Nat → Nat → Int64) (y12_4 : Int32), mInv i12 c12 → (∀ k, k ∉ ([50, 57, 58, 59] : List Nat) → i12 k = i k) → (∀ k, k ∉ ([45, 46, 47, 48, 49, 51, 52, 53, 54, 56] : List Nat) → c12 k = c k) → (Cc (c 3) (c 6) (c12 47) (c12 48) (c12 49) (i 5).toInt) → (SQ (c 3) (c 6) (c12 51) (c12 52) (i 5).toInt (i 22).toInt ((i12 50) : Int32).toInt) → (y12_4.toInt = -9 ∨ (0 ≤ y12_4.toInt ∧ y12_4.toInt ≤ 300)) → (1 ≤ ((i12 50) : Int32).toInt) → ∀ (H : Heap) (locs : List Loc) (ls : Array Slot), va_P D vwCl (mW o a t i12 q12 c12 d12) H → va_D A (mW o a t i12 q12 c12 d12) → va_S A s.heap H locs → lv_has ls 6 [(0, .ref o), (1, .int w1), (2, .int w2), (3, .int n1), (4, .int y12_4)] → W p l e (headSpec wm_X12_seek ({ frames := 7, cells := 0, slots := 0, locals := 168 })).room s m ([.ref o, .int w1, .int w2, .int n1] : List Value).toArray below meth cd H locs 0 0 (MQ below (va_Qi (fun (r : Int32) (u : MS) => True ∧ mInv u.1 u.2.2.1 ∧ (∀ k, k ∉ ([16, 17, 18, 19, 35, 36, 40, 41, 42, 50, 57, 58, 59] : List Nat) → u.1 k = i k) ∧ (∀ k, k ∉ ([23, 24, 25, 26, 34, 38, 39, 43, 44, 45, 46, 47, 48, 49, 51, 52, 53, 54, 55, 56] : List Nat) → u.2.2.1 k = c k) ∧ (SJ (u.2.2.1 3) (u.2.2.1 6) (u.2.2.1 9) (u.2.2.1 10) (u.2.2.1 11) (u.2.2.1 13) (u.1 2).toInt (u.1 5).toInt (u.1 8).toInt) ∧ (TJ (u.2.2.1 3) (u.2.2.1 6) (u.2.2.1 23) (u.2.2.1 24) (u.2.2.1 29) (u.2.2.1 30) (u.1 5).toInt (u.1 22).toInt (u.1 27).toInt)) (oC D A (fun u : MS => mW o a t u.1 u.2.1 u.2.2.1 u.2.2.2) (fun _ => [])) A) ([.ref o, .int w1, .int w2, .int n1] : List Value).toArray s 0 0 A) (F0 m 119 ls []) := by
            intro i12 q12 c12 d12 y12_4 hI hfi hfc hs_C hs_Q hy12_4 hz12_0 H locs ls hP hD hS hl
            refine lv_iconst (v := 0) hx hb dX12_seek_119 (by decide) ?_
            refine lv_istore (lv' := [(5, .int 0), (0, .ref o), (1, .int w1), (2, .int w2), (3, .int n1), (4, .int y12_4)]) hx hb dX12_seek_120 hl (by decide) rfl (fun ls hl => ?_)
            have lp13 : ∀ (fu : Nat) (i13 : Nat → Int32) (q13 : Int64) (c13 : Nat → Nat → Int32) (d13 : Nat → Nat → Int64) (y13_5 : Int32) (y13_4 : Int32), mInv i13 c13 → (∀ k, k ∉ ([16, 17, 18, 19, 35, 36, 40, 41, 42, 50, 57, 58, 59] : List Nat) → i13 k = i k) → (∀ k, k ∉ ([23, 24, 25, 26, 34, 38, 39, 43, 44, 45, 46, 47, 48, 49, 51, 52, 53, 54, 55, 56] : List Nat) → c13 k = c k) → (Cc (c 3) (c 6) (c13 47) (c13 48) (c13 49) (i 5).toInt) → (SQ (c 3) (c 6) (c13 51) (c13 52) (i 5).toInt (i 22).toInt ((i13 50) : Int32).toInt) → (0 ≤ y13_5.toInt ∧ y13_5.toInt ≤ 300) → (y13_4.toInt = -9 ∨ (0 ≤ y13_4.toInt ∧ y13_4.toInt ≤ 300)) → (1 ≤ ((i13 50) : Int32).toInt) → (300 - y13_5.toInt).toNat < fu → ∀ (H : Heap) (locs : List Loc) (ls : Array Slot), va_P D vwCl (mW o a t i13 q13 c13 d13) H → va_D A (mW o a t i13 q13 c13 d13) → va_S A s.heap H locs → lv_has ls 6 [(5, .int y13_5), (0, .ref o), (1, .int w1), (2, .int w2), (3, .int n1), (4, .int y13_4)] → W p l e (headSpec wm_X12_seek ({ frames := 7, cells := 0, slots := 0, locals := 168 })).room s m ([.ref o, .int w1, .int w2, .int n1] : List Value).toArray below meth cd H locs 0 0 (MQ below (va_Qi (fun (r : Int32) (u : MS) => True ∧ mInv u.1 u.2.2.1 ∧ (∀ k, k ∉ ([16, 17, 18, 19, 35, 36, 40, 41, 42, 50, 57, 58, 59] : List Nat) → u.1 k = i k) ∧ (∀ k, k ∉ ([23, 24, 25, 26, 34, 38, 39, 43, 44, 45, 46, 47, 48, 49, 51, 52, 53, 54, 55, 56] : List Nat) → u.2.2.1 k = c k) ∧ (SJ (u.2.2.1 3) (u.2.2.1 6) (u.2.2.1 9) (u.2.2.1 10) (u.2.2.1 11) (u.2.2.1 13) (u.1 2).toInt (u.1 5).toInt (u.1 8).toInt) ∧ (TJ (u.2.2.1 3) (u.2.2.1 6) (u.2.2.1 23) (u.2.2.1 24) (u.2.2.1 29) (u.2.2.1 30) (u.1 5).toInt (u.1 22).toInt (u.1 27).toInt)) (oC D A (fun u : MS => mW o a t u.1 u.2.1 u.2.2.1 u.2.2.2) (fun _ => [])) A) ([.ref o, .int w1, .int w2, .int n1] : List Value).toArray s 0 0 A) (F0 m 122 ls []) := by
              intro fu
              induction fu with
              | zero => intro i13 q13 c13 d13 y13_5 y13_4 hI hfi hfc hs_C hs_Q hy13_5 hy13_4 hz13_0 hm; exact absurd hm (Nat.not_lt_zero _)
              | succ fu ih =>
                intro i13 q13 c13 d13 y13_5 y13_4 hI hfi hfc hs_C hs_Q hy13_5 hy13_4 hz13_0 hm H locs ls hP hD hS hl
                have ih13 := ih
                refine lv_iload hx hb dX12_seek_122 (lv_at hl 0 rfl) ?_
                refine lv_iload_n hx hb dX12_seek_124 rfl (lv_at hl 4 rfl) ?_
                refine lv_icmp_ge (tgt := 181) hx hb dX12_seek_125 (by decide) (fun c14 => ?_) (fun c14 => ?_)
                · have f14 := (ti_le (a := n1.toInt) (b := y13_5.toInt) rfl rfl).mp c14
                  have hs_Q0 := hs_Q
                  refine lv_aload_n hx hb dX12_seek_181 rfl (lv_at hl 1 rfl) ?_
                  refine lv_sipush (v := 300) hx hb dX12_seek_182 (by decide) ?_
                  have rb5_i13 : 0 ≤ (i13 5).toInt ∧ (i13 5).toInt ≤ 30 := hI.1 5
                  have re5_i13 : (i13 5).toInt = (i 5).toInt := congrArg Int32.toInt (hfi 5 (by decide))
                  refine al_callv (va_runV (As := [.int 300]) (rest := []) ⟨hx, hb, hml, hown, hts⟩ (s_X12_giveState l D H.size o a t i13 q13 c13 d13 300 hI (show 0 ≤ 300 ∧ 300 ≤ 300 from by have h90 : (300 : Int32).toInt = 300 := (by decide); omega)) (cwV 1 hts gm_X12_seek_X12_giveState rfl rfl rfl (by decide +kernel) ⟨Nat.le_of_ble_eq_true rfl, Nat.le_of_ble_eq_true rfl⟩) (pB_V hK hP hD (ci := 12) (q0 := 0) rfl rfl) rfl rfl hl.1 rfl (lv_room (Nat.le_of_ble_eq_true rfl)) dX12_seek_185 ⟨Nat.le_of_ble_eq_true rfl, Nat.le_of_ble_eq_true rfl⟩) hS hA hP hD (fun u15 H locs hw15 hP hD hS => ?_)
                  obtain ⟨i15, q15, c15, d15⟩ := u15
                  have hw15 : True ∧ mInv i15 c15 ∧ (∀ k, k ∉ ([] : List Nat) → i15 k = i13 k) ∧ (∀ k, k ∉ ([23, 24, 25, 26] : List Nat) → c15 k = c13 k) ∧ (GB (c15 23) (c15 24) (c13 51) (c13 52) 300.toNat (i13 5).toInt) := hw15
                  obtain ⟨hw15, hI, hei15, hec15, hxp15_0⟩ := hw15
                  have hxp15_0 : GB (c15 23) (c15 24) (c13 51) (c13 52) 300.toNat (i 5).toInt := by have h9 := hxp15_0; rw [show i13 5 = i 5 from hfi 5 (by decide)] at h9; exact h9
                  have hfi : ∀ k, k ∉ ([16, 17, 18, 19, 35, 36, 40, 41, 42, 50, 57, 58, 59] : List Nat) → i15 k = i k := fr_z hfi hei15 (by decide) (by decide)
                  have hfc : ∀ k, k ∉ ([23, 24, 25, 26, 34, 38, 39, 43, 44, 45, 46, 47, 48, 49, 51, 52, 53, 54, 55, 56] : List Nat) → c15 k = c k := fr_z hfc hec15 (by decide) (by decide)
                  have hP : va_P D vwCl (mW o a t i15 q15 c15 d15) H := hP
                  have hD : va_D A (mW o a t i15 q15 c15 d15) := hD
                  have hs_C : Cc (c 3) (c 6) (c15 47) (c15 48) (c15 49) (i 5).toInt := by rw [show c15 47 = c13 47 from hec15 47 (by decide), show c15 48 = c13 48 from hec15 48 (by decide), show c15 49 = c13 49 from hec15 49 (by decide)]; exact hs_C
                  have hs_Q : SQ (c 3) (c 6) (c15 51) (c15 52) (i 5).toInt (i 22).toInt ((i15 50) : Int32).toInt := by rw [show c15 51 = c13 51 from hec15 51 (by decide), show c15 52 = c13 52 from hec15 52 (by decide), show i15 50 = i13 50 from hei15 50 (by decide)]; exact hs_Q
                  have hTI : TI (i 5).toInt (fun z => Kd (c 3) (c 6) z 0) (i 22).toInt (c15 23) (c15 24) := TI_ext (hs_Q0 300 (Or.inr rfl)) hxp15_0
                  refine lv_iload hx hb dX12_seek_188 (lv_at hl 5 rfl) ?_
                  exact rw_iret (i15, q15, c15, d15) hx hb hr hlocks hS (hK.sub (tys' := []) [] rfl) hP hD dX12_seek_190 ⟨trivial, hI, fr_w hfi (by decide), fr_w hfc (by decide), (show SJ (c15 3) (c15 6) (c15 9) (c15 10) (c15 11) (c15 13) ((i15 2) : Int32).toInt ((i15 5) : Int32).toInt ((i15 8) : Int32).toInt from by rw [show c15 3 = c 3 from hfc 3 (by decide), show c15 6 = c 6 from hfc 6 (by decide), show c15 9 = c 9 from hfc 9 (by decide), show c15 10 = c 10 from hfc 10 (by decide), show c15 11 = c 11 from hfc 11 (by decide), show c15 13 = c 13 from hfc 13 (by decide), show i15 2 = i 2 from hfi 2 (by decide), show i15 5 = i 5 from hfi 5 (by decide), show i15 8 = i 8 from hfi 8 (by decide)]; exact hs_S), (show TJ (c15 3) (c15 6) (c15 23) (c15 24) (c15 29) (c15 30) ((i15 5) : Int32).toInt ((i15 22) : Int32).toInt ((i15 27) : Int32).toInt from by rw [show c15 3 = c 3 from hfc 3 (by decide), show c15 6 = c 6 from hfc 6 (by decide), show c15 29 = c 29 from hfc 29 (by decide), show c15 30 = c 30 from hfc 30 (by decide), show i15 5 = i 5 from hfi 5 (by decide), show i15 22 = i 22 from hfi 22 (by decide), show i15 27 = i 27 from hfi 27 (by decide)]; exact fun q9 => ⟨(hs_J q9).1, hTI, (hs_J q9).2.2⟩)⟩
                · have f14 := mt (ti_le (a := n1.toInt) (b := y13_5.toInt) rfl rfl).mpr c14
                  refine lv_iload hx hb dX12_seek_128 (lv_at hl 0 rfl) ?_
                  refine lv_aload_n hx hb dX12_seek_130 rfl (lv_at hl 1 rfl) ?_
                  refine mget_50 (v := (i13 50)) rfl hx hb hts (fun _ h => List.mem_cons_of_mem _ (List.mem_append_right _ h)) hown hK hP (hts (.fieldLink RX12 410 "TalePlayModel" "states" "I") (by decide +kernel)) dX12_seek_131 ?_
                  have rb50_i13 : 0 ≤ (i13 50).toInt ∧ (i13 50).toInt ≤ 300 := hI.1 50
                  refine lv_icmp_ge (tgt := 181) hx hb dX12_seek_134 (by decide) (fun c16 => ?_) (fun c16 => ?_)
                  · have f16 := (ti_le (a := (i13 50).toInt) (b := y13_5.toInt) rfl rfl).mp c16
                    have hs_Q0 := hs_Q
                    refine lv_aload_n hx hb dX12_seek_181 rfl (lv_at hl 1 rfl) ?_
                    refine lv_sipush (v := 300) hx hb dX12_seek_182 (by decide) ?_
                    have rb5_i13 : 0 ≤ (i13 5).toInt ∧ (i13 5).toInt ≤ 30 := hI.1 5
                    have re5_i13 : (i13 5).toInt = (i 5).toInt := congrArg Int32.toInt (hfi 5 (by decide))
                    refine al_callv (va_runV (As := [.int 300]) (rest := []) ⟨hx, hb, hml, hown, hts⟩ (s_X12_giveState l D H.size o a t i13 q13 c13 d13 300 hI (show 0 ≤ 300 ∧ 300 ≤ 300 from by have h90 : (300 : Int32).toInt = 300 := (by decide); omega)) (cwV 1 hts gm_X12_seek_X12_giveState rfl rfl rfl (by decide +kernel) ⟨Nat.le_of_ble_eq_true rfl, Nat.le_of_ble_eq_true rfl⟩) (pB_V hK hP hD (ci := 12) (q0 := 0) rfl rfl) rfl rfl hl.1 rfl (lv_room (Nat.le_of_ble_eq_true rfl)) dX12_seek_185 ⟨Nat.le_of_ble_eq_true rfl, Nat.le_of_ble_eq_true rfl⟩) hS hA hP hD (fun u17 H locs hw17 hP hD hS => ?_)
                    obtain ⟨i17, q17, c17, d17⟩ := u17
                    have hw17 : True ∧ mInv i17 c17 ∧ (∀ k, k ∉ ([] : List Nat) → i17 k = i13 k) ∧ (∀ k, k ∉ ([23, 24, 25, 26] : List Nat) → c17 k = c13 k) ∧ (GB (c17 23) (c17 24) (c13 51) (c13 52) 300.toNat (i13 5).toInt) := hw17
                    obtain ⟨hw17, hI, hei17, hec17, hxp17_0⟩ := hw17
                    have hxp17_0 : GB (c17 23) (c17 24) (c13 51) (c13 52) 300.toNat (i 5).toInt := by have h9 := hxp17_0; rw [show i13 5 = i 5 from hfi 5 (by decide)] at h9; exact h9
                    have hfi : ∀ k, k ∉ ([16, 17, 18, 19, 35, 36, 40, 41, 42, 50, 57, 58, 59] : List Nat) → i17 k = i k := fr_z hfi hei17 (by decide) (by decide)
                    have hfc : ∀ k, k ∉ ([23, 24, 25, 26, 34, 38, 39, 43, 44, 45, 46, 47, 48, 49, 51, 52, 53, 54, 55, 56] : List Nat) → c17 k = c k := fr_z hfc hec17 (by decide) (by decide)
                    have hP : va_P D vwCl (mW o a t i17 q17 c17 d17) H := hP
                    have hD : va_D A (mW o a t i17 q17 c17 d17) := hD
                    have hs_C : Cc (c 3) (c 6) (c17 47) (c17 48) (c17 49) (i 5).toInt := by rw [show c17 47 = c13 47 from hec17 47 (by decide), show c17 48 = c13 48 from hec17 48 (by decide), show c17 49 = c13 49 from hec17 49 (by decide)]; exact hs_C
                    have hs_Q : SQ (c 3) (c 6) (c17 51) (c17 52) (i 5).toInt (i 22).toInt ((i17 50) : Int32).toInt := by rw [show c17 51 = c13 51 from hec17 51 (by decide), show c17 52 = c13 52 from hec17 52 (by decide), show i17 50 = i13 50 from hei17 50 (by decide)]; exact hs_Q
                    have hTI : TI (i 5).toInt (fun z => Kd (c 3) (c 6) z 0) (i 22).toInt (c17 23) (c17 24) := TI_ext (hs_Q0 300 (Or.inr rfl)) hxp17_0
                    refine lv_iload hx hb dX12_seek_188 (lv_at hl 5 rfl) ?_
                    exact rw_iret (i17, q17, c17, d17) hx hb hr hlocks hS (hK.sub (tys' := []) [] rfl) hP hD dX12_seek_190 ⟨trivial, hI, fr_w hfi (by decide), fr_w hfc (by decide), (show SJ (c17 3) (c17 6) (c17 9) (c17 10) (c17 11) (c17 13) ((i17 2) : Int32).toInt ((i17 5) : Int32).toInt ((i17 8) : Int32).toInt from by rw [show c17 3 = c 3 from hfc 3 (by decide), show c17 6 = c 6 from hfc 6 (by decide), show c17 9 = c 9 from hfc 9 (by decide), show c17 10 = c 10 from hfc 10 (by decide), show c17 11 = c 11 from hfc 11 (by decide), show c17 13 = c 13 from hfc 13 (by decide), show i17 2 = i 2 from hfi 2 (by decide), show i17 5 = i 5 from hfi 5 (by decide), show i17 8 = i 8 from hfi 8 (by decide)]; exact hs_S), (show TJ (c17 3) (c17 6) (c17 23) (c17 24) (c17 29) (c17 30) ((i17 5) : Int32).toInt ((i17 22) : Int32).toInt ((i17 27) : Int32).toInt from by rw [show c17 3 = c 3 from hfc 3 (by decide), show c17 6 = c 6 from hfc 6 (by decide), show c17 29 = c 29 from hfc 29 (by decide), show c17 30 = c 30 from hfc 30 (by decide), show i17 5 = i 5 from hfi 5 (by decide), show i17 22 = i 22 from hfi 22 (by decide), show i17 27 = i 27 from hfi 27 (by decide)]; exact fun q9 => ⟨(hs_J q9).1, hTI, (hs_J q9).2.2⟩)⟩
                  · have f16 := mt (ti_le (a := (i13 50).toInt) (b := y13_5.toInt) rfl rfl).mpr c16
                    refine lv_aload_n hx hb dX12_seek_137 rfl (lv_at hl 1 rfl) ?_
                    refine mget_50 (v := (i13 50)) rfl hx hb hts (fun _ h => List.mem_cons_of_mem _ (List.mem_append_right _ h)) hown hK hP (hts (.fieldLink RX12 410 "TalePlayModel" "states" "I") (by decide +kernel)) dX12_seek_138 ?_
                    refine lv_sipush (v := 300) hx hb dX12_seek_141 (by decide) ?_
                    refine lv_icmp_ge (tgt := 181) hx hb dX12_seek_144 (by decide) (fun c18 => ?_) (fun c18 => ?_)
                    · have f18 := (ti_le (a := 300) (b := (i13 50).toInt) (by decide) rfl).mp c18
                      have hs_Q0 := hs_Q
                      refine lv_aload_n hx hb dX12_seek_181 rfl (lv_at hl 1 rfl) ?_
                      refine lv_sipush (v := 300) hx hb dX12_seek_182 (by decide) ?_
                      have rb5_i13 : 0 ≤ (i13 5).toInt ∧ (i13 5).toInt ≤ 30 := hI.1 5
                      have re5_i13 : (i13 5).toInt = (i 5).toInt := congrArg Int32.toInt (hfi 5 (by decide))
                      refine al_callv (va_runV (As := [.int 300]) (rest := []) ⟨hx, hb, hml, hown, hts⟩ (s_X12_giveState l D H.size o a t i13 q13 c13 d13 300 hI (show 0 ≤ 300 ∧ 300 ≤ 300 from by have h90 : (300 : Int32).toInt = 300 := (by decide); omega)) (cwV 1 hts gm_X12_seek_X12_giveState rfl rfl rfl (by decide +kernel) ⟨Nat.le_of_ble_eq_true rfl, Nat.le_of_ble_eq_true rfl⟩) (pB_V hK hP hD (ci := 12) (q0 := 0) rfl rfl) rfl rfl hl.1 rfl (lv_room (Nat.le_of_ble_eq_true rfl)) dX12_seek_185 ⟨Nat.le_of_ble_eq_true rfl, Nat.le_of_ble_eq_true rfl⟩) hS hA hP hD (fun u19 H locs hw19 hP hD hS => ?_)
                      obtain ⟨i19, q19, c19, d19⟩ := u19
                      have hw19 : True ∧ mInv i19 c19 ∧ (∀ k, k ∉ ([] : List Nat) → i19 k = i13 k) ∧ (∀ k, k ∉ ([23, 24, 25, 26] : List Nat) → c19 k = c13 k) ∧ (GB (c19 23) (c19 24) (c13 51) (c13 52) 300.toNat (i13 5).toInt) := hw19
                      obtain ⟨hw19, hI, hei19, hec19, hxp19_0⟩ := hw19
                      have hxp19_0 : GB (c19 23) (c19 24) (c13 51) (c13 52) 300.toNat (i 5).toInt := by have h9 := hxp19_0; rw [show i13 5 = i 5 from hfi 5 (by decide)] at h9; exact h9
                      have hfi : ∀ k, k ∉ ([16, 17, 18, 19, 35, 36, 40, 41, 42, 50, 57, 58, 59] : List Nat) → i19 k = i k := fr_z hfi hei19 (by decide) (by decide)
                      have hfc : ∀ k, k ∉ ([23, 24, 25, 26, 34, 38, 39, 43, 44, 45, 46, 47, 48, 49, 51, 52, 53, 54, 55, 56] : List Nat) → c19 k = c k := fr_z hfc hec19 (by decide) (by decide)
                      have hP : va_P D vwCl (mW o a t i19 q19 c19 d19) H := hP
                      have hD : va_D A (mW o a t i19 q19 c19 d19) := hD
                      have hs_C : Cc (c 3) (c 6) (c19 47) (c19 48) (c19 49) (i 5).toInt := by rw [show c19 47 = c13 47 from hec19 47 (by decide), show c19 48 = c13 48 from hec19 48 (by decide), show c19 49 = c13 49 from hec19 49 (by decide)]; exact hs_C
                      have hs_Q : SQ (c 3) (c 6) (c19 51) (c19 52) (i 5).toInt (i 22).toInt ((i19 50) : Int32).toInt := by rw [show c19 51 = c13 51 from hec19 51 (by decide), show c19 52 = c13 52 from hec19 52 (by decide), show i19 50 = i13 50 from hei19 50 (by decide)]; exact hs_Q
                      have hTI : TI (i 5).toInt (fun z => Kd (c 3) (c 6) z 0) (i 22).toInt (c19 23) (c19 24) := TI_ext (hs_Q0 300 (Or.inr rfl)) hxp19_0
                      refine lv_iload hx hb dX12_seek_188 (lv_at hl 5 rfl) ?_
                      exact rw_iret (i19, q19, c19, d19) hx hb hr hlocks hS (hK.sub (tys' := []) [] rfl) hP hD dX12_seek_190 ⟨trivial, hI, fr_w hfi (by decide), fr_w hfc (by decide), (show SJ (c19 3) (c19 6) (c19 9) (c19 10) (c19 11) (c19 13) ((i19 2) : Int32).toInt ((i19 5) : Int32).toInt ((i19 8) : Int32).toInt from by rw [show c19 3 = c 3 from hfc 3 (by decide), show c19 6 = c 6 from hfc 6 (by decide), show c19 9 = c 9 from hfc 9 (by decide), show c19 10 = c 10 from hfc 10 (by decide), show c19 11 = c 11 from hfc 11 (by decide), show c19 13 = c 13 from hfc 13 (by decide), show i19 2 = i 2 from hfi 2 (by decide), show i19 5 = i 5 from hfi 5 (by decide), show i19 8 = i 8 from hfi 8 (by decide)]; exact hs_S), (show TJ (c19 3) (c19 6) (c19 23) (c19 24) (c19 29) (c19 30) ((i19 5) : Int32).toInt ((i19 22) : Int32).toInt ((i19 27) : Int32).toInt from by rw [show c19 3 = c 3 from hfc 3 (by decide), show c19 6 = c 6 from hfc 6 (by decide), show c19 29 = c 29 from hfc 29 (by decide), show c19 30 = c 30 from hfc 30 (by decide), show i19 5 = i 5 from hfi 5 (by decide), show i19 22 = i 22 from hfi 22 (by decide), show i19 27 = i 27 from hfi 27 (by decide)]; exact fun q9 => ⟨(hs_J q9).1, hTI, (hs_J q9).2.2⟩)⟩
                    · have f18 := mt (ti_le (a := 300) (b := (i13 50).toInt) (by decide) rfl).mpr c18
                      refine lv_iload hx hb dX12_seek_147 (lv_at hl 5 rfl) ?_
                      refine lv_bipush (v := (-9)) hx hb dX12_seek_149 (by decide) ?_
                      refine lv_icmp_ne (tgt := 181) hx hb dX12_seek_151 (by decide) (fun c20 => ?_) (fun c20 => ?_)
                      · have f20 := mt (ti_eq (a := y13_4.toInt) (b := (-9)) rfl (by decide)).mpr c20
                        have hs_Q0 := hs_Q
                        refine lv_aload_n hx hb dX12_seek_181 rfl (lv_at hl 1 rfl) ?_
                        refine lv_sipush (v := 300) hx hb dX12_seek_182 (by decide) ?_
                        have rb5_i13 : 0 ≤ (i13 5).toInt ∧ (i13 5).toInt ≤ 30 := hI.1 5
                        have re5_i13 : (i13 5).toInt = (i 5).toInt := congrArg Int32.toInt (hfi 5 (by decide))
                        refine al_callv (va_runV (As := [.int 300]) (rest := []) ⟨hx, hb, hml, hown, hts⟩ (s_X12_giveState l D H.size o a t i13 q13 c13 d13 300 hI (show 0 ≤ 300 ∧ 300 ≤ 300 from by have h90 : (300 : Int32).toInt = 300 := (by decide); omega)) (cwV 1 hts gm_X12_seek_X12_giveState rfl rfl rfl (by decide +kernel) ⟨Nat.le_of_ble_eq_true rfl, Nat.le_of_ble_eq_true rfl⟩) (pB_V hK hP hD (ci := 12) (q0 := 0) rfl rfl) rfl rfl hl.1 rfl (lv_room (Nat.le_of_ble_eq_true rfl)) dX12_seek_185 ⟨Nat.le_of_ble_eq_true rfl, Nat.le_of_ble_eq_true rfl⟩) hS hA hP hD (fun u21 H locs hw21 hP hD hS => ?_)
                        obtain ⟨i21, q21, c21, d21⟩ := u21
                        have hw21 : True ∧ mInv i21 c21 ∧ (∀ k, k ∉ ([] : List Nat) → i21 k = i13 k) ∧ (∀ k, k ∉ ([23, 24, 25, 26] : List Nat) → c21 k = c13 k) ∧ (GB (c21 23) (c21 24) (c13 51) (c13 52) 300.toNat (i13 5).toInt) := hw21
                        obtain ⟨hw21, hI, hei21, hec21, hxp21_0⟩ := hw21
                        have hxp21_0 : GB (c21 23) (c21 24) (c13 51) (c13 52) 300.toNat (i 5).toInt := by have h9 := hxp21_0; rw [show i13 5 = i 5 from hfi 5 (by decide)] at h9; exact h9
                        have hfi : ∀ k, k ∉ ([16, 17, 18, 19, 35, 36, 40, 41, 42, 50, 57, 58, 59] : List Nat) → i21 k = i k := fr_z hfi hei21 (by decide) (by decide)
                        have hfc : ∀ k, k ∉ ([23, 24, 25, 26, 34, 38, 39, 43, 44, 45, 46, 47, 48, 49, 51, 52, 53, 54, 55, 56] : List Nat) → c21 k = c k := fr_z hfc hec21 (by decide) (by decide)
                        have hP : va_P D vwCl (mW o a t i21 q21 c21 d21) H := hP
                        have hD : va_D A (mW o a t i21 q21 c21 d21) := hD
                        have hs_C : Cc (c 3) (c 6) (c21 47) (c21 48) (c21 49) (i 5).toInt := by rw [show c21 47 = c13 47 from hec21 47 (by decide), show c21 48 = c13 48 from hec21 48 (by decide), show c21 49 = c13 49 from hec21 49 (by decide)]; exact hs_C
                        have hs_Q : SQ (c 3) (c 6) (c21 51) (c21 52) (i 5).toInt (i 22).toInt ((i21 50) : Int32).toInt := by rw [show c21 51 = c13 51 from hec21 51 (by decide), show c21 52 = c13 52 from hec21 52 (by decide), show i21 50 = i13 50 from hei21 50 (by decide)]; exact hs_Q
                        have hTI : TI (i 5).toInt (fun z => Kd (c 3) (c 6) z 0) (i 22).toInt (c21 23) (c21 24) := TI_ext (hs_Q0 300 (Or.inr rfl)) hxp21_0
                        refine lv_iload hx hb dX12_seek_188 (lv_at hl 5 rfl) ?_
                        exact rw_iret (i21, q21, c21, d21) hx hb hr hlocks hS (hK.sub (tys' := []) [] rfl) hP hD dX12_seek_190 ⟨trivial, hI, fr_w hfi (by decide), fr_w hfc (by decide), (show SJ (c21 3) (c21 6) (c21 9) (c21 10) (c21 11) (c21 13) ((i21 2) : Int32).toInt ((i21 5) : Int32).toInt ((i21 8) : Int32).toInt from by rw [show c21 3 = c 3 from hfc 3 (by decide), show c21 6 = c 6 from hfc 6 (by decide), show c21 9 = c 9 from hfc 9 (by decide), show c21 10 = c 10 from hfc 10 (by decide), show c21 11 = c 11 from hfc 11 (by decide), show c21 13 = c 13 from hfc 13 (by decide), show i21 2 = i 2 from hfi 2 (by decide), show i21 5 = i 5 from hfi 5 (by decide), show i21 8 = i 8 from hfi 8 (by decide)]; exact hs_S), (show TJ (c21 3) (c21 6) (c21 23) (c21 24) (c21 29) (c21 30) ((i21 5) : Int32).toInt ((i21 22) : Int32).toInt ((i21 27) : Int32).toInt from by rw [show c21 3 = c 3 from hfc 3 (by decide), show c21 6 = c 6 from hfc 6 (by decide), show c21 29 = c 29 from hfc 29 (by decide), show c21 30 = c 30 from hfc 30 (by decide), show i21 5 = i 5 from hfi 5 (by decide), show i21 22 = i 22 from hfi 22 (by decide), show i21 27 = i 27 from hfi 27 (by decide)]; exact fun q9 => ⟨(hs_J q9).1, hTI, (hs_J q9).2.2⟩)⟩
                      · have f20 := (ti_eq (a := y13_4.toInt) (b := (-9)) rfl (by decide)).mp c20
                        refine lv_aload_n hx hb dX12_seek_154 rfl (lv_at hl 1 rfl) ?_
                        refine lv_iload hx hb dX12_seek_155 (lv_at hl 0 rfl) ?_
                        have rb2_i13 : 6 ≤ (i13 2).toInt ∧ (i13 2).toInt ≤ 24 := hI.1 2
                        have re2_i13 : (i13 2).toInt = (i 2).toInt := congrArg Int32.toInt (hfi 2 (by decide))
                        have rb5_i13 : 0 ≤ (i13 5).toInt ∧ (i13 5).toInt ≤ 30 := hI.1 5
                        have re5_i13 : (i13 5).toInt = (i 5).toInt := congrArg Int32.toInt (hfi 5 (by decide))
                        have rb8_i13 : 0 ≤ (i13 8).toInt ∧ (i13 8).toInt ≤ 200 := hI.1 8
                        have re8_i13 : (i13 8).toInt = (i 8).toInt := congrArg Int32.toInt (hfi 8 (by decide))
                        have rb22_i13 : (i13 22).toInt = -9 ∨ (0 ≤ (i13 22).toInt ∧ (i13 22).toInt ≤ 29) := hI.1 22
                        have re22_i13 : (i13 22).toInt = (i 22).toInt := congrArg Int32.toInt (hfi 22 (by decide))
                        refine al_calli (va_runV (As := [.int y13_5]) (rest := []) ⟨hx, hb, hml, hown, hts⟩ (s_X12_triedAll l D H.size o a t i13 q13 c13 d13 y13_5 hI (show 0 ≤ y13_5.toInt ∧ y13_5.toInt < ((i13 50) : Int32).toInt ∧ ((i13 50) : Int32).toInt < 300 from by omega) (show 0 ≤ ((i13 22) : Int32).toInt from by omega) (by rw [show c13 3 = c 3 from hfc 3 (by decide), show c13 6 = c 6 from hfc 6 (by decide), show i13 5 = i 5 from hfi 5 (by decide)]; exact hs_C) (by rw [show c13 3 = c 3 from hfc 3 (by decide), show c13 6 = c 6 from hfc 6 (by decide), show c13 9 = c 9 from hfc 9 (by decide), show c13 10 = c 10 from hfc 10 (by decide), show c13 11 = c 11 from hfc 11 (by decide), show c13 13 = c 13 from hfc 13 (by decide), show i13 2 = i 2 from hfi 2 (by decide), show i13 5 = i 5 from hfi 5 (by decide), show i13 8 = i 8 from hfi 8 (by decide)]; exact hs_S) (by rw [show c13 3 = c 3 from hfc 3 (by decide), show c13 6 = c 6 from hfc 6 (by decide), show i13 22 = i 22 from hfi 22 (by decide)]; exact hs_P) (by rw [show c13 3 = c 3 from hfc 3 (by decide), show c13 6 = c 6 from hfc 6 (by decide), show i13 5 = i 5 from hfi 5 (by decide), show i13 22 = i 22 from hfi 22 (by decide)]; exact hs_Q)) (cwV 1 hts gm_X12_seek_X12_triedAll rfl rfl rfl (by decide +kernel) ⟨Nat.le_of_ble_eq_true rfl, Nat.le_of_ble_eq_true rfl⟩) (pB_V hK hP hD (ci := 12) (q0 := 0) rfl rfl) rfl rfl hl.1 rfl (lv_room (Nat.le_of_ble_eq_true rfl)) dX12_seek_157 ⟨Nat.le_of_ble_eq_true rfl, Nat.le_of_ble_eq_true rfl⟩) hS hA hP hD (fun r22 u22 H locs hw22 hP hD hS => ?_)
                        obtain ⟨i22, q22, c22, d22⟩ := u22
                        have hw22 : (0 ≤ r22.toInt ∧ r22.toInt ≤ 1) ∧ mInv i22 c22 ∧ (∀ k, k ∉ ([16, 17, 18, 19, 35, 36, 40, 41, 42, 50] : List Nat) → i22 k = i13 k) ∧ (∀ k, k ∉ ([23, 24, 25, 26, 34, 38, 39, 43, 44, 51, 52, 53, 54, 55] : List Nat) → c22 k = c13 k) ∧ (SQ (c22 3) (c22 6) (c22 51) (c22 52) (i22 5).toInt (i22 22).toInt (i22 50).toInt) ∧ ((i13 50).toInt ≤ (i22 50).toInt) := hw22
                        obtain ⟨hw22, hI, hei22, hec22, hxp22_0, hxp22_1⟩ := hw22
                        have hxp22_0 : SQ (c22 3) (c22 6) (c22 51) (c22 52) (i22 5).toInt (i22 22).toInt (i22 50).toInt := hxp22_0
                        have hxp22_1 : (i13 50).toInt ≤ (i22 50).toInt := hxp22_1
                        have hfi : ∀ k, k ∉ ([16, 17, 18, 19, 35, 36, 40, 41, 42, 50, 57, 58, 59] : List Nat) → i22 k = i k := fr_z hfi hei22 (by decide) (by decide)
                        have hfc : ∀ k, k ∉ ([23, 24, 25, 26, 34, 38, 39, 43, 44, 45, 46, 47, 48, 49, 51, 52, 53, 54, 55, 56] : List Nat) → c22 k = c k := fr_z hfc hec22 (by decide) (by decide)
                        have hP : va_P D vwCl (mW o a t i22 q22 c22 d22) H := hP
                        have hD : va_D A (mW o a t i22 q22 c22 d22) := hD
                        have hs_C : Cc (c 3) (c 6) (c22 47) (c22 48) (c22 49) (i 5).toInt := by rw [show c22 47 = c13 47 from hec22 47 (by decide), show c22 48 = c13 48 from hec22 48 (by decide), show c22 49 = c13 49 from hec22 49 (by decide)]; exact hs_C
                        have hs_Q : SQ (c 3) (c 6) (c22 51) (c22 52) (i 5).toInt (i 22).toInt ((i22 50) : Int32).toInt := by have h9 := hxp22_0; rw [show c22 3 = c 3 from hfc 3 (by decide), show c22 6 = c 6 from hfc 6 (by decide), show i22 5 = i 5 from hfi 5 (by decide), show i22 22 = i 22 from hfi 22 (by decide)] at h9; exact h9
                        have jn23 : ∀ (i23 : Nat → Int32) (q23 : Int64) (c23 : Nat → Nat → Int32) (d23 : Nat → Nat → Int64) (y23_4 : Int32), mInv i23 c23 → (∀ k, k ∉ ([16, 17, 18, 19, 35, 36, 40, 41, 42, 50, 57, 58, 59] : List Nat) → i23 k = i k) → (∀ k, k ∉ ([23, 24, 25, 26, 34, 38, 39, 43, 44, 45, 46, 47, 48, 49, 51, 52, 53, 54, 55, 56] : List Nat) → c23 k = c k) → (Cc (c 3) (c 6) (c23 47) (c23 48) (c23 49) (i 5).toInt) → (SQ (c 3) (c 6) (c23 51) (c23 52) (i 5).toInt (i 22).toInt ((i23 50) : Int32).toInt) → (y23_4.toInt = -9 ∨ (0 ≤ y23_4.toInt ∧ y23_4.toInt ≤ 300)) → (1 ≤ ((i23 50) : Int32).toInt) → ∀ (H : Heap) (locs : List Loc) (ls : Array Slot), va_P D vwCl (mW o a t i23 q23 c23 d23) H → va_D A (mW o a t i23 q23 c23 d23) → va_S A s.heap H locs → lv_has ls 6 [(5, .int y13_5), (0, .ref o), (1, .int w1), (2, .int w2), (3, .int n1), (4, .int y23_4)] → W p l e (headSpec wm_X12_seek ({ frames := 7, cells := 0, slots := 0, locals := 168 })).room s m ([.ref o, .int w1, .int w2, .int n1] : List Value).toArray below meth cd H locs 0 0 (MQ below (va_Qi (fun (r : Int32) (u : MS) => True ∧ mInv u.1 u.2.2.1 ∧ (∀ k, k ∉ ([16, 17, 18, 19, 35, 36, 40, 41, 42, 50, 57, 58, 59] : List Nat) → u.1 k = i k) ∧ (∀ k, k ∉ ([23, 24, 25, 26, 34, 38, 39, 43, 44, 45, 46, 47, 48, 49, 51, 52, 53, 54, 55, 56] : List Nat) → u.2.2.1 k = c k) ∧ (SJ (u.2.2.1 3) (u.2.2.1 6) (u.2.2.1 9) (u.2.2.1 10) (u.2.2.1 11) (u.2.2.1 13) (u.1 2).toInt (u.1 5).toInt (u.1 8).toInt) ∧ (TJ (u.2.2.1 3) (u.2.2.1 6) (u.2.2.1 23) (u.2.2.1 24) (u.2.2.1 29) (u.2.2.1 30) (u.1 5).toInt (u.1 22).toInt (u.1 27).toInt)) (oC D A (fun u : MS => mW o a t u.1 u.2.1 u.2.2.1 u.2.2.2) (fun _ => [])) A) ([.ref o, .int w1, .int w2, .int n1] : List Value).toArray s 0 0 A) (F0 m 175 ls []) := by
                          intro i23 q23 c23 d23 y23_4 hI hfi hfc hs_C hs_Q hy23_4 hz23_0 H locs ls hP hD hS hl
                          obtain ⟨x24, ex24⟩ : ∃ y : Int32, y = y13_5 + 1 := ⟨_, rfl⟩
                          have tx24 := ti_add (a := y13_5.toInt) (b := 1) ex24 rfl (by decide) (by omega) (by omega)
                          refine lv_iinc (v := x24) (lv' := [(5, .int x24), (0, .ref o), (1, .int w1), (2, .int w2), (3, .int n1), (4, .int y23_4)]) hx hb dX12_seek_175 hl (k := 0) rfl (by rw [ex24]; rfl) (by decide) rfl (fun ls hl => ?_)
                          refine lv_goto (tgt := 122) hx hb dX12_seek_178 (by decide) ?_
                          exact ih13 i23 q23 c23 d23 x24 y23_4 hI (fr_w hfi (by decide)) (fr_w hfc (by decide)) hs_C hs_Q (show 0 ≤ x24.toInt ∧ x24.toInt ≤ 300 from by have h50 : x24.toInt = (y13_5.toInt + 1) := tx24; omega) (show y23_4.toInt = -9 ∨ (0 ≤ y23_4.toInt ∧ y23_4.toInt ≤ 300) from by have h50 : x24.toInt = (y13_5.toInt + 1) := tx24; omega) (show 1 ≤ ((i23 50) : Int32).toInt from by have h50 : x24.toInt = (y13_5.toInt + 1) := tx24; omega) (by have h50 : x24.toInt = (y13_5.toInt + 1) := tx24; omega) _ _ _ hP hD hS (lv_sub hl [0, 1, 2, 3, 4, 5] rfl)
                        refine lv_if_eq (tgt := 175) hx hb dX12_seek_160 (by decide) (fun c25 => ?_) (fun c25 => ?_)
                        · have f25 := (ti_eq (a := r22.toInt) (b := 0) rfl (by decide)).mp c25
                          exact jn23 i22 q22 c22 d22 y13_4  hI (fr_w hfi (by decide)) (fr_w hfc (by decide)) hs_C hs_Q (show y13_4.toInt = -9 ∨ (0 ≤ y13_4.toInt ∧ y13_4.toInt ≤ 300) from by omega) (show 1 ≤ ((i22 50) : Int32).toInt from by omega) _ _ _ hP hD hS (lv_sub hl [0, 1, 2, 3, 4, 5] rfl)
                        · have f25 := mt (ti_eq (a := r22.toInt) (b := 0) rfl (by decide)).mpr c25
                          refine lv_aload_n hx hb dX12_seek_163 rfl (lv_at hl 1 rfl) ?_
                          refine lv_aload_n hx hb dX12_seek_164 rfl (lv_at hl 1 rfl) ?_
                          refine mget_50 (v := (i22 50)) rfl hx hb hts (fun _ h => List.mem_cons_of_mem _ (List.mem_append_right _ h)) hown hK hP (hts (.fieldLink RX12 410 "TalePlayModel" "states" "I") (by decide +kernel)) dX12_seek_165 ?_
                          have rb50_i22 : 0 ≤ (i22 50).toInt ∧ (i22 50).toInt ≤ 300 := hI.1 50
                          refine lv_iconst (v := 1) hx hb dX12_seek_168 (by decide) ?_
                          refine lv_isub hx hb dX12_seek_169 ?_
                          refine lv_topi (fun x26 ex26 => ?_)
                          have tx26 := ti_sub (a := (i22 50).toInt) (b := 1) ex26 rfl (by decide) (by omega) (by omega)
                          refine al_calli (va_runV (As := [.int x26]) (rest := []) ⟨hx, hb, hml, hown, hts⟩ (s_X12_found l D H.size o a t i22 q22 c22 d22 x26 hI (show 0 ≤ x26.toInt ∧ x26.toInt ≤ 299 from by have h90 : x26.toInt = ((i22 50).toInt - 1) := tx26; omega)) (cwV 1 hts gm_X12_seek_X12_found rfl rfl rfl (by decide +kernel) ⟨Nat.le_of_ble_eq_true rfl, Nat.le_of_ble_eq_true rfl⟩) (pB_V hK hP hD (ci := 12) (q0 := 0) rfl rfl) rfl rfl hl.1 rfl (lv_room (Nat.le_of_ble_eq_true rfl)) dX12_seek_170 ⟨Nat.le_of_ble_eq_true rfl, Nat.le_of_ble_eq_true rfl⟩) hS hA hP hD (fun r27 u27 H locs hw27 hP hD hS => ?_)
                          obtain ⟨i27, q27, c27, d27⟩ := u27
                          have hw27 : (0 ≤ r27.toInt ∧ r27.toInt ≤ 300) ∧ mInv i27 c27 ∧ (∀ k, k ∉ ([57] : List Nat) → i27 k = i22 k) ∧ (∀ k, k ∉ ([56] : List Nat) → c27 k = c22 k) := hw27
                          obtain ⟨hw27, hI, hei27, hec27⟩ := hw27
                          have hfi : ∀ k, k ∉ ([16, 17, 18, 19, 35, 36, 40, 41, 42, 50, 57, 58, 59] : List Nat) → i27 k = i k := fr_z hfi hei27 (by decide) (by decide)
                          have hfc : ∀ k, k ∉ ([23, 24, 25, 26, 34, 38, 39, 43, 44, 45, 46, 47, 48, 49, 51, 52, 53, 54, 55, 56] : List Nat) → c27 k = c k := fr_z hfc hec27 (by decide) (by decide)
                          have hP : va_P D vwCl (mW o a t i27 q27 c27 d27) H := hP
                          have hD : va_D A (mW o a t i27 q27 c27 d27) := hD
                          have hs_C : Cc (c 3) (c 6) (c27 47) (c27 48) (c27 49) (i 5).toInt := by rw [show c27 47 = c22 47 from hec27 47 (by decide), show c27 48 = c22 48 from hec27 48 (by decide), show c27 49 = c22 49 from hec27 49 (by decide)]; exact hs_C
                          have hs_Q : SQ (c 3) (c 6) (c27 51) (c27 52) (i 5).toInt (i 22).toInt ((i27 50) : Int32).toInt := by rw [show c27 51 = c22 51 from hec27 51 (by decide), show c27 52 = c22 52 from hec27 52 (by decide), show i27 50 = i22 50 from hei27 50 (by decide)]; exact hs_Q
                          refine lv_istore (lv' := [(4, .int r27), (5, .int y13_5), (0, .ref o), (1, .int w1), (2, .int w2), (3, .int n1)]) hx hb dX12_seek_173 hl (by decide) rfl (fun ls hl => ?_)
                          exact jn23 i27 q27 c27 d27 r27  hI (fr_w hfi (by decide)) (fr_w hfc (by decide)) hs_C hs_Q (show r27.toInt = -9 ∨ (0 ≤ r27.toInt ∧ r27.toInt ≤ 300) from by omega) (show 1 ≤ ((i27 50) : Int32).toInt from by omega) _ _ _ hP hD hS (lv_sub hl [1, 2, 3, 4, 5, 0] rfl)
            exact lp13 _ i12 q12 c12 d12 (0 : Int32) y12_4 hI (fr_w hfi (by decide)) (fr_w hfc (by decide)) hs_C hs_Q (show 0 ≤ (0 : Int32).toInt ∧ (0 : Int32).toInt ≤ 300 from by have h50 : (0 : Int32).toInt = 0 := (by decide); omega) (show y12_4.toInt = -9 ∨ (0 ≤ y12_4.toInt ∧ y12_4.toInt ≤ 300) from by have h50 : (0 : Int32).toInt = 0 := (by decide); omega) (show 1 ≤ ((i12 50) : Int32).toInt from by have h50 : (0 : Int32).toInt = 0 := (by decide); omega) (Nat.lt_succ_self _) _ _ _ hP hD hS (lv_sub hl [0, 1, 2, 3, 4, 5] rfl)
          refine lv_icmp_eq (tgt := 119) hx hb dX12_seek_99 (by decide) (fun c28 => ?_) (fun c28 => ?_)
          · have f28 := (ti_eq (a := x11.toInt) (b := (-9)) rfl (by decide)).mp c28
            exact jn12 (upd i10 50 1) q10 (updA c10 54 (0 : Int32).toNatClampNeg (-9)) d10 ((-9) : Int32)  hI (fr_w hfi (by decide)) (fr_w hfc (by decide)) hs_C hs_Q (show ((-9) : Int32).toInt = -9 ∨ (0 ≤ ((-9) : Int32).toInt ∧ ((-9) : Int32).toInt ≤ 300) from by have h50 : ((-9) : Int32).toInt = -9 := (by decide); have h60 : (1 : Int32).toInt = 1 := (by decide); omega) (show 1 ≤ (1 : Int32).toInt from by have h50 : ((-9) : Int32).toInt = -9 := (by decide); have h60 : (1 : Int32).toInt = 1 := (by decide); omega) _ _ _ hP hD hS (lv_sub hl [1, 2, 3, 4, 0] rfl)
          · have f28 := mt (ti_eq (a := x11.toInt) (b := (-9)) rfl (by decide)).mpr c28
            refine lv_aload_n hx hb dX12_seek_102 rfl (lv_at hl 1 rfl) ?_
            refine mget_24 hx hb hts (fun _ h => List.mem_cons_of_mem _ (List.mem_append_right _ h)) hown hK hP (hts (.fieldLink RX12 53 "TalePlayModel" "nAt" "[I") (by decide +kernel)) dX12_seek_103 ?_
            refine lv_iload_n hx hb dX12_seek_106 rfl (lv_at hl 2 rfl) ?_
            refine mld_24 hx hb hK hP (vp_in_iff.mpr (by have h9 : w1.toInt = w1.toInt := rfl; omega)) dX12_seek_107 (fun x29 ex29 => ?_)
            have rx29 : x29.toInt = -9 ∨ (0 ≤ x29.toInt ∧ x29.toInt ≤ 29) := by rw [ex29]; exact hI.2 24 _
            refine lv_iload_n hx hb dX12_seek_108 rfl (lv_at hl 3 rfl) ?_
            refine lv_icmp_ne (tgt := 119) hx hb dX12_seek_109 (by decide) (fun c30 => ?_) (fun c30 => ?_)
            · have f30 := mt (ti_eq (a := x29.toInt) (b := w2.toInt) rfl rfl).mpr c30
              exact jn12 (upd i10 50 1) q10 (updA c10 54 (0 : Int32).toNatClampNeg (-9)) d10 ((-9) : Int32)  hI (fr_w hfi (by decide)) (fr_w hfc (by decide)) hs_C hs_Q (show ((-9) : Int32).toInt = -9 ∨ (0 ≤ ((-9) : Int32).toInt ∧ ((-9) : Int32).toInt ≤ 300) from by have h50 : ((-9) : Int32).toInt = -9 := (by decide); have h60 : (1 : Int32).toInt = 1 := (by decide); omega) (show 1 ≤ (1 : Int32).toInt from by have h50 : ((-9) : Int32).toInt = -9 := (by decide); have h60 : (1 : Int32).toInt = 1 := (by decide); omega) _ _ _ hP hD hS (lv_sub hl [1, 2, 3, 4, 0] rfl)
            · have f30 := (ti_eq (a := x29.toInt) (b := w2.toInt) rfl rfl).mp c30
              refine lv_aload_n hx hb dX12_seek_112 rfl (lv_at hl 1 rfl) ?_
              refine lv_iconst (v := 0) hx hb dX12_seek_113 (by decide) ?_
              refine al_calli (va_runV (As := [.int 0]) (rest := []) ⟨hx, hb, hml, hown, hts⟩ (s_X12_found l D H.size o a t (upd i10 50 1) q10 (updA c10 54 (0 : Int32).toNatClampNeg (-9)) d10 0 hI (show 0 ≤ 0 ∧ 0 ≤ 299 from by have h90 : (0 : Int32).toInt = 0 := (by decide); have h60 : (1 : Int32).toInt = 1 := (by decide); omega)) (cwV 1 hts gm_X12_seek_X12_found rfl rfl rfl (by decide +kernel) ⟨Nat.le_of_ble_eq_true rfl, Nat.le_of_ble_eq_true rfl⟩) (pB_V hK hP hD (ci := 12) (q0 := 0) rfl rfl) rfl rfl hl.1 rfl (lv_room (Nat.le_of_ble_eq_true rfl)) dX12_seek_114 ⟨Nat.le_of_ble_eq_true rfl, Nat.le_of_ble_eq_true rfl⟩) hS hA hP hD (fun r31 u31 H locs hw31 hP hD hS => ?_)
              obtain ⟨i31, q31, c31, d31⟩ := u31
              have hw31 : (0 ≤ r31.toInt ∧ r31.toInt ≤ 300) ∧ mInv i31 c31 ∧ (∀ k, k ∉ ([57] : List Nat) → i31 k = (upd i10 50 1) k) ∧ (∀ k, k ∉ ([56] : List Nat) → c31 k = (updA c10 54 (0 : Int32).toNatClampNeg (-9)) k) := hw31
              obtain ⟨hw31, hI, hei31, hec31⟩ := hw31
              have hfi : ∀ k, k ∉ ([50, 57, 58, 59] : List Nat) → i31 k = i k := fr_z hfi hei31 (by decide) (by decide)
              have hfc : ∀ k, k ∉ ([45, 46, 47, 48, 49, 51, 52, 53, 54, 56] : List Nat) → c31 k = c k := fr_z hfc hec31 (by decide) (by decide)
              have hP : va_P D vwCl (mW o a t i31 q31 c31 d31) H := hP
              have hD : va_D A (mW o a t i31 q31 c31 d31) := hD
              have hs_C : Cc (c 3) (c 6) (c31 47) (c31 48) (c31 49) (i 5).toInt := by rw [show c31 47 = (updA c10 54 (0 : Int32).toNatClampNeg (-9)) 47 from hec31 47 (by decide), show c31 48 = (updA c10 54 (0 : Int32).toNatClampNeg (-9)) 48 from hec31 48 (by decide), show c31 49 = (updA c10 54 (0 : Int32).toNatClampNeg (-9)) 49 from hec31 49 (by decide)]; exact hs_C
              have hs_Q : SQ (c 3) (c 6) (c31 51) (c31 52) (i 5).toInt (i 22).toInt ((i31 50) : Int32).toInt := by rw [show c31 51 = (updA c10 54 (0 : Int32).toNatClampNeg (-9)) 51 from hec31 51 (by decide), show c31 52 = (updA c10 54 (0 : Int32).toNatClampNeg (-9)) 52 from hec31 52 (by decide), show i31 50 = (upd i10 50 1) 50 from hei31 50 (by decide)]; exact hs_Q
              refine lv_istore (lv' := [(4, .int r31), (0, .ref o), (1, .int w1), (2, .int w2), (3, .int n1)]) hx hb dX12_seek_117 hl (by decide) rfl (fun ls hl => ?_)
              exact jn12 i31 q31 c31 d31 r31  hI (fr_w hfi (by decide)) (fr_w hfc (by decide)) hs_C hs_Q (show r31.toInt = -9 ∨ (0 ≤ r31.toInt ∧ r31.toInt ≤ 300) from by omega) (show 1 ≤ ((i31 50) : Int32).toInt from by omega) _ _ _ hP hD hS (lv_sub hl [1, 2, 3, 4, 0] rfl)
        · have f7 := (ti_eq (a := (i 22).toInt) (b := (-9)) rfl (by decide)).mp c7
          refine lv_bipush (v := (-5)) hx hb dX12_seek_39 (by decide) ?_
          exact rw_iret (i, q, c, d) hx hb hr hlocks hS (hK.sub (tys' := []) [] rfl) hP hD dX12_seek_41 ⟨trivial, hI, fr_w hfi (by decide), fr_w hfc (by decide), (show SJ (c 3) (c 6) (c 9) (c 10) (c 11) (c 13) ((i 2) : Int32).toInt ((i 5) : Int32).toInt ((i 8) : Int32).toInt from hs_S), (show TJ (c 3) (c 6) (c 23) (c 24) (c 29) (c 30) ((i 5) : Int32).toInt ((i 22) : Int32).toInt ((i 27) : Int32).toInt from hs_J)⟩
      · have f6 := fl_f hw5 c6
        refine lv_iconst (v := (-1)) hx hb dX12_seek_28 (by decide) ?_
        exact rw_iret (i, q, c, d) hx hb hr hlocks hS (hK.sub (tys' := []) [] rfl) hP hD dX12_seek_29 ⟨trivial, hI, fr_w hfi (by decide), fr_w hfc (by decide), (show SJ (c 3) (c 6) (c 9) (c 10) (c 11) (c 13) ((i 2) : Int32).toInt ((i 5) : Int32).toInt ((i 8) : Int32).toInt from hs_S), (show TJ (c 3) (c 6) (c 23) (c 24) (c 29) (c 30) ((i 5) : Int32).toInt ((i 22) : Int32).toInt ((i 27) : Int32).toInt from hs_J)⟩

def wm_X12_begin : List Cond := .code yX12_begin cX12_begin 5 (some .int) :: (([.methodLink RX12 180 yX12_isObject, .instanceMethod yX12_isObject, .selects RX12 yX12_isObject yX12_isObject, .initialized RX12, .code yX12_isObject cX12_isObject 2 (some .boolean), .fieldLink RX12 177 "TalePlayModel" "objects" "I", .methodLink RX12 166 yX12_in, .static yX12_in, .code yX12_in cX12_in 6 (some .boolean), .methodLink RX12 184 yX12_isOf, .instanceMethod yX12_isOf, .selects RX12 yX12_isOf yX12_isOf, .code yX12_isOf cX12_isOf 4 (some .boolean), .fieldLink RX12 19 "TalePlayModel" "kindOf" "[I", .fieldLink RX12 13 "TalePlayModel" "parentOf" "[I", .fieldLink RX12 155 "TalePlayModel" "player" "I", .fieldLink RX12 291 "TalePlayModel" "turns" "I", .methodLink RX12 208 yX12_placing, .instanceMethod yX12_placing, .selects RX12 yX12_placing yX12_placing, .code yX12_placing cX12_placing 3 (some .int), .fieldLink RX12 202 "TalePlayModel" "sentences" "I", .fieldLink RX12 37 "TalePlayModel" "isSaid" "[Z", .fieldLink RX12 25 "TalePlayModel" "form" "[I", .fieldLink RX12 28 "TalePlayModel" "left" "[I", .fieldLink RX12 50 "TalePlayModel" "nForm" "[I", .fieldLink RX12 53 "TalePlayModel" "nAt" "[I", .fieldLink RX12 56 "TalePlayModel" "nOpen" "[Z", .methodLink RX12 191 yX12_isShutter, .instanceMethod yX12_isShutter, .selects RX12 yX12_isShutter yX12_isShutter, .code yX12_isShutter cX12_isShutter 2 (some .boolean), .fieldLink RX12 59 "TalePlayModel" "nLocked" "[Z", .methodLink RX12 256 yX12_saidFlag, .instanceMethod yX12_saidFlag, .selects RX12 yX12_saidFlag yX12_saidFlag, .code yX12_saidFlag cX12_saidFlag 4 (some .int), .methodLink RX12 216 yX12_saidSo, .instanceMethod yX12_saidSo, .selects RX12 yX12_saidSo yX12_saidSo, .code yX12_saidSo cX12_saidSo 6 (some .int), .fieldLink RX12 31 "TalePlayModel" "middle" "[I", .fieldLink RX12 34 "TalePlayModel" "right" "[I", .fieldLink RX12 16 "TalePlayModel" "defaults" "[I", .methodLink RX12 233 yX12_meets, .instanceMethod yX12_meets, .selects RX12 yX12_meets yX12_meets, .code yX12_meets cX12_meets 2 (some .int), .fieldLink RX12 161 "TalePlayModel" "latest" "I", .fieldLink RX12 7 "TalePlayModel" "came" "[I"] : List Cond) ++ wsX120)
set_option maxRecDepth 20000 in
theorem gm_X12_begin_X12_isObject : GoodIn wm_X12_begin (wsV RX12 180 RX12 yX12_isObject wm_X12_isObject) := goodIn_app (goodIn_of _ (by decide +kernel)) (goodIn_r _ [5, 6, 7, 8, 4, 9, 51, 52, 53, 54, 55, 56, 57, 58, 59, 60, 61, 62, 63, 64, 65, 66, 67, 68, 69, 70, 71, 72, 73, 74, 75, 76, 77, 78, 79, 80, 81, 82, 83, 84, 85, 86, 87, 88, 89, 90, 91, 92, 93, 94, 95, 96, 97, 98, 99, 100, 101, 102, 103, 104, 105, 106, 107, 108, 109, 110, 111, 112, 113, 114, 115, 116, 117, 118, 119] (by decide +kernel) (by decide +kernel))
set_option maxRecDepth 20000 in
theorem gm_X12_begin_X12_isOf : GoodIn wm_X12_begin (wsV RX12 184 RX12 yX12_isOf wm_X12_isOf) := goodIn_app (goodIn_of _ (by decide +kernel)) (goodIn_r _ [13, 14, 15, 51, 52, 53, 54, 55, 56, 57, 58, 59, 60, 61, 62, 63, 64, 65, 66, 67, 68, 69, 70, 71, 72, 73, 74, 75, 76, 77, 78, 79, 80, 81, 82, 83, 84, 85, 86, 87, 88, 89, 90, 91, 92, 93, 94, 95, 96, 97, 98, 99, 100, 101, 102, 103, 104, 105, 106, 107, 108, 109, 110, 111, 112, 113, 114, 115, 116, 117, 118, 119] (by decide +kernel) (by decide +kernel))
set_option maxRecDepth 20000 in
theorem gm_X12_begin_X12_placing : GoodIn wm_X12_begin (wsV RX12 208 RX12 yX12_placing wm_X12_placing) := goodIn_app (goodIn_of _ (by decide +kernel)) (goodIn_r _ [21, 22, 23, 24, 25, 51, 52, 53, 54, 55, 56, 57, 58, 59, 60, 61, 62, 63, 64, 65, 66, 67, 68, 69, 70, 71, 72, 73, 74, 75, 76, 77, 78, 79, 80, 81, 82, 83, 84, 85, 86, 87, 88, 89, 90, 91, 92, 93, 94, 95, 96, 97, 98, 99, 100, 101, 102, 103, 104, 105, 106, 107, 108, 109, 110, 111, 112, 113, 114, 115, 116, 117, 118, 119] (by decide +kernel) (by decide +kernel))
set_option maxRecDepth 20000 in
theorem gm_X12_begin_X12_isShutter : GoodIn wm_X12_begin (wsV RX12 191 RX12 yX12_isShutter wm_X12_isShutter) := goodIn_app (goodIn_of _ (by decide +kernel)) (goodIn_r _ [32, 10, 11, 12, 4, 13, 14, 15, 51, 52, 53, 54, 55, 56, 57, 58, 59, 60, 61, 62, 63, 64, 65, 66, 67, 68, 69, 70, 71, 72, 73, 74, 75, 76, 77, 78, 79, 80, 81, 82, 83, 84, 85, 86, 87, 88, 89, 90, 91, 92, 93, 94, 95, 96, 97, 98, 99, 100, 101, 102, 103, 104, 105, 106, 107, 108, 109, 110, 111, 112, 113, 114, 115, 116, 117, 118, 119] (by decide +kernel) (by decide +kernel))
set_option maxRecDepth 20000 in
theorem gm_X12_begin_X12_saidFlag : GoodIn wm_X12_begin (wsV RX12 256 RX12 yX12_saidFlag wm_X12_saidFlag) := goodIn_app (goodIn_of _ (by decide +kernel)) (goodIn_r _ [37, 38, 39, 40, 4, 41, 22, 23, 24, 25, 42, 43, 14, 10, 11, 12, 13, 15, 44, 51, 52, 53, 54, 55, 56, 57, 58, 59, 60, 61, 62, 63, 64, 65, 66, 67, 68, 69, 70, 71, 72, 73, 74, 75, 76, 77, 78, 79, 80, 81, 82, 83, 84, 85, 86, 87, 88, 89, 90, 91, 92, 93, 94, 95, 96, 97, 98, 99, 100, 101, 102, 103, 104, 105, 106, 107, 108, 109, 110, 111, 112, 113, 114, 115, 116, 117, 118, 119] (by decide +kernel) (by decide +kernel))
set_option maxRecDepth 20000 in
theorem gm_X12_begin_X12_meets : GoodIn wm_X12_begin (wsV RX12 233 RX12 yX12_meets wm_X12_meets) := goodIn_app (goodIn_of _ (by decide +kernel)) (goodIn_r _ [48, 49, 50, 51, 52, 53, 54, 55, 56, 57, 58, 59, 60, 61, 62, 63, 64, 65, 66, 67, 68, 69, 70, 71, 72, 73, 74, 75, 76, 77, 78, 79, 80, 81, 82, 83, 84, 85, 86, 87, 88, 89, 90, 91, 92, 93, 94, 95, 96, 97, 98, 99, 100, 101, 102, 103, 104, 105, 106, 107, 108, 109, 110, 111, 112, 113, 114, 115, 116, 117, 118, 119] (by decide +kernel) (by decide +kernel))
set_option maxHeartbeats 4000000 in
set_option maxRecDepth 100000 in
theorem s_X12_begin (l : Launch) (D : va_G) (sz : Nat) (o : Nat) (a : Nat → Nat) (t : Nat → ClassId) (i : Nat → Int32) (q : Int64) (c : Nat → Nat → Int32) (d : Nat → Nat → Int64) (w : Int32) (hI : mInv i c) (hs_S : SJ (c 3) (c 6) (c 9) (c 10) (c 11) (c 13) (i 2).toInt (i 5).toInt (i 8).toInt) (hs_J : TJ (c 3) (c 6) (c 23) (c 24) (c 29) (c 30) (i 5).toInt (i 22).toInt (i 27).toInt) : Met l yX12_begin wm_X12_begin ({ frames := 2, cells := 0, slots := 0, locals := 48 }) (va_Pc [.ref o, .int w] (pB D sz (mW o a t i q c d) (mT t))) (va_Qi (fun (r : Int32) (u : MS) => True ∧ mInv u.1 u.2.2.1 ∧ (∀ k, k ∉ ([0, 22, 27] : List Nat) → u.1 k = i k) ∧ (∀ k, k ∉ ([1, 23, 24, 25, 26] : List Nat) → u.2.2.1 k = c k) ∧ (SJ (u.2.2.1 3) (u.2.2.1 6) (u.2.2.1 9) (u.2.2.1 10) (u.2.2.1 11) (u.2.2.1 13) (u.1 2).toInt (u.1 5).toInt (u.1 8).toInt) ∧ (TJ (u.2.2.1 3) (u.2.2.1 6) (u.2.2.1 23) (u.2.2.1 24) (u.2.2.1 29) (u.2.2.1 30) (u.1 5).toInt (u.1 22).toInt (u.1 27).toInt)) (oC D (va_A (mW o a t i q c d) sz) (fun u : MS => mW o a t u.1 u.2.1 u.2.2.1 u.2.2.2) (fun _ => [])) (va_A (mW o a t i q c d) sz)) 0 0 (va_A (mW o a t i q c d) sz) := by
  refine Met.ofW (cc := cX12_begin) (maxL := 5) (ret := (some .int)) (by decide) rfl ?_
  intro p e s m args below meth cd s₁ B hml hv
  obtain ⟨rfl, hsz, hP, hK, hD0⟩ := hv
  have hx := B.exec
  have hb := B.bytes
  have hr := B.returns
  have hts := atoms_spec (ws := wm_X12_begin) B.pre
  have hown : s.vm.findClass RX12 = some m.cls := findClass_of_methodNamed B.named
  have hlocks := B.notSynchronized
  subst hsz
  have hD := hD0.self (sz := s.heap.size)
  generalize hAe : va_A (mW o a t i q c d) s.heap.size = A at hD ⊢
  have hA : ∀ q : Nat, s.heap.size ≤ q → A q := fun q h => by rw [← hAe]; exact Or.inr h
  have hS : va_S A s.heap s.heap [] := va_S.rf
  have hfi : ∀ k, k ∉ ([] : List Nat) → i k = i k := fun _ _ => rfl
  have hfc : ∀ k, k ∉ ([] : List Nat) → c k = c k := fun _ _ => rfl
  have hl := lv_entry ([.ref o, .int w]) (n := 5) (Nat.le_of_ble_eq_true rfl)
  rw [lg_entry_eq]
  generalize (lg_sl ([.ref o, .int w]) ++ List.replicate (5 - (lg_sl ([.ref o, .int w])).length) Slot.unset).toArray = ls at hl ⊢
  have hl : lv_has ls 5 [(0, .ref o), (1, .int w)] := hl
  have rb5_i : 0 ≤ (i 5).toInt ∧ (i 5).toInt ≤ 30 := hI.1 5
  have rb8_i : 0 ≤ (i 8).toInt ∧ (i 8).toInt ≤ 200 := hI.1 8
  have hI0 := hI
  obtain ⟨rk, hrk⟩ := hs_S.2.2.2
  refine lv_aload_n hx hb dX12_begin_0 rfl (lv_at hl 0 rfl) ?_
  refine lv_iload_n hx hb dX12_begin_1 rfl (lv_at hl 1 rfl) ?_
  refine ro_calli (va_runV (As := [.int w]) (rest := []) ⟨hx, hb, hml, hown, hts⟩ (s_X12_isObject l D s.heap.size o a t i q c d w hI ) (cwV 1 hts gm_X12_begin_X12_isObject rfl rfl rfl (by decide +kernel) ⟨Nat.le_of_ble_eq_true rfl, Nat.le_of_ble_eq_true rfl⟩) (pA_V hK hP (ci := 12) (q0 := 0) rfl rfl) rfl rfl hl.1 rfl (lv_room (Nat.le_of_ble_eq_true rfl)) dX12_begin_2 ⟨Nat.le_of_ble_eq_true rfl, Nat.le_of_ble_eq_true rfl⟩) hS hA hP (fun r1 u1 H locs hw1 hP hS => ?_)
  have hw1 : r1 = if (0 ≤ w.toInt ∧ w.toInt ≤ (i 5).toInt - 1) then 1 else 0 := hw1
  refine lv_if_ne (tgt := 10) hx hb dX12_begin_5 (by decide) (fun c2 => ?_) (fun c2 => ?_)
  · have f2 := fl_t hw1 c2
    refine lv_aload_n hx hb dX12_begin_10 rfl (lv_at hl 0 rfl) ?_
    refine lv_iload_n hx hb dX12_begin_11 rfl (lv_at hl 1 rfl) ?_
    refine lv_iconst (v := 5) hx hb dX12_begin_12 (by decide) ?_
    refine ro_calli (va_runV (As := [.int w, .int 5]) (rest := []) ⟨hx, hb, hml, hown, hts⟩ (s_X12_isOf l D H.size o a t i q c d w 5 hI (show 0 ≤ w.toInt ∧ w.toInt ≤ 29 from by have h91 : (5 : Int32).toInt = 5 := (by decide); omega) (show 0 ≤ 5 from by have h91 : (5 : Int32).toInt = 5 := (by decide); omega)) (cwV 2 hts gm_X12_begin_X12_isOf rfl rfl rfl (by decide +kernel) ⟨Nat.le_of_ble_eq_true rfl, Nat.le_of_ble_eq_true rfl⟩) (pA_V hK hP (ci := 12) (q0 := 0) rfl rfl) rfl rfl hl.1 rfl (lv_room (Nat.le_of_ble_eq_true rfl)) dX12_begin_13 ⟨Nat.le_of_ble_eq_true rfl, Nat.le_of_ble_eq_true rfl⟩) hS hA hP (fun r3 u3 H locs hw3 hP hS => ?_)
    have hw3 : ((0 ≤ r3.toInt ∧ r3.toInt ≤ 1) ∧ (Sm r3 (Kd (c 3) (c 6) w.toInt 5))) := hw3
    obtain ⟨hw3, hr3_0⟩ := hw3
    have hr3_0 : Sm r3 (Kd (c 3) (c 6) w.toInt 5) := hr3_0
    refine lv_if_ne (tgt := 25) hx hb dX12_begin_16 (by decide) (fun c4 => ?_) (fun c4 => ?_)
    · have f4 := mt (ti_eq (a := r3.toInt) (b := 0) rfl (by decide)).mpr c4
      have s4 := sm_t hr3_0 c4
      have hP5 := s4
      refine lv_iload_n hx hb dX12_begin_25 rfl (lv_at hl 1 rfl) ?_
      refine lv_istore_n (lv' := [(2, .int w), (0, .ref o), (1, .int w)]) hx hb dX12_begin_26 rfl hl (by decide) rfl (fun ls hl => ?_)
      have lp5 : ∀ (fu : Nat) (y5_2 : Int32), (y5_2.toInt = -9 ∨ (0 ≤ y5_2.toInt ∧ y5_2.toInt ≤ 29)) → (∀ t, Ch (fP (c 9) (c 10) (c 11) (c 13) (i 8).toInt) y5_2.toInt t → Ch (fP (c 9) (c 10) (c 11) (c 13) (i 8).toInt) w.toInt t) → (y5_2.toInt = -9 ∨ (0 ≤ y5_2.toInt ∧ y5_2.toInt < (i 5).toInt)) → (if y5_2.toInt = -9 then 0 else rk y5_2.toInt + 1) < fu → ∀ (H : Heap) (locs : List Loc) (ls : Array Slot), va_P D vwCl (mW o a t i q c d) H → va_D A (mW o a t i q c d) → va_S A s.heap H locs → lv_has ls 5 [(2, .int y5_2), (0, .ref o), (1, .int w)] → W p l e (headSpec wm_X12_begin ({ frames := 2, cells := 0, slots := 0, locals := 48 })).room s m ([.ref o, .int w] : List Value).toArray below meth cd H locs 0 0 (MQ below (va_Qi (fun (r : Int32) (u : MS) => True ∧ mInv u.1 u.2.2.1 ∧ (∀ k, k ∉ ([0, 22, 27] : List Nat) → u.1 k = i k) ∧ (∀ k, k ∉ ([1, 23, 24, 25, 26] : List Nat) → u.2.2.1 k = c k) ∧ (SJ (u.2.2.1 3) (u.2.2.1 6) (u.2.2.1 9) (u.2.2.1 10) (u.2.2.1 11) (u.2.2.1 13) (u.1 2).toInt (u.1 5).toInt (u.1 8).toInt) ∧ (TJ (u.2.2.1 3) (u.2.2.1 6) (u.2.2.1 23) (u.2.2.1 24) (u.2.2.1 29) (u.2.2.1 30) (u.1 5).toInt (u.1 22).toInt (u.1 27).toInt)) (oC D A (fun u : MS => mW o a t u.1 u.2.1 u.2.2.1 u.2.2.2) (fun _ => [])) A) ([.ref o, .int w] : List Value).toArray s 0 0 A) (F0 m 27 ls []) := by
        intro fu
        induction fu with
        | zero => intro y5_2 hy5_2 hz5_0 hz5_1 hm; exact absurd hm (Nat.not_lt_zero _)
        | succ fu ih =>
          intro y5_2 hy5_2 hz5_0 hz5_1 hm H locs ls hP hD hS hl
          have ih5 := ih
          have hm5 := hm
          refine lv_iload_n hx hb dX12_begin_27 rfl (lv_at hl 0 rfl) ?_
          refine lv_bipush (v := (-9)) hx hb dX12_begin_28 (by decide) ?_
          have jn6 : (y5_2.toInt = -9 ∨ Kd (c 3) (c 6) y5_2.toInt 0) → ∀ (H : Heap) (locs : List Loc) (ls : Array Slot), va_P D vwCl (mW o a t i q c d) H → va_D A (mW o a t i q c d) → va_S A s.heap H locs → lv_has ls 5 [(2, .int y5_2), (0, .ref o), (1, .int w)] → W p l e (headSpec wm_X12_begin ({ frames := 2, cells := 0, slots := 0, locals := 48 })).room s m ([.ref o, .int w] : List Value).toArray below meth cd H locs 0 0 (MQ below (va_Qi (fun (r : Int32) (u : MS) => True ∧ mInv u.1 u.2.2.1 ∧ (∀ k, k ∉ ([0, 22, 27] : List Nat) → u.1 k = i k) ∧ (∀ k, k ∉ ([1, 23, 24, 25, 26] : List Nat) → u.2.2.1 k = c k) ∧ (SJ (u.2.2.1 3) (u.2.2.1 6) (u.2.2.1 9) (u.2.2.1 10) (u.2.2.1 11) (u.2.2.1 13) (u.1 2).toInt (u.1 5).toInt (u.1 8).toInt) ∧ (TJ (u.2.2.1 3) (u.2.2.1 6) (u.2.2.1 23) (u.2.2.1 24) (u.2.2.1 29) (u.2.2.1 30) (u.1 5).toInt (u.1 22).toInt (u.1 27).toInt)) (oC D A (fun u : MS => mW o a t u.1 u.2.1 u.2.2.1 u.2.2.2) (fun _ => [])) A) ([.ref o, .int w] : List Value).toArray s 0 0 A) (F0 m 71 ls []) := by
            intro hz6_0 H locs ls hP hD hS hl
            refine lv_iload_n hx hb dX12_begin_71 rfl (lv_at hl 0 rfl) ?_
            refine lv_bipush (v := (-9)) hx hb dX12_begin_72 (by decide) ?_
            refine lv_icmp_ne (tgt := 83) hx hb dX12_begin_74 (by decide) (fun c7 => ?_) (fun c7 => ?_)
            · have f7 := mt (ti_eq (a := y5_2.toInt) (b := (-9)) rfl (by decide)).mpr c7
              have hRoom := hz6_0.resolve_left (by omega)
              have hfo0 : ∀ s, 0 ≤ (c 9 s).toInt := fun s => by have h9 : 0 ≤ (c 9 s).toInt ∧ (c 9 s).toInt ≤ 7 := hI0.2 9 s; exact h9.1
              refine lv_iconst (v := 0) hx hb dX12_begin_83 (by decide) ?_
              refine lv_istore_n (lv' := [(3, .int 0), (2, .int y5_2), (0, .ref o), (1, .int w)]) hx hb dX12_begin_84 rfl hl (by decide) rfl (fun ls hl => ?_)
              have lp8 : ∀ (fu : Nat) (i8 : Nat → Int32) (q8 : Int64) (c8 : Nat → Nat → Int32) (d8 : Nat → Nat → Int64) (y8_3 : Int32), mInv i8 c8 → (∀ k, k ∉ ([] : List Nat) → i8 k = i k) → (∀ k, k ∉ ([23, 24, 25, 26] : List Nat) → c8 k = c k) → (0 ≤ y8_3.toInt ∧ y8_3.toInt ≤ 30 ∧ y8_3.toInt ≤ (i 5).toInt) → (BG (c 9) (c 10) (c 11) (c 13) (c8 23) (c8 24) (i 8).toInt y8_3.toInt) → (30 - y8_3.toInt).toNat < fu → ∀ (H : Heap) (locs : List Loc) (ls : Array Slot), va_P D vwCl (mW o a t i8 q8 c8 d8) H → va_D A (mW o a t i8 q8 c8 d8) → va_S A s.heap H locs → lv_has ls 5 [(3, .int y8_3), (2, .int y5_2), (0, .ref o), (1, .int w)] → W p l e (headSpec wm_X12_begin ({ frames := 2, cells := 0, slots := 0, locals := 48 })).room s m ([.ref o, .int w] : List Value).toArray below meth cd H locs 0 0 (MQ below (va_Qi (fun (r : Int32) (u : MS) => True ∧ mInv u.1 u.2.2.1 ∧ (∀ k, k ∉ ([0, 22, 27] : List Nat) → u.1 k = i k) ∧ (∀ k, k ∉ ([1, 23, 24, 25, 26] : List Nat) → u.2.2.1 k = c k) ∧ (SJ (u.2.2.1 3) (u.2.2.1 6) (u.2.2.1 9) (u.2.2.1 10) (u.2.2.1 11) (u.2.2.1 13) (u.1 2).toInt (u.1 5).toInt (u.1 8).toInt) ∧ (TJ (u.2.2.1 3) (u.2.2.1 6) (u.2.2.1 23) (u.2.2.1 24) (u.2.2.1 29) (u.2.2.1 30) (u.1 5).toInt (u.1 22).toInt (u.1 27).toInt)) (oC D A (fun u : MS => mW o a t u.1 u.2.1 u.2.2.1 u.2.2.2) (fun _ => [])) A) ([.ref o, .int w] : List Value).toArray s 0 0 A) (F0 m 85 ls []) := by
                intro fu
                induction fu with
                | zero => intro i8 q8 c8 d8 y8_3 hI hfi hfc hy8_3 hz8_0 hm; exact absurd hm (Nat.not_lt_zero _)
                | succ fu ih =>
                  intro i8 q8 c8 d8 y8_3 hI hfi hfc hy8_3 hz8_0 hm H locs ls hP hD hS hl
                  have ih8 := ih
                  refine lv_iload_n hx hb dX12_begin_85 rfl (lv_at hl 0 rfl) ?_
                  refine lv_aload_n hx hb dX12_begin_86 rfl (lv_at hl 2 rfl) ?_
                  refine mget_5 (v := (i8 5)) rfl hx hb hts (fun _ h => List.mem_cons_of_mem _ (List.mem_append_right _ h)) hown hK hP (hts (.fieldLink RX12 177 "TalePlayModel" "objects" "I") (by decide +kernel)) dX12_begin_87 ?_
                  have rb5_i8 : 0 ≤ (i8 5).toInt ∧ (i8 5).toInt ≤ 30 := hI.1 5
                  have re5_i8 : (i8 5).toInt = (i 5).toInt := congrArg Int32.toInt (hfi 5 (by decide))
                  refine lv_icmp_ge (tgt := 214) hx hb dX12_begin_90 (by decide) (fun c9 => ?_) (fun c9 => ?_)
                  · have f9 := (ti_le (a := (i8 5).toInt) (b := y8_3.toInt) rfl rfl).mp c9
                    refine lv_aload_n hx hb dX12_begin_214 rfl (lv_at hl 2 rfl) ?_
                    refine lv_iload_n hx hb dX12_begin_215 rfl (lv_at hl 3 rfl) ?_
                    refine mput_22 hx hb hts (fun _ h => List.mem_cons_of_mem _ (List.mem_append_right _ h)) hown hK hP hD hS (hts (.fieldLink RX12 155 "TalePlayModel" "player" "I") (by decide +kernel)) rfl rfl dX12_begin_216 (fun H locs hP hD hS => ?_)
                    have hI := mInv_i hI (k := 22) (v := w) (show (w : Int32).toInt = -9 ∨ (0 ≤ (w : Int32).toInt ∧ (w : Int32).toInt ≤ 29) from by omega)
                    have hfi : ∀ k, k ∉ ([22] : List Nat) → (upd i8 22 w) k = i k := fr_iz hfi (by decide) (by decide)
                    refine lv_aload_n hx hb dX12_begin_219 rfl (lv_at hl 2 rfl) ?_
                    refine lv_iconst (v := 0) hx hb dX12_begin_220 (by decide) ?_
                    refine mput_27 hx hb hts (fun _ h => List.mem_cons_of_mem _ (List.mem_append_right _ h)) hown hK hP hD hS (hts (.fieldLink RX12 291 "TalePlayModel" "turns" "I") (by decide +kernel)) rfl rfl dX12_begin_221 (fun H locs hP hD hS => ?_)
                    have hI := mInv_i hI (k := 27) (v := 0) (show 0 ≤ (0 : Int32).toInt ∧ (0 : Int32).toInt ≤ 100 from by have h9 : (0 : Int32).toInt = 0 := (by decide); omega)
                    have hfi : ∀ k, k ∉ ([22, 27] : List Nat) → (upd (upd i8 22 w) 27 0) k = i k := fr_iz hfi (by decide) (by decide)
                    refine lv_iload_n hx hb dX12_begin_224 rfl (lv_at hl 1 rfl) ?_
                    exact rw_iret ((upd (upd i8 22 w) 27 0), q8, c8, d8) hx hb hr hlocks hS (hK.sub (tys' := []) [] rfl) hP hD dX12_begin_225 ⟨trivial, hI, fr_w hfi (by decide), fr_w hfc (by decide), (show SJ (c8 3) (c8 6) (c8 9) (c8 10) (c8 11) (c8 13) ((i8 2) : Int32).toInt ((i8 5) : Int32).toInt ((i8 8) : Int32).toInt from by rw [show c8 3 = c 3 from hfc 3 (by decide), show c8 6 = c 6 from hfc 6 (by decide), show c8 9 = c 9 from hfc 9 (by decide), show c8 10 = c 10 from hfc 10 (by decide), show c8 11 = c 11 from hfc 11 (by decide), show c8 13 = c 13 from hfc 13 (by decide), show i8 2 = i 2 from hfi 2 (by decide), show i8 5 = i 5 from hfi 5 (by decide), show i8 8 = i 8 from hfi 8 (by decide)]; exact hs_S), (show TJ (c8 3) (c8 6) (c8 23) (c8 24) (c8 29) (c8 30) ((i8 5) : Int32).toInt (w : Int32).toInt (0 : Int32).toInt from by rw [show c8 3 = c 3 from hfc 3 (by decide), show c8 6 = c 6 from hfc 6 (by decide), show i8 5 = i 5 from hfi 5 (by decide)]; exact fun q9 => ⟨hP5, TI_begin (K6_of hI0) hs_S (by omega) hfo0 (fun s => (mI_mi hI0 s).1) (by rw [show (i 5).toInt = y8_3.toInt by omega]; exact hz8_0) (by omega) hP5 (by omega) hRoom (hz5_0 _ Ch_rf), fun t9 h9 => by have h8 : (0 : Int32).toInt = 0 := (by decide); omega⟩)⟩
                  · have f9 := mt (ti_le (a := (i8 5).toInt) (b := y8_3.toInt) rfl rfl).mpr c9
                    refine lv_aload_n hx hb dX12_begin_93 rfl (lv_at hl 2 rfl) ?_
                    refine lv_iload_n hx hb dX12_begin_94 rfl (lv_at hl 0 rfl) ?_
                    have rb8_i8 : 0 ≤ (i8 8).toInt ∧ (i8 8).toInt ≤ 200 := hI.1 8
                    have re8_i8 : (i8 8).toInt = (i 8).toInt := congrArg Int32.toInt (hfi 8 (by decide))
                    refine ro_calli (va_runV (As := [.int y8_3]) (rest := []) ⟨hx, hb, hml, hown, hts⟩ (s_X12_placing l D H.size o a t i8 q8 c8 d8 y8_3 hI ) (cwV 1 hts gm_X12_begin_X12_placing rfl rfl rfl (by decide +kernel) ⟨Nat.le_of_ble_eq_true rfl, Nat.le_of_ble_eq_true rfl⟩) (pA_V hK hP (ci := 12) (q0 := 0) rfl rfl) rfl rfl hl.1 rfl (lv_room (Nat.le_of_ble_eq_true rfl)) dX12_begin_95 ⟨Nat.le_of_ble_eq_true rfl, Nat.le_of_ble_eq_true rfl⟩) hS hA hP (fun r10 u10 H locs hw10 hP hS => ?_)
                    have hw10 : ((r10.toInt = -9 ∨ (0 ≤ r10.toInt ∧ r10.toInt ≤ 199)) ∧ (r10.toInt = pL (c8 9) (c8 10) (c8 13) (i8 8).toInt y8_3.toInt)) := hw10
                    obtain ⟨hw10, hr10_0⟩ := hw10
                    have hr10_0 : r10.toInt = pL (c 9) (c 10) (c 13) (i 8).toInt y8_3.toInt := by have h9 := hr10_0; rw [show c8 9 = c 9 from hfc 9 (by decide), show c8 10 = c 10 from hfc 10 (by decide), show c8 13 = c 13 from hfc 13 (by decide), show i8 8 = i 8 from hfi 8 (by decide)] at h9; exact h9
                    refine lv_istore (lv' := [(4, .int r10), (3, .int y8_3), (2, .int y5_2), (0, .ref o), (1, .int w)]) hx hb dX12_begin_98 hl (by decide) rfl (fun ls hl => ?_)
                    refine lv_aload_n hx hb dX12_begin_100 rfl (lv_at hl 3 rfl) ?_
                    refine mget_23 hx hb hts (fun _ h => List.mem_cons_of_mem _ (List.mem_append_right _ h)) hown hK hP (hts (.fieldLink RX12 50 "TalePlayModel" "nForm" "[I") (by decide +kernel)) dX12_begin_101 ?_
                    refine lv_iload_n hx hb dX12_begin_104 rfl (lv_at hl 1 rfl) ?_
                    refine lv_iload hx hb dX12_begin_105 (lv_at hl 0 rfl) ?_
                    refine lv_bipush (v := (-9)) hx hb dX12_begin_107 (by decide) ?_
                    have jn11 : ∀ (z11_0 : Int32), (z11_0.toInt = -9 ∨ (0 ≤ z11_0.toInt ∧ z11_0.toInt ≤ 4)) → ((pL (c 9) (c 10) (c 13) (i 8).toInt y8_3.toInt = -9 ∧ z11_0.toInt = -9) ∨ (¬ pL (c 9) (c 10) (c 13) (i 8).toInt y8_3.toInt = -9 ∧ z11_0.toInt = (c 9 (pL (c 9) (c 10) (c 13) (i 8).toInt y8_3.toInt).toNat).toInt)) → ∀ (H : Heap) (locs : List Loc) (ls : Array Slot), va_P D vwCl (mW o a t i8 q8 c8 d8) H → va_D A (mW o a t i8 q8 c8 d8) → va_S A s.heap H locs → lv_has ls 5 [(4, .int r10), (3, .int y8_3), (2, .int y5_2), (0, .ref o), (1, .int w)] → W p l e (headSpec wm_X12_begin ({ frames := 2, cells := 0, slots := 0, locals := 48 })).room s m ([.ref o, .int w] : List Value).toArray below meth cd H locs 0 0 (MQ below (va_Qi (fun (r : Int32) (u : MS) => True ∧ mInv u.1 u.2.2.1 ∧ (∀ k, k ∉ ([0, 22, 27] : List Nat) → u.1 k = i k) ∧ (∀ k, k ∉ ([1, 23, 24, 25, 26] : List Nat) → u.2.2.1 k = c k) ∧ (SJ (u.2.2.1 3) (u.2.2.1 6) (u.2.2.1 9) (u.2.2.1 10) (u.2.2.1 11) (u.2.2.1 13) (u.1 2).toInt (u.1 5).toInt (u.1 8).toInt) ∧ (TJ (u.2.2.1 3) (u.2.2.1 6) (u.2.2.1 23) (u.2.2.1 24) (u.2.2.1 29) (u.2.2.1 30) (u.1 5).toInt (u.1 22).toInt (u.1 27).toInt)) (oC D A (fun u : MS => mW o a t u.1 u.2.1 u.2.2.1 u.2.2.2) (fun _ => [])) A) ([.ref o, .int w] : List Value).toArray s 0 0 A) (F0 m 124 ls [.int z11_0, .int y8_3, .ref (a 23)]) := by
                      intro z11_0 hs11_0 hz11_0 H locs ls hP hD hS hl
                      refine mst_23 hx hb hK hP hD hS (vp_in_iff.mpr (by have h9 : y8_3.toInt = y8_3.toInt := rfl; omega)) dX12_begin_124 (fun H locs hP hD hS => ?_)
                      have hI := mInv_c hI (k := 23) (j := (y8_3 : Int32).toNatClampNeg) (x := z11_0) (show (z11_0 : Int32).toInt = -9 ∨ (0 ≤ (z11_0 : Int32).toInt ∧ (z11_0 : Int32).toInt ≤ 4) from by omega)
                      have hfc := fr_c hfc (k := 23) (j := (y8_3 : Int32).toNatClampNeg) (x := z11_0) (by decide)
                      refine lv_aload_n hx hb dX12_begin_125 rfl (lv_at hl 3 rfl) ?_
                      refine mget_24 hx hb hts (fun _ h => List.mem_cons_of_mem _ (List.mem_append_right _ h)) hown hK hP (hts (.fieldLink RX12 53 "TalePlayModel" "nAt" "[I") (by decide +kernel)) dX12_begin_126 ?_
                      refine lv_iload_n hx hb dX12_begin_129 rfl (lv_at hl 1 rfl) ?_
                      refine lv_iload hx hb dX12_begin_130 (lv_at hl 0 rfl) ?_
                      refine lv_bipush (v := (-9)) hx hb dX12_begin_132 (by decide) ?_
                      have jn12 : ∀ (z12_0 : Int32), (z12_0.toInt = -9 ∨ (0 ≤ z12_0.toInt ∧ z12_0.toInt ≤ 29)) → ((pL (c 9) (c 10) (c 13) (i 8).toInt y8_3.toInt = -9 ∧ z12_0.toInt = -9) ∨ (¬ pL (c 9) (c 10) (c 13) (i 8).toInt y8_3.toInt = -9 ∧ z12_0.toInt = (c 11 (pL (c 9) (c 10) (c 13) (i 8).toInt y8_3.toInt).toNat).toInt)) → ∀ (H : Heap) (locs : List Loc) (ls : Array Slot), va_P D vwCl (mW o a t i8 q8 (updA c8 23 (y8_3 : Int32).toNatClampNeg z11_0) d8) H → va_D A (mW o a t i8 q8 (updA c8 23 (y8_3 : Int32).toNatClampNeg z11_0) d8) → va_S A s.heap H locs → lv_has ls 5 [(4, .int r10), (3, .int y8_3), (2, .int y5_2), (0, .ref o), (1, .int w)] → W p l e (headSpec wm_X12_begin ({ frames := 2, cells := 0, slots := 0, locals := 48 })).room s m ([.ref o, .int w] : List Value).toArray below meth cd H locs 0 0 (MQ below (va_Qi (fun (r : Int32) (u : MS) => True ∧ mInv u.1 u.2.2.1 ∧ (∀ k, k ∉ ([0, 22, 27] : List Nat) → u.1 k = i k) ∧ (∀ k, k ∉ ([1, 23, 24, 25, 26] : List Nat) → u.2.2.1 k = c k) ∧ (SJ (u.2.2.1 3) (u.2.2.1 6) (u.2.2.1 9) (u.2.2.1 10) (u.2.2.1 11) (u.2.2.1 13) (u.1 2).toInt (u.1 5).toInt (u.1 8).toInt) ∧ (TJ (u.2.2.1 3) (u.2.2.1 6) (u.2.2.1 23) (u.2.2.1 24) (u.2.2.1 29) (u.2.2.1 30) (u.1 5).toInt (u.1 22).toInt (u.1 27).toInt)) (oC D A (fun u : MS => mW o a t u.1 u.2.1 u.2.2.1 u.2.2.2) (fun _ => [])) A) ([.ref o, .int w] : List Value).toArray s 0 0 A) (F0 m 149 ls [.int z12_0, .int y8_3, .ref (a 24)]) := by
                        intro z12_0 hs12_0 hz12_0 H locs ls hP hD hS hl
                        refine mst_24 hx hb hK hP hD hS (vp_in_iff.mpr (by have h9 : y8_3.toInt = y8_3.toInt := rfl; omega)) dX12_begin_149 (fun H locs hP hD hS => ?_)
                        have hI := mInv_c hI (k := 24) (j := (y8_3 : Int32).toNatClampNeg) (x := z12_0) (show (z12_0 : Int32).toInt = -9 ∨ (0 ≤ (z12_0 : Int32).toInt ∧ (z12_0 : Int32).toInt ≤ 29) from by omega)
                        have hfc := fr_c hfc (k := 24) (j := (y8_3 : Int32).toNatClampNeg) (x := z12_0) (by decide)
                        refine lv_aload_n hx hb dX12_begin_150 rfl (lv_at hl 3 rfl) ?_
                        refine mget_25 hx hb hts (fun _ h => List.mem_cons_of_mem _ (List.mem_append_right _ h)) hown hK hP (hts (.fieldLink RX12 56 "TalePlayModel" "nOpen" "[Z") (by decide +kernel)) dX12_begin_151 ?_
                        refine lv_iload_n hx hb dX12_begin_154 rfl (lv_at hl 1 rfl) ?_
                        refine lv_aload_n hx hb dX12_begin_155 rfl (lv_at hl 3 rfl) ?_
                        refine lv_iload_n hx hb dX12_begin_156 rfl (lv_at hl 1 rfl) ?_
                        refine ro_calli (va_runV (As := [.int y8_3]) (rest := [.int y8_3, .ref (a 25)]) ⟨hx, hb, hml, hown, hts⟩ (s_X12_isShutter l D H.size o a t i8 q8 (updA (updA c8 23 (y8_3 : Int32).toNatClampNeg z11_0) 24 (y8_3 : Int32).toNatClampNeg z12_0) d8 y8_3 hI (show 0 ≤ y8_3.toInt ∧ y8_3.toInt ≤ 29 from by omega)) (cwV 1 hts gm_X12_begin_X12_isShutter rfl rfl rfl (by decide +kernel) ⟨Nat.le_of_ble_eq_true rfl, Nat.le_of_ble_eq_true rfl⟩) (pA_V hK hP (ci := 12) (q0 := 0) rfl rfl) rfl rfl hl.1 rfl (lv_room (Nat.le_of_ble_eq_true rfl)) dX12_begin_157 ⟨Nat.le_of_ble_eq_true rfl, Nat.le_of_ble_eq_true rfl⟩) hS hA hP (fun r13 u13 H locs hw13 hP hS => ?_)
                        have hw13 : (0 ≤ r13.toInt ∧ r13.toInt ≤ 1) := hw13
                        have jn14 : ∀ (z14_0 : Int32), (z14_0.toInt = 0 ∨ z14_0.toInt = 1) → ∀ (H : Heap) (locs : List Loc) (ls : Array Slot), va_P D vwCl (mW o a t i8 q8 (updA (updA c8 23 (y8_3 : Int32).toNatClampNeg z11_0) 24 (y8_3 : Int32).toNatClampNeg z12_0) d8) H → va_D A (mW o a t i8 q8 (updA (updA c8 23 (y8_3 : Int32).toNatClampNeg z11_0) 24 (y8_3 : Int32).toNatClampNeg z12_0) d8) → va_S A s.heap H locs → lv_has ls 5 [(4, .int r10), (3, .int y8_3), (2, .int y5_2), (0, .ref o), (1, .int w)] → W p l e (headSpec wm_X12_begin ({ frames := 2, cells := 0, slots := 0, locals := 48 })).room s m ([.ref o, .int w] : List Value).toArray below meth cd H locs 0 0 (MQ below (va_Qi (fun (r : Int32) (u : MS) => True ∧ mInv u.1 u.2.2.1 ∧ (∀ k, k ∉ ([0, 22, 27] : List Nat) → u.1 k = i k) ∧ (∀ k, k ∉ ([1, 23, 24, 25, 26] : List Nat) → u.2.2.1 k = c k) ∧ (SJ (u.2.2.1 3) (u.2.2.1 6) (u.2.2.1 9) (u.2.2.1 10) (u.2.2.1 11) (u.2.2.1 13) (u.1 2).toInt (u.1 5).toInt (u.1 8).toInt) ∧ (TJ (u.2.2.1 3) (u.2.2.1 6) (u.2.2.1 23) (u.2.2.1 24) (u.2.2.1 29) (u.2.2.1 30) (u.1 5).toInt (u.1 22).toInt (u.1 27).toInt)) (oC D A (fun u : MS => mW o a t u.1 u.2.1 u.2.2.1 u.2.2.2) (fun _ => [])) A) ([.ref o, .int w] : List Value).toArray s 0 0 A) (F0 m 178 ls [.int z14_0, .int y8_3, .ref (a 25)]) := by
                          intro z14_0 hs14_0 H locs ls hP hD hS hl
                          refine mst_25 hx hb hK hP hD hS (vp_in_iff.mpr (by have h9 : y8_3.toInt = y8_3.toInt := rfl; omega)) (nb_z (show 0 ≤ (z14_0 : Int32).toInt ∧ (z14_0 : Int32).toInt ≤ 1 from by omega)) dX12_begin_178 (fun H locs hP hD hS => ?_)
                          have hI := mInv_c hI (k := 25) (j := (y8_3 : Int32).toNatClampNeg) (x := z14_0) (show 0 ≤ (z14_0 : Int32).toInt ∧ (z14_0 : Int32).toInt ≤ 1 from by omega)
                          have hfc := fr_c hfc (k := 25) (j := (y8_3 : Int32).toNatClampNeg) (x := z14_0) (by decide)
                          refine lv_aload_n hx hb dX12_begin_179 rfl (lv_at hl 3 rfl) ?_
                          refine mget_26 hx hb hts (fun _ h => List.mem_cons_of_mem _ (List.mem_append_right _ h)) hown hK hP (hts (.fieldLink RX12 59 "TalePlayModel" "nLocked" "[Z") (by decide +kernel)) dX12_begin_180 ?_
                          refine lv_iload_n hx hb dX12_begin_183 rfl (lv_at hl 1 rfl) ?_
                          refine lv_aload_n hx hb dX12_begin_184 rfl (lv_at hl 3 rfl) ?_
                          refine lv_iload_n hx hb dX12_begin_185 rfl (lv_at hl 1 rfl) ?_
                          refine ro_calli (va_runV (As := [.int y8_3]) (rest := [.int y8_3, .ref (a 26)]) ⟨hx, hb, hml, hown, hts⟩ (s_X12_isShutter l D H.size o a t i8 q8 (updA (updA (updA c8 23 (y8_3 : Int32).toNatClampNeg z11_0) 24 (y8_3 : Int32).toNatClampNeg z12_0) 25 (y8_3 : Int32).toNatClampNeg z14_0) d8 y8_3 hI (show 0 ≤ y8_3.toInt ∧ y8_3.toInt ≤ 29 from by omega)) (cwV 1 hts gm_X12_begin_X12_isShutter rfl rfl rfl (by decide +kernel) ⟨Nat.le_of_ble_eq_true rfl, Nat.le_of_ble_eq_true rfl⟩) (pA_V hK hP (ci := 12) (q0 := 0) rfl rfl) rfl rfl hl.1 rfl (lv_room (Nat.le_of_ble_eq_true rfl)) dX12_begin_186 ⟨Nat.le_of_ble_eq_true rfl, Nat.le_of_ble_eq_true rfl⟩) hS hA hP (fun r15 u15 H locs hw15 hP hS => ?_)
                          have hw15 : (0 ≤ r15.toInt ∧ r15.toInt ≤ 1) := hw15
                          have jn16 : ∀ (z16_0 : Int32), (z16_0.toInt = 0 ∨ z16_0.toInt = 1) → ∀ (H : Heap) (locs : List Loc) (ls : Array Slot), va_P D vwCl (mW o a t i8 q8 (updA (updA (updA c8 23 (y8_3 : Int32).toNatClampNeg z11_0) 24 (y8_3 : Int32).toNatClampNeg z12_0) 25 (y8_3 : Int32).toNatClampNeg z14_0) d8) H → va_D A (mW o a t i8 q8 (updA (updA (updA c8 23 (y8_3 : Int32).toNatClampNeg z11_0) 24 (y8_3 : Int32).toNatClampNeg z12_0) 25 (y8_3 : Int32).toNatClampNeg z14_0) d8) → va_S A s.heap H locs → lv_has ls 5 [(4, .int r10), (3, .int y8_3), (2, .int y5_2), (0, .ref o), (1, .int w)] → W p l e (headSpec wm_X12_begin ({ frames := 2, cells := 0, slots := 0, locals := 48 })).room s m ([.ref o, .int w] : List Value).toArray below meth cd H locs 0 0 (MQ below (va_Qi (fun (r : Int32) (u : MS) => True ∧ mInv u.1 u.2.2.1 ∧ (∀ k, k ∉ ([0, 22, 27] : List Nat) → u.1 k = i k) ∧ (∀ k, k ∉ ([1, 23, 24, 25, 26] : List Nat) → u.2.2.1 k = c k) ∧ (SJ (u.2.2.1 3) (u.2.2.1 6) (u.2.2.1 9) (u.2.2.1 10) (u.2.2.1 11) (u.2.2.1 13) (u.1 2).toInt (u.1 5).toInt (u.1 8).toInt) ∧ (TJ (u.2.2.1 3) (u.2.2.1 6) (u.2.2.1 23) (u.2.2.1 24) (u.2.2.1 29) (u.2.2.1 30) (u.1 5).toInt (u.1 22).toInt (u.1 27).toInt)) (oC D A (fun u : MS => mW o a t u.1 u.2.1 u.2.2.1 u.2.2.2) (fun _ => [])) A) ([.ref o, .int w] : List Value).toArray s 0 0 A) (F0 m 207 ls [.int z16_0, .int y8_3, .ref (a 26)]) := by
                            intro z16_0 hs16_0 H locs ls hP hD hS hl
                            refine mst_26 hx hb hK hP hD hS (vp_in_iff.mpr (by have h9 : y8_3.toInt = y8_3.toInt := rfl; omega)) (nb_z (show 0 ≤ (z16_0 : Int32).toInt ∧ (z16_0 : Int32).toInt ≤ 1 from by omega)) dX12_begin_207 (fun H locs hP hD hS => ?_)
                            have hI := mInv_c hI (k := 26) (j := (y8_3 : Int32).toNatClampNeg) (x := z16_0) (show 0 ≤ (z16_0 : Int32).toInt ∧ (z16_0 : Int32).toInt ≤ 1 from by omega)
                            have hfc := fr_c hfc (k := 26) (j := (y8_3 : Int32).toNatClampNeg) (x := z16_0) (by decide)
                            obtain ⟨x17, ex17⟩ : ∃ y : Int32, y = y8_3 + 1 := ⟨_, rfl⟩
                            have tx17 := ti_add (a := y8_3.toInt) (b := 1) ex17 rfl (by decide) (by omega) (by omega)
                            refine lv_iinc (v := x17) (lv' := [(3, .int x17), (4, .int r10), (2, .int y5_2), (0, .ref o), (1, .int w)]) hx hb dX12_begin_208 hl (k := 1) rfl (by rw [ex17]; rfl) (by decide) rfl (fun ls hl => ?_)
                            refine lv_goto (tgt := 85) hx hb dX12_begin_211 (by decide) ?_
                            exact ih8 i8 q8 (updA (updA (updA (updA c8 23 (y8_3 : Int32).toNatClampNeg z11_0) 24 (y8_3 : Int32).toNatClampNeg z12_0) 25 (y8_3 : Int32).toNatClampNeg z14_0) 26 (y8_3 : Int32).toNatClampNeg z16_0) d8 x17 hI (fr_w hfi (by decide)) (fr_w hfc (by decide)) (show 0 ≤ x17.toInt ∧ x17.toInt ≤ 30 ∧ x17.toInt ≤ (i 5).toInt from by have h50 : x17.toInt = (y8_3.toInt + 1) := tx17; omega) (show BG (c 9) (c 10) (c 11) (c 13) ((updA (updA (updA (updA c8 23 (y8_3 : Int32).toNatClampNeg z11_0) 24 (y8_3 : Int32).toNatClampNeg z12_0) 25 (y8_3 : Int32).toNatClampNeg z14_0) 26 (y8_3 : Int32).toNatClampNeg z16_0) 23) ((updA (updA (updA (updA c8 23 (y8_3 : Int32).toNatClampNeg z11_0) 24 (y8_3 : Int32).toNatClampNeg z12_0) 25 (y8_3 : Int32).toNatClampNeg z14_0) 26 (y8_3 : Int32).toNatClampNeg z16_0) 24) (i 8).toInt x17.toInt from BG_a hz8_0 (by omega) tx17 (by rcases hz11_0 with q9 | q9 <;> rcases hz12_0 with q8 | q8; exact Or.inl ⟨q9.1, q9.2, q8.2⟩; exact absurd q9.1 q8.1; exact absurd q8.1 q9.1; exact Or.inr ⟨q9.1, q9.2, q8.2⟩)) (by have h50 : x17.toInt = (y8_3.toInt + 1) := tx17; omega) _ _ _ hP hD hS (lv_sub hl [0, 2, 3, 4] rfl)
                          have jn18 : ∀ (H : Heap) (locs : List Loc) (ls : Array Slot), va_P D vwCl (mW o a t i8 q8 (updA (updA (updA c8 23 (y8_3 : Int32).toNatClampNeg z11_0) 24 (y8_3 : Int32).toNatClampNeg z12_0) 25 (y8_3 : Int32).toNatClampNeg z14_0) d8) H → va_D A (mW o a t i8 q8 (updA (updA (updA c8 23 (y8_3 : Int32).toNatClampNeg z11_0) 24 (y8_3 : Int32).toNatClampNeg z12_0) 25 (y8_3 : Int32).toNatClampNeg z14_0) d8) → va_S A s.heap H locs → lv_has ls 5 [(4, .int r10), (3, .int y8_3), (2, .int y5_2), (0, .ref o), (1, .int w)] → W p l e (headSpec wm_X12_begin ({ frames := 2, cells := 0, slots := 0, locals := 48 })).room s m ([.ref o, .int w] : List Value).toArray below meth cd H locs 0 0 (MQ below (va_Qi (fun (r : Int32) (u : MS) => True ∧ mInv u.1 u.2.2.1 ∧ (∀ k, k ∉ ([0, 22, 27] : List Nat) → u.1 k = i k) ∧ (∀ k, k ∉ ([1, 23, 24, 25, 26] : List Nat) → u.2.2.1 k = c k) ∧ (SJ (u.2.2.1 3) (u.2.2.1 6) (u.2.2.1 9) (u.2.2.1 10) (u.2.2.1 11) (u.2.2.1 13) (u.1 2).toInt (u.1 5).toInt (u.1 8).toInt) ∧ (TJ (u.2.2.1 3) (u.2.2.1 6) (u.2.2.1 23) (u.2.2.1 24) (u.2.2.1 29) (u.2.2.1 30) (u.1 5).toInt (u.1 22).toInt (u.1 27).toInt)) (oC D A (fun u : MS => mW o a t u.1 u.2.1 u.2.2.1 u.2.2.2) (fun _ => [])) A) ([.ref o, .int w] : List Value).toArray s 0 0 A) (F0 m 206 ls [.int y8_3, .ref (a 26)]) := by
                            intro H locs ls hP hD hS hl
                            refine lv_iconst (v := 0) hx hb dX12_begin_206 (by decide) ?_
                            exact jn16  (0 : Int32) (show (0 : Int32).toInt = 0 ∨ (0 : Int32).toInt = 1 from by have h55 : (0 : Int32).toInt = 0 := (by decide); omega) _ _ _ hP hD hS (lv_sub hl [0, 1, 2, 3, 4] rfl)
                          refine lv_if_eq (tgt := 206) hx hb dX12_begin_189 (by decide) (fun c19 => ?_) (fun c19 => ?_)
                          · have f19 := (ti_eq (a := r15.toInt) (b := 0) rfl (by decide)).mp c19
                            exact jn18    _ _ _ hP hD hS (lv_sub hl [0, 1, 2, 3, 4] rfl)
                          · have f19 := mt (ti_eq (a := r15.toInt) (b := 0) rfl (by decide)).mpr c19
                            refine lv_aload_n hx hb dX12_begin_192 rfl (lv_at hl 3 rfl) ?_
                            refine lv_iload_n hx hb dX12_begin_193 rfl (lv_at hl 1 rfl) ?_
                            refine lv_iconst (v := 1) hx hb dX12_begin_194 (by decide) ?_
                            refine ro_calli (va_runV (As := [.int y8_3, .int 1]) (rest := [.int y8_3, .ref (a 26)]) ⟨hx, hb, hml, hown, hts⟩ (s_X12_saidFlag l D H.size o a t i8 q8 (updA (updA (updA c8 23 (y8_3 : Int32).toNatClampNeg z11_0) 24 (y8_3 : Int32).toNatClampNeg z12_0) 25 (y8_3 : Int32).toNatClampNeg z14_0) d8 y8_3 1 hI (show 0 ≤ y8_3.toInt ∧ y8_3.toInt ≤ 29 from by have h91 : (1 : Int32).toInt = 1 := (by decide); omega) (show 0 ≤ 1 ∧ 1 ≤ 5 from by have h91 : (1 : Int32).toInt = 1 := (by decide); omega)) (cwV 2 hts gm_X12_begin_X12_saidFlag rfl rfl rfl (by decide +kernel) ⟨Nat.le_of_ble_eq_true rfl, Nat.le_of_ble_eq_true rfl⟩) (pA_V hK hP (ci := 12) (q0 := 0) rfl rfl) rfl rfl hl.1 rfl (lv_room (Nat.le_of_ble_eq_true rfl)) dX12_begin_195 ⟨Nat.le_of_ble_eq_true rfl, Nat.le_of_ble_eq_true rfl⟩) hS hA hP (fun r20 u20 H locs hw20 hP hS => ?_)
                            have hw20 : (r20.toInt = -9 ∨ (0 ≤ r20.toInt ∧ r20.toInt ≤ 1)) := hw20
                            refine lv_iconst (v := 1) hx hb dX12_begin_198 (by decide) ?_
                            refine lv_icmp_ne (tgt := 206) hx hb dX12_begin_199 (by decide) (fun c21 => ?_) (fun c21 => ?_)
                            · have f21 := mt (ti_eq (a := r20.toInt) (b := 1) rfl (by decide)).mpr c21
                              exact jn18    _ _ _ hP hD hS (lv_sub hl [0, 1, 2, 3, 4] rfl)
                            · have f21 := (ti_eq (a := r20.toInt) (b := 1) rfl (by decide)).mp c21
                              refine lv_iconst (v := 1) hx hb dX12_begin_202 (by decide) ?_
                              refine lv_goto (tgt := 207) hx hb dX12_begin_203 (by decide) ?_
                              exact jn16  (1 : Int32) (show (1 : Int32).toInt = 0 ∨ (1 : Int32).toInt = 1 from by have h55 : (1 : Int32).toInt = 1 := (by decide); omega) _ _ _ hP hD hS (lv_sub hl [0, 1, 2, 3, 4] rfl)
                        have jn22 : ∀ (H : Heap) (locs : List Loc) (ls : Array Slot), va_P D vwCl (mW o a t i8 q8 (updA (updA c8 23 (y8_3 : Int32).toNatClampNeg z11_0) 24 (y8_3 : Int32).toNatClampNeg z12_0) d8) H → va_D A (mW o a t i8 q8 (updA (updA c8 23 (y8_3 : Int32).toNatClampNeg z11_0) 24 (y8_3 : Int32).toNatClampNeg z12_0) d8) → va_S A s.heap H locs → lv_has ls 5 [(4, .int r10), (3, .int y8_3), (2, .int y5_2), (0, .ref o), (1, .int w)] → W p l e (headSpec wm_X12_begin ({ frames := 2, cells := 0, slots := 0, locals := 48 })).room s m ([.ref o, .int w] : List Value).toArray below meth cd H locs 0 0 (MQ below (va_Qi (fun (r : Int32) (u : MS) => True ∧ mInv u.1 u.2.2.1 ∧ (∀ k, k ∉ ([0, 22, 27] : List Nat) → u.1 k = i k) ∧ (∀ k, k ∉ ([1, 23, 24, 25, 26] : List Nat) → u.2.2.1 k = c k) ∧ (SJ (u.2.2.1 3) (u.2.2.1 6) (u.2.2.1 9) (u.2.2.1 10) (u.2.2.1 11) (u.2.2.1 13) (u.1 2).toInt (u.1 5).toInt (u.1 8).toInt) ∧ (TJ (u.2.2.1 3) (u.2.2.1 6) (u.2.2.1 23) (u.2.2.1 24) (u.2.2.1 29) (u.2.2.1 30) (u.1 5).toInt (u.1 22).toInt (u.1 27).toInt)) (oC D A (fun u : MS => mW o a t u.1 u.2.1 u.2.2.1 u.2.2.2) (fun _ => [])) A) ([.ref o, .int w] : List Value).toArray s 0 0 A) (F0 m 177 ls [.int y8_3, .ref (a 25)]) := by
                          intro H locs ls hP hD hS hl
                          refine lv_iconst (v := 0) hx hb dX12_begin_177 (by decide) ?_
                          exact jn14  (0 : Int32) (show (0 : Int32).toInt = 0 ∨ (0 : Int32).toInt = 1 from by have h55 : (0 : Int32).toInt = 0 := (by decide); omega) _ _ _ hP hD hS (lv_sub hl [0, 1, 2, 3, 4] rfl)
                        refine lv_if_eq (tgt := 177) hx hb dX12_begin_160 (by decide) (fun c23 => ?_) (fun c23 => ?_)
                        · have f23 := (ti_eq (a := r13.toInt) (b := 0) rfl (by decide)).mp c23
                          exact jn22    _ _ _ hP hD hS (lv_sub hl [0, 1, 2, 3, 4] rfl)
                        · have f23 := mt (ti_eq (a := r13.toInt) (b := 0) rfl (by decide)).mpr c23
                          refine lv_aload_n hx hb dX12_begin_163 rfl (lv_at hl 3 rfl) ?_
                          refine lv_iload_n hx hb dX12_begin_164 rfl (lv_at hl 1 rfl) ?_
                          refine lv_iconst (v := 0) hx hb dX12_begin_165 (by decide) ?_
                          refine ro_calli (va_runV (As := [.int y8_3, .int 0]) (rest := [.int y8_3, .ref (a 25)]) ⟨hx, hb, hml, hown, hts⟩ (s_X12_saidFlag l D H.size o a t i8 q8 (updA (updA c8 23 (y8_3 : Int32).toNatClampNeg z11_0) 24 (y8_3 : Int32).toNatClampNeg z12_0) d8 y8_3 0 hI (show 0 ≤ y8_3.toInt ∧ y8_3.toInt ≤ 29 from by have h91 : (0 : Int32).toInt = 0 := (by decide); omega) (show 0 ≤ 0 ∧ 0 ≤ 5 from by have h91 : (0 : Int32).toInt = 0 := (by decide); omega)) (cwV 2 hts gm_X12_begin_X12_saidFlag rfl rfl rfl (by decide +kernel) ⟨Nat.le_of_ble_eq_true rfl, Nat.le_of_ble_eq_true rfl⟩) (pA_V hK hP (ci := 12) (q0 := 0) rfl rfl) rfl rfl hl.1 rfl (lv_room (Nat.le_of_ble_eq_true rfl)) dX12_begin_166 ⟨Nat.le_of_ble_eq_true rfl, Nat.le_of_ble_eq_true rfl⟩) hS hA hP (fun r24 u24 H locs hw24 hP hS => ?_)
                          have hw24 : (r24.toInt = -9 ∨ (0 ≤ r24.toInt ∧ r24.toInt ≤ 1)) := hw24
                          refine lv_iconst (v := 1) hx hb dX12_begin_169 (by decide) ?_
                          refine lv_icmp_ne (tgt := 177) hx hb dX12_begin_170 (by decide) (fun c25 => ?_) (fun c25 => ?_)
                          · have f25 := mt (ti_eq (a := r24.toInt) (b := 1) rfl (by decide)).mpr c25
                            exact jn22    _ _ _ hP hD hS (lv_sub hl [0, 1, 2, 3, 4] rfl)
                          · have f25 := (ti_eq (a := r24.toInt) (b := 1) rfl (by decide)).mp c25
                            refine lv_iconst (v := 1) hx hb dX12_begin_173 (by decide) ?_
                            refine lv_goto (tgt := 178) hx hb dX12_begin_174 (by decide) ?_
                            exact jn14  (1 : Int32) (show (1 : Int32).toInt = 0 ∨ (1 : Int32).toInt = 1 from by have h55 : (1 : Int32).toInt = 1 := (by decide); omega) _ _ _ hP hD hS (lv_sub hl [0, 1, 2, 3, 4] rfl)
                      refine lv_icmp_ne (tgt := 142) hx hb dX12_begin_134 (by decide) (fun c26 => ?_) (fun c26 => ?_)
                      · have f26 := mt (ti_eq (a := r10.toInt) (b := (-9)) rfl (by decide)).mpr c26
                        refine lv_aload_n hx hb dX12_begin_142 rfl (lv_at hl 3 rfl) ?_
                        refine mget_11 hx hb hts (fun _ h => List.mem_cons_of_mem _ (List.mem_append_right _ h)) hown hK hP (hts (.fieldLink RX12 31 "TalePlayModel" "middle" "[I") (by decide +kernel)) dX12_begin_143 ?_
                        refine lv_iload hx hb dX12_begin_146 (lv_at hl 0 rfl) ?_
                        refine mld_11 hx hb hK hP (vp_in_iff.mpr (by have h9 : r10.toInt = r10.toInt := rfl; omega)) dX12_begin_148 (fun x27 ex27 => ?_)
                        have rx27 : 0 ≤ x27.toInt ∧ x27.toInt ≤ 29 := by rw [ex27]; exact hI.2 11 _
                        have gx27 : (c 11 (r10 : Int32).toNatClampNeg).toInt = x27.toInt := by rw [ex27, show (updA c8 23 (y8_3 : Int32).toNatClampNeg z11_0) 11 = c 11 from hfc 11 (by decide)]
                        exact jn12  x27 (show x27.toInt = -9 ∨ (0 ≤ x27.toInt ∧ x27.toInt ≤ 29) from by omega) (show (pL (c 9) (c 10) (c 13) (i 8).toInt y8_3.toInt = -9 ∧ x27.toInt = -9) ∨ (¬ pL (c 9) (c 10) (c 13) (i 8).toInt y8_3.toInt = -9 ∧ x27.toInt = (c 11 (pL (c 9) (c 10) (c 13) (i 8).toInt y8_3.toInt).toNat).toInt) from Or.inr ⟨by omega, by rw [← hr10_0]; exact gx27.symm⟩) _ _ _ hP hD hS (lv_sub hl [0, 1, 2, 3, 4] rfl)
                      · have f26 := (ti_eq (a := r10.toInt) (b := (-9)) rfl (by decide)).mp c26
                        refine lv_bipush (v := (-9)) hx hb dX12_begin_137 (by decide) ?_
                        refine lv_goto (tgt := 149) hx hb dX12_begin_139 (by decide) ?_
                        exact jn12  ((-9) : Int32) (show ((-9) : Int32).toInt = -9 ∨ (0 ≤ ((-9) : Int32).toInt ∧ ((-9) : Int32).toInt ≤ 29) from by have h55 : ((-9) : Int32).toInt = -9 := (by decide); omega) (show (pL (c 9) (c 10) (c 13) (i 8).toInt y8_3.toInt = -9 ∧ ((-9) : Int32).toInt = -9) ∨ (¬ pL (c 9) (c 10) (c 13) (i 8).toInt y8_3.toInt = -9 ∧ ((-9) : Int32).toInt = (c 11 (pL (c 9) (c 10) (c 13) (i 8).toInt y8_3.toInt).toNat).toInt) from Or.inl ⟨by omega, by decide⟩) _ _ _ hP hD hS (lv_sub hl [0, 1, 2, 3, 4] rfl)
                    refine lv_icmp_ne (tgt := 117) hx hb dX12_begin_109 (by decide) (fun c28 => ?_) (fun c28 => ?_)
                    · have f28 := mt (ti_eq (a := r10.toInt) (b := (-9)) rfl (by decide)).mpr c28
                      refine lv_aload_n hx hb dX12_begin_117 rfl (lv_at hl 3 rfl) ?_
                      refine mget_9 hx hb hts (fun _ h => List.mem_cons_of_mem _ (List.mem_append_right _ h)) hown hK hP (hts (.fieldLink RX12 25 "TalePlayModel" "form" "[I") (by decide +kernel)) dX12_begin_118 ?_
                      refine lv_iload hx hb dX12_begin_121 (lv_at hl 0 rfl) ?_
                      refine mld_9 hx hb hK hP (vp_in_iff.mpr (by have h9 : r10.toInt = r10.toInt := rfl; omega)) dX12_begin_123 (fun x29 ex29 => ?_)
                      have rx29 : 0 ≤ x29.toInt ∧ x29.toInt ≤ 7 := by rw [ex29]; exact hI.2 9 _
                      have gx29 : (c 9 (r10 : Int32).toNatClampNeg).toInt = x29.toInt := by rw [ex29, show c8 9 = c 9 from hfc 9 (by decide)]
                      exact jn11  x29 (show x29.toInt = -9 ∨ (0 ≤ x29.toInt ∧ x29.toInt ≤ 4) from by omega) (show (pL (c 9) (c 10) (c 13) (i 8).toInt y8_3.toInt = -9 ∧ x29.toInt = -9) ∨ (¬ pL (c 9) (c 10) (c 13) (i 8).toInt y8_3.toInt = -9 ∧ x29.toInt = (c 9 (pL (c 9) (c 10) (c 13) (i 8).toInt y8_3.toInt).toNat).toInt) from Or.inr ⟨by omega, by rw [← hr10_0]; exact gx29.symm⟩) _ _ _ hP hD hS (lv_sub hl [0, 1, 2, 3, 4] rfl)
                    · have f28 := (ti_eq (a := r10.toInt) (b := (-9)) rfl (by decide)).mp c28
                      refine lv_bipush (v := (-9)) hx hb dX12_begin_112 (by decide) ?_
                      refine lv_goto (tgt := 124) hx hb dX12_begin_114 (by decide) ?_
                      exact jn11  ((-9) : Int32) (show ((-9) : Int32).toInt = -9 ∨ (0 ≤ ((-9) : Int32).toInt ∧ ((-9) : Int32).toInt ≤ 4) from by have h55 : ((-9) : Int32).toInt = -9 := (by decide); omega) (show (pL (c 9) (c 10) (c 13) (i 8).toInt y8_3.toInt = -9 ∧ ((-9) : Int32).toInt = -9) ∨ (¬ pL (c 9) (c 10) (c 13) (i 8).toInt y8_3.toInt = -9 ∧ ((-9) : Int32).toInt = (c 9 (pL (c 9) (c 10) (c 13) (i 8).toInt y8_3.toInt).toNat).toInt) from Or.inl ⟨by omega, by decide⟩) _ _ _ hP hD hS (lv_sub hl [0, 1, 2, 3, 4] rfl)
              exact lp8 _ i q c d (0 : Int32) hI (fr_w hfi (by decide)) (fr_w hfc (by decide)) (show 0 ≤ (0 : Int32).toInt ∧ (0 : Int32).toInt ≤ 30 ∧ (0 : Int32).toInt ≤ (i 5).toInt from by have h50 : (0 : Int32).toInt = 0 := (by decide); omega) (show BG (c 9) (c 10) (c 11) (c 13) (c 23) (c 24) (i 8).toInt (0 : Int32).toInt from BG_0 (by decide)) (Nat.lt_succ_self _) _ _ _ hP hD hS (lv_sub hl [0, 1, 2, 3] rfl)
            · have f7 := (ti_eq (a := y5_2.toInt) (b := (-9)) rfl (by decide)).mp c7
              refine lv_aload_n hx hb dX12_begin_77 rfl (lv_at hl 1 rfl) ?_
              refine lv_iconst (v := 1) hx hb dX12_begin_78 (by decide) ?_
              refine al_calli (va_runV (As := [.int 1]) (rest := []) ⟨hx, hb, hml, hown, hts⟩ (s_X12_meets l D H.size o a t i q c d 1 hI (show 1 ≤ 1 ∧ 1 ≤ 6 from by have h90 : (1 : Int32).toInt = 1 := (by decide); omega)) (cwV 1 hts gm_X12_begin_X12_meets rfl rfl rfl (by decide +kernel) ⟨Nat.le_of_ble_eq_true rfl, Nat.le_of_ble_eq_true rfl⟩) (pB_V hK hP hD (ci := 12) (q0 := 0) rfl rfl) rfl rfl hl.1 rfl (lv_room (Nat.le_of_ble_eq_true rfl)) dX12_begin_79 ⟨Nat.le_of_ble_eq_true rfl, Nat.le_of_ble_eq_true rfl⟩) hS hA hP hD (fun r30 u30 H locs hw30 hP hD hS => ?_)
              obtain ⟨i30, q30, c30, d30⟩ := u30
              have hw30 : r30 = (-3) ∧ mInv i30 c30 ∧ (∀ k, k ∉ ([0] : List Nat) → i30 k = i k) ∧ (∀ k, k ∉ ([1] : List Nat) → c30 k = c k) := hw30
              obtain ⟨hw30, hI, hei30, hec30⟩ := hw30
              have hfi : ∀ k, k ∉ ([0] : List Nat) → i30 k = i k := fr_z hfi hei30 (by decide) (by decide)
              have hfc : ∀ k, k ∉ ([1] : List Nat) → c30 k = c k := fr_z hfc hec30 (by decide) (by decide)
              have hP : va_P D vwCl (mW o a t i30 q30 c30 d30) H := hP
              have hD : va_D A (mW o a t i30 q30 c30 d30) := hD
              have hw30 : r30 = (-3) := hw30
              subst hw30
              exact rw_iret (i30, q30, c30, d30) hx hb hr hlocks hS (hK.sub (tys' := []) [] rfl) hP hD dX12_begin_82 ⟨trivial, hI, fr_w hfi (by decide), fr_w hfc (by decide), (show SJ (c30 3) (c30 6) (c30 9) (c30 10) (c30 11) (c30 13) ((i30 2) : Int32).toInt ((i30 5) : Int32).toInt ((i30 8) : Int32).toInt from by rw [show c30 3 = c 3 from hfc 3 (by decide), show c30 6 = c 6 from hfc 6 (by decide), show c30 9 = c 9 from hfc 9 (by decide), show c30 10 = c 10 from hfc 10 (by decide), show c30 11 = c 11 from hfc 11 (by decide), show c30 13 = c 13 from hfc 13 (by decide), show i30 2 = i 2 from hfi 2 (by decide), show i30 5 = i 5 from hfi 5 (by decide), show i30 8 = i 8 from hfi 8 (by decide)]; exact hs_S), (show TJ (c30 3) (c30 6) (c30 23) (c30 24) (c30 29) (c30 30) ((i30 5) : Int32).toInt ((i30 22) : Int32).toInt ((i30 27) : Int32).toInt from by rw [show c30 3 = c 3 from hfc 3 (by decide), show c30 6 = c 6 from hfc 6 (by decide), show c30 23 = c 23 from hfc 23 (by decide), show c30 24 = c 24 from hfc 24 (by decide), show c30 29 = c 29 from hfc 29 (by decide), show c30 30 = c 30 from hfc 30 (by decide), show i30 5 = i 5 from hfi 5 (by decide), show i30 22 = i 22 from hfi 22 (by decide), show i30 27 = i 27 from hfi 27 (by decide)]; exact hs_J)⟩
          refine lv_icmp_eq (tgt := 71) hx hb dX12_begin_30 (by decide) (fun c31 => ?_) (fun c31 => ?_)
          · have f31 := (ti_eq (a := y5_2.toInt) (b := (-9)) rfl (by decide)).mp c31
            exact jn6   (show y5_2.toInt = -9 ∨ Kd (c 3) (c 6) y5_2.toInt 0 from Or.inl (by omega)) _ _ _ hP hD hS (lv_sub hl [0, 1, 2] rfl)
          · have f31 := mt (ti_eq (a := y5_2.toInt) (b := (-9)) rfl (by decide)).mpr c31
            refine lv_aload_n hx hb dX12_begin_33 rfl (lv_at hl 1 rfl) ?_
            refine lv_iload_n hx hb dX12_begin_34 rfl (lv_at hl 0 rfl) ?_
            refine lv_iconst (v := 0) hx hb dX12_begin_35 (by decide) ?_
            refine ro_calli (va_runV (As := [.int y5_2, .int 0]) (rest := []) ⟨hx, hb, hml, hown, hts⟩ (s_X12_isOf l D H.size o a t i q c d y5_2 0 hI (show 0 ≤ y5_2.toInt ∧ y5_2.toInt ≤ 29 from by have h91 : (0 : Int32).toInt = 0 := (by decide); omega) (show 0 ≤ 0 from by have h91 : (0 : Int32).toInt = 0 := (by decide); omega)) (cwV 2 hts gm_X12_begin_X12_isOf rfl rfl rfl (by decide +kernel) ⟨Nat.le_of_ble_eq_true rfl, Nat.le_of_ble_eq_true rfl⟩) (pA_V hK hP (ci := 12) (q0 := 0) rfl rfl) rfl rfl hl.1 rfl (lv_room (Nat.le_of_ble_eq_true rfl)) dX12_begin_36 ⟨Nat.le_of_ble_eq_true rfl, Nat.le_of_ble_eq_true rfl⟩) hS hA hP (fun r32 u32 H locs hw32 hP hS => ?_)
            have hw32 : ((0 ≤ r32.toInt ∧ r32.toInt ≤ 1) ∧ (Sm r32 (Kd (c 3) (c 6) y5_2.toInt 0))) := hw32
            obtain ⟨hw32, hr32_0⟩ := hw32
            have hr32_0 : Sm r32 (Kd (c 3) (c 6) y5_2.toInt 0) := hr32_0
            refine lv_if_ne (tgt := 71) hx hb dX12_begin_39 (by decide) (fun c33 => ?_) (fun c33 => ?_)
            · have f33 := mt (ti_eq (a := r32.toInt) (b := 0) rfl (by decide)).mpr c33
              have s33 := sm_t hr32_0 c33
              exact jn6   (show y5_2.toInt = -9 ∨ Kd (c 3) (c 6) y5_2.toInt 0 from Or.inr s33) _ _ _ hP hD hS (lv_sub hl [0, 1, 2] rfl)
            · have f33 := (ti_eq (a := r32.toInt) (b := 0) rfl (by decide)).mp c33
              have s33 := sm_f hr32_0 c33
              refine lv_aload_n hx hb dX12_begin_42 rfl (lv_at hl 1 rfl) ?_
              refine lv_iload_n hx hb dX12_begin_43 rfl (lv_at hl 0 rfl) ?_
              refine ro_calli (va_runV (As := [.int y5_2]) (rest := []) ⟨hx, hb, hml, hown, hts⟩ (s_X12_placing l D H.size o a t i q c d y5_2 hI ) (cwV 1 hts gm_X12_begin_X12_placing rfl rfl rfl (by decide +kernel) ⟨Nat.le_of_ble_eq_true rfl, Nat.le_of_ble_eq_true rfl⟩) (pA_V hK hP (ci := 12) (q0 := 0) rfl rfl) rfl rfl hl.1 rfl (lv_room (Nat.le_of_ble_eq_true rfl)) dX12_begin_44 ⟨Nat.le_of_ble_eq_true rfl, Nat.le_of_ble_eq_true rfl⟩) hS hA hP (fun r34 u34 H locs hw34 hP hS => ?_)
              have hw34 : ((r34.toInt = -9 ∨ (0 ≤ r34.toInt ∧ r34.toInt ≤ 199)) ∧ (r34.toInt = pL (c 9) (c 10) (c 13) (i 8).toInt y5_2.toInt)) := hw34
              obtain ⟨hw34, hr34_0⟩ := hw34
              have hr34_0 : r34.toInt = pL (c 9) (c 10) (c 13) (i 8).toInt y5_2.toInt := hr34_0
              refine lv_bipush (v := (-9)) hx hb dX12_begin_47 (by decide) ?_
              have jn35 : ∀ (z35_0 : Int32), (z35_0.toInt = -9 ∨ (0 ≤ z35_0.toInt ∧ z35_0.toInt ≤ 29)) → (z35_0.toInt = fP (c 9) (c 10) (c 11) (c 13) (i 8).toInt y5_2.toInt) → (z35_0.toInt = -9 ∨ (0 ≤ z35_0.toInt ∧ z35_0.toInt < (i 5).toInt)) → ∀ (H : Heap) (locs : List Loc) (ls : Array Slot), va_P D vwCl (mW o a t i q c d) H → va_D A (mW o a t i q c d) → va_S A s.heap H locs → lv_has ls 5 [(2, .int y5_2), (0, .ref o), (1, .int w)] → W p l e (headSpec wm_X12_begin ({ frames := 2, cells := 0, slots := 0, locals := 48 })).room s m ([.ref o, .int w] : List Value).toArray below meth cd H locs 0 0 (MQ below (va_Qi (fun (r : Int32) (u : MS) => True ∧ mInv u.1 u.2.2.1 ∧ (∀ k, k ∉ ([0, 22, 27] : List Nat) → u.1 k = i k) ∧ (∀ k, k ∉ ([1, 23, 24, 25, 26] : List Nat) → u.2.2.1 k = c k) ∧ (SJ (u.2.2.1 3) (u.2.2.1 6) (u.2.2.1 9) (u.2.2.1 10) (u.2.2.1 11) (u.2.2.1 13) (u.1 2).toInt (u.1 5).toInt (u.1 8).toInt) ∧ (TJ (u.2.2.1 3) (u.2.2.1 6) (u.2.2.1 23) (u.2.2.1 24) (u.2.2.1 29) (u.2.2.1 30) (u.1 5).toInt (u.1 22).toInt (u.1 27).toInt)) (oC D A (fun u : MS => mW o a t u.1 u.2.1 u.2.2.1 u.2.2.2) (fun _ => [])) A) ([.ref o, .int w] : List Value).toArray s 0 0 A) (F0 m 67 ls [.int z35_0]) := by
                intro z35_0 hs35_0 hz35_0 hz35_1 H locs ls hP hD hS hl
                refine lv_istore_n (lv' := [(2, .int z35_0), (0, .ref o), (1, .int w)]) hx hb dX12_begin_67 rfl hl (by decide) rfl (fun ls hl => ?_)
                have hks : z35_0.toInt = -9 ∨ rk z35_0.toInt < rk y5_2.toInt := by rcases Int.lt_trichotomy z35_0.toInt (-9) with q9 | q9 | q9; exact Or.inr (by omega); exact Or.inl q9; (have q8 := hrk.2 y5_2.toInt (by omega) (by omega) (by rw [← hz35_0]; omega); rw [← hz35_0] at q8; exact Or.inr q8)
                refine lv_goto (tgt := 27) hx hb dX12_begin_68 (by decide) ?_
                exact ih5 z35_0 (show z35_0.toInt = -9 ∨ (0 ≤ z35_0.toInt ∧ z35_0.toInt ≤ 29) from by omega) (show ∀ t, Ch (fP (c 9) (c 10) (c 11) (c 13) (i 8).toInt) z35_0.toInt t → Ch (fP (c 9) (c 10) (c 11) (c 13) (i 8).toInt) w.toInt t from fun t9 h9 => hz5_0 t9 (Ch_up (by rw [← hz35_0]; exact h9))) (show z35_0.toInt = -9 ∨ (0 ≤ z35_0.toInt ∧ z35_0.toInt < (i 5).toInt) from hz35_1) (by rw [if_neg (show ¬ y5_2.toInt = -9 by omega)] at hm5; by_cases q9 : z35_0.toInt = -9; (rw [if_pos q9]; omega); (rw [if_neg q9]; omega)) _ _ _ hP hD hS (lv_sub hl [0, 1, 2] rfl)
              refine lv_icmp_ne (tgt := 57) hx hb dX12_begin_49 (by decide) (fun c36 => ?_) (fun c36 => ?_)
              · have f36 := mt (ti_eq (a := r34.toInt) (b := (-9)) rfl (by decide)).mpr c36
                refine lv_aload_n hx hb dX12_begin_57 rfl (lv_at hl 1 rfl) ?_
                refine mget_11 hx hb hts (fun _ h => List.mem_cons_of_mem _ (List.mem_append_right _ h)) hown hK hP (hts (.fieldLink RX12 31 "TalePlayModel" "middle" "[I") (by decide +kernel)) dX12_begin_58 ?_
                refine lv_aload_n hx hb dX12_begin_61 rfl (lv_at hl 1 rfl) ?_
                refine lv_iload_n hx hb dX12_begin_62 rfl (lv_at hl 0 rfl) ?_
                refine ro_calli (va_runV (As := [.int y5_2]) (rest := [.ref (a 11)]) ⟨hx, hb, hml, hown, hts⟩ (s_X12_placing l D H.size o a t i q c d y5_2 hI ) (cwV 1 hts gm_X12_begin_X12_placing rfl rfl rfl (by decide +kernel) ⟨Nat.le_of_ble_eq_true rfl, Nat.le_of_ble_eq_true rfl⟩) (pA_V hK hP (ci := 12) (q0 := 0) rfl rfl) rfl rfl hl.1 rfl (lv_room (Nat.le_of_ble_eq_true rfl)) dX12_begin_63 ⟨Nat.le_of_ble_eq_true rfl, Nat.le_of_ble_eq_true rfl⟩) hS hA hP (fun r37 u37 H locs hw37 hP hS => ?_)
                have hw37 : ((r37.toInt = -9 ∨ (0 ≤ r37.toInt ∧ r37.toInt ≤ 199)) ∧ (r37.toInt = pL (c 9) (c 10) (c 13) (i 8).toInt y5_2.toInt)) := hw37
                obtain ⟨hw37, hr37_0⟩ := hw37
                have hr37_0 : r37.toInt = pL (c 9) (c 10) (c 13) (i 8).toInt y5_2.toInt := hr37_0
                refine mld_11 hx hb hK hP (vp_in_iff.mpr (by have h9 : r37.toInt = r37.toInt := rfl; omega)) dX12_begin_66 (fun x38 ex38 => ?_)
                have rx38 : 0 ≤ x38.toInt ∧ x38.toInt ≤ 29 := by rw [ex38]; exact hI.2 11 _
                have gx38 : (c 11 (r37 : Int32).toNatClampNeg).toInt = x38.toInt := by rw [ex38]
                exact jn35  x38 (show x38.toInt = -9 ∨ (0 ≤ x38.toInt ∧ x38.toInt ≤ 29) from by omega) (show x38.toInt = fP (c 9) (c 10) (c 11) (c 13) (i 8).toInt y5_2.toInt from (fP_at (r := r37) (by omega) hr37_0 (by omega) gx38).symm) (show x38.toInt = -9 ∨ (0 ≤ x38.toInt ∧ x38.toInt < (i 5).toInt) from Or.inr ⟨by omega, by have h9 := fsF_r (P := mP (c 9) (c 10) (c 13) _) hr37_0 (by omega); have h8 := (hs_S.2.1 r37.toInt.toNat (by omega)).2.1 (by have h7 := h9.2.2.2.1; omega); have h6 : (c 11 r37.toNatClampNeg).toInt < (i 5).toInt := h8; omega⟩) _ _ _ hP hD hS (lv_sub hl [0, 1, 2] rfl)
              · have f36 := (ti_eq (a := r34.toInt) (b := (-9)) rfl (by decide)).mp c36
                refine lv_bipush (v := (-9)) hx hb dX12_begin_52 (by decide) ?_
                refine lv_goto (tgt := 67) hx hb dX12_begin_54 (by decide) ?_
                exact jn35  ((-9) : Int32) (show ((-9) : Int32).toInt = -9 ∨ (0 ≤ ((-9) : Int32).toInt ∧ ((-9) : Int32).toInt ≤ 29) from by have h53 : ((-9) : Int32).toInt = -9 := (by decide); omega) (show ((-9) : Int32).toInt = fP (c 9) (c 10) (c 11) (c 13) (i 8).toInt y5_2.toInt from by rw [fP_no (by omega)]; decide) (show ((-9) : Int32).toInt = -9 ∨ (0 ≤ ((-9) : Int32).toInt ∧ ((-9) : Int32).toInt < (i 5).toInt) from Or.inl (by decide)) _ _ _ hP hD hS (lv_sub hl [0, 1, 2] rfl)
      exact lp5 _ w (show w.toInt = -9 ∨ (0 ≤ w.toInt ∧ w.toInt ≤ 29) from by omega) (show ∀ t, Ch (fP (c 9) (c 10) (c 11) (c 13) (i 8).toInt) w.toInt t → Ch (fP (c 9) (c 10) (c 11) (c 13) (i 8).toInt) w.toInt t from fun _ h9 => h9) (show w.toInt = -9 ∨ (0 ≤ w.toInt ∧ w.toInt < (i 5).toInt) from by omega) (Nat.lt_succ_self _) _ _ _ hP hD hS (lv_sub hl [0, 1, 2] rfl)
    · have f4 := (ti_eq (a := r3.toInt) (b := 0) rfl (by decide)).mp c4
      have s4 := sm_f hr3_0 c4
      refine lv_aload_n hx hb dX12_begin_19 rfl (lv_at hl 0 rfl) ?_
      refine lv_iconst (v := 3) hx hb dX12_begin_20 (by decide) ?_
      refine al_calli (va_runV (As := [.int 3]) (rest := []) ⟨hx, hb, hml, hown, hts⟩ (s_X12_meets l D H.size o a t i q c d 3 hI (show 1 ≤ 3 ∧ 3 ≤ 6 from by have h90 : (3 : Int32).toInt = 3 := (by decide); omega)) (cwV 1 hts gm_X12_begin_X12_meets rfl rfl rfl (by decide +kernel) ⟨Nat.le_of_ble_eq_true rfl, Nat.le_of_ble_eq_true rfl⟩) (pB_V hK hP hD (ci := 12) (q0 := 0) rfl rfl) rfl rfl hl.1 rfl (lv_room (Nat.le_of_ble_eq_true rfl)) dX12_begin_21 ⟨Nat.le_of_ble_eq_true rfl, Nat.le_of_ble_eq_true rfl⟩) hS hA hP hD (fun r39 u39 H locs hw39 hP hD hS => ?_)
      obtain ⟨i39, q39, c39, d39⟩ := u39
      have hw39 : r39 = (-3) ∧ mInv i39 c39 ∧ (∀ k, k ∉ ([0] : List Nat) → i39 k = i k) ∧ (∀ k, k ∉ ([1] : List Nat) → c39 k = c k) := hw39
      obtain ⟨hw39, hI, hei39, hec39⟩ := hw39
      have hfi : ∀ k, k ∉ ([0] : List Nat) → i39 k = i k := fr_z hfi hei39 (by decide) (by decide)
      have hfc : ∀ k, k ∉ ([1] : List Nat) → c39 k = c k := fr_z hfc hec39 (by decide) (by decide)
      have hP : va_P D vwCl (mW o a t i39 q39 c39 d39) H := hP
      have hD : va_D A (mW o a t i39 q39 c39 d39) := hD
      have hw39 : r39 = (-3) := hw39
      subst hw39
      exact rw_iret (i39, q39, c39, d39) hx hb hr hlocks hS (hK.sub (tys' := []) [] rfl) hP hD dX12_begin_24 ⟨trivial, hI, fr_w hfi (by decide), fr_w hfc (by decide), (show SJ (c39 3) (c39 6) (c39 9) (c39 10) (c39 11) (c39 13) ((i39 2) : Int32).toInt ((i39 5) : Int32).toInt ((i39 8) : Int32).toInt from by rw [show c39 3 = c 3 from hfc 3 (by decide), show c39 6 = c 6 from hfc 6 (by decide), show c39 9 = c 9 from hfc 9 (by decide), show c39 10 = c 10 from hfc 10 (by decide), show c39 11 = c 11 from hfc 11 (by decide), show c39 13 = c 13 from hfc 13 (by decide), show i39 2 = i 2 from hfi 2 (by decide), show i39 5 = i 5 from hfi 5 (by decide), show i39 8 = i 8 from hfi 8 (by decide)]; exact hs_S), (show TJ (c39 3) (c39 6) (c39 23) (c39 24) (c39 29) (c39 30) ((i39 5) : Int32).toInt ((i39 22) : Int32).toInt ((i39 27) : Int32).toInt from by rw [show c39 3 = c 3 from hfc 3 (by decide), show c39 6 = c 6 from hfc 6 (by decide), show c39 23 = c 23 from hfc 23 (by decide), show c39 24 = c 24 from hfc 24 (by decide), show c39 29 = c 29 from hfc 29 (by decide), show c39 30 = c 30 from hfc 30 (by decide), show i39 5 = i 5 from hfi 5 (by decide), show i39 22 = i 22 from hfi 22 (by decide), show i39 27 = i 27 from hfi 27 (by decide)]; exact hs_J)⟩
  · have f2 := fl_f hw1 c2
    refine lv_iconst (v := (-1)) hx hb dX12_begin_8 (by decide) ?_
    exact rw_iret (i, q, c, d) hx hb hr hlocks hS (hK.sub (tys' := []) [] rfl) hP hD dX12_begin_9 ⟨trivial, hI, fr_w hfi (by decide), fr_w hfc (by decide), (show SJ (c 3) (c 6) (c 9) (c 10) (c 11) (c 13) ((i 2) : Int32).toInt ((i 5) : Int32).toInt ((i 8) : Int32).toInt from hs_S), (show TJ (c 3) (c 6) (c 23) (c 24) (c 29) (c 30) ((i 5) : Int32).toInt ((i 22) : Int32).toInt ((i 27) : Int32).toInt from hs_J)⟩

def wm_X12_digest : List Cond := .code yX12_digest cX12_digest 6 (some .long) :: (([.constantLong RX12 453 (17), .fieldLink RX12 151 "TalePlayModel" "kinds" "I", .fieldLink RX12 155 "TalePlayModel" "player" "I", .fieldLink RX12 177 "TalePlayModel" "objects" "I", .fieldLink RX12 202 "TalePlayModel" "sentences" "I", .constantLong RX12 455 (31), .methodLink RX12 457 yX12_sentence, .instanceMethod yX12_sentence, .selects RX12 yX12_sentence yX12_sentence, .initialized RX12, .code yX12_sentence cX12_sentence 3 (some .int), .methodLink RX12 166 yX12_in, .static yX12_in, .code yX12_in cX12_in 6 (some .boolean), .constantLong RX12 252 (4), .fieldLink RX12 37 "TalePlayModel" "isSaid" "[Z", .fieldLink RX12 34 "TalePlayModel" "right" "[I", .fieldLink RX12 31 "TalePlayModel" "middle" "[I", .fieldLink RX12 28 "TalePlayModel" "left" "[I", .fieldLink RX12 25 "TalePlayModel" "form" "[I", .fieldLink RX12 19 "TalePlayModel" "kindOf" "[I", .fieldLink RX12 22 "TalePlayModel" "sizeOf" "[I", .methodLink RX12 208 yX12_placing, .instanceMethod yX12_placing, .selects RX12 yX12_placing yX12_placing, .code yX12_placing cX12_placing 3 (some .int), .methodLink RX12 407 yX12_told, .instanceMethod yX12_told, .selects RX12 yX12_told yX12_told, .code yX12_told cX12_told 3 (some .int), .methodLink RX12 404 yX12_roomOf, .instanceMethod yX12_roomOf, .selects RX12 yX12_roomOf yX12_roomOf, .code yX12_roomOf cX12_roomOf 3 (some .int), .methodLink RX12 184 yX12_isOf, .instanceMethod yX12_isOf, .selects RX12 yX12_isOf yX12_isOf, .code yX12_isOf cX12_isOf 4 (some .boolean), .fieldLink RX12 13 "TalePlayModel" "parentOf" "[I", .fieldLink RX12 50 "TalePlayModel" "nForm" "[I", .fieldLink RX12 53 "TalePlayModel" "nAt" "[I", .methodLink RX12 191 yX12_isShutter, .instanceMethod yX12_isShutter, .selects RX12 yX12_isShutter yX12_isShutter, .code yX12_isShutter cX12_isShutter 2 (some .boolean), .fieldLink RX12 56 "TalePlayModel" "nOpen" "[Z", .fieldLink RX12 59 "TalePlayModel" "nLocked" "[Z", .fieldLink RX12 86 "TalePlayModel" "seen" "[Z", .fieldLink RX12 89 "TalePlayModel" "reached" "[Z", .methodLink RX12 392 yX12_lookAtKinds, .instanceMethod yX12_lookAtKinds, .selects RX12 yX12_lookAtKinds yX12_lookAtKinds, .code yX12_lookAtKinds cX12_lookAtKinds 2 none, .fieldLink RX12 92 "TalePlayModel" "lit" "[Z", .methodLink RX12 256 yX12_saidFlag, .instanceMethod yX12_saidFlag, .selects RX12 yX12_saidFlag yX12_saidFlag, .code yX12_saidFlag cX12_saidFlag 4 (some .int), .methodLink RX12 216 yX12_saidSo, .instanceMethod yX12_saidSo, .selects RX12 yX12_saidSo yX12_saidSo, .code yX12_saidSo cX12_saidSo 6 (some .int), .fieldLink RX12 16 "TalePlayModel" "defaults" "[I", .fieldLink RX12 98 "TalePlayModel" "isBox" "[Z", .fieldLink RX12 101 "TalePlayModel" "isRoom" "[Z", .fieldLink RX12 104 "TalePlayModel" "isDoor" "[Z", .fieldLink RX12 95 "TalePlayModel" "glass" "[Z", .methodLink RX12 395 yX12_lookAround, .instanceMethod yX12_lookAround, .selects RX12 yX12_lookAround yX12_lookAround, .code yX12_lookAround cX12_lookAround 3 none, .methodLink RX12 331 yX12_shellOf, .instanceMethod yX12_shellOf, .selects RX12 yX12_shellOf yX12_shellOf, .code yX12_shellOf cX12_shellOf 3 (some .int), .methodLink RX12 324 yX12_shuts, .instanceMethod yX12_shuts, .selects RX12 yX12_shuts yX12_shuts, .code yX12_shuts cX12_shuts 3 (some .boolean), .fieldLink RX12 335 "TalePlayModel" "shell" "I", .fieldLink RX12 338 "TalePlayModel" "handShell" "I", .fieldLink RX12 341 "TalePlayModel" "isLight" "Z", .methodLink RX12 344 yX12_isInView, .instanceMethod yX12_isInView, .selects RX12 yX12_isInView yX12_isInView, .code yX12_isInView cX12_isInView 5 (some .boolean), .methodLink RX12 328 yX12_isSide, .instanceMethod yX12_isSide, .selects RX12 yX12_isSide yX12_isSide, .code yX12_isSide cX12_isSide 4 (some .boolean)] : List Cond) ++ wsX120)
set_option maxRecDepth 20000 in
theorem gm_X12_digest_X12_sentence : GoodIn wm_X12_digest (wsV RX12 457 RX12 yX12_sentence wm_X12_sentence) := goodIn_app (goodIn_of _ (by decide +kernel)) (goodIn_r _ [11, 5, 12, 13, 10, 14, 15, 16, 17, 18, 19, 20, 91, 92, 93, 94, 95, 96, 97, 98, 99, 100, 101, 102, 103, 104, 105, 106, 107, 108, 109, 110, 111, 112, 113, 114, 115, 116, 117, 118, 119, 120, 121, 122, 123, 124, 125, 126, 127, 128, 129, 130, 131, 132, 133, 134, 135, 136, 137, 138, 139, 140, 141, 142, 143, 144, 145, 146, 147, 148, 149, 150, 151, 152, 153, 154, 155, 156, 157, 158, 159] (by decide +kernel) (by decide +kernel))
set_option maxRecDepth 20000 in
theorem gm_X12_digest_X12_placing : GoodIn wm_X12_digest (wsV RX12 208 RX12 yX12_placing wm_X12_placing) := goodIn_app (goodIn_of _ (by decide +kernel)) (goodIn_r _ [26, 5, 16, 20, 19, 91, 92, 93, 94, 95, 96, 97, 98, 99, 100, 101, 102, 103, 104, 105, 106, 107, 108, 109, 110, 111, 112, 113, 114, 115, 116, 117, 118, 119, 120, 121, 122, 123, 124, 125, 126, 127, 128, 129, 130, 131, 132, 133, 134, 135, 136, 137, 138, 139, 140, 141, 142, 143, 144, 145, 146, 147, 148, 149, 150, 151, 152, 153, 154, 155, 156, 157, 158, 159] (by decide +kernel) (by decide +kernel))
set_option maxRecDepth 20000 in
theorem gm_X12_digest_X12_told : GoodIn wm_X12_digest (wsV RX12 407 RX12 yX12_told wm_X12_told) := goodIn_app (goodIn_of _ (by decide +kernel)) (goodIn_r _ [30, 31, 32, 33, 10, 34, 35, 36, 37, 38, 21, 39, 40, 41, 42, 43, 44, 45, 46, 47, 48, 49, 91, 92, 93, 94, 95, 96, 97, 98, 99, 100, 101, 102, 103, 104, 105, 106, 107, 108, 109, 110, 111, 112, 113, 114, 115, 116, 117, 118, 119, 120, 121, 122, 123, 124, 125, 126, 127, 128, 129, 130, 131, 132, 133, 134, 135, 136, 137, 138, 139, 140, 141, 142, 143, 144, 145, 146, 147, 148, 149, 150, 151, 152, 153, 154, 155, 156, 157, 158, 159] (by decide +kernel) (by decide +kernel))
set_option maxRecDepth 20000 in
theorem gm_X12_digest_X12_lookAtKinds : GoodIn wm_X12_digest (wsV RX12 392 RX12 yX12_lookAtKinds wm_X12_lookAtKinds) := goodIn_app (goodIn_of _ (by decide +kernel)) (goodIn_r _ [53, 4, 54, 55, 56, 57, 10, 58, 59, 60, 61, 62, 5, 16, 20, 19, 18, 17, 21, 35, 36, 37, 38, 39, 63, 64, 65, 66, 67, 91, 92, 93, 94, 95, 96, 97, 98, 99, 100, 101, 102, 103, 104, 105, 106, 107, 108, 109, 110, 111, 112, 113, 114, 115, 116, 117, 118, 119, 120, 121, 122, 123, 124, 125, 126, 127, 128, 129, 130, 131, 132, 133, 134, 135, 136, 137, 138, 139, 140, 141, 142, 143, 144, 145, 146, 147, 148, 149, 150, 151, 152, 153, 154, 155, 156, 157, 158, 159] (by decide +kernel) (by decide +kernel))
set_option maxRecDepth 20000 in
theorem gm_X12_digest_X12_lookAround : GoodIn wm_X12_digest (wsV RX12 395 RX12 yX12_lookAround wm_X12_lookAround) := goodIn_app (goodIn_of _ (by decide +kernel)) (goodIn_r _ [71, 72, 73, 74, 10, 75, 41, 3, 65, 76, 77, 78, 79, 64, 46, 67, 80, 81, 82, 4, 48, 49, 83, 84, 85, 86, 66, 40, 87, 88, 89, 90, 5, 16, 20, 18, 19, 54, 91, 92, 93, 94, 95, 96, 97, 98, 99, 100, 101, 102, 103, 104, 105, 106, 107, 108, 109, 110, 111, 112, 113, 114, 115, 116, 117, 118, 119, 120, 121, 122, 123, 124, 125, 126, 127, 128, 129, 130, 131, 132, 133, 134, 135, 136, 137, 138, 139, 140, 141, 142, 143, 144, 145, 146, 147, 148, 149, 150, 151, 152, 153, 154, 155, 156, 157, 158, 159] (by decide +kernel) (by decide +kernel))
set_option maxHeartbeats 4000000 in
set_option maxRecDepth 100000 in
theorem s_X12_digest (l : Launch) (D : va_G) (sz : Nat) (o : Nat) (a : Nat → Nat) (t : Nat → ClassId) (i : Nat → Int32) (q : Int64) (c : Nat → Nat → Int32) (d : Nat → Nat → Int64) (hI : mInv i c) (hs_S : SJ (c 3) (c 6) (c 9) (c 10) (c 11) (c 13) (i 2).toInt (i 5).toInt (i 8).toInt) (hs_J : TJ (c 3) (c 6) (c 23) (c 24) (c 29) (c 30) (i 5).toInt (i 22).toInt (i 27).toInt) : Met l yX12_digest wm_X12_digest ({ frames := 3, cells := 0, slots := 0, locals := 69 }) (va_Pc [.ref o] (pB D sz (mW o a t i q c d) (mT t))) (va_Ql (fun (r : Int64) (u : MS) => True ∧ mInv u.1 u.2.2.1 ∧ (∀ k, k ∉ ([40, 41, 42] : List Nat) → u.1 k = i k) ∧ (∀ k, k ∉ ([43, 44, 45, 46, 47, 48, 49] : List Nat) → u.2.2.1 k = c k)) (oC D (va_A (mW o a t i q c d) sz) (fun u : MS => mW o a t u.1 u.2.1 u.2.2.1 u.2.2.2) (fun _ => [])) (va_A (mW o a t i q c d) sz)) 0 0 (va_A (mW o a t i q c d) sz) := by
  refine Met.ofW (cc := cX12_digest) (maxL := 6) (ret := (some .long)) (by decide) rfl ?_
  intro p e s m args below meth cd s₁ B hml hv
  obtain ⟨rfl, hsz, hP, hK, hD0⟩ := hv
  have hx := B.exec
  have hb := B.bytes
  have hr := B.returns
  have hts := atoms_spec (ws := wm_X12_digest) B.pre
  have hown : s.vm.findClass RX12 = some m.cls := findClass_of_methodNamed B.named
  have hlocks := B.notSynchronized
  subst hsz
  have hD := hD0.self (sz := s.heap.size)
  generalize hAe : va_A (mW o a t i q c d) s.heap.size = A at hD ⊢
  have hA : ∀ q : Nat, s.heap.size ≤ q → A q := fun q h => by rw [← hAe]; exact Or.inr h
  have hS : va_S A s.heap s.heap [] := va_S.rf
  have hfi : ∀ k, k ∉ ([] : List Nat) → i k = i k := fun _ _ => rfl
  have hfc : ∀ k, k ∉ ([] : List Nat) → c k = c k := fun _ _ => rfl
  have hl := lv_entry ([.ref o]) (n := 6) (Nat.le_of_ble_eq_true rfl)
  rw [lg_entry_eq]
  generalize (lg_sl ([.ref o]) ++ List.replicate (6 - (lg_sl ([.ref o])).length) Slot.unset).toArray = ls at hl ⊢
  have hl : lv_has ls 6 [(0, .ref o)] := hl
  have rb5_i : 0 ≤ (i 5).toInt ∧ (i 5).toInt ≤ 30 := hI.1 5
  have rb22_i : (i 22).toInt = -9 ∨ (0 ≤ (i 22).toInt ∧ (i 22).toInt ≤ 29) := hI.1 22
  refine lv_ldc2 (v := 17) hx hb hown (hts (.constantLong RX12 453 (17)) (by decide +kernel)) dX12_digest_0 ?_
  refine lv_lstore_n (lv' := [(1, .long 17), (0, .ref o)]) hx hb dX12_digest_3 rfl hl (by decide) rfl (fun ls hl => ?_)
  refine lv_iconst (v := 0) hx hb dX12_digest_4 (by decide) ?_
  refine lv_istore_n (lv' := [(3, .int 0), (1, .long 17), (0, .ref o)]) hx hb dX12_digest_5 rfl hl (by decide) rfl (fun ls hl => ?_)
  have lp1 : ∀ (fu : Nat) (y1_3 : Int32) (y1_1 : Int64), (0 ≤ y1_3.toInt ∧ y1_3.toInt ≤ 24) → (24 - y1_3.toInt).toNat < fu → ∀ (H : Heap) (locs : List Loc) (ls : Array Slot), va_P D vwCl (mW o a t i q c d) H → va_D A (mW o a t i q c d) → va_S A s.heap H locs → lv_has ls 6 [(3, .int y1_3), (1, .long y1_1), (0, .ref o)] → W p l e (headSpec wm_X12_digest ({ frames := 3, cells := 0, slots := 0, locals := 69 })).room s m ([.ref o] : List Value).toArray below meth cd H locs 0 0 (MQ below (va_Ql (fun (r : Int64) (u : MS) => True ∧ mInv u.1 u.2.2.1 ∧ (∀ k, k ∉ ([40, 41, 42] : List Nat) → u.1 k = i k) ∧ (∀ k, k ∉ ([43, 44, 45, 46, 47, 48, 49] : List Nat) → u.2.2.1 k = c k)) (oC D A (fun u : MS => mW o a t u.1 u.2.1 u.2.2.1 u.2.2.2) (fun _ => [])) A) ([.ref o] : List Value).toArray s 0 0 A) (F0 m 6 ls []) := by
    intro fu
    induction fu with
    | zero => intro y1_3 y1_1 hy1_3 hm; exact absurd hm (Nat.not_lt_zero _)
    | succ fu ih =>
      intro y1_3 y1_1 hy1_3 hm H locs ls hP hD hS hl
      have ih1 := ih
      refine lv_iload_n hx hb dX12_digest_6 rfl (lv_at hl 0 rfl) ?_
      refine lv_aload_n hx hb dX12_digest_7 rfl (lv_at hl 2 rfl) ?_
      refine mget_2 (v := (i 2)) rfl hx hb hts (fun _ h => List.mem_cons_of_mem _ (List.mem_append_right _ h)) hown hK hP (hts (.fieldLink RX12 151 "TalePlayModel" "kinds" "I") (by decide +kernel)) dX12_digest_8 ?_
      have rb2_i : 6 ≤ (i 2).toInt ∧ (i 2).toInt ≤ 24 := hI.1 2
      refine lv_icmp_ge (tgt := 70) hx hb dX12_digest_11 (by decide) (fun c2 => ?_) (fun c2 => ?_)
      · have f2 := (ti_le (a := (i 2).toInt) (b := y1_3.toInt) rfl rfl).mp c2
        refine lv_aload_n hx hb dX12_digest_70 rfl (lv_at hl 2 rfl) ?_
        refine mget_22 (v := (i 22)) rfl hx hb hts (fun _ h => List.mem_cons_of_mem _ (List.mem_append_right _ h)) hown hK hP (hts (.fieldLink RX12 155 "TalePlayModel" "player" "I") (by decide +kernel)) dX12_digest_71 ?_
        refine lv_bipush (v := (-9)) hx hb dX12_digest_74 (by decide) ?_
        have jn3 : ∀ (i3 : Nat → Int32) (q3 : Int64) (c3 : Nat → Nat → Int32) (d3 : Nat → Nat → Int64), mInv i3 c3 → (∀ k, k ∉ ([40, 41, 42] : List Nat) → i3 k = i k) → (∀ k, k ∉ ([43, 44, 45, 46, 47, 48, 49] : List Nat) → c3 k = c k) → ∀ (H : Heap) (locs : List Loc) (ls : Array Slot), va_P D vwCl (mW o a t i3 q3 c3 d3) H → va_D A (mW o a t i3 q3 c3 d3) → va_S A s.heap H locs → lv_has ls 6 [(3, .int y1_3), (1, .long y1_1), (0, .ref o)] → W p l e (headSpec wm_X12_digest ({ frames := 3, cells := 0, slots := 0, locals := 69 })).room s m ([.ref o] : List Value).toArray below meth cd H locs 0 0 (MQ below (va_Ql (fun (r : Int64) (u : MS) => True ∧ mInv u.1 u.2.2.1 ∧ (∀ k, k ∉ ([40, 41, 42] : List Nat) → u.1 k = i k) ∧ (∀ k, k ∉ ([43, 44, 45, 46, 47, 48, 49] : List Nat) → u.2.2.1 k = c k)) (oC D A (fun u : MS => mW o a t u.1 u.2.1 u.2.2.1 u.2.2.2) (fun _ => [])) A) ([.ref o] : List Value).toArray s 0 0 A) (F0 m 87 ls []) := by
          intro i3 q3 c3 d3 hI hfi hfc H locs ls hP hD hS hl
          refine lv_iconst (v := 0) hx hb dX12_digest_87 (by decide) ?_
          refine lv_istore_n (lv' := [(3, .int 0), (1, .long y1_1), (0, .ref o)]) hx hb dX12_digest_88 rfl hl (by decide) rfl (fun ls hl => ?_)
          have lp4 : ∀ (fu : Nat) (y4_3 : Int32) (y4_1 : Int64), (0 ≤ y4_3.toInt ∧ y4_3.toInt ≤ 30 ∧ y4_3.toInt ≤ (i 5).toInt) → (30 - y4_3.toInt).toNat < fu → ∀ (H : Heap) (locs : List Loc) (ls : Array Slot), va_P D vwCl (mW o a t i3 q3 c3 d3) H → va_D A (mW o a t i3 q3 c3 d3) → va_S A s.heap H locs → lv_has ls 6 [(3, .int y4_3), (1, .long y4_1), (0, .ref o)] → W p l e (headSpec wm_X12_digest ({ frames := 3, cells := 0, slots := 0, locals := 69 })).room s m ([.ref o] : List Value).toArray below meth cd H locs 0 0 (MQ below (va_Ql (fun (r : Int64) (u : MS) => True ∧ mInv u.1 u.2.2.1 ∧ (∀ k, k ∉ ([40, 41, 42] : List Nat) → u.1 k = i k) ∧ (∀ k, k ∉ ([43, 44, 45, 46, 47, 48, 49] : List Nat) → u.2.2.1 k = c k)) (oC D A (fun u : MS => mW o a t u.1 u.2.1 u.2.2.1 u.2.2.2) (fun _ => [])) A) ([.ref o] : List Value).toArray s 0 0 A) (F0 m 89 ls []) := by
            intro fu
            induction fu with
            | zero => intro y4_3 y4_1 hy4_3 hm; exact absurd hm (Nat.not_lt_zero _)
            | succ fu ih =>
              intro y4_3 y4_1 hy4_3 hm H locs ls hP hD hS hl
              have ih4 := ih
              refine lv_iload_n hx hb dX12_digest_89 rfl (lv_at hl 0 rfl) ?_
              refine lv_aload_n hx hb dX12_digest_90 rfl (lv_at hl 2 rfl) ?_
              refine mget_5 (v := (i3 5)) rfl hx hb hts (fun _ h => List.mem_cons_of_mem _ (List.mem_append_right _ h)) hown hK hP (hts (.fieldLink RX12 177 "TalePlayModel" "objects" "I") (by decide +kernel)) dX12_digest_91 ?_
              have rb5_i3 : 0 ≤ (i3 5).toInt ∧ (i3 5).toInt ≤ 30 := hI.1 5
              have re5_i3 : (i3 5).toInt = (i 5).toInt := congrArg Int32.toInt (hfi 5 (by decide))
              refine lv_icmp_ge (tgt := 228) hx hb dX12_digest_94 (by decide) (fun c5 => ?_) (fun c5 => ?_)
              · have f5 := (ti_le (a := (i3 5).toInt) (b := y4_3.toInt) rfl rfl).mp c5
                refine lv_iconst (v := 0) hx hb dX12_digest_228 (by decide) ?_
                refine lv_istore_n (lv' := [(3, .int 0), (1, .long y4_1), (0, .ref o)]) hx hb dX12_digest_229 rfl hl (by decide) rfl (fun ls hl => ?_)
                have lp6 : ∀ (fu : Nat) (y6_3 : Int32) (y6_1 : Int64), (0 ≤ y6_3.toInt ∧ y6_3.toInt ≤ 200) → (200 - y6_3.toInt).toNat < fu → ∀ (H : Heap) (locs : List Loc) (ls : Array Slot), va_P D vwCl (mW o a t i3 q3 c3 d3) H → va_D A (mW o a t i3 q3 c3 d3) → va_S A s.heap H locs → lv_has ls 6 [(3, .int y6_3), (1, .long y6_1), (0, .ref o)] → W p l e (headSpec wm_X12_digest ({ frames := 3, cells := 0, slots := 0, locals := 69 })).room s m ([.ref o] : List Value).toArray below meth cd H locs 0 0 (MQ below (va_Ql (fun (r : Int64) (u : MS) => True ∧ mInv u.1 u.2.2.1 ∧ (∀ k, k ∉ ([40, 41, 42] : List Nat) → u.1 k = i k) ∧ (∀ k, k ∉ ([43, 44, 45, 46, 47, 48, 49] : List Nat) → u.2.2.1 k = c k)) (oC D A (fun u : MS => mW o a t u.1 u.2.1 u.2.2.1 u.2.2.2) (fun _ => [])) A) ([.ref o] : List Value).toArray s 0 0 A) (F0 m 230 ls []) := by
                  intro fu
                  induction fu with
                  | zero => intro y6_3 y6_1 hy6_3 hm; exact absurd hm (Nat.not_lt_zero _)
                  | succ fu ih =>
                    intro y6_3 y6_1 hy6_3 hm H locs ls hP hD hS hl
                    have ih6 := ih
                    refine lv_iload_n hx hb dX12_digest_230 rfl (lv_at hl 0 rfl) ?_
                    refine lv_aload_n hx hb dX12_digest_231 rfl (lv_at hl 2 rfl) ?_
                    refine mget_8 (v := (i3 8)) rfl hx hb hts (fun _ h => List.mem_cons_of_mem _ (List.mem_append_right _ h)) hown hK hP (hts (.fieldLink RX12 202 "TalePlayModel" "sentences" "I") (by decide +kernel)) dX12_digest_232 ?_
                    have rb8_i3 : 0 ≤ (i3 8).toInt ∧ (i3 8).toInt ≤ 200 := hI.1 8
                    have re8_i3 : (i3 8).toInt = (i 8).toInt := congrArg Int32.toInt (hfi 8 (by decide))
                    refine lv_icmp_ge (tgt := 274) hx hb dX12_digest_235 (by decide) (fun c7 => ?_) (fun c7 => ?_)
                    · have f7 := (ti_le (a := (i3 8).toInt) (b := y6_3.toInt) rfl rfl).mp c7
                      refine lv_lload_n hx hb dX12_digest_274 rfl (lv_at hl 1 rfl) ?_
                      exact rw_lret (i3, q3, c3, d3) hx hb hr hlocks hS (hK.sub (tys' := []) [] rfl) hP hD dX12_digest_275 ⟨trivial, hI, fr_w hfi (by decide), fr_w hfc (by decide)⟩
                    · have f7 := mt (ti_le (a := (i3 8).toInt) (b := y6_3.toInt) rfl rfl).mpr c7
                      refine lv_iconst (v := 0) hx hb dX12_digest_238 (by decide) ?_
                      refine lv_istore (lv' := [(4, .int 0), (3, .int y6_3), (1, .long y6_1), (0, .ref o)]) hx hb dX12_digest_239 hl (by decide) rfl (fun ls hl => ?_)
                      have lp8 : ∀ (fu : Nat) (y8_4 : Int32) (y8_1 : Int64), (0 ≤ y8_4.toInt ∧ y8_4.toInt ≤ 5) → (5 - y8_4.toInt).toNat < fu → ∀ (H : Heap) (locs : List Loc) (ls : Array Slot), va_P D vwCl (mW o a t i3 q3 c3 d3) H → va_D A (mW o a t i3 q3 c3 d3) → va_S A s.heap H locs → lv_has ls 6 [(4, .int y8_4), (3, .int y6_3), (1, .long y8_1), (0, .ref o)] → W p l e (headSpec wm_X12_digest ({ frames := 3, cells := 0, slots := 0, locals := 69 })).room s m ([.ref o] : List Value).toArray below meth cd H locs 0 0 (MQ below (va_Ql (fun (r : Int64) (u : MS) => True ∧ mInv u.1 u.2.2.1 ∧ (∀ k, k ∉ ([40, 41, 42] : List Nat) → u.1 k = i k) ∧ (∀ k, k ∉ ([43, 44, 45, 46, 47, 48, 49] : List Nat) → u.2.2.1 k = c k)) (oC D A (fun u : MS => mW o a t u.1 u.2.1 u.2.2.1 u.2.2.2) (fun _ => [])) A) ([.ref o] : List Value).toArray s 0 0 A) (F0 m 241 ls []) := by
                        intro fu
                        induction fu with
                        | zero => intro y8_4 y8_1 hy8_4 hm; exact absurd hm (Nat.not_lt_zero _)
                        | succ fu ih =>
                          intro y8_4 y8_1 hy8_4 hm H locs ls hP hD hS hl
                          have ih8 := ih
                          refine lv_iload hx hb dX12_digest_241 (lv_at hl 0 rfl) ?_
                          refine lv_iconst (v := 5) hx hb dX12_digest_243 (by decide) ?_
                          refine lv_icmp_ge (tgt := 268) hx hb dX12_digest_244 (by decide) (fun c9 => ?_) (fun c9 => ?_)
                          · have f9 := (ti_le (a := 5) (b := y8_4.toInt) (by decide) rfl).mp c9
                            obtain ⟨x10, ex10⟩ : ∃ y : Int32, y = y6_3 + 1 := ⟨_, rfl⟩
                            have tx10 := ti_add (a := y6_3.toInt) (b := 1) ex10 rfl (by decide) (by omega) (by omega)
                            refine lv_iinc (v := x10) (lv' := [(3, .int x10), (4, .int y8_4), (1, .long y8_1), (0, .ref o)]) hx hb dX12_digest_268 hl (k := 1) rfl (by rw [ex10]; rfl) (by decide) rfl (fun ls hl => ?_)
                            refine lv_goto (tgt := 230) hx hb dX12_digest_271 (by decide) ?_
                            exact ih6 x10 y8_1 (show 0 ≤ x10.toInt ∧ x10.toInt ≤ 200 from by have h50 : x10.toInt = (y6_3.toInt + 1) := tx10; omega) (by have h50 : x10.toInt = (y6_3.toInt + 1) := tx10; omega) _ _ _ hP hD hS (lv_sub hl [0, 2, 3] rfl)
                          · have f9 := mt (ti_le (a := 5) (b := y8_4.toInt) (by decide) rfl).mpr c9
                            refine lv_ldc2 (v := 31) hx hb hown (hts (.constantLong RX12 455 (31)) (by decide +kernel)) dX12_digest_247 ?_
                            refine lv_lload_n hx hb dX12_digest_250 rfl (lv_at hl 2 rfl) ?_
                            refine lv_lmul hx hb dX12_digest_251 ?_
                            refine lv_topl (fun x11 ex11 => ?_)
                            refine lv_aload_n hx hb dX12_digest_252 rfl (lv_at hl 3 rfl) ?_
                            refine lv_iload_n hx hb dX12_digest_253 rfl (lv_at hl 1 rfl) ?_
                            refine lv_iload hx hb dX12_digest_254 (lv_at hl 0 rfl) ?_
                            refine ro_calli (va_runV (As := [.int y6_3, .int y8_4]) (rest := [.long x11]) ⟨hx, hb, hml, hown, hts⟩ (s_X12_sentence l D H.size o a t i3 q3 c3 d3 y6_3 y8_4 hI ) (cwV 2 hts gm_X12_digest_X12_sentence rfl rfl rfl (by decide +kernel) ⟨Nat.le_of_ble_eq_true rfl, Nat.le_of_ble_eq_true rfl⟩) (pA_V hK hP (ci := 12) (q0 := 0) rfl rfl) rfl rfl hl.1 rfl (lv_room (Nat.le_of_ble_eq_true rfl)) dX12_digest_256 ⟨Nat.le_of_ble_eq_true rfl, Nat.le_of_ble_eq_true rfl⟩) hS hA hP (fun r12 u12 H locs hw12 hP hS => ?_)
                            refine lv_i2l (v := r12.toInt64) hx hb dX12_digest_259 rfl ?_
                            refine lv_ladd hx hb dX12_digest_260 ?_
                            refine lv_topl (fun x13 ex13 => ?_)
                            refine lv_lstore_n (lv' := [(1, .long x13), (4, .int y8_4), (3, .int y6_3), (0, .ref o)]) hx hb dX12_digest_261 rfl hl (by decide) rfl (fun ls hl => ?_)
                            obtain ⟨x14, ex14⟩ : ∃ y : Int32, y = y8_4 + 1 := ⟨_, rfl⟩
                            have tx14 := ti_add (a := y8_4.toInt) (b := 1) ex14 rfl (by decide) (by omega) (by omega)
                            refine lv_iinc (v := x14) (lv' := [(4, .int x14), (1, .long x13), (3, .int y6_3), (0, .ref o)]) hx hb dX12_digest_262 hl (k := 1) rfl (by rw [ex14]; rfl) (by decide) rfl (fun ls hl => ?_)
                            refine lv_goto (tgt := 241) hx hb dX12_digest_265 (by decide) ?_
                            exact ih8 x14 x13 (show 0 ≤ x14.toInt ∧ x14.toInt ≤ 5 from by have h50 : x14.toInt = (y8_4.toInt + 1) := tx14; omega) (by have h50 : x14.toInt = (y8_4.toInt + 1) := tx14; omega) _ _ _ hP hD hS (lv_sub hl [0, 2, 1, 3] rfl)
                      exact lp8 _ (0 : Int32) y6_1 (show 0 ≤ (0 : Int32).toInt ∧ (0 : Int32).toInt ≤ 5 from by have h50 : (0 : Int32).toInt = 0 := (by decide); omega) (Nat.lt_succ_self _) _ _ _ hP hD hS (lv_sub hl [0, 1, 2, 3] rfl)
                exact lp6 _ (0 : Int32) y4_1 (show 0 ≤ (0 : Int32).toInt ∧ (0 : Int32).toInt ≤ 200 from by have h50 : (0 : Int32).toInt = 0 := (by decide); omega) (Nat.lt_succ_self _) _ _ _ hP hD hS (lv_sub hl [0, 1, 2] rfl)
              · have f5 := mt (ti_le (a := (i3 5).toInt) (b := y4_3.toInt) rfl rfl).mpr c5
                refine lv_ldc2 (v := 31) hx hb hown (hts (.constantLong RX12 455 (31)) (by decide +kernel)) dX12_digest_97 ?_
                refine lv_ldc2 (v := 31) hx hb hown (hts (.constantLong RX12 455 (31)) (by decide +kernel)) dX12_digest_100 ?_
                refine lv_lload_n hx hb dX12_digest_103 rfl (lv_at hl 1 rfl) ?_
                refine lv_lmul hx hb dX12_digest_104 ?_
                refine lv_topl (fun x15 ex15 => ?_)
                refine lv_aload_n hx hb dX12_digest_105 rfl (lv_at hl 2 rfl) ?_
                refine mget_6 hx hb hts (fun _ h => List.mem_cons_of_mem _ (List.mem_append_right _ h)) hown hK hP (hts (.fieldLink RX12 19 "TalePlayModel" "kindOf" "[I") (by decide +kernel)) dX12_digest_106 ?_
                refine lv_iload_n hx hb dX12_digest_109 rfl (lv_at hl 0 rfl) ?_
                refine mld_6 hx hb hK hP (vp_in_iff.mpr (by have h9 : y4_3.toInt = y4_3.toInt := rfl; omega)) dX12_digest_110 (fun x16 ex16 => ?_)
                have rx16 : 0 ≤ x16.toInt ∧ x16.toInt ≤ 23 := by rw [ex16]; exact hI.2 6 _
                refine lv_i2l (v := x16.toInt64) hx hb dX12_digest_111 rfl ?_
                refine lv_ladd hx hb dX12_digest_112 ?_
                refine lv_topl (fun x17 ex17 => ?_)
                refine lv_lmul hx hb dX12_digest_113 ?_
                refine lv_topl (fun x18 ex18 => ?_)
                refine lv_aload_n hx hb dX12_digest_114 rfl (lv_at hl 2 rfl) ?_
                refine mget_7 hx hb hts (fun _ h => List.mem_cons_of_mem _ (List.mem_append_right _ h)) hown hK hP (hts (.fieldLink RX12 22 "TalePlayModel" "sizeOf" "[I") (by decide +kernel)) dX12_digest_115 ?_
                refine lv_iload_n hx hb dX12_digest_118 rfl (lv_at hl 0 rfl) ?_
                refine mld_7 hx hb hK hP (vp_in_iff.mpr (by have h9 : y4_3.toInt = y4_3.toInt := rfl; omega)) dX12_digest_119 (fun x19 ex19 => ?_)
                have rx19 : 0 ≤ x19.toInt ∧ x19.toInt ≤ 99 := by rw [ex19]; exact hI.2 7 _
                refine lv_i2l (v := x19.toInt64) hx hb dX12_digest_120 rfl ?_
                refine lv_ladd hx hb dX12_digest_121 ?_
                refine lv_topl (fun x20 ex20 => ?_)
                refine lv_lstore_n (lv' := [(1, .long x20), (3, .int y4_3), (0, .ref o)]) hx hb dX12_digest_122 rfl hl (by decide) rfl (fun ls hl => ?_)
                refine lv_aload_n hx hb dX12_digest_123 rfl (lv_at hl 2 rfl) ?_
                refine lv_iload_n hx hb dX12_digest_124 rfl (lv_at hl 1 rfl) ?_
                have rb8_i3 : 0 ≤ (i3 8).toInt ∧ (i3 8).toInt ≤ 200 := hI.1 8
                have re8_i3 : (i3 8).toInt = (i 8).toInt := congrArg Int32.toInt (hfi 8 (by decide))
                refine ro_calli (va_runV (As := [.int y4_3]) (rest := []) ⟨hx, hb, hml, hown, hts⟩ (s_X12_placing l D H.size o a t i3 q3 c3 d3 y4_3 hI ) (cwV 1 hts gm_X12_digest_X12_placing rfl rfl rfl (by decide +kernel) ⟨Nat.le_of_ble_eq_true rfl, Nat.le_of_ble_eq_true rfl⟩) (pA_V hK hP (ci := 12) (q0 := 0) rfl rfl) rfl rfl hl.1 rfl (lv_room (Nat.le_of_ble_eq_true rfl)) dX12_digest_125 ⟨Nat.le_of_ble_eq_true rfl, Nat.le_of_ble_eq_true rfl⟩) hS hA hP (fun r21 u21 H locs hw21 hP hS => ?_)
                have hw21 : ((r21.toInt = -9 ∨ (0 ≤ r21.toInt ∧ r21.toInt ≤ 199)) ∧ (r21.toInt = pL (c3 9) (c3 10) (c3 13) (i3 8).toInt y4_3.toInt)) := hw21
                obtain ⟨hw21, hr21_0⟩ := hw21
                have hr21_0 : r21.toInt = pL (c 9) (c 10) (c 13) (i 8).toInt y4_3.toInt := by have h9 := hr21_0; rw [show c3 9 = c 9 from hfc 9 (by decide), show c3 10 = c 10 from hfc 10 (by decide), show c3 13 = c 13 from hfc 13 (by decide), show i3 8 = i 8 from hfi 8 (by decide)] at h9; exact h9
                refine lv_istore (lv' := [(4, .int r21), (1, .long x20), (3, .int y4_3), (0, .ref o)]) hx hb dX12_digest_128 hl (by decide) rfl (fun ls hl => ?_)
                refine lv_ldc2 (v := 31) hx hb hown (hts (.constantLong RX12 455 (31)) (by decide +kernel)) dX12_digest_130 ?_
                refine lv_ldc2 (v := 31) hx hb hown (hts (.constantLong RX12 455 (31)) (by decide +kernel)) dX12_digest_133 ?_
                refine lv_lload_n hx hb dX12_digest_136 rfl (lv_at hl 1 rfl) ?_
                refine lv_lmul hx hb dX12_digest_137 ?_
                refine lv_topl (fun x22 ex22 => ?_)
                refine lv_iload hx hb dX12_digest_138 (lv_at hl 0 rfl) ?_
                refine lv_bipush (v := (-9)) hx hb dX12_digest_140 (by decide) ?_
                have jn23 : ∀ (z23_0 : Int32), ∀ (H : Heap) (locs : List Loc) (ls : Array Slot), va_P D vwCl (mW o a t i3 q3 c3 d3) H → va_D A (mW o a t i3 q3 c3 d3) → va_S A s.heap H locs → lv_has ls 6 [(4, .int r21), (1, .long x20), (3, .int y4_3), (0, .ref o)] → W p l e (headSpec wm_X12_digest ({ frames := 3, cells := 0, slots := 0, locals := 69 })).room s m ([.ref o] : List Value).toArray below meth cd H locs 0 0 (MQ below (va_Ql (fun (r : Int64) (u : MS) => True ∧ mInv u.1 u.2.2.1 ∧ (∀ k, k ∉ ([40, 41, 42] : List Nat) → u.1 k = i k) ∧ (∀ k, k ∉ ([43, 44, 45, 46, 47, 48, 49] : List Nat) → u.2.2.1 k = c k)) (oC D A (fun u : MS => mW o a t u.1 u.2.1 u.2.2.1 u.2.2.2) (fun _ => [])) A) ([.ref o] : List Value).toArray s 0 0 A) (F0 m 157 ls [.int z23_0, .long x22, .long 31]) := by
                  intro z23_0 H locs ls hP hD hS hl
                  refine lv_i2l (v := z23_0.toInt64) hx hb dX12_digest_157 rfl ?_
                  refine lv_ladd hx hb dX12_digest_158 ?_
                  refine lv_topl (fun x24 ex24 => ?_)
                  refine lv_lmul hx hb dX12_digest_159 ?_
                  refine lv_topl (fun x25 ex25 => ?_)
                  refine lv_iload hx hb dX12_digest_160 (lv_at hl 0 rfl) ?_
                  refine lv_bipush (v := (-9)) hx hb dX12_digest_162 (by decide) ?_
                  have jn26 : ∀ (z26_0 : Int32), ∀ (H : Heap) (locs : List Loc) (ls : Array Slot), va_P D vwCl (mW o a t i3 q3 c3 d3) H → va_D A (mW o a t i3 q3 c3 d3) → va_S A s.heap H locs → lv_has ls 6 [(4, .int r21), (1, .long x20), (3, .int y4_3), (0, .ref o)] → W p l e (headSpec wm_X12_digest ({ frames := 3, cells := 0, slots := 0, locals := 69 })).room s m ([.ref o] : List Value).toArray below meth cd H locs 0 0 (MQ below (va_Ql (fun (r : Int64) (u : MS) => True ∧ mInv u.1 u.2.2.1 ∧ (∀ k, k ∉ ([40, 41, 42] : List Nat) → u.1 k = i k) ∧ (∀ k, k ∉ ([43, 44, 45, 46, 47, 48, 49] : List Nat) → u.2.2.1 k = c k)) (oC D A (fun u : MS => mW o a t u.1 u.2.1 u.2.2.1 u.2.2.2) (fun _ => [])) A) ([.ref o] : List Value).toArray s 0 0 A) (F0 m 179 ls [.int z26_0, .long x25]) := by
                    intro z26_0 H locs ls hP hD hS hl
                    refine lv_i2l (v := z26_0.toInt64) hx hb dX12_digest_179 rfl ?_
                    refine lv_ladd hx hb dX12_digest_180 ?_
                    refine lv_topl (fun x27 ex27 => ?_)
                    refine lv_lstore_n (lv' := [(1, .long x27), (4, .int r21), (3, .int y4_3), (0, .ref o)]) hx hb dX12_digest_181 rfl hl (by decide) rfl (fun ls hl => ?_)
                    refine lv_iconst (v := 0) hx hb dX12_digest_182 (by decide) ?_
                    refine lv_istore (lv' := [(5, .int 0), (1, .long x27), (4, .int r21), (3, .int y4_3), (0, .ref o)]) hx hb dX12_digest_183 hl (by decide) rfl (fun ls hl => ?_)
                    have lp28 : ∀ (fu : Nat) (y28_5 : Int32) (y28_1 : Int64), (0 ≤ y28_5.toInt ∧ y28_5.toInt ≤ 6) → (6 - y28_5.toInt).toNat < fu → ∀ (H : Heap) (locs : List Loc) (ls : Array Slot), va_P D vwCl (mW o a t i3 q3 c3 d3) H → va_D A (mW o a t i3 q3 c3 d3) → va_S A s.heap H locs → lv_has ls 6 [(5, .int y28_5), (1, .long y28_1), (4, .int r21), (3, .int y4_3), (0, .ref o)] → W p l e (headSpec wm_X12_digest ({ frames := 3, cells := 0, slots := 0, locals := 69 })).room s m ([.ref o] : List Value).toArray below meth cd H locs 0 0 (MQ below (va_Ql (fun (r : Int64) (u : MS) => True ∧ mInv u.1 u.2.2.1 ∧ (∀ k, k ∉ ([40, 41, 42] : List Nat) → u.1 k = i k) ∧ (∀ k, k ∉ ([43, 44, 45, 46, 47, 48, 49] : List Nat) → u.2.2.1 k = c k)) (oC D A (fun u : MS => mW o a t u.1 u.2.1 u.2.2.1 u.2.2.2) (fun _ => [])) A) ([.ref o] : List Value).toArray s 0 0 A) (F0 m 185 ls []) := by
                      intro fu
                      induction fu with
                      | zero => intro y28_5 y28_1 hy28_5 hm; exact absurd hm (Nat.not_lt_zero _)
                      | succ fu ih =>
                        intro y28_5 y28_1 hy28_5 hm H locs ls hP hD hS hl
                        have ih28 := ih
                        refine lv_iload hx hb dX12_digest_185 (lv_at hl 0 rfl) ?_
                        refine lv_bipush (v := 6) hx hb dX12_digest_187 (by decide) ?_
                        have jn29 : ∀ (H : Heap) (locs : List Loc) (ls : Array Slot), va_P D vwCl (mW o a t i3 q3 c3 d3) H → va_D A (mW o a t i3 q3 c3 d3) → va_S A s.heap H locs → lv_has ls 6 [(5, .int y28_5), (1, .long y28_1), (4, .int r21), (3, .int y4_3), (0, .ref o)] → W p l e (headSpec wm_X12_digest ({ frames := 3, cells := 0, slots := 0, locals := 69 })).room s m ([.ref o] : List Value).toArray below meth cd H locs 0 0 (MQ below (va_Ql (fun (r : Int64) (u : MS) => True ∧ mInv u.1 u.2.2.1 ∧ (∀ k, k ∉ ([40, 41, 42] : List Nat) → u.1 k = i k) ∧ (∀ k, k ∉ ([43, 44, 45, 46, 47, 48, 49] : List Nat) → u.2.2.1 k = c k)) (oC D A (fun u : MS => mW o a t u.1 u.2.1 u.2.2.1 u.2.2.2) (fun _ => [])) A) ([.ref o] : List Value).toArray s 0 0 A) (F0 m 222 ls []) := by
                          intro H locs ls hP hD hS hl
                          obtain ⟨x30, ex30⟩ : ∃ y : Int32, y = y4_3 + 1 := ⟨_, rfl⟩
                          have tx30 := ti_add (a := y4_3.toInt) (b := 1) ex30 rfl (by decide) (by omega) (by omega)
                          refine lv_iinc (v := x30) (lv' := [(3, .int x30), (5, .int y28_5), (1, .long y28_1), (4, .int r21), (0, .ref o)]) hx hb dX12_digest_222 hl (k := 3) rfl (by rw [ex30]; rfl) (by decide) rfl (fun ls hl => ?_)
                          refine lv_goto (tgt := 89) hx hb dX12_digest_225 (by decide) ?_
                          exact ih4 x30 y28_1 (show 0 ≤ x30.toInt ∧ x30.toInt ≤ 30 ∧ x30.toInt ≤ (i 5).toInt from by have h50 : x30.toInt = (y4_3.toInt + 1) := tx30; omega) (by have h50 : x30.toInt = (y4_3.toInt + 1) := tx30; omega) _ _ _ hP hD hS (lv_sub hl [0, 2, 4] rfl)
                        refine lv_icmp_ge (tgt := 222) hx hb dX12_digest_189 (by decide) (fun c31 => ?_) (fun c31 => ?_)
                        · have f31 := (ti_le (a := 6) (b := y28_5.toInt) (by decide) rfl).mp c31
                          exact jn29    _ _ _ hP hD hS (lv_sub hl [0, 1, 2, 3, 4] rfl)
                        · have f31 := mt (ti_le (a := 6) (b := y28_5.toInt) (by decide) rfl).mpr c31
                          refine lv_aload_n hx hb dX12_digest_192 rfl (lv_at hl 4 rfl) ?_
                          refine mget_22 (v := (i3 22)) rfl hx hb hts (fun _ h => List.mem_cons_of_mem _ (List.mem_append_right _ h)) hown hK hP (hts (.fieldLink RX12 155 "TalePlayModel" "player" "I") (by decide +kernel)) dX12_digest_193 ?_
                          have rb22_i3 : (i3 22).toInt = -9 ∨ (0 ≤ (i3 22).toInt ∧ (i3 22).toInt ≤ 29) := hI.1 22
                          have re22_i3 : (i3 22).toInt = (i 22).toInt := congrArg Int32.toInt (hfi 22 (by decide))
                          refine lv_bipush (v := (-9)) hx hb dX12_digest_196 (by decide) ?_
                          refine lv_icmp_eq (tgt := 222) hx hb dX12_digest_198 (by decide) (fun c32 => ?_) (fun c32 => ?_)
                          · have f32 := (ti_eq (a := (i3 22).toInt) (b := (-9)) rfl (by decide)).mp c32
                            exact jn29    _ _ _ hP hD hS (lv_sub hl [0, 1, 2, 3, 4] rfl)
                          · have f32 := mt (ti_eq (a := (i3 22).toInt) (b := (-9)) rfl (by decide)).mpr c32
                            have hs_T : TI (i 5).toInt (fun z => Kd (c 3) (c 6) z 0) (i 22).toInt (c 23) (c 24) := (hs_J (by omega)).2.1
                            have hs_P : Kd (c 3) (c 6) (i 22).toInt 5 := (hs_J (by omega)).1
                            have hs_G : Acy (gF (c 9) (c 10) (c 11) (c 13) (c 23) (c 24) (i 8).toInt (i 5).toInt (i 22).toInt) := gF_acy hs_S hs_J
                            refine lv_ldc2 (v := 31) hx hb hown (hts (.constantLong RX12 455 (31)) (by decide +kernel)) dX12_digest_201 ?_
                            refine lv_lload_n hx hb dX12_digest_204 rfl (lv_at hl 1 rfl) ?_
                            refine lv_lmul hx hb dX12_digest_205 ?_
                            refine lv_topl (fun x33 ex33 => ?_)
                            refine lv_aload_n hx hb dX12_digest_206 rfl (lv_at hl 4 rfl) ?_
                            refine lv_iload_n hx hb dX12_digest_207 rfl (lv_at hl 3 rfl) ?_
                            refine lv_iload hx hb dX12_digest_208 (lv_at hl 0 rfl) ?_
                            refine ro_calli (va_runV (As := [.int y4_3, .int y28_5]) (rest := [.long x33]) ⟨hx, hb, hml, hown, hts⟩ (s_X12_told l D H.size o a t i3 q3 c3 d3 y4_3 y28_5 hI (show 0 ≤ y4_3.toInt ∧ y4_3.toInt < ((i3 5) : Int32).toInt from by omega) (by rw [show c3 3 = c 3 from hfc 3 (by decide), show c3 6 = c 6 from hfc 6 (by decide), show c3 23 = c 23 from hfc 23 (by decide), show c3 24 = c 24 from hfc 24 (by decide), show i3 5 = i 5 from hfi 5 (by decide), show i3 22 = i 22 from hfi 22 (by decide)]; exact hs_T)) (cwV 2 hts gm_X12_digest_X12_told rfl rfl rfl (by decide +kernel) ⟨Nat.le_of_ble_eq_true rfl, Nat.le_of_ble_eq_true rfl⟩) (pA_V hK hP (ci := 12) (q0 := 0) rfl rfl) rfl rfl hl.1 rfl (lv_room (Nat.le_of_ble_eq_true rfl)) dX12_digest_210 ⟨Nat.le_of_ble_eq_true rfl, Nat.le_of_ble_eq_true rfl⟩) hS hA hP (fun r34 u34 H locs hw34 hP hS => ?_)
                            refine lv_i2l (v := r34.toInt64) hx hb dX12_digest_213 rfl ?_
                            refine lv_ladd hx hb dX12_digest_214 ?_
                            refine lv_topl (fun x35 ex35 => ?_)
                            refine lv_lstore_n (lv' := [(1, .long x35), (5, .int y28_5), (4, .int r21), (3, .int y4_3), (0, .ref o)]) hx hb dX12_digest_215 rfl hl (by decide) rfl (fun ls hl => ?_)
                            obtain ⟨x36, ex36⟩ : ∃ y : Int32, y = y28_5 + 1 := ⟨_, rfl⟩
                            have tx36 := ti_add (a := y28_5.toInt) (b := 1) ex36 rfl (by decide) (by omega) (by omega)
                            refine lv_iinc (v := x36) (lv' := [(5, .int x36), (1, .long x35), (4, .int r21), (3, .int y4_3), (0, .ref o)]) hx hb dX12_digest_216 hl (k := 1) rfl (by rw [ex36]; rfl) (by decide) rfl (fun ls hl => ?_)
                            refine lv_goto (tgt := 185) hx hb dX12_digest_219 (by decide) ?_
                            exact ih28 x36 x35 (show 0 ≤ x36.toInt ∧ x36.toInt ≤ 6 from by have h50 : x36.toInt = (y28_5.toInt + 1) := tx36; omega) (by have h50 : x36.toInt = (y28_5.toInt + 1) := tx36; omega) _ _ _ hP hD hS (lv_sub hl [0, 1, 2, 3, 4] rfl)
                    exact lp28 _ (0 : Int32) x27 (show 0 ≤ (0 : Int32).toInt ∧ (0 : Int32).toInt ≤ 6 from by have h50 : (0 : Int32).toInt = 0 := (by decide); omega) (Nat.lt_succ_self _) _ _ _ hP hD hS (lv_sub hl [0, 1, 2, 3, 4] rfl)
                  refine lv_icmp_ne (tgt := 172) hx hb dX12_digest_164 (by decide) (fun c37 => ?_) (fun c37 => ?_)
                  · have f37 := mt (ti_eq (a := r21.toInt) (b := (-9)) rfl (by decide)).mpr c37
                    refine lv_aload_n hx hb dX12_digest_172 rfl (lv_at hl 3 rfl) ?_
                    refine mget_11 hx hb hts (fun _ h => List.mem_cons_of_mem _ (List.mem_append_right _ h)) hown hK hP (hts (.fieldLink RX12 31 "TalePlayModel" "middle" "[I") (by decide +kernel)) dX12_digest_173 ?_
                    refine lv_iload hx hb dX12_digest_176 (lv_at hl 0 rfl) ?_
                    refine mld_11 hx hb hK hP (vp_in_iff.mpr (by have h9 : r21.toInt = r21.toInt := rfl; omega)) dX12_digest_178 (fun x38 ex38 => ?_)
                    have rx38 : 0 ≤ x38.toInt ∧ x38.toInt ≤ 29 := by rw [ex38]; exact hI.2 11 _
                    exact jn26  x38  _ _ _ hP hD hS (lv_sub hl [0, 1, 2, 3] rfl)
                  · have f37 := (ti_eq (a := r21.toInt) (b := (-9)) rfl (by decide)).mp c37
                    refine lv_bipush (v := (-9)) hx hb dX12_digest_167 (by decide) ?_
                    refine lv_goto (tgt := 179) hx hb dX12_digest_169 (by decide) ?_
                    exact jn26  ((-9) : Int32)  _ _ _ hP hD hS (lv_sub hl [0, 1, 2, 3] rfl)
                refine lv_icmp_ne (tgt := 150) hx hb dX12_digest_142 (by decide) (fun c39 => ?_) (fun c39 => ?_)
                · have f39 := mt (ti_eq (a := r21.toInt) (b := (-9)) rfl (by decide)).mpr c39
                  refine lv_aload_n hx hb dX12_digest_150 rfl (lv_at hl 3 rfl) ?_
                  refine mget_9 hx hb hts (fun _ h => List.mem_cons_of_mem _ (List.mem_append_right _ h)) hown hK hP (hts (.fieldLink RX12 25 "TalePlayModel" "form" "[I") (by decide +kernel)) dX12_digest_151 ?_
                  refine lv_iload hx hb dX12_digest_154 (lv_at hl 0 rfl) ?_
                  refine mld_9 hx hb hK hP (vp_in_iff.mpr (by have h9 : r21.toInt = r21.toInt := rfl; omega)) dX12_digest_156 (fun x40 ex40 => ?_)
                  have rx40 : 0 ≤ x40.toInt ∧ x40.toInt ≤ 7 := by rw [ex40]; exact hI.2 9 _
                  exact jn23  x40  _ _ _ hP hD hS (lv_sub hl [0, 1, 2, 3] rfl)
                · have f39 := (ti_eq (a := r21.toInt) (b := (-9)) rfl (by decide)).mp c39
                  refine lv_bipush (v := (-9)) hx hb dX12_digest_145 (by decide) ?_
                  refine lv_goto (tgt := 157) hx hb dX12_digest_147 (by decide) ?_
                  exact jn23  ((-9) : Int32)  _ _ _ hP hD hS (lv_sub hl [0, 1, 2, 3] rfl)
          exact lp4 _ (0 : Int32) y1_1 (show 0 ≤ (0 : Int32).toInt ∧ (0 : Int32).toInt ≤ 30 ∧ (0 : Int32).toInt ≤ (i 5).toInt from by have h50 : (0 : Int32).toInt = 0 := (by decide); omega) (Nat.lt_succ_self _) _ _ _ hP hD hS (lv_sub hl [0, 1, 2] rfl)
        refine lv_icmp_eq (tgt := 87) hx hb dX12_digest_76 (by decide) (fun c41 => ?_) (fun c41 => ?_)
        · have f41 := (ti_eq (a := (i 22).toInt) (b := (-9)) rfl (by decide)).mp c41
          exact jn3 i q c d   hI (fr_w hfi (by decide)) (fr_w hfc (by decide)) _ _ _ hP hD hS (lv_sub hl [0, 1, 2] rfl)
        · have f41 := mt (ti_eq (a := (i 22).toInt) (b := (-9)) rfl (by decide)).mpr c41
          have hs_T : TI (i 5).toInt (fun z => Kd (c 3) (c 6) z 0) (i 22).toInt (c 23) (c 24) := (hs_J (by omega)).2.1
          have hs_P : Kd (c 3) (c 6) (i 22).toInt 5 := (hs_J (by omega)).1
          have hs_G : Acy (gF (c 9) (c 10) (c 11) (c 13) (c 23) (c 24) (i 8).toInt (i 5).toInt (i 22).toInt) := gF_acy hs_S hs_J
          refine lv_aload_n hx hb dX12_digest_79 rfl (lv_at hl 2 rfl) ?_
          refine al_callv (va_runV (As := []) (rest := []) ⟨hx, hb, hml, hown, hts⟩ (s_X12_lookAtKinds l D H.size o a t i q c d  hI ) (cwV 0 hts gm_X12_digest_X12_lookAtKinds rfl rfl rfl (by decide +kernel) ⟨Nat.le_of_ble_eq_true rfl, Nat.le_of_ble_eq_true rfl⟩) (pB_V hK hP hD (ci := 12) (q0 := 0) rfl rfl) rfl rfl hl.1 rfl (lv_room (Nat.le_of_ble_eq_true rfl)) dX12_digest_80 ⟨Nat.le_of_ble_eq_true rfl, Nat.le_of_ble_eq_true rfl⟩) hS hA hP hD (fun u42 H locs hw42 hP hD hS => ?_)
          obtain ⟨i42, q42, c42, d42⟩ := u42
          have hw42 : True ∧ mInv i42 c42 ∧ (∀ k, k ∉ ([] : List Nat) → i42 k = i k) ∧ (∀ k, k ∉ ([45, 46, 47, 48, 49] : List Nat) → c42 k = c k) ∧ (Cc (c 3) (c 6) (c42 47) (c42 48) (c42 49) (i 5).toInt) := hw42
          obtain ⟨hw42, hI, hei42, hec42, hxp42_0⟩ := hw42
          have hxp42_0 : Cc (c 3) (c 6) (c42 47) (c42 48) (c42 49) (i 5).toInt := hxp42_0
          have hfi : ∀ k, k ∉ ([] : List Nat) → i42 k = i k := fr_z hfi hei42 (by decide) (by decide)
          have hfc : ∀ k, k ∉ ([45, 46, 47, 48, 49] : List Nat) → c42 k = c k := fr_z hfc hec42 (by decide) (by decide)
          have hP : va_P D vwCl (mW o a t i42 q42 c42 d42) H := hP
          have hD : va_D A (mW o a t i42 q42 c42 d42) := hD
          have hs_C := hxp42_0
          refine lv_aload_n hx hb dX12_digest_83 rfl (lv_at hl 2 rfl) ?_
          have rb5_i42 : 0 ≤ (i42 5).toInt ∧ (i42 5).toInt ≤ 30 := hI.1 5
          have re5_i42 : (i42 5).toInt = (i 5).toInt := congrArg Int32.toInt (hfi 5 (by decide))
          have rb22_i42 : (i42 22).toInt = -9 ∨ (0 ≤ (i42 22).toInt ∧ (i42 22).toInt ≤ 29) := hI.1 22
          have re22_i42 : (i42 22).toInt = (i 22).toInt := congrArg Int32.toInt (hfi 22 (by decide))
          refine al_callv (va_runV (As := []) (rest := []) ⟨hx, hb, hml, hown, hts⟩ (s_X12_lookAround l D H.size o a t i42 q42 c42 d42  hI (by rw [show c42 3 = c 3 from hfc 3 (by decide), show c42 6 = c 6 from hfc 6 (by decide), show c42 23 = c 23 from hfc 23 (by decide), show c42 24 = c 24 from hfc 24 (by decide), show i42 5 = i 5 from hfi 5 (by decide), show i42 22 = i 22 from hfi 22 (by decide)]; exact hs_T) (by rw [show c42 3 = c 3 from hfc 3 (by decide), show c42 6 = c 6 from hfc 6 (by decide), show i42 5 = i 5 from hfi 5 (by decide)]; exact hs_C)) (cwV 0 hts gm_X12_digest_X12_lookAround rfl rfl rfl (by decide +kernel) ⟨Nat.le_of_ble_eq_true rfl, Nat.le_of_ble_eq_true rfl⟩) (pB_V hK hP hD (ci := 12) (q0 := 0) rfl rfl) rfl rfl hl.1 rfl (lv_room (Nat.le_of_ble_eq_true rfl)) dX12_digest_84 ⟨Nat.le_of_ble_eq_true rfl, Nat.le_of_ble_eq_true rfl⟩) hS hA hP hD (fun u43 H locs hw43 hP hD hS => ?_)
          obtain ⟨i43, q43, c43, d43⟩ := u43
          have hw43 : True ∧ mInv i43 c43 ∧ (∀ k, k ∉ ([40, 41, 42] : List Nat) → i43 k = i42 k) ∧ (∀ k, k ∉ ([43, 44] : List Nat) → c43 k = c42 k) ∧ (RQ (c43 44) (c42 49) (nF (i42 5).toInt (c42 23) (c42 24)) (i42 22).toInt (i42 5).toInt) := hw43
          obtain ⟨hw43, hI, hei43, hec43, hxp43_0⟩ := hw43
          have hxp43_0 : RQ (c43 44) (c42 49) (nF (i 5).toInt (c 23) (c 24)) (i 22).toInt (i 5).toInt := by have h9 := hxp43_0; rw [show c42 23 = c 23 from hfc 23 (by decide), show c42 24 = c 24 from hfc 24 (by decide), show i42 5 = i 5 from hfi 5 (by decide), show i42 22 = i 22 from hfi 22 (by decide)] at h9; exact h9
          have hfi : ∀ k, k ∉ ([40, 41, 42] : List Nat) → i43 k = i k := fr_z hfi hei43 (by decide) (by decide)
          have hfc : ∀ k, k ∉ ([43, 44, 45, 46, 47, 48, 49] : List Nat) → c43 k = c k := fr_z hfc hec43 (by decide) (by decide)
          have hP : va_P D vwCl (mW o a t i43 q43 c43 d43) H := hP
          have hD : va_D A (mW o a t i43 q43 c43 d43) := hD
          have hs_C : Cc (c 3) (c 6) (c43 47) (c43 48) (c43 49) (i 5).toInt := by rw [show c43 47 = c42 47 from hec43 47 (by decide), show c43 48 = c42 48 from hec43 48 (by decide), show c43 49 = c42 49 from hec43 49 (by decide)]; exact hs_C
          exact jn3 i43 q43 c43 d43   hI (fr_w hfi (by decide)) (fr_w hfc (by decide)) _ _ _ hP hD hS (lv_sub hl [0, 1, 2] rfl)
      · have f2 := mt (ti_le (a := (i 2).toInt) (b := y1_3.toInt) rfl rfl).mpr c2
        refine lv_ldc2 (v := 31) hx hb hown (hts (.constantLong RX12 455 (31)) (by decide +kernel)) dX12_digest_14 ?_
        refine lv_lload_n hx hb dX12_digest_17 rfl (lv_at hl 1 rfl) ?_
        refine lv_lmul hx hb dX12_digest_18 ?_
        refine lv_topl (fun x44 ex44 => ?_)
        refine lv_aload_n hx hb dX12_digest_19 rfl (lv_at hl 2 rfl) ?_
        refine mget_3 hx hb hts (fun _ h => List.mem_cons_of_mem _ (List.mem_append_right _ h)) hown hK hP (hts (.fieldLink RX12 13 "TalePlayModel" "parentOf" "[I") (by decide +kernel)) dX12_digest_20 ?_
        refine lv_iload_n hx hb dX12_digest_23 rfl (lv_at hl 0 rfl) ?_
        refine mld_3 hx hb hK hP (vp_in_iff.mpr (by have h9 : y1_3.toInt = y1_3.toInt := rfl; omega)) dX12_digest_24 (fun x45 ex45 => ?_)
        have rx45 : ((((y1_3 : Int32).toNatClampNeg : Nat) : Int) ≤ 1 ∧ x45.toInt = -9) ∨ (2 ≤ (((y1_3 : Int32).toNatClampNeg : Nat) : Int) ∧ (((y1_3 : Int32).toNatClampNeg : Nat) : Int) ≤ 5 ∧ x45.toInt = 1) ∨ (6 ≤ (((y1_3 : Int32).toNatClampNeg : Nat) : Int) ∧ 0 ≤ x45.toInt ∧ x45.toInt ≤ 23 ∧ x45.toInt < (((y1_3 : Int32).toNatClampNeg : Nat) : Int)) := by rw [ex45]; exact hI.2 3 _
        have rc45 : (((y1_3 : Int32).toNatClampNeg : Nat) : Int) = (y1_3 : Int32).toInt := cl_nn (by have h9 : y1_3.toInt = y1_3.toInt := rfl; omega)
        refine lv_i2l (v := x45.toInt64) hx hb dX12_digest_25 rfl ?_
        refine lv_ladd hx hb dX12_digest_26 ?_
        refine lv_topl (fun x46 ex46 => ?_)
        refine lv_lstore_n (lv' := [(1, .long x46), (3, .int y1_3), (0, .ref o)]) hx hb dX12_digest_27 rfl hl (by decide) rfl (fun ls hl => ?_)
        refine lv_iconst (v := 0) hx hb dX12_digest_28 (by decide) ?_
        refine lv_istore (lv' := [(4, .int 0), (1, .long x46), (3, .int y1_3), (0, .ref o)]) hx hb dX12_digest_29 hl (by decide) rfl (fun ls hl => ?_)
        have lp47 : ∀ (fu : Nat) (y47_4 : Int32) (y47_1 : Int64), (0 ≤ y47_4.toInt ∧ y47_4.toInt ≤ 6) → (6 - y47_4.toInt).toNat < fu → ∀ (H : Heap) (locs : List Loc) (ls : Array Slot), va_P D vwCl (mW o a t i q c d) H → va_D A (mW o a t i q c d) → va_S A s.heap H locs → lv_has ls 6 [(4, .int y47_4), (1, .long y47_1), (3, .int y1_3), (0, .ref o)] → W p l e (headSpec wm_X12_digest ({ frames := 3, cells := 0, slots := 0, locals := 69 })).room s m ([.ref o] : List Value).toArray below meth cd H locs 0 0 (MQ below (va_Ql (fun (r : Int64) (u : MS) => True ∧ mInv u.1 u.2.2.1 ∧ (∀ k, k ∉ ([40, 41, 42] : List Nat) → u.1 k = i k) ∧ (∀ k, k ∉ ([43, 44, 45, 46, 47, 48, 49] : List Nat) → u.2.2.1 k = c k)) (oC D A (fun u : MS => mW o a t u.1 u.2.1 u.2.2.1 u.2.2.2) (fun _ => [])) A) ([.ref o] : List Value).toArray s 0 0 A) (F0 m 31 ls []) := by
          intro fu
          induction fu with
          | zero => intro y47_4 y47_1 hy47_4 hm; exact absurd hm (Nat.not_lt_zero _)
          | succ fu ih =>
            intro y47_4 y47_1 hy47_4 hm H locs ls hP hD hS hl
            have ih47 := ih
            refine lv_iload hx hb dX12_digest_31 (lv_at hl 0 rfl) ?_
            refine lv_bipush (v := 6) hx hb dX12_digest_33 (by decide) ?_
            refine lv_icmp_ge (tgt := 64) hx hb dX12_digest_35 (by decide) (fun c48 => ?_) (fun c48 => ?_)
            · have f48 := (ti_le (a := 6) (b := y47_4.toInt) (by decide) rfl).mp c48
              obtain ⟨x49, ex49⟩ : ∃ y : Int32, y = y1_3 + 1 := ⟨_, rfl⟩
              have tx49 := ti_add (a := y1_3.toInt) (b := 1) ex49 rfl (by decide) (by omega) (by omega)
              refine lv_iinc (v := x49) (lv' := [(3, .int x49), (4, .int y47_4), (1, .long y47_1), (0, .ref o)]) hx hb dX12_digest_64 hl (k := 2) rfl (by rw [ex49]; rfl) (by decide) rfl (fun ls hl => ?_)
              refine lv_goto (tgt := 6) hx hb dX12_digest_67 (by decide) ?_
              exact ih1 x49 y47_1 (show 0 ≤ x49.toInt ∧ x49.toInt ≤ 24 from by have h50 : x49.toInt = (y1_3.toInt + 1) := tx49; omega) (by have h50 : x49.toInt = (y1_3.toInt + 1) := tx49; omega) _ _ _ hP hD hS (lv_sub hl [0, 2, 3] rfl)
            · have f48 := mt (ti_le (a := 6) (b := y47_4.toInt) (by decide) rfl).mpr c48
              refine lv_ldc2 (v := 31) hx hb hown (hts (.constantLong RX12 455 (31)) (by decide +kernel)) dX12_digest_38 ?_
              refine lv_lload_n hx hb dX12_digest_41 rfl (lv_at hl 1 rfl) ?_
              refine lv_lmul hx hb dX12_digest_42 ?_
              refine lv_topl (fun x50 ex50 => ?_)
              refine lv_aload_n hx hb dX12_digest_43 rfl (lv_at hl 3 rfl) ?_
              refine mget_4 hx hb hts (fun _ h => List.mem_cons_of_mem _ (List.mem_append_right _ h)) hown hK hP (hts (.fieldLink RX12 16 "TalePlayModel" "defaults" "[I") (by decide +kernel)) dX12_digest_44 ?_
              refine lv_bipush (v := 6) hx hb dX12_digest_47 (by decide) ?_
              refine lv_iload_n hx hb dX12_digest_49 rfl (lv_at hl 2 rfl) ?_
              refine lv_imul hx hb dX12_digest_50 ?_
              refine lv_topi (fun x51 ex51 => ?_)
              have tx51 := ti_mul (a := 6) (b := y1_3.toInt) ex51 (by decide) rfl (by omega) (by omega)
              refine lv_iload hx hb dX12_digest_51 (lv_at hl 0 rfl) ?_
              refine lv_iadd hx hb dX12_digest_53 ?_
              refine lv_topi (fun x52 ex52 => ?_)
              have tx52 := ti_add (a := (6 * y1_3.toInt)) (b := y47_4.toInt) ex52 tx51 rfl (by omega) (by omega)
              refine mld_4 hx hb hK hP (vp_in_iff.mpr (by have h9 : x52.toInt = ((6 * y1_3.toInt) + y47_4.toInt) := tx52; omega)) dX12_digest_54 (fun x53 ex53 => ?_)
              have rx53 : x53.toInt = -9 ∨ (0 ≤ x53.toInt ∧ x53.toInt ≤ 1) := by rw [ex53]; exact hI.2 4 _
              refine lv_i2l (v := x53.toInt64) hx hb dX12_digest_55 rfl ?_
              refine lv_ladd hx hb dX12_digest_56 ?_
              refine lv_topl (fun x54 ex54 => ?_)
              refine lv_lstore_n (lv' := [(1, .long x54), (4, .int y47_4), (3, .int y1_3), (0, .ref o)]) hx hb dX12_digest_57 rfl hl (by decide) rfl (fun ls hl => ?_)
              obtain ⟨x55, ex55⟩ : ∃ y : Int32, y = y47_4 + 1 := ⟨_, rfl⟩
              have tx55 := ti_add (a := y47_4.toInt) (b := 1) ex55 rfl (by decide) (by omega) (by omega)
              refine lv_iinc (v := x55) (lv' := [(4, .int x55), (1, .long x54), (3, .int y1_3), (0, .ref o)]) hx hb dX12_digest_58 hl (k := 1) rfl (by rw [ex55]; rfl) (by decide) rfl (fun ls hl => ?_)
              refine lv_goto (tgt := 31) hx hb dX12_digest_61 (by decide) ?_
              exact ih47 x55 x54 (show 0 ≤ x55.toInt ∧ x55.toInt ≤ 6 from by have h50 : x55.toInt = (y47_4.toInt + 1) := tx55; omega) (by have h50 : x55.toInt = (y47_4.toInt + 1) := tx55; omega) _ _ _ hP hD hS (lv_sub hl [0, 1, 2, 3] rfl)
        exact lp47 _ (0 : Int32) x46 (show 0 ≤ (0 : Int32).toInt ∧ (0 : Int32).toInt ≤ 6 from by have h50 : (0 : Int32).toInt = 0 := (by decide); omega) (Nat.lt_succ_self _) _ _ _ hP hD hS (lv_sub hl [0, 1, 2, 3] rfl)
  exact lp1 _ (0 : Int32) (17 : Int64) (show 0 ≤ (0 : Int32).toInt ∧ (0 : Int32).toInt ≤ 24 from by have h50 : (0 : Int32).toInt = 0 := (by decide); omega) (Nat.lt_succ_self _) _ _ _ hP hD hS (lv_sub hl [0, 1, 2] rfl)

