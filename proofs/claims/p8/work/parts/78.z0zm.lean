set_option maxHeartbeats 4000000 in
set_option maxRecDepth 100000 in
theorem s_X12_keepState_t (l : Launch) (D : va_G) (sz : Nat) (o : Nat) (a : Nat → Nat) (t : Nat → ClassId) (i : Nat → Int32) (q : Int64) (c : Nat → Nat → Int32) (d : Nat → Nat → Int64) (s1 : Int32) (hI : mInv i c) (hs1 : 0 ≤ s1.toInt ∧ s1.toInt ≤ 300) : Met l yX12_keepState wm_X12_keepState ({ frames := 0, cells := 0, slots := 0, locals := 0 }) (va_Pc [.ref o, .int s1] (pB D sz (mW o a t i q c d) (mT t))) (va_Qv (fun (u : MS) => True ∧ mInv u.1 u.2.2.1 ∧ (∀ k, k ∉ ([] : List Nat) → u.1 k = i k) ∧ (∀ k, k ∉ ([51, 52, 53] : List Nat) → u.2.2.1 k = c k) ∧ (RW (u.2.2.1 51) (u.2.2.1 52) (c 51) (c 52) (c 23) (c 24) s1.toInt.toNat (i 5).toInt) ∧ (RS (u.2.2.1 53) (c 53) (c 25) (c 26) s1.toInt.toNat (i 5).toInt)) (oC D (va_A (mW o a t i q c d) sz) (fun u : MS => mW o a t u.1 u.2.1 u.2.2.1 u.2.2.2) (fun _ => [])) (va_A (mW o a t i q c d) sz)) 0 0 (va_A (mW o a t i q c d) sz) := by
  refine Met.ofW (cc := cX12_keepState) (maxL := 3) (ret := none) (by decide +kernel) rfl ?_
  intro p e s m args below meth cd s₁ B hml hv
  obtain ⟨rfl, hsz, hP, hK, hD0⟩ := hv
  have hx := B.exec
  have hb := B.bytes
  have hr := B.returns
  have hts := atoms_spec (ws := wm_X12_keepState) B.pre
  have hown : s.vm.findClass RX12 = some m.cls := findClass_of_methodNamed B.named
  have hlocks := B.notSynchronized
  subst hsz
  have hD := hD0.self (sz := s.heap.size)
  generalize hAe : va_A (mW o a t i q c d) s.heap.size = A at hD ⊢
  have hA : ∀ q : Nat, s.heap.size ≤ q → A q := fun q h => by rw [← hAe]; exact Or.inr h
  have hS : va_S A s.heap s.heap [] := va_S.rf
  have hfi : ∀ k, k ∉ ([] : List Nat) → i k = i k := fun _ _ => rfl
  have hfc : ∀ k, k ∉ ([] : List Nat) → c k = c k := fun _ _ => rfl
  have hl := lv_entry ([.ref o, .int s1]) (n := 3) (Nat.le_of_ble_eq_true rfl)
  rw [lg_entry_eq]
  generalize (lg_sl ([.ref o, .int s1]) ++ List.replicate (3 - (lg_sl ([.ref o, .int s1])).length) Slot.unset).toArray = ls at hl ⊢
  have hl : lv_has ls 3 [(0, .ref o), (1, .int s1)] := hl
  have rb5_i : 0 ≤ (i 5).toInt ∧ (i 5).toInt ≤ 30 := hI.1 5
  refine lv_iconst (v := 0) hx hb dX12_keepState_0 (by decide +kernel) ?_
  refine lv_istore_n (lv' := [(2, .int 0), (0, .ref o), (1, .int s1)]) hx hb dX12_keepState_1 rfl hl (by decide +kernel) rfl (fun ls hl => ?_)
  have lp1 : ∀ (fu : Nat) (i1 : Nat → Int32) (q1 : Int64) (c1 : Nat → Nat → Int32) (d1 : Nat → Nat → Int64) (y1_2 : Int32), mInv i1 c1 → (∀ k, k ∉ ([] : List Nat) → i1 k = i k) → (∀ k, k ∉ ([51, 52, 53] : List Nat) → c1 k = c k) → (0 ≤ y1_2.toInt ∧ y1_2.toInt ≤ 30 ∧ y1_2.toInt ≤ (i 5).toInt) → (RW (c1 51) (c1 52) (c 51) (c 52) (c 23) (c 24) s1.toInt.toNat y1_2.toInt) → (RS (c1 53) (c 53) (c 25) (c 26) s1.toInt.toNat y1_2.toInt) → (30 - y1_2.toInt).toNat < fu → ∀ (H : Heap) (locs : List Loc) (ls : Array Slot), va_P D vwCl (mW o a t i1 q1 c1 d1) H → va_D A (mW o a t i1 q1 c1 d1) → va_S A s.heap H locs → lv_has ls 3 [(2, .int y1_2), (0, .ref o), (1, .int s1)] → W p l e (headSpec wm_X12_keepState ({ frames := 0, cells := 0, slots := 0, locals := 0 })).room s m ([.ref o, .int s1] : List Value).toArray below meth cd H locs 0 0 (MQ below (va_Qv (fun (u : MS) => True ∧ mInv u.1 u.2.2.1 ∧ (∀ k, k ∉ ([] : List Nat) → u.1 k = i k) ∧ (∀ k, k ∉ ([51, 52, 53] : List Nat) → u.2.2.1 k = c k) ∧ (RW (u.2.2.1 51) (u.2.2.1 52) (c 51) (c 52) (c 23) (c 24) s1.toInt.toNat (i 5).toInt) ∧ (RS (u.2.2.1 53) (c 53) (c 25) (c 26) s1.toInt.toNat (i 5).toInt)) (oC D A (fun u : MS => mW o a t u.1 u.2.1 u.2.2.1 u.2.2.2) (fun _ => [])) A) ([.ref o, .int s1] : List Value).toArray s 0 0 A) (F0 m 2 ls []) := by
    intro fu
    induction fu with
    | zero => intro i1 q1 c1 d1 y1_2 hI hfi hfc hy1_2 hz1_0 hz1_1 hm; exact absurd hm (Nat.not_lt_zero _)
    | succ fu ih =>
      intro i1 q1 c1 d1 y1_2 hI hfi hfc hy1_2 hz1_0 hz1_1 hm H locs ls hP hD hS hl
      have ih1 := ih
      refine lv_iload_n hx hb dX12_keepState_2 rfl (lv_at hl 0 rfl) ?_
      refine lv_aload_n hx hb dX12_keepState_3 rfl (lv_at hl 1 rfl) ?_
      refine mget_5 (v := (i1 5)) rfl hx hb hts (fun _ h => List.mem_cons_of_mem _ (List.mem_append_right _ h)) hown hK hP (hts (.fieldLink RX12 177 "TalePlayModel" "objects" "I") (List.mem_cons_of_mem _ (List.mem_append_left _ (List.mem_of_getElem? (i := 0) rfl)))) dX12_keepState_4 ?_
      have rb5_i1 : 0 ≤ (i1 5).toInt ∧ (i1 5).toInt ≤ 30 := hI.1 5
      have re5_i1 : (i1 5).toInt = (i 5).toInt := congrArg Int32.toInt (hfi 5 (by decide +kernel))
      refine lv_icmp_ge (tgt := 93) hx hb dX12_keepState_7 (by decide +kernel) (fun c2 => ?_) (fun c2 => ?_)
      · have f2 := (ti_le (a := (i1 5).toInt) (b := y1_2.toInt) rfl rfl).mp c2
        exact rw_vret (i1, q1, c1, d1) hx hb hr hlocks hS (hK.sub (tys' := []) [] rfl) hP hD dX12_keepState_93 ⟨trivial, hI, fr_w hfi (by decide +kernel), fr_w hfc (by decide +kernel), (show RW (c1 51) (c1 52) (c 51) (c 52) (c 23) (c 24) s1.toInt.toNat (i 5).toInt from by rw [show (i 5).toInt = y1_2.toInt by omega]; exact hz1_0), (show RS (c1 53) (c 53) (c 25) (c 26) s1.toInt.toNat (i 5).toInt from by rw [show (i 5).toInt = y1_2.toInt by omega]; exact hz1_1)⟩
      · have f2 := mt (ti_le (a := (i1 5).toInt) (b := y1_2.toInt) rfl rfl).mpr c2
        have hfc0 := hfc
        refine lv_aload_n hx hb dX12_keepState_10 rfl (lv_at hl 1 rfl) ?_
        refine mget_51 hx hb hts (fun _ h => List.mem_cons_of_mem _ (List.mem_append_right _ h)) hown hK hP (hts (.fieldLink RX12 107 "TalePlayModel" "stateForm" "[B") (List.mem_cons_of_mem _ (List.mem_append_left _ (List.mem_of_getElem? (i := 1) rfl)))) dX12_keepState_11 ?_
        refine lv_bipush (v := 30) hx hb dX12_keepState_14 (by decide +kernel) ?_
        refine lv_iload_n hx hb dX12_keepState_16 rfl (lv_at hl 2 rfl) ?_
        refine lv_imul hx hb dX12_keepState_17 ?_
        refine lv_topi (fun x3 ex3 => ?_)
        have tx3 := ti_mul (a := 30) (b := s1.toInt) ex3 (by decide +kernel) rfl (by omega) (by omega)
        refine lv_iload_n hx hb dX12_keepState_18 rfl (lv_at hl 0 rfl) ?_
        refine lv_iadd hx hb dX12_keepState_19 ?_
        refine lv_topi (fun x4 ex4 => ?_)
        have tx4 := ti_add (a := (30 * s1.toInt)) (b := y1_2.toInt) ex4 tx3 rfl (by omega) (by omega)
        refine lv_aload_n hx hb dX12_keepState_20 rfl (lv_at hl 1 rfl) ?_
        refine mget_23 hx hb hts (fun _ h => List.mem_cons_of_mem _ (List.mem_append_right _ h)) hown hK hP (hts (.fieldLink RX12 50 "TalePlayModel" "nForm" "[I") (List.mem_cons_of_mem _ (List.mem_append_left _ (List.mem_of_getElem? (i := 2) rfl)))) dX12_keepState_21 ?_
        refine lv_iload_n hx hb dX12_keepState_24 rfl (lv_at hl 0 rfl) ?_
        refine mld_23 hx hb hK hP (vp_in_iff.mpr (by have h9 : y1_2.toInt = y1_2.toInt := rfl; omega)) dX12_keepState_25 (fun x5 ex5 => ?_)
        have rx5 : x5.toInt = -9 ∨ (0 ≤ x5.toInt ∧ x5.toInt ≤ 4) := by rw [ex5]; exact hI.2 23 _
        refine lv_i2b (v := x5) hx hb dX12_keepState_26 (nb_i (show -128 ≤ (x5 : Int32).toInt ∧ (x5 : Int32).toInt ≤ 127 from by omega)) ?_
        refine mst_51 hx hb hK hP hD hS (vp_in_iff.mpr (by have h9 : x4.toInt = ((30 * s1.toInt) + y1_2.toInt) := tx4; omega)) (nb_b (show -128 ≤ (x5 : Int32).toInt ∧ (x5 : Int32).toInt ≤ 127 from by omega)) dX12_keepState_27 (fun H locs hP hD hS => ?_)
        have hI := mInv_c hI (k := 51) (j := (x4 : Int32).toNatClampNeg) (x := x5) (show (x5 : Int32).toInt = -9 ∨ (0 ≤ (x5 : Int32).toInt ∧ (x5 : Int32).toInt ≤ 4) from by omega)
        have hfc := fr_c hfc (k := 51) (j := (x4 : Int32).toNatClampNeg) (x := x5) (by decide +kernel)
        refine lv_aload_n hx hb dX12_keepState_28 rfl (lv_at hl 1 rfl) ?_
        refine mget_52 hx hb hts (fun _ h => List.mem_cons_of_mem _ (List.mem_append_right _ h)) hown hK hP (hts (.fieldLink RX12 111 "TalePlayModel" "stateAt" "[B") (List.mem_cons_of_mem _ (List.mem_append_left _ (List.mem_of_getElem? (i := 3) rfl)))) dX12_keepState_29 ?_
        refine lv_bipush (v := 30) hx hb dX12_keepState_32 (by decide +kernel) ?_
        refine lv_iload_n hx hb dX12_keepState_34 rfl (lv_at hl 2 rfl) ?_
        refine lv_imul hx hb dX12_keepState_35 ?_
        refine lv_topi (fun x6 ex6 => ?_)
        have tx6 := ti_mul (a := 30) (b := s1.toInt) ex6 (by decide +kernel) rfl (by omega) (by omega)
        refine lv_iload_n hx hb dX12_keepState_36 rfl (lv_at hl 0 rfl) ?_
        refine lv_iadd hx hb dX12_keepState_37 ?_
        refine lv_topi (fun x7 ex7 => ?_)
        have tx7 := ti_add (a := (30 * s1.toInt)) (b := y1_2.toInt) ex7 tx6 rfl (by omega) (by omega)
        refine lv_aload_n hx hb dX12_keepState_38 rfl (lv_at hl 1 rfl) ?_
        refine mget_24 hx hb hts (fun _ h => List.mem_cons_of_mem _ (List.mem_append_right _ h)) hown hK hP (hts (.fieldLink RX12 53 "TalePlayModel" "nAt" "[I") (List.mem_cons_of_mem _ (List.mem_append_left _ (List.mem_of_getElem? (i := 4) rfl)))) dX12_keepState_39 ?_
        refine lv_iload_n hx hb dX12_keepState_42 rfl (lv_at hl 0 rfl) ?_
        refine mld_24 hx hb hK hP (vp_in_iff.mpr (by have h9 : y1_2.toInt = y1_2.toInt := rfl; omega)) dX12_keepState_43 (fun x8 ex8 => ?_)
        have rx8 : x8.toInt = -9 ∨ (0 ≤ x8.toInt ∧ x8.toInt ≤ 29) := by rw [ex8]; exact hI.2 24 _
        refine lv_i2b (v := x8) hx hb dX12_keepState_44 (nb_i (show -128 ≤ (x8 : Int32).toInt ∧ (x8 : Int32).toInt ≤ 127 from by omega)) ?_
        refine mst_52 hx hb hK hP hD hS (vp_in_iff.mpr (by have h9 : x7.toInt = ((30 * s1.toInt) + y1_2.toInt) := tx7; omega)) (nb_b (show -128 ≤ (x8 : Int32).toInt ∧ (x8 : Int32).toInt ≤ 127 from by omega)) dX12_keepState_45 (fun H locs hP hD hS => ?_)
        have hI := mInv_c hI (k := 52) (j := (x7 : Int32).toNatClampNeg) (x := x8) (show (x8 : Int32).toInt = -9 ∨ (0 ≤ (x8 : Int32).toInt ∧ (x8 : Int32).toInt ≤ 29) from by omega)
        have hfc := fr_c hfc (k := 52) (j := (x7 : Int32).toNatClampNeg) (x := x8) (by decide +kernel)
        refine lv_aload_n hx hb dX12_keepState_46 rfl (lv_at hl 1 rfl) ?_
        refine mget_53 hx hb hts (fun _ h => List.mem_cons_of_mem _ (List.mem_append_right _ h)) hown hK hP (hts (.fieldLink RX12 114 "TalePlayModel" "stateShut" "[B") (List.mem_cons_of_mem _ (List.mem_append_left _ (List.mem_of_getElem? (i := 5) rfl)))) dX12_keepState_47 ?_
        refine lv_bipush (v := 30) hx hb dX12_keepState_50 (by decide +kernel) ?_
        refine lv_iload_n hx hb dX12_keepState_52 rfl (lv_at hl 2 rfl) ?_
        refine lv_imul hx hb dX12_keepState_53 ?_
        refine lv_topi (fun x9 ex9 => ?_)
        have tx9 := ti_mul (a := 30) (b := s1.toInt) ex9 (by decide +kernel) rfl (by omega) (by omega)
        refine lv_iload_n hx hb dX12_keepState_54 rfl (lv_at hl 0 rfl) ?_
        refine lv_iadd hx hb dX12_keepState_55 ?_
        refine lv_topi (fun x10 ex10 => ?_)
        have tx10 := ti_add (a := (30 * s1.toInt)) (b := y1_2.toInt) ex10 tx9 rfl (by omega) (by omega)
        refine lv_aload_n hx hb dX12_keepState_56 rfl (lv_at hl 1 rfl) ?_
        refine mget_25 hx hb hts (fun _ h => List.mem_cons_of_mem _ (List.mem_append_right _ h)) hown hK hP (hts (.fieldLink RX12 56 "TalePlayModel" "nOpen" "[Z") (List.mem_cons_of_mem _ (List.mem_append_left _ (List.mem_of_getElem? (i := 6) rfl)))) dX12_keepState_57 ?_
        refine lv_iload_n hx hb dX12_keepState_60 rfl (lv_at hl 0 rfl) ?_
        refine mld_25 hx hb hK hP (vp_in_iff.mpr (by have h9 : y1_2.toInt = y1_2.toInt := rfl; omega)) dX12_keepState_61 (fun x11 ex11 => ?_)
        have rx11 : 0 ≤ x11.toInt ∧ x11.toInt ≤ 1 := by rw [ex11]; exact hI.2 25 _
        have gx11 : (c 25 (y1_2 : Int32).toNatClampNeg).toInt = x11.toInt := by rw [ex11, show (updA (updA c1 51 (x4 : Int32).toNatClampNeg x5) 52 (x7 : Int32).toNatClampNeg x8) 25 = c 25 from hfc 25 (by decide +kernel)]
        refine lv_if_eq (tgt := 69) hx hb dX12_keepState_62 (by decide +kernel) (fun c12 => ?_) (fun c12 => ?_)
        · have f12 := (ti_eq (a := x11.toInt) (b := 0) rfl (by decide +kernel)).mp c12
          refine lv_iconst (v := 0) hx hb dX12_keepState_69 (by decide +kernel) ?_
          refine lv_aload_n hx hb dX12_keepState_70 rfl (lv_at hl 1 rfl) ?_
          refine mget_26 hx hb hts (fun _ h => List.mem_cons_of_mem _ (List.mem_append_right _ h)) hown hK hP (hts (.fieldLink RX12 59 "TalePlayModel" "nLocked" "[Z") (List.mem_cons_of_mem _ (List.mem_append_left _ (List.mem_of_getElem? (i := 7) rfl)))) dX12_keepState_71 ?_
          refine lv_iload_n hx hb dX12_keepState_74 rfl (lv_at hl 0 rfl) ?_
          refine mld_26 hx hb hK hP (vp_in_iff.mpr (by have h9 : y1_2.toInt = y1_2.toInt := rfl; omega)) dX12_keepState_75 (fun x13 ex13 => ?_)
          have rx13 : 0 ≤ x13.toInt ∧ x13.toInt ≤ 1 := by rw [ex13]; exact hI.2 26 _
          have gx13 : (c 26 (y1_2 : Int32).toNatClampNeg).toInt = x13.toInt := by rw [ex13, show (updA (updA c1 51 (x4 : Int32).toNatClampNeg x5) 52 (x7 : Int32).toNatClampNeg x8) 26 = c 26 from hfc 26 (by decide +kernel)]
          refine lv_if_eq (tgt := 83) hx hb dX12_keepState_76 (by decide +kernel) (fun c14 => ?_) (fun c14 => ?_)
          · have f14 := (ti_eq (a := x13.toInt) (b := 0) rfl (by decide +kernel)).mp c14
            refine lv_iconst (v := 0) hx hb dX12_keepState_83 (by decide +kernel) ?_
            refine lv_iadd hx hb dX12_keepState_84 ?_
            refine tp_i (y := 0) (by decide +kernel) ?_
            refine lv_i2b (v := 0) hx hb dX12_keepState_85 (by decide +kernel) ?_
            refine mst_53 hx hb hK hP hD hS (vp_in_iff.mpr (by have h9 : x10.toInt = ((30 * s1.toInt) + y1_2.toInt) := tx10; omega)) (nb_b (show -128 ≤ (0 : Int32).toInt ∧ (0 : Int32).toInt ≤ 127 from by decide +kernel)) dX12_keepState_86 (fun H locs hP hD hS => ?_)
            have hI := mInv_c hI (k := 53) (j := (x10 : Int32).toNatClampNeg) (x := 0) (show 0 ≤ (0 : Int32).toInt ∧ (0 : Int32).toInt ≤ 3 from by decide +kernel)
            have hfc := fr_c hfc (k := 53) (j := (x10 : Int32).toNatClampNeg) (x := 0) (by decide +kernel)
            obtain ⟨x15, ex15⟩ : ∃ y : Int32, y = y1_2 + 1 := ⟨_, rfl⟩
            have tx15 := ti_add (a := y1_2.toInt) (b := 1) ex15 rfl (by decide +kernel) (by omega) (by omega)
            refine lv_iinc (v := x15) (lv' := [(2, .int x15), (0, .ref o), (1, .int s1)]) hx hb dX12_keepState_87 hl (k := 0) rfl (by rw [ex15]; rfl) (by decide +kernel) rfl (fun ls hl => ?_)
            refine lv_goto (tgt := 2) hx hb dX12_keepState_90 (by decide +kernel) ?_
            exact ih1 i1 q1 (updA (updA (updA c1 51 (x4 : Int32).toNatClampNeg x5) 52 (x7 : Int32).toNatClampNeg x8) 53 (x10 : Int32).toNatClampNeg 0) d1 x15 hI (fr_w hfi (by decide +kernel)) (fr_w hfc (by decide +kernel)) (show 0 ≤ x15.toInt ∧ x15.toInt ≤ 30 ∧ x15.toInt ≤ (i 5).toInt from by have h50 : x15.toInt = (y1_2.toInt + 1) := tx15; omega) (show RW ((updA (updA (updA c1 51 (x4 : Int32).toNatClampNeg x5) 52 (x7 : Int32).toNatClampNeg x8) 53 (x10 : Int32).toNatClampNeg 0) 51) ((updA (updA (updA c1 51 (x4 : Int32).toNatClampNeg x5) 52 (x7 : Int32).toNatClampNeg x8) 53 (x10 : Int32).toNatClampNeg 0) 52) (c 51) (c 52) (c 23) (c 24) s1.toInt.toNat x15.toInt from RW_a (T := s1) hz1_0 (by omega) (by omega) tx15 (by have h9 := tx4; omega) (by have h9 := tx7; omega) (Eq.trans (show x5 = c1 23 _ from ex5) (congrFun (hfc0 23 (by decide +kernel)) _)) (Eq.trans (show x8 = c1 24 _ from ex8) (congrFun (hfc0 24 (by decide +kernel)) _))) (show RS ((updA (updA (updA c1 51 (x4 : Int32).toNatClampNeg x5) 52 (x7 : Int32).toNatClampNeg x8) 53 (x10 : Int32).toNatClampNeg 0) 53) (c 53) (c 25) (c 26) s1.toInt.toNat x15.toInt from RS_a (T := s1) hz1_1 (by omega) (by omega) tx15 (by have h9 := tx10; omega) (show ((0 : Int32)).toInt = (c 25 y1_2.toNatClampNeg).toInt + 2 * (c 26 y1_2.toNatClampNeg).toInt from by have h9 : (0 : Int32).toInt = 0 := (by decide +kernel); omega)) (by have h50 : x15.toInt = (y1_2.toInt + 1) := tx15; omega) _ _ _ hP hD hS (lv_sub hl [0, 1, 2] rfl)
          · have f14 := mt (ti_eq (a := x13.toInt) (b := 0) rfl (by decide +kernel)).mpr c14
            refine lv_iconst (v := 2) hx hb dX12_keepState_79 (by decide +kernel) ?_
            refine lv_goto (tgt := 84) hx hb dX12_keepState_80 (by decide +kernel) ?_
            refine lv_iadd hx hb dX12_keepState_84 ?_
            refine tp_i (y := 2) (by decide +kernel) ?_
            refine lv_i2b (v := 2) hx hb dX12_keepState_85 (by decide +kernel) ?_
            refine mst_53 hx hb hK hP hD hS (vp_in_iff.mpr (by have h9 : x10.toInt = ((30 * s1.toInt) + y1_2.toInt) := tx10; omega)) (nb_b (show -128 ≤ (2 : Int32).toInt ∧ (2 : Int32).toInt ≤ 127 from by decide +kernel)) dX12_keepState_86 (fun H locs hP hD hS => ?_)
            have hI := mInv_c hI (k := 53) (j := (x10 : Int32).toNatClampNeg) (x := 2) (show 0 ≤ (2 : Int32).toInt ∧ (2 : Int32).toInt ≤ 3 from by decide +kernel)
            have hfc := fr_c hfc (k := 53) (j := (x10 : Int32).toNatClampNeg) (x := 2) (by decide +kernel)
            obtain ⟨x16, ex16⟩ : ∃ y : Int32, y = y1_2 + 1 := ⟨_, rfl⟩
            have tx16 := ti_add (a := y1_2.toInt) (b := 1) ex16 rfl (by decide +kernel) (by omega) (by omega)
            refine lv_iinc (v := x16) (lv' := [(2, .int x16), (0, .ref o), (1, .int s1)]) hx hb dX12_keepState_87 hl (k := 0) rfl (by rw [ex16]; rfl) (by decide +kernel) rfl (fun ls hl => ?_)
            refine lv_goto (tgt := 2) hx hb dX12_keepState_90 (by decide +kernel) ?_
            exact ih1 i1 q1 (updA (updA (updA c1 51 (x4 : Int32).toNatClampNeg x5) 52 (x7 : Int32).toNatClampNeg x8) 53 (x10 : Int32).toNatClampNeg 2) d1 x16 hI (fr_w hfi (by decide +kernel)) (fr_w hfc (by decide +kernel)) (show 0 ≤ x16.toInt ∧ x16.toInt ≤ 30 ∧ x16.toInt ≤ (i 5).toInt from by have h50 : x16.toInt = (y1_2.toInt + 1) := tx16; omega) (show RW ((updA (updA (updA c1 51 (x4 : Int32).toNatClampNeg x5) 52 (x7 : Int32).toNatClampNeg x8) 53 (x10 : Int32).toNatClampNeg 2) 51) ((updA (updA (updA c1 51 (x4 : Int32).toNatClampNeg x5) 52 (x7 : Int32).toNatClampNeg x8) 53 (x10 : Int32).toNatClampNeg 2) 52) (c 51) (c 52) (c 23) (c 24) s1.toInt.toNat x16.toInt from RW_a (T := s1) hz1_0 (by omega) (by omega) tx16 (by have h9 := tx4; omega) (by have h9 := tx7; omega) (Eq.trans (show x5 = c1 23 _ from ex5) (congrFun (hfc0 23 (by decide +kernel)) _)) (Eq.trans (show x8 = c1 24 _ from ex8) (congrFun (hfc0 24 (by decide +kernel)) _))) (show RS ((updA (updA (updA c1 51 (x4 : Int32).toNatClampNeg x5) 52 (x7 : Int32).toNatClampNeg x8) 53 (x10 : Int32).toNatClampNeg 2) 53) (c 53) (c 25) (c 26) s1.toInt.toNat x16.toInt from RS_a (T := s1) hz1_1 (by omega) (by omega) tx16 (by have h9 := tx10; omega) (show ((2 : Int32)).toInt = (c 25 y1_2.toNatClampNeg).toInt + 2 * (c 26 y1_2.toNatClampNeg).toInt from by have h9 : (2 : Int32).toInt = 2 := (by decide +kernel); omega)) (by have h50 : x16.toInt = (y1_2.toInt + 1) := tx16; omega) _ _ _ hP hD hS (lv_sub hl [0, 1, 2] rfl)
        · have f12 := mt (ti_eq (a := x11.toInt) (b := 0) rfl (by decide +kernel)).mpr c12
          refine lv_iconst (v := 1) hx hb dX12_keepState_65 (by decide +kernel) ?_
          refine lv_goto (tgt := 70) hx hb dX12_keepState_66 (by decide +kernel) ?_
          refine lv_aload_n hx hb dX12_keepState_70 rfl (lv_at hl 1 rfl) ?_
          refine mget_26 hx hb hts (fun _ h => List.mem_cons_of_mem _ (List.mem_append_right _ h)) hown hK hP (hts (.fieldLink RX12 59 "TalePlayModel" "nLocked" "[Z") (List.mem_cons_of_mem _ (List.mem_append_left _ (List.mem_of_getElem? (i := 7) rfl)))) dX12_keepState_71 ?_
          refine lv_iload_n hx hb dX12_keepState_74 rfl (lv_at hl 0 rfl) ?_
          refine mld_26 hx hb hK hP (vp_in_iff.mpr (by have h9 : y1_2.toInt = y1_2.toInt := rfl; omega)) dX12_keepState_75 (fun x17 ex17 => ?_)
          have rx17 : 0 ≤ x17.toInt ∧ x17.toInt ≤ 1 := by rw [ex17]; exact hI.2 26 _
          have gx17 : (c 26 (y1_2 : Int32).toNatClampNeg).toInt = x17.toInt := by rw [ex17, show (updA (updA c1 51 (x4 : Int32).toNatClampNeg x5) 52 (x7 : Int32).toNatClampNeg x8) 26 = c 26 from hfc 26 (by decide +kernel)]
          refine lv_if_eq (tgt := 83) hx hb dX12_keepState_76 (by decide +kernel) (fun c18 => ?_) (fun c18 => ?_)
          · have f18 := (ti_eq (a := x17.toInt) (b := 0) rfl (by decide +kernel)).mp c18
            refine lv_iconst (v := 0) hx hb dX12_keepState_83 (by decide +kernel) ?_
            refine lv_iadd hx hb dX12_keepState_84 ?_
            refine tp_i (y := 1) (by decide +kernel) ?_
            refine lv_i2b (v := 1) hx hb dX12_keepState_85 (by decide +kernel) ?_
            refine mst_53 hx hb hK hP hD hS (vp_in_iff.mpr (by have h9 : x10.toInt = ((30 * s1.toInt) + y1_2.toInt) := tx10; omega)) (nb_b (show -128 ≤ (1 : Int32).toInt ∧ (1 : Int32).toInt ≤ 127 from by decide +kernel)) dX12_keepState_86 (fun H locs hP hD hS => ?_)
            have hI := mInv_c hI (k := 53) (j := (x10 : Int32).toNatClampNeg) (x := 1) (show 0 ≤ (1 : Int32).toInt ∧ (1 : Int32).toInt ≤ 3 from by decide +kernel)
            have hfc := fr_c hfc (k := 53) (j := (x10 : Int32).toNatClampNeg) (x := 1) (by decide +kernel)
            obtain ⟨x19, ex19⟩ : ∃ y : Int32, y = y1_2 + 1 := ⟨_, rfl⟩
            have tx19 := ti_add (a := y1_2.toInt) (b := 1) ex19 rfl (by decide +kernel) (by omega) (by omega)
            refine lv_iinc (v := x19) (lv' := [(2, .int x19), (0, .ref o), (1, .int s1)]) hx hb dX12_keepState_87 hl (k := 0) rfl (by rw [ex19]; rfl) (by decide +kernel) rfl (fun ls hl => ?_)
            refine lv_goto (tgt := 2) hx hb dX12_keepState_90 (by decide +kernel) ?_
            exact ih1 i1 q1 (updA (updA (updA c1 51 (x4 : Int32).toNatClampNeg x5) 52 (x7 : Int32).toNatClampNeg x8) 53 (x10 : Int32).toNatClampNeg 1) d1 x19 hI (fr_w hfi (by decide +kernel)) (fr_w hfc (by decide +kernel)) (show 0 ≤ x19.toInt ∧ x19.toInt ≤ 30 ∧ x19.toInt ≤ (i 5).toInt from by have h50 : x19.toInt = (y1_2.toInt + 1) := tx19; omega) (show RW ((updA (updA (updA c1 51 (x4 : Int32).toNatClampNeg x5) 52 (x7 : Int32).toNatClampNeg x8) 53 (x10 : Int32).toNatClampNeg 1) 51) ((updA (updA (updA c1 51 (x4 : Int32).toNatClampNeg x5) 52 (x7 : Int32).toNatClampNeg x8) 53 (x10 : Int32).toNatClampNeg 1) 52) (c 51) (c 52) (c 23) (c 24) s1.toInt.toNat x19.toInt from RW_a (T := s1) hz1_0 (by omega) (by omega) tx19 (by have h9 := tx4; omega) (by have h9 := tx7; omega) (Eq.trans (show x5 = c1 23 _ from ex5) (congrFun (hfc0 23 (by decide +kernel)) _)) (Eq.trans (show x8 = c1 24 _ from ex8) (congrFun (hfc0 24 (by decide +kernel)) _))) (show RS ((updA (updA (updA c1 51 (x4 : Int32).toNatClampNeg x5) 52 (x7 : Int32).toNatClampNeg x8) 53 (x10 : Int32).toNatClampNeg 1) 53) (c 53) (c 25) (c 26) s1.toInt.toNat x19.toInt from RS_a (T := s1) hz1_1 (by omega) (by omega) tx19 (by have h9 := tx10; omega) (show ((1 : Int32)).toInt = (c 25 y1_2.toNatClampNeg).toInt + 2 * (c 26 y1_2.toNatClampNeg).toInt from by have h9 : (1 : Int32).toInt = 1 := (by decide +kernel); omega)) (by have h50 : x19.toInt = (y1_2.toInt + 1) := tx19; omega) _ _ _ hP hD hS (lv_sub hl [0, 1, 2] rfl)
          · have f18 := mt (ti_eq (a := x17.toInt) (b := 0) rfl (by decide +kernel)).mpr c18
            refine lv_iconst (v := 2) hx hb dX12_keepState_79 (by decide +kernel) ?_
            refine lv_goto (tgt := 84) hx hb dX12_keepState_80 (by decide +kernel) ?_
            refine lv_iadd hx hb dX12_keepState_84 ?_
            refine tp_i (y := 3) (by decide +kernel) ?_
            refine lv_i2b (v := 3) hx hb dX12_keepState_85 (by decide +kernel) ?_
            refine mst_53 hx hb hK hP hD hS (vp_in_iff.mpr (by have h9 : x10.toInt = ((30 * s1.toInt) + y1_2.toInt) := tx10; omega)) (nb_b (show -128 ≤ (3 : Int32).toInt ∧ (3 : Int32).toInt ≤ 127 from by decide +kernel)) dX12_keepState_86 (fun H locs hP hD hS => ?_)
            have hI := mInv_c hI (k := 53) (j := (x10 : Int32).toNatClampNeg) (x := 3) (show 0 ≤ (3 : Int32).toInt ∧ (3 : Int32).toInt ≤ 3 from by decide +kernel)
            have hfc := fr_c hfc (k := 53) (j := (x10 : Int32).toNatClampNeg) (x := 3) (by decide +kernel)
            obtain ⟨x20, ex20⟩ : ∃ y : Int32, y = y1_2 + 1 := ⟨_, rfl⟩
            have tx20 := ti_add (a := y1_2.toInt) (b := 1) ex20 rfl (by decide +kernel) (by omega) (by omega)
            refine lv_iinc (v := x20) (lv' := [(2, .int x20), (0, .ref o), (1, .int s1)]) hx hb dX12_keepState_87 hl (k := 0) rfl (by rw [ex20]; rfl) (by decide +kernel) rfl (fun ls hl => ?_)
            refine lv_goto (tgt := 2) hx hb dX12_keepState_90 (by decide +kernel) ?_
            exact ih1 i1 q1 (updA (updA (updA c1 51 (x4 : Int32).toNatClampNeg x5) 52 (x7 : Int32).toNatClampNeg x8) 53 (x10 : Int32).toNatClampNeg 3) d1 x20 hI (fr_w hfi (by decide +kernel)) (fr_w hfc (by decide +kernel)) (show 0 ≤ x20.toInt ∧ x20.toInt ≤ 30 ∧ x20.toInt ≤ (i 5).toInt from by have h50 : x20.toInt = (y1_2.toInt + 1) := tx20; omega) (show RW ((updA (updA (updA c1 51 (x4 : Int32).toNatClampNeg x5) 52 (x7 : Int32).toNatClampNeg x8) 53 (x10 : Int32).toNatClampNeg 3) 51) ((updA (updA (updA c1 51 (x4 : Int32).toNatClampNeg x5) 52 (x7 : Int32).toNatClampNeg x8) 53 (x10 : Int32).toNatClampNeg 3) 52) (c 51) (c 52) (c 23) (c 24) s1.toInt.toNat x20.toInt from RW_a (T := s1) hz1_0 (by omega) (by omega) tx20 (by have h9 := tx4; omega) (by have h9 := tx7; omega) (Eq.trans (show x5 = c1 23 _ from ex5) (congrFun (hfc0 23 (by decide +kernel)) _)) (Eq.trans (show x8 = c1 24 _ from ex8) (congrFun (hfc0 24 (by decide +kernel)) _))) (show RS ((updA (updA (updA c1 51 (x4 : Int32).toNatClampNeg x5) 52 (x7 : Int32).toNatClampNeg x8) 53 (x10 : Int32).toNatClampNeg 3) 53) (c 53) (c 25) (c 26) s1.toInt.toNat x20.toInt from RS_a (T := s1) hz1_1 (by omega) (by omega) tx20 (by have h9 := tx10; omega) (show ((3 : Int32)).toInt = (c 25 y1_2.toNatClampNeg).toInt + 2 * (c 26 y1_2.toNatClampNeg).toInt from by have h9 : (3 : Int32).toInt = 3 := (by decide +kernel); omega)) (by have h50 : x20.toInt = (y1_2.toInt + 1) := tx20; omega) _ _ _ hP hD hS (lv_sub hl [0, 1, 2] rfl)
  exact lp1 _ i q c d (0 : Int32) hI (fr_w hfi (by decide +kernel)) (fr_w hfc (by decide +kernel)) (show 0 ≤ (0 : Int32).toInt ∧ (0 : Int32).toInt ≤ 30 ∧ (0 : Int32).toInt ≤ (i 5).toInt from by have h50 : (0 : Int32).toInt = 0 := (by decide +kernel); omega) (show RW (c 51) (c 52) (c 51) (c 52) (c 23) (c 24) s1.toInt.toNat (0 : Int32).toInt from RW_0 (by decide +kernel)) (show RS (c 53) (c 53) (c 25) (c 26) s1.toInt.toNat (0 : Int32).toInt from RS_0 (by decide +kernel)) (Nat.lt_succ_self _) _ _ _ hP hD hS (lv_sub hl [0, 1, 2] rfl)

