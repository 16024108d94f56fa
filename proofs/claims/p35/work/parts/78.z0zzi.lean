set_option maxHeartbeats 4000000 in
set_option maxRecDepth 100000 in
theorem s_X12_isState_k (l : Launch) (D : va_G) (sz : Nat) (o : Nat) (a : Nat → Nat) (t : Nat → ClassId) (i : Nat → Int32) (q : Int64) (c : Nat → Nat → Int32) (d : Nat → Nat → Int64) (s1 : Int32) (hI : mInv i c) (hs1 : 0 ≤ s1.toInt ∧ s1.toInt ≤ 300) : Met l yX12_isState wm_X12_isState ({ frames := 0, cells := 0, slots := 0, locals := 0 }) (va_Pc [.ref o, .int s1] (pA D sz (mW o a t i q c d) (mT t))) (va_Qi (fun (r : Int32) (_ : Unit) => ((0 ≤ r.toInt ∧ r.toInt ≤ 1) ∧ (Sm r (IsS (i 5).toInt (c 51) (c 52) (c 53) s1.toInt.toNat (c 23) (c 24) (c 25) (c 26))))) oA (ro sz)) 0 0 (ro sz) := by
  refine Met.ofW (cc := cX12_isState) (maxL := 3) (ret := (some .boolean)) (by decide +kernel) rfl ?_
  intro p e s m args below meth cd s₁ B hml hv
  obtain ⟨rfl, hsz, hP, hK⟩ := hv
  have hx := B.exec
  have hb := B.bytes
  have hr := B.returns
  have hts := atoms_spec (ws := wm_X12_isState) B.pre
  have hown : s.vm.findClass RX12 = some m.cls := findClass_of_methodNamed B.named
  have hlocks := B.notSynchronized
  subst hsz
  have hA : ∀ q : Nat, s.heap.size ≤ q → ro s.heap.size q := fun _ h => h
  have hS : va_S (ro s.heap.size) s.heap s.heap [] := va_S.rf
  have hl := lv_entry ([.ref o, .int s1]) (n := 3) (Nat.le_of_ble_eq_true rfl)
  rw [lg_entry_eq]
  generalize (lg_sl ([.ref o, .int s1]) ++ List.replicate (3 - (lg_sl ([.ref o, .int s1])).length) Slot.unset).toArray = ls at hl ⊢
  have hl : lv_has ls 3 [(0, .ref o), (1, .int s1)] := hl
  have rb5_i : 0 ≤ (i 5).toInt ∧ (i 5).toInt ≤ 30 := hI.1 5
  refine lv_iconst (v := 0) hx hb dX12_isState_0 (by decide +kernel) ?_
  refine lv_istore_n (lv' := [(2, .int 0), (0, .ref o), (1, .int s1)]) hx hb dX12_isState_1 rfl hl (by decide +kernel) rfl (fun ls hl => ?_)
  have lp1 : ∀ (fu : Nat) (y1_2 : Int32), (0 ≤ y1_2.toInt ∧ y1_2.toInt ≤ 30 ∧ y1_2.toInt ≤ (i 5).toInt) → (IsS y1_2.toInt (c 51) (c 52) (c 53) s1.toInt.toNat (c 23) (c 24) (c 25) (c 26)) → (30 - y1_2.toInt).toNat < fu → ∀ (H : Heap) (locs : List Loc) (ls : Array Slot), va_P D vwCl (mW o a t i q c d) H → va_S (ro s.heap.size) s.heap H locs → lv_has ls 3 [(2, .int y1_2), (0, .ref o), (1, .int s1)] → W p l e (headSpec wm_X12_isState ({ frames := 0, cells := 0, slots := 0, locals := 0 })).room s m ([.ref o, .int s1] : List Value).toArray below meth cd H locs 0 0 (MQ below (va_Qi (fun (r : Int32) (_ : Unit) => ((0 ≤ r.toInt ∧ r.toInt ≤ 1) ∧ (Sm r (IsS (i 5).toInt (c 51) (c 52) (c 53) s1.toInt.toNat (c 23) (c 24) (c 25) (c 26))))) oA (ro s.heap.size)) ([.ref o, .int s1] : List Value).toArray s 0 0 (ro s.heap.size)) (F0 m 2 ls []) := by
    intro fu
    induction fu with
    | zero => intro y1_2 hy1_2 hz1_0 hm; exact absurd hm (Nat.not_lt_zero _)
    | succ fu ih =>
      intro y1_2 hy1_2 hz1_0 hm H locs ls hP hS hl
      have ih1 := ih
      refine lv_iload_n hx hb dX12_isState_2 rfl (lv_at hl 0 rfl) ?_
      refine lv_aload_n hx hb dX12_isState_3 rfl (lv_at hl 1 rfl) ?_
      refine mget_5 (v := (i 5)) rfl hx hb hts (fun _ h => List.mem_cons_of_mem _ (List.mem_append_right _ h)) hown hK hP (hts (.fieldLink RX12 177 "TalePlayModel" "objects" "I") (List.mem_cons_of_mem _ (List.mem_append_left _ (List.mem_of_getElem? (i := 0) rfl)))) dX12_isState_4 ?_
      refine lv_icmp_ge (tgt := 101) hx hb dX12_isState_7 (by decide +kernel) (fun c2 => ?_) (fun c2 => ?_)
      · have f2 := (ti_le (a := (i 5).toInt) (b := y1_2.toInt) rfl rfl).mp c2
        refine lv_iconst (v := 1) hx hb dX12_isState_101 (by decide +kernel) ?_
        exact ro_zret hx hb hr hlocks hS rfl dX12_isState_102 ⟨(show 0 ≤ (1 : Int32).toInt ∧ (1 : Int32).toInt ≤ 1 from by decide +kernel), (show Sm (1 : Int32) (IsS (i 5).toInt (c 51) (c 52) (c 53) s1.toInt.toNat (c 23) (c 24) (c 25) (c 26)) from sm_1 (by rw [show (i 5).toInt = y1_2.toInt by omega]; exact hz1_0))⟩
      · have f2 := mt (ti_le (a := (i 5).toInt) (b := y1_2.toInt) rfl rfl).mpr c2
        refine lv_aload_n hx hb dX12_isState_10 rfl (lv_at hl 1 rfl) ?_
        refine mget_51 hx hb hts (fun _ h => List.mem_cons_of_mem _ (List.mem_append_right _ h)) hown hK hP (hts (.fieldLink RX12 107 "TalePlayModel" "stateForm" "[B") (List.mem_cons_of_mem _ (List.mem_append_left _ (List.mem_of_getElem? (i := 1) rfl)))) dX12_isState_11 ?_
        refine lv_bipush (v := 30) hx hb dX12_isState_14 (by decide +kernel) ?_
        refine lv_iload_n hx hb dX12_isState_16 rfl (lv_at hl 2 rfl) ?_
        refine lv_imul hx hb dX12_isState_17 ?_
        refine lv_topi (fun x3 ex3 => ?_)
        have tx3 := ti_mul (a := 30) (b := s1.toInt) ex3 (by decide +kernel) rfl (by omega) (by omega)
        refine lv_iload_n hx hb dX12_isState_18 rfl (lv_at hl 0 rfl) ?_
        refine lv_iadd hx hb dX12_isState_19 ?_
        refine lv_topi (fun x4 ex4 => ?_)
        have tx4 := ti_add (a := (30 * s1.toInt)) (b := y1_2.toInt) ex4 tx3 rfl (by omega) (by omega)
        refine mld_51 hx hb hK hP (vp_in_iff.mpr (by have h9 : x4.toInt = ((30 * s1.toInt) + y1_2.toInt) := tx4; omega)) dX12_isState_20 (fun x5 ex5 => ?_)
        have rx5 : x5.toInt = -9 ∨ (0 ≤ x5.toInt ∧ x5.toInt ≤ 4) := by rw [ex5]; exact hI.2 51 _
        have gx5 : (c 51 (x4 : Int32).toNatClampNeg).toInt = x5.toInt := by rw [ex5]
        refine lv_aload_n hx hb dX12_isState_21 rfl (lv_at hl 1 rfl) ?_
        refine mget_23 hx hb hts (fun _ h => List.mem_cons_of_mem _ (List.mem_append_right _ h)) hown hK hP (hts (.fieldLink RX12 50 "TalePlayModel" "nForm" "[I") (List.mem_cons_of_mem _ (List.mem_append_left _ (List.mem_of_getElem? (i := 2) rfl)))) dX12_isState_22 ?_
        refine lv_iload_n hx hb dX12_isState_25 rfl (lv_at hl 0 rfl) ?_
        refine mld_23 hx hb hK hP (vp_in_iff.mpr (by have h9 : y1_2.toInt = y1_2.toInt := rfl; omega)) dX12_isState_26 (fun x6 ex6 => ?_)
        have rx6 : x6.toInt = -9 ∨ (0 ≤ x6.toInt ∧ x6.toInt ≤ 4) := by rw [ex6]; exact hI.2 23 _
        have gx6 : (c 23 (y1_2 : Int32).toNatClampNeg).toInt = x6.toInt := by rw [ex6]
        refine lv_icmp_ne (tgt := 93) hx hb dX12_isState_27 (by decide +kernel) (fun c7 => ?_) (fun c7 => ?_)
        · have f7 := mt (ti_eq (a := x5.toInt) (b := x6.toInt) rfl rfl).mpr c7
          refine lv_iconst (v := 0) hx hb dX12_isState_93 (by decide +kernel) ?_
          exact ro_zret hx hb hr hlocks hS rfl dX12_isState_94 ⟨(show 0 ≤ (0 : Int32).toInt ∧ (0 : Int32).toInt ≤ 1 from by decide +kernel), (show Sm (0 : Int32) (IsS (i 5).toInt (c 51) (c 52) (c 53) s1.toInt.toNat (c 23) (c 24) (c 25) (c 26)) from sm_0 (fun h9 => by have h8 := h9 y1_2.toInt.toNat (by omega); have q51 : (c 51 (30 * s1.toInt.toNat + y1_2.toInt.toNat)).toInt = x5.toInt := (by rw [← gx5, cl_t (show (x4 : Int32).toInt = ((30 * s1.toInt.toNat + y1_2.toInt.toNat : Nat) : Int) from by have h9 := tx4; omega), Int.toNat_natCast]); have q23 : (c 23 y1_2.toInt.toNat).toInt = x6.toInt := gx6; have h7 := congrArg Int32.toInt h8.1; omega))⟩
        · have f7 := (ti_eq (a := x5.toInt) (b := x6.toInt) rfl rfl).mp c7
          refine lv_aload_n hx hb dX12_isState_30 rfl (lv_at hl 1 rfl) ?_
          refine mget_52 hx hb hts (fun _ h => List.mem_cons_of_mem _ (List.mem_append_right _ h)) hown hK hP (hts (.fieldLink RX12 111 "TalePlayModel" "stateAt" "[B") (List.mem_cons_of_mem _ (List.mem_append_left _ (List.mem_of_getElem? (i := 3) rfl)))) dX12_isState_31 ?_
          refine lv_bipush (v := 30) hx hb dX12_isState_34 (by decide +kernel) ?_
          refine lv_iload_n hx hb dX12_isState_36 rfl (lv_at hl 2 rfl) ?_
          refine lv_imul hx hb dX12_isState_37 ?_
          refine lv_topi (fun x8 ex8 => ?_)
          have tx8 := ti_mul (a := 30) (b := s1.toInt) ex8 (by decide +kernel) rfl (by omega) (by omega)
          refine lv_iload_n hx hb dX12_isState_38 rfl (lv_at hl 0 rfl) ?_
          refine lv_iadd hx hb dX12_isState_39 ?_
          refine lv_topi (fun x9 ex9 => ?_)
          have tx9 := ti_add (a := (30 * s1.toInt)) (b := y1_2.toInt) ex9 tx8 rfl (by omega) (by omega)
          refine mld_52 hx hb hK hP (vp_in_iff.mpr (by have h9 : x9.toInt = ((30 * s1.toInt) + y1_2.toInt) := tx9; omega)) dX12_isState_40 (fun x10 ex10 => ?_)
          have rx10 : x10.toInt = -9 ∨ (0 ≤ x10.toInt ∧ x10.toInt ≤ 29) := by rw [ex10]; exact hI.2 52 _
          have gx10 : (c 52 (x9 : Int32).toNatClampNeg).toInt = x10.toInt := by rw [ex10]
          refine lv_aload_n hx hb dX12_isState_41 rfl (lv_at hl 1 rfl) ?_
          refine mget_24 hx hb hts (fun _ h => List.mem_cons_of_mem _ (List.mem_append_right _ h)) hown hK hP (hts (.fieldLink RX12 53 "TalePlayModel" "nAt" "[I") (List.mem_cons_of_mem _ (List.mem_append_left _ (List.mem_of_getElem? (i := 4) rfl)))) dX12_isState_42 ?_
          refine lv_iload_n hx hb dX12_isState_45 rfl (lv_at hl 0 rfl) ?_
          refine mld_24 hx hb hK hP (vp_in_iff.mpr (by have h9 : y1_2.toInt = y1_2.toInt := rfl; omega)) dX12_isState_46 (fun x11 ex11 => ?_)
          have rx11 : x11.toInt = -9 ∨ (0 ≤ x11.toInt ∧ x11.toInt ≤ 29) := by rw [ex11]; exact hI.2 24 _
          have gx11 : (c 24 (y1_2 : Int32).toNatClampNeg).toInt = x11.toInt := by rw [ex11]
          refine lv_icmp_ne (tgt := 93) hx hb dX12_isState_47 (by decide +kernel) (fun c12 => ?_) (fun c12 => ?_)
          · have f12 := mt (ti_eq (a := x10.toInt) (b := x11.toInt) rfl rfl).mpr c12
            refine lv_iconst (v := 0) hx hb dX12_isState_93 (by decide +kernel) ?_
            exact ro_zret hx hb hr hlocks hS rfl dX12_isState_94 ⟨(show 0 ≤ (0 : Int32).toInt ∧ (0 : Int32).toInt ≤ 1 from by decide +kernel), (show Sm (0 : Int32) (IsS (i 5).toInt (c 51) (c 52) (c 53) s1.toInt.toNat (c 23) (c 24) (c 25) (c 26)) from sm_0 (fun h9 => by have h8 := h9 y1_2.toInt.toNat (by omega); have q51 : (c 51 (30 * s1.toInt.toNat + y1_2.toInt.toNat)).toInt = x5.toInt := (by rw [← gx5, cl_t (show (x4 : Int32).toInt = ((30 * s1.toInt.toNat + y1_2.toInt.toNat : Nat) : Int) from by have h9 := tx4; omega), Int.toNat_natCast]); have q52 : (c 52 (30 * s1.toInt.toNat + y1_2.toInt.toNat)).toInt = x10.toInt := (by rw [← gx10, cl_t (show (x9 : Int32).toInt = ((30 * s1.toInt.toNat + y1_2.toInt.toNat : Nat) : Int) from by have h9 := tx9; omega), Int.toNat_natCast]); have q23 : (c 23 y1_2.toInt.toNat).toInt = x6.toInt := gx6; have q24 : (c 24 y1_2.toInt.toNat).toInt = x11.toInt := gx11; have h7 := congrArg Int32.toInt h8.1; have h6 := congrArg Int32.toInt h8.2.1; omega))⟩
          · have f12 := (ti_eq (a := x10.toInt) (b := x11.toInt) rfl rfl).mp c12
            refine lv_aload_n hx hb dX12_isState_50 rfl (lv_at hl 1 rfl) ?_
            refine mget_53 hx hb hts (fun _ h => List.mem_cons_of_mem _ (List.mem_append_right _ h)) hown hK hP (hts (.fieldLink RX12 114 "TalePlayModel" "stateShut" "[B") (List.mem_cons_of_mem _ (List.mem_append_left _ (List.mem_of_getElem? (i := 5) rfl)))) dX12_isState_51 ?_
            refine lv_bipush (v := 30) hx hb dX12_isState_54 (by decide +kernel) ?_
            refine lv_iload_n hx hb dX12_isState_56 rfl (lv_at hl 2 rfl) ?_
            refine lv_imul hx hb dX12_isState_57 ?_
            refine lv_topi (fun x13 ex13 => ?_)
            have tx13 := ti_mul (a := 30) (b := s1.toInt) ex13 (by decide +kernel) rfl (by omega) (by omega)
            refine lv_iload_n hx hb dX12_isState_58 rfl (lv_at hl 0 rfl) ?_
            refine lv_iadd hx hb dX12_isState_59 ?_
            refine lv_topi (fun x14 ex14 => ?_)
            have tx14 := ti_add (a := (30 * s1.toInt)) (b := y1_2.toInt) ex14 tx13 rfl (by omega) (by omega)
            refine mld_53 hx hb hK hP (vp_in_iff.mpr (by have h9 : x14.toInt = ((30 * s1.toInt) + y1_2.toInt) := tx14; omega)) dX12_isState_60 (fun x15 ex15 => ?_)
            have rx15 : 0 ≤ x15.toInt ∧ x15.toInt ≤ 3 := by rw [ex15]; exact hI.2 53 _
            have gx15 : (c 53 (x14 : Int32).toNatClampNeg).toInt = x15.toInt := by rw [ex15]
            refine lv_aload_n hx hb dX12_isState_61 rfl (lv_at hl 1 rfl) ?_
            refine mget_25 hx hb hts (fun _ h => List.mem_cons_of_mem _ (List.mem_append_right _ h)) hown hK hP (hts (.fieldLink RX12 56 "TalePlayModel" "nOpen" "[Z") (List.mem_cons_of_mem _ (List.mem_append_left _ (List.mem_of_getElem? (i := 6) rfl)))) dX12_isState_62 ?_
            refine lv_iload_n hx hb dX12_isState_65 rfl (lv_at hl 0 rfl) ?_
            refine mld_25 hx hb hK hP (vp_in_iff.mpr (by have h9 : y1_2.toInt = y1_2.toInt := rfl; omega)) dX12_isState_66 (fun x16 ex16 => ?_)
            have rx16 : 0 ≤ x16.toInt ∧ x16.toInt ≤ 1 := by rw [ex16]; exact hI.2 25 _
            have gx16 : (c 25 (y1_2 : Int32).toNatClampNeg).toInt = x16.toInt := by rw [ex16]
            refine lv_if_eq (tgt := 74) hx hb dX12_isState_67 (by decide +kernel) (fun c17 => ?_) (fun c17 => ?_)
            · have f17 := (ti_eq (a := x16.toInt) (b := 0) rfl (by decide +kernel)).mp c17
              refine lv_iconst (v := 0) hx hb dX12_isState_74 (by decide +kernel) ?_
              refine lv_aload_n hx hb dX12_isState_75 rfl (lv_at hl 1 rfl) ?_
              refine mget_26 hx hb hts (fun _ h => List.mem_cons_of_mem _ (List.mem_append_right _ h)) hown hK hP (hts (.fieldLink RX12 59 "TalePlayModel" "nLocked" "[Z") (List.mem_cons_of_mem _ (List.mem_append_left _ (List.mem_of_getElem? (i := 7) rfl)))) dX12_isState_76 ?_
              refine lv_iload_n hx hb dX12_isState_79 rfl (lv_at hl 0 rfl) ?_
              refine mld_26 hx hb hK hP (vp_in_iff.mpr (by have h9 : y1_2.toInt = y1_2.toInt := rfl; omega)) dX12_isState_80 (fun x18 ex18 => ?_)
              have rx18 : 0 ≤ x18.toInt ∧ x18.toInt ≤ 1 := by rw [ex18]; exact hI.2 26 _
              have gx18 : (c 26 (y1_2 : Int32).toNatClampNeg).toInt = x18.toInt := by rw [ex18]
              refine lv_if_eq (tgt := 88) hx hb dX12_isState_81 (by decide +kernel) (fun c19 => ?_) (fun c19 => ?_)
              · have f19 := (ti_eq (a := x18.toInt) (b := 0) rfl (by decide +kernel)).mp c19
                refine lv_iconst (v := 0) hx hb dX12_isState_88 (by decide +kernel) ?_
                refine lv_iadd hx hb dX12_isState_89 ?_
                refine tp_i (y := 0) (by decide +kernel) ?_
                refine lv_icmp_eq (tgt := 95) hx hb dX12_isState_90 (by decide +kernel) (fun c20 => ?_) (fun c20 => ?_)
                · have f20 := (ti_eq (a := x15.toInt) (b := 0) rfl (by decide +kernel)).mp c20
                  obtain ⟨x21, ex21⟩ : ∃ y : Int32, y = y1_2 + 1 := ⟨_, rfl⟩
                  have tx21 := ti_add (a := y1_2.toInt) (b := 1) ex21 rfl (by decide +kernel) (by omega) (by omega)
                  refine lv_iinc (v := x21) (lv' := [(2, .int x21), (0, .ref o), (1, .int s1)]) hx hb dX12_isState_95 hl (k := 0) rfl (by rw [ex21]; rfl) (by decide +kernel) rfl (fun ls hl => ?_)
                  refine lv_goto (tgt := 2) hx hb dX12_isState_98 (by decide +kernel) ?_
                  exact ih1 x21 (show 0 ≤ x21.toInt ∧ x21.toInt ≤ 30 ∧ x21.toInt ≤ (i 5).toInt from by have h50 : x21.toInt = (y1_2.toInt + 1) := tx21; omega) (show IsS x21.toInt (c 51) (c 52) (c 53) s1.toInt.toNat (c 23) (c 24) (c 25) (c 26) from by have q51 : (c 51 (30 * s1.toInt.toNat + y1_2.toInt.toNat)).toInt = x5.toInt := (by rw [← gx5, cl_t (show (x4 : Int32).toInt = ((30 * s1.toInt.toNat + y1_2.toInt.toNat : Nat) : Int) from by have h9 := tx4; omega), Int.toNat_natCast]); have q52 : (c 52 (30 * s1.toInt.toNat + y1_2.toInt.toNat)).toInt = x10.toInt := (by rw [← gx10, cl_t (show (x9 : Int32).toInt = ((30 * s1.toInt.toNat + y1_2.toInt.toNat : Nat) : Int) from by have h9 := tx9; omega), Int.toNat_natCast]); have q53 : (c 53 (30 * s1.toInt.toNat + y1_2.toInt.toNat)).toInt = x15.toInt := (by rw [← gx15, cl_t (show (x14 : Int32).toInt = ((30 * s1.toInt.toNat + y1_2.toInt.toNat : Nat) : Int) from by have h9 := tx14; omega), Int.toNat_natCast]); have q23 : (c 23 y1_2.toInt.toNat).toInt = x6.toInt := gx6; have q24 : (c 24 y1_2.toInt.toNat).toInt = x11.toInt := gx11; have q25 : (c 25 y1_2.toInt.toNat).toInt = x16.toInt := gx16; have q26 : (c 26 y1_2.toInt.toNat).toInt = x18.toInt := gx18; exact IsS_s (N := (i 5).toInt) hz1_0 (by omega) tx21 (Int32.toInt_inj.mp (by omega)) (Int32.toInt_inj.mp (by omega)) (by omega) (by omega)) (by have h50 : x21.toInt = (y1_2.toInt + 1) := tx21; omega) _ _ _ hP hS (lv_sub hl [0, 1, 2] rfl)
                · have f20 := mt (ti_eq (a := x15.toInt) (b := 0) rfl (by decide +kernel)).mpr c20
                  refine lv_iconst (v := 0) hx hb dX12_isState_93 (by decide +kernel) ?_
                  exact ro_zret hx hb hr hlocks hS rfl dX12_isState_94 ⟨(show 0 ≤ (0 : Int32).toInt ∧ (0 : Int32).toInt ≤ 1 from by decide +kernel), (show Sm (0 : Int32) (IsS (i 5).toInt (c 51) (c 52) (c 53) s1.toInt.toNat (c 23) (c 24) (c 25) (c 26)) from sm_0 (fun h9 => by have h8 := h9 y1_2.toInt.toNat (by omega); have q51 : (c 51 (30 * s1.toInt.toNat + y1_2.toInt.toNat)).toInt = x5.toInt := (by rw [← gx5, cl_t (show (x4 : Int32).toInt = ((30 * s1.toInt.toNat + y1_2.toInt.toNat : Nat) : Int) from by have h9 := tx4; omega), Int.toNat_natCast]); have q52 : (c 52 (30 * s1.toInt.toNat + y1_2.toInt.toNat)).toInt = x10.toInt := (by rw [← gx10, cl_t (show (x9 : Int32).toInt = ((30 * s1.toInt.toNat + y1_2.toInt.toNat : Nat) : Int) from by have h9 := tx9; omega), Int.toNat_natCast]); have q53 : (c 53 (30 * s1.toInt.toNat + y1_2.toInt.toNat)).toInt = x15.toInt := (by rw [← gx15, cl_t (show (x14 : Int32).toInt = ((30 * s1.toInt.toNat + y1_2.toInt.toNat : Nat) : Int) from by have h9 := tx14; omega), Int.toNat_natCast]); have q23 : (c 23 y1_2.toInt.toNat).toInt = x6.toInt := gx6; have q24 : (c 24 y1_2.toInt.toNat).toInt = x11.toInt := gx11; have q25 : (c 25 y1_2.toInt.toNat).toInt = x16.toInt := gx16; have q26 : (c 26 y1_2.toInt.toNat).toInt = x18.toInt := gx18; have h7 := congrArg Int32.toInt h8.1; have h6 := congrArg Int32.toInt h8.2.1; have h5 := h8.2.2; omega))⟩
              · have f19 := mt (ti_eq (a := x18.toInt) (b := 0) rfl (by decide +kernel)).mpr c19
                refine lv_iconst (v := 2) hx hb dX12_isState_84 (by decide +kernel) ?_
                refine lv_goto (tgt := 89) hx hb dX12_isState_85 (by decide +kernel) ?_
                refine lv_iadd hx hb dX12_isState_89 ?_
                refine tp_i (y := 2) (by decide +kernel) ?_
                refine lv_icmp_eq (tgt := 95) hx hb dX12_isState_90 (by decide +kernel) (fun c22 => ?_) (fun c22 => ?_)
                · have f22 := (ti_eq (a := x15.toInt) (b := 2) rfl (by decide +kernel)).mp c22
                  obtain ⟨x23, ex23⟩ : ∃ y : Int32, y = y1_2 + 1 := ⟨_, rfl⟩
                  have tx23 := ti_add (a := y1_2.toInt) (b := 1) ex23 rfl (by decide +kernel) (by omega) (by omega)
                  refine lv_iinc (v := x23) (lv' := [(2, .int x23), (0, .ref o), (1, .int s1)]) hx hb dX12_isState_95 hl (k := 0) rfl (by rw [ex23]; rfl) (by decide +kernel) rfl (fun ls hl => ?_)
                  refine lv_goto (tgt := 2) hx hb dX12_isState_98 (by decide +kernel) ?_
                  exact ih1 x23 (show 0 ≤ x23.toInt ∧ x23.toInt ≤ 30 ∧ x23.toInt ≤ (i 5).toInt from by have h50 : x23.toInt = (y1_2.toInt + 1) := tx23; omega) (show IsS x23.toInt (c 51) (c 52) (c 53) s1.toInt.toNat (c 23) (c 24) (c 25) (c 26) from by have q51 : (c 51 (30 * s1.toInt.toNat + y1_2.toInt.toNat)).toInt = x5.toInt := (by rw [← gx5, cl_t (show (x4 : Int32).toInt = ((30 * s1.toInt.toNat + y1_2.toInt.toNat : Nat) : Int) from by have h9 := tx4; omega), Int.toNat_natCast]); have q52 : (c 52 (30 * s1.toInt.toNat + y1_2.toInt.toNat)).toInt = x10.toInt := (by rw [← gx10, cl_t (show (x9 : Int32).toInt = ((30 * s1.toInt.toNat + y1_2.toInt.toNat : Nat) : Int) from by have h9 := tx9; omega), Int.toNat_natCast]); have q53 : (c 53 (30 * s1.toInt.toNat + y1_2.toInt.toNat)).toInt = x15.toInt := (by rw [← gx15, cl_t (show (x14 : Int32).toInt = ((30 * s1.toInt.toNat + y1_2.toInt.toNat : Nat) : Int) from by have h9 := tx14; omega), Int.toNat_natCast]); have q23 : (c 23 y1_2.toInt.toNat).toInt = x6.toInt := gx6; have q24 : (c 24 y1_2.toInt.toNat).toInt = x11.toInt := gx11; have q25 : (c 25 y1_2.toInt.toNat).toInt = x16.toInt := gx16; have q26 : (c 26 y1_2.toInt.toNat).toInt = x18.toInt := gx18; exact IsS_s (N := (i 5).toInt) hz1_0 (by omega) tx23 (Int32.toInt_inj.mp (by omega)) (Int32.toInt_inj.mp (by omega)) (by omega) (by omega)) (by have h50 : x23.toInt = (y1_2.toInt + 1) := tx23; omega) _ _ _ hP hS (lv_sub hl [0, 1, 2] rfl)
                · have f22 := mt (ti_eq (a := x15.toInt) (b := 2) rfl (by decide +kernel)).mpr c22
                  refine lv_iconst (v := 0) hx hb dX12_isState_93 (by decide +kernel) ?_
                  exact ro_zret hx hb hr hlocks hS rfl dX12_isState_94 ⟨(show 0 ≤ (0 : Int32).toInt ∧ (0 : Int32).toInt ≤ 1 from by decide +kernel), (show Sm (0 : Int32) (IsS (i 5).toInt (c 51) (c 52) (c 53) s1.toInt.toNat (c 23) (c 24) (c 25) (c 26)) from sm_0 (fun h9 => by have h8 := h9 y1_2.toInt.toNat (by omega); have q51 : (c 51 (30 * s1.toInt.toNat + y1_2.toInt.toNat)).toInt = x5.toInt := (by rw [← gx5, cl_t (show (x4 : Int32).toInt = ((30 * s1.toInt.toNat + y1_2.toInt.toNat : Nat) : Int) from by have h9 := tx4; omega), Int.toNat_natCast]); have q52 : (c 52 (30 * s1.toInt.toNat + y1_2.toInt.toNat)).toInt = x10.toInt := (by rw [← gx10, cl_t (show (x9 : Int32).toInt = ((30 * s1.toInt.toNat + y1_2.toInt.toNat : Nat) : Int) from by have h9 := tx9; omega), Int.toNat_natCast]); have q53 : (c 53 (30 * s1.toInt.toNat + y1_2.toInt.toNat)).toInt = x15.toInt := (by rw [← gx15, cl_t (show (x14 : Int32).toInt = ((30 * s1.toInt.toNat + y1_2.toInt.toNat : Nat) : Int) from by have h9 := tx14; omega), Int.toNat_natCast]); have q23 : (c 23 y1_2.toInt.toNat).toInt = x6.toInt := gx6; have q24 : (c 24 y1_2.toInt.toNat).toInt = x11.toInt := gx11; have q25 : (c 25 y1_2.toInt.toNat).toInt = x16.toInt := gx16; have q26 : (c 26 y1_2.toInt.toNat).toInt = x18.toInt := gx18; have h7 := congrArg Int32.toInt h8.1; have h6 := congrArg Int32.toInt h8.2.1; have h5 := h8.2.2; omega))⟩
            · have f17 := mt (ti_eq (a := x16.toInt) (b := 0) rfl (by decide +kernel)).mpr c17
              refine lv_iconst (v := 1) hx hb dX12_isState_70 (by decide +kernel) ?_
              refine lv_goto (tgt := 75) hx hb dX12_isState_71 (by decide +kernel) ?_
              refine lv_aload_n hx hb dX12_isState_75 rfl (lv_at hl 1 rfl) ?_
              refine mget_26 hx hb hts (fun _ h => List.mem_cons_of_mem _ (List.mem_append_right _ h)) hown hK hP (hts (.fieldLink RX12 59 "TalePlayModel" "nLocked" "[Z") (List.mem_cons_of_mem _ (List.mem_append_left _ (List.mem_of_getElem? (i := 7) rfl)))) dX12_isState_76 ?_
              refine lv_iload_n hx hb dX12_isState_79 rfl (lv_at hl 0 rfl) ?_
              refine mld_26 hx hb hK hP (vp_in_iff.mpr (by have h9 : y1_2.toInt = y1_2.toInt := rfl; omega)) dX12_isState_80 (fun x24 ex24 => ?_)
              have rx24 : 0 ≤ x24.toInt ∧ x24.toInt ≤ 1 := by rw [ex24]; exact hI.2 26 _
              have gx24 : (c 26 (y1_2 : Int32).toNatClampNeg).toInt = x24.toInt := by rw [ex24]
              refine lv_if_eq (tgt := 88) hx hb dX12_isState_81 (by decide +kernel) (fun c25 => ?_) (fun c25 => ?_)
              · have f25 := (ti_eq (a := x24.toInt) (b := 0) rfl (by decide +kernel)).mp c25
                refine lv_iconst (v := 0) hx hb dX12_isState_88 (by decide +kernel) ?_
                refine lv_iadd hx hb dX12_isState_89 ?_
                refine tp_i (y := 1) (by decide +kernel) ?_
                refine lv_icmp_eq (tgt := 95) hx hb dX12_isState_90 (by decide +kernel) (fun c26 => ?_) (fun c26 => ?_)
                · have f26 := (ti_eq (a := x15.toInt) (b := 1) rfl (by decide +kernel)).mp c26
                  obtain ⟨x27, ex27⟩ : ∃ y : Int32, y = y1_2 + 1 := ⟨_, rfl⟩
                  have tx27 := ti_add (a := y1_2.toInt) (b := 1) ex27 rfl (by decide +kernel) (by omega) (by omega)
                  refine lv_iinc (v := x27) (lv' := [(2, .int x27), (0, .ref o), (1, .int s1)]) hx hb dX12_isState_95 hl (k := 0) rfl (by rw [ex27]; rfl) (by decide +kernel) rfl (fun ls hl => ?_)
                  refine lv_goto (tgt := 2) hx hb dX12_isState_98 (by decide +kernel) ?_
                  exact ih1 x27 (show 0 ≤ x27.toInt ∧ x27.toInt ≤ 30 ∧ x27.toInt ≤ (i 5).toInt from by have h50 : x27.toInt = (y1_2.toInt + 1) := tx27; omega) (show IsS x27.toInt (c 51) (c 52) (c 53) s1.toInt.toNat (c 23) (c 24) (c 25) (c 26) from by have q51 : (c 51 (30 * s1.toInt.toNat + y1_2.toInt.toNat)).toInt = x5.toInt := (by rw [← gx5, cl_t (show (x4 : Int32).toInt = ((30 * s1.toInt.toNat + y1_2.toInt.toNat : Nat) : Int) from by have h9 := tx4; omega), Int.toNat_natCast]); have q52 : (c 52 (30 * s1.toInt.toNat + y1_2.toInt.toNat)).toInt = x10.toInt := (by rw [← gx10, cl_t (show (x9 : Int32).toInt = ((30 * s1.toInt.toNat + y1_2.toInt.toNat : Nat) : Int) from by have h9 := tx9; omega), Int.toNat_natCast]); have q53 : (c 53 (30 * s1.toInt.toNat + y1_2.toInt.toNat)).toInt = x15.toInt := (by rw [← gx15, cl_t (show (x14 : Int32).toInt = ((30 * s1.toInt.toNat + y1_2.toInt.toNat : Nat) : Int) from by have h9 := tx14; omega), Int.toNat_natCast]); have q23 : (c 23 y1_2.toInt.toNat).toInt = x6.toInt := gx6; have q24 : (c 24 y1_2.toInt.toNat).toInt = x11.toInt := gx11; have q25 : (c 25 y1_2.toInt.toNat).toInt = x16.toInt := gx16; have q26 : (c 26 y1_2.toInt.toNat).toInt = x24.toInt := gx24; exact IsS_s (N := (i 5).toInt) hz1_0 (by omega) tx27 (Int32.toInt_inj.mp (by omega)) (Int32.toInt_inj.mp (by omega)) (by omega) (by omega)) (by have h50 : x27.toInt = (y1_2.toInt + 1) := tx27; omega) _ _ _ hP hS (lv_sub hl [0, 1, 2] rfl)
                · have f26 := mt (ti_eq (a := x15.toInt) (b := 1) rfl (by decide +kernel)).mpr c26
                  refine lv_iconst (v := 0) hx hb dX12_isState_93 (by decide +kernel) ?_
                  exact ro_zret hx hb hr hlocks hS rfl dX12_isState_94 ⟨(show 0 ≤ (0 : Int32).toInt ∧ (0 : Int32).toInt ≤ 1 from by decide +kernel), (show Sm (0 : Int32) (IsS (i 5).toInt (c 51) (c 52) (c 53) s1.toInt.toNat (c 23) (c 24) (c 25) (c 26)) from sm_0 (fun h9 => by have h8 := h9 y1_2.toInt.toNat (by omega); have q51 : (c 51 (30 * s1.toInt.toNat + y1_2.toInt.toNat)).toInt = x5.toInt := (by rw [← gx5, cl_t (show (x4 : Int32).toInt = ((30 * s1.toInt.toNat + y1_2.toInt.toNat : Nat) : Int) from by have h9 := tx4; omega), Int.toNat_natCast]); have q52 : (c 52 (30 * s1.toInt.toNat + y1_2.toInt.toNat)).toInt = x10.toInt := (by rw [← gx10, cl_t (show (x9 : Int32).toInt = ((30 * s1.toInt.toNat + y1_2.toInt.toNat : Nat) : Int) from by have h9 := tx9; omega), Int.toNat_natCast]); have q53 : (c 53 (30 * s1.toInt.toNat + y1_2.toInt.toNat)).toInt = x15.toInt := (by rw [← gx15, cl_t (show (x14 : Int32).toInt = ((30 * s1.toInt.toNat + y1_2.toInt.toNat : Nat) : Int) from by have h9 := tx14; omega), Int.toNat_natCast]); have q23 : (c 23 y1_2.toInt.toNat).toInt = x6.toInt := gx6; have q24 : (c 24 y1_2.toInt.toNat).toInt = x11.toInt := gx11; have q25 : (c 25 y1_2.toInt.toNat).toInt = x16.toInt := gx16; have q26 : (c 26 y1_2.toInt.toNat).toInt = x24.toInt := gx24; have h7 := congrArg Int32.toInt h8.1; have h6 := congrArg Int32.toInt h8.2.1; have h5 := h8.2.2; omega))⟩
              · have f25 := mt (ti_eq (a := x24.toInt) (b := 0) rfl (by decide +kernel)).mpr c25
                refine lv_iconst (v := 2) hx hb dX12_isState_84 (by decide +kernel) ?_
                refine lv_goto (tgt := 89) hx hb dX12_isState_85 (by decide +kernel) ?_
                refine lv_iadd hx hb dX12_isState_89 ?_
                refine tp_i (y := 3) (by decide +kernel) ?_
                refine lv_icmp_eq (tgt := 95) hx hb dX12_isState_90 (by decide +kernel) (fun c28 => ?_) (fun c28 => ?_)
                · have f28 := (ti_eq (a := x15.toInt) (b := 3) rfl (by decide +kernel)).mp c28
                  obtain ⟨x29, ex29⟩ : ∃ y : Int32, y = y1_2 + 1 := ⟨_, rfl⟩
                  have tx29 := ti_add (a := y1_2.toInt) (b := 1) ex29 rfl (by decide +kernel) (by omega) (by omega)
                  refine lv_iinc (v := x29) (lv' := [(2, .int x29), (0, .ref o), (1, .int s1)]) hx hb dX12_isState_95 hl (k := 0) rfl (by rw [ex29]; rfl) (by decide +kernel) rfl (fun ls hl => ?_)
                  refine lv_goto (tgt := 2) hx hb dX12_isState_98 (by decide +kernel) ?_
                  exact ih1 x29 (show 0 ≤ x29.toInt ∧ x29.toInt ≤ 30 ∧ x29.toInt ≤ (i 5).toInt from by have h50 : x29.toInt = (y1_2.toInt + 1) := tx29; omega) (show IsS x29.toInt (c 51) (c 52) (c 53) s1.toInt.toNat (c 23) (c 24) (c 25) (c 26) from by have q51 : (c 51 (30 * s1.toInt.toNat + y1_2.toInt.toNat)).toInt = x5.toInt := (by rw [← gx5, cl_t (show (x4 : Int32).toInt = ((30 * s1.toInt.toNat + y1_2.toInt.toNat : Nat) : Int) from by have h9 := tx4; omega), Int.toNat_natCast]); have q52 : (c 52 (30 * s1.toInt.toNat + y1_2.toInt.toNat)).toInt = x10.toInt := (by rw [← gx10, cl_t (show (x9 : Int32).toInt = ((30 * s1.toInt.toNat + y1_2.toInt.toNat : Nat) : Int) from by have h9 := tx9; omega), Int.toNat_natCast]); have q53 : (c 53 (30 * s1.toInt.toNat + y1_2.toInt.toNat)).toInt = x15.toInt := (by rw [← gx15, cl_t (show (x14 : Int32).toInt = ((30 * s1.toInt.toNat + y1_2.toInt.toNat : Nat) : Int) from by have h9 := tx14; omega), Int.toNat_natCast]); have q23 : (c 23 y1_2.toInt.toNat).toInt = x6.toInt := gx6; have q24 : (c 24 y1_2.toInt.toNat).toInt = x11.toInt := gx11; have q25 : (c 25 y1_2.toInt.toNat).toInt = x16.toInt := gx16; have q26 : (c 26 y1_2.toInt.toNat).toInt = x24.toInt := gx24; exact IsS_s (N := (i 5).toInt) hz1_0 (by omega) tx29 (Int32.toInt_inj.mp (by omega)) (Int32.toInt_inj.mp (by omega)) (by omega) (by omega)) (by have h50 : x29.toInt = (y1_2.toInt + 1) := tx29; omega) _ _ _ hP hS (lv_sub hl [0, 1, 2] rfl)
                · have f28 := mt (ti_eq (a := x15.toInt) (b := 3) rfl (by decide +kernel)).mpr c28
                  refine lv_iconst (v := 0) hx hb dX12_isState_93 (by decide +kernel) ?_
                  exact ro_zret hx hb hr hlocks hS rfl dX12_isState_94 ⟨(show 0 ≤ (0 : Int32).toInt ∧ (0 : Int32).toInt ≤ 1 from by decide +kernel), (show Sm (0 : Int32) (IsS (i 5).toInt (c 51) (c 52) (c 53) s1.toInt.toNat (c 23) (c 24) (c 25) (c 26)) from sm_0 (fun h9 => by have h8 := h9 y1_2.toInt.toNat (by omega); have q51 : (c 51 (30 * s1.toInt.toNat + y1_2.toInt.toNat)).toInt = x5.toInt := (by rw [← gx5, cl_t (show (x4 : Int32).toInt = ((30 * s1.toInt.toNat + y1_2.toInt.toNat : Nat) : Int) from by have h9 := tx4; omega), Int.toNat_natCast]); have q52 : (c 52 (30 * s1.toInt.toNat + y1_2.toInt.toNat)).toInt = x10.toInt := (by rw [← gx10, cl_t (show (x9 : Int32).toInt = ((30 * s1.toInt.toNat + y1_2.toInt.toNat : Nat) : Int) from by have h9 := tx9; omega), Int.toNat_natCast]); have q53 : (c 53 (30 * s1.toInt.toNat + y1_2.toInt.toNat)).toInt = x15.toInt := (by rw [← gx15, cl_t (show (x14 : Int32).toInt = ((30 * s1.toInt.toNat + y1_2.toInt.toNat : Nat) : Int) from by have h9 := tx14; omega), Int.toNat_natCast]); have q23 : (c 23 y1_2.toInt.toNat).toInt = x6.toInt := gx6; have q24 : (c 24 y1_2.toInt.toNat).toInt = x11.toInt := gx11; have q25 : (c 25 y1_2.toInt.toNat).toInt = x16.toInt := gx16; have q26 : (c 26 y1_2.toInt.toNat).toInt = x24.toInt := gx24; have h7 := congrArg Int32.toInt h8.1; have h6 := congrArg Int32.toInt h8.2.1; have h5 := h8.2.2; omega))⟩
  exact lp1 _ (0 : Int32) (show 0 ≤ (0 : Int32).toInt ∧ (0 : Int32).toInt ≤ 30 ∧ (0 : Int32).toInt ≤ (i 5).toInt from by have h50 : (0 : Int32).toInt = 0 := (by decide +kernel); omega) (show IsS (0 : Int32).toInt (c 51) (c 52) (c 53) s1.toInt.toNat (c 23) (c 24) (c 25) (c 26) from fun o9 h9 => by have h8 : (0 : Int32).toInt = 0 := (by decide +kernel); exfalso; omega) (Nat.lt_succ_self _) _ _ _ hP hS (lv_sub hl [0, 1, 2] rfl)

