def wm_X10_standardFor_e : List Cond := .code yX10_standardFor cX10_standardFor 6 (some .int) :: (([.fieldLink RX10 21 "TalePlay$World" "kindOf" "[I", .methodLink RX10 40 yX10_sortOf, .instanceMethod yX10_sortOf, .selects RX10 yX10_sortOf yX10_sortOf, .initialized RX10, .code yX10_sortOf cX10_sortOf 2 (some .int), .fieldLink RX10 37 "TalePlay$World" "objects" "I", .fieldLink RX10 15 "TalePlay$World" "sorts" "[I", .fieldLink RX10 18 "TalePlay$World" "standards" "[I", .fieldLink RX10 9 "TalePlay$World" "parents" "[I"] : List Cond) ++ wsX100)
set_option maxRecDepth 20000 in
theorem gm_X10_standardFor_e_X10_sortOf_e_40 : GoodIn wm_X10_standardFor_e (wsV RX10 40 RX10 yX10_sortOf wm_X10_sortOf_e) := goodIn_w (List.forall_mem_append.mpr ⟨List.forall_mem_cons.mpr ⟨List.mem_cons_of_mem _ (List.mem_append_left _ (List.mem_of_getElem? (i := 1) rfl)), List.forall_mem_cons.mpr ⟨List.mem_cons_of_mem _ (List.mem_append_left _ (List.mem_of_getElem? (i := 2) rfl)), List.forall_mem_cons.mpr ⟨List.mem_cons_of_mem _ (List.mem_append_left _ (List.mem_of_getElem? (i := 3) rfl)), List.forall_mem_cons.mpr ⟨List.mem_cons_of_mem _ (List.mem_append_left _ (List.mem_of_getElem? (i := 4) rfl)), (fun _ h => absurd h List.not_mem_nil)⟩⟩⟩⟩, List.forall_mem_cons.mpr ⟨List.mem_cons_of_mem _ (List.mem_append_left _ (List.mem_of_getElem? (i := 5) rfl)), List.forall_mem_append.mpr ⟨List.forall_mem_cons.mpr ⟨List.mem_cons_of_mem _ (List.mem_append_left _ (List.mem_of_getElem? (i := 6) rfl)), List.forall_mem_cons.mpr ⟨List.mem_cons_of_mem _ (List.mem_append_left _ (List.mem_of_getElem? (i := 7) rfl)), List.forall_mem_cons.mpr ⟨List.mem_cons_of_mem _ (List.mem_append_left _ (List.mem_of_getElem? (i := 0) rfl)), (fun _ h => absurd h List.not_mem_nil)⟩⟩⟩, (fun _ h => List.mem_cons_of_mem _ (List.mem_append_right _ h))⟩⟩⟩) (by decide +kernel)
set_option maxHeartbeats 4000000 in
set_option maxRecDepth 100000 in
theorem x_X10_standardFor_e (l : Launch) (D : va_G) (sz : Nat) (sk : Value) (a : Nat → Nat) (t : Nat → ClassId) (i : Nat → Int32) (q : Int64) (c : Nat → Nat → Int32) (d : Nat → Nat → Int64) (w : Int32) (f : Int32) (hI : xInv i c) (hiw : 0 ≤ w.toInt ∧ w.toInt < (i 111).toInt) (hf : 0 ≤ f.toInt ∧ f.toInt ≤ 5) (hs_D : PD (c 105)) : Met l yX10_standardFor wm_X10_standardFor_e ({ frames := 1, cells := 0, slots := 0, locals := 21 }) (va_Pc [.ref (a 104), .int w, .int f] (yA (a 186) D sz (xwW sk a t i q c d) (xtW t))) (va_Qi (fun (r : Int32) (_ : Unit) => ((r.toInt = -9 ∨ (0 ≤ r.toInt ∧ r.toInt ≤ 1)) ∧ (r.toInt = sfV (c 105) (c 108) (c 107) (c 106 (c 108 w.toInt.toNat).toNatClampNeg).toInt f.toInt w.toInt))) oA (ro sz)) 0 0 (ro sz) := by
  refine Met.ofW (cc := cX10_standardFor) (maxL := 6) (ret := (some .int)) (by decide +kernel) rfl ?_
  intro p e s m args below meth cd s₁ B hml hv
  obtain ⟨rfl, ⟨hsz, hP, hK⟩, hN, hZ⟩ := hv
  have hx := B.exec
  have hb := B.bytes
  have hr := B.returns
  have hts := atoms_spec (ws := wm_X10_standardFor_e) B.pre
  have hown : s.vm.findClass RX10 = some m.cls := findClass_of_methodNamed B.named
  have hlocks := B.notSynchronized
  subst hsz
  have hA : ∀ q : Nat, s.heap.size ≤ q → ro s.heap.size q := fun _ h => h
  have hS : va_S (ro s.heap.size) s.heap s.heap [] := va_S.rf
  have hl := lv_entry ([.ref (a 104), .int w, .int f]) (n := 6) (Nat.le_of_ble_eq_true rfl)
  rw [lg_entry_eq]
  generalize (lg_sl ([.ref (a 104), .int w, .int f]) ++ List.replicate (6 - (lg_sl ([.ref (a 104), .int w, .int f])).length) Slot.unset).toArray = ls at hl ⊢
  have hl : lv_has ls 6 [(0, .ref (a 104)), (1, .int w), (2, .int f)] := hl
  have rb111_i : 0 ≤ (i 111).toInt ∧ (i 111).toInt ≤ 30 := hI.1 111
  refine lv_aload_n hx hb dX10_standardFor_0 rfl (lv_at hl 0 rfl) ?_
  refine xgW_W_kindOf hx hb hts (fun _ h => List.mem_cons_of_mem _ (List.mem_append_right _ h)) hown hK hP (hts (.fieldLink RX10 21 "TalePlay$World" "kindOf" "[I") (List.mem_cons_of_mem _ (List.mem_append_left _ (List.mem_of_getElem? (i := 0) rfl)))) dX10_standardFor_1 ?_
  refine lv_iload_n hx hb dX10_standardFor_4 rfl (lv_at hl 1 rfl) ?_
  refine xlW_108 hx hb hK hP (vp_in_iff.mpr (by have h9 : w.toInt = w.toInt := rfl; omega)) dX10_standardFor_5 (fun x1 ex1 => ?_)
  have rx1 : 0 ≤ x1.toInt ∧ x1.toInt ≤ 23 := by rw [ex1]; exact hI.2 108 _
  refine lv_istore_n (lv' := [(3, .int x1), (0, .ref (a 104)), (1, .int w), (2, .int f)]) hx hb dX10_standardFor_6 rfl hl (by decide +kernel) rfl (fun ls hl => ?_)
  refine lv_iconst (v := 0) hx hb dX10_standardFor_7 (by decide +kernel) ?_
  refine lv_istore (lv' := [(4, .int 0), (3, .int x1), (0, .ref (a 104)), (1, .int w), (2, .int f)]) hx hb dX10_standardFor_8 hl (by decide +kernel) rfl (fun ls hl => ?_)
  have lp2 : ∀ (fu : Nat) (y2_4 : Int32) (y2_3 : Int32), (0 ≤ y2_4.toInt ∧ y2_4.toInt ≤ 24) → (y2_3.toInt = -9 ∨ (0 ≤ y2_3.toInt ∧ y2_3.toInt ≤ 23)) → (stL (c 105) (c 107) f.toInt 24 (c 108 w.toInt.toNat).toInt = stL (c 105) (c 107) f.toInt 24 y2_3.toInt) → (y2_3.toInt = -9 ∨ y2_3.toInt + y2_4.toInt ≤ 23) → (24 - y2_4.toInt).toNat < fu → ∀ (H : Heap) (locs : List Loc) (ls : Array Slot), va_P D vwCl (xwW sk a t i q c d) H → va_S (ro s.heap.size) s.heap H locs → lv_has ls 6 [(4, .int y2_4), (3, .int y2_3), (0, .ref (a 104)), (1, .int w), (2, .int f)] → W p l e (headSpec wm_X10_standardFor_e ({ frames := 1, cells := 0, slots := 0, locals := 21 })).room s m ([.ref (a 104), .int w, .int f] : List Value).toArray below meth cd H locs 0 0 (MQ below (va_Qi (fun (r : Int32) (_ : Unit) => ((r.toInt = -9 ∨ (0 ≤ r.toInt ∧ r.toInt ≤ 1)) ∧ (r.toInt = sfV (c 105) (c 108) (c 107) (c 106 (c 108 w.toInt.toNat).toNatClampNeg).toInt f.toInt w.toInt))) oA (ro s.heap.size)) ([.ref (a 104), .int w, .int f] : List Value).toArray s 0 0 (ro s.heap.size)) (F0 m 10 ls []) := by
    intro fu
    induction fu with
    | zero => intro y2_4 y2_3 hy2_4 hy2_3 hz2_0 hz2_1 hm; exact absurd hm (Nat.not_lt_zero _)
    | succ fu ih =>
      intro y2_4 y2_3 hy2_4 hy2_3 hz2_0 hz2_1 hm H locs ls hP hS hl
      have ih2 := ih
      refine lv_iload hx hb dX10_standardFor_10 (lv_at hl 0 rfl) ?_
      refine lv_bipush (v := 24) hx hb dX10_standardFor_12 (by decide +kernel) ?_
      refine lv_icmp_ge (tgt := 59) hx hb dX10_standardFor_14 (by decide +kernel) (fun c3 => ?_) (fun c3 => ?_)
      · have f3 := (ti_le (a := 24) (b := y2_4.toInt) (by decide +kernel) rfl).mp c3
        refine lv_iload_n hx hb dX10_standardFor_59 rfl (lv_at hl 4 rfl) ?_
        refine lv_iconst (v := 2) hx hb dX10_standardFor_60 (by decide +kernel) ?_
        refine lv_icmp_ne (tgt := 76) hx hb dX10_standardFor_61 (by decide +kernel) (fun c4 => ?_) (fun c4 => ?_)
        · have f4 := mt (ti_eq (a := f.toInt) (b := 2) rfl (by decide +kernel)).mpr c4
          refine lv_iconst (v := 0) hx hb dX10_standardFor_76 (by decide +kernel) ?_
          exact ro_iret hx hb hr hlocks hS dX10_standardFor_77 ⟨(show (0 : Int32).toInt = -9 ∨ (0 ≤ (0 : Int32).toInt ∧ (0 : Int32).toInt ≤ 1) from by decide +kernel), (show (0 : Int32).toInt = sfV (c 105) (c 108) (c 107) (c 106 (c 108 w.toInt.toNat).toNatClampNeg).toInt f.toInt w.toInt from sfV_0 (hz2_0.trans (stL_9 (by omega))) (by omega) (by decide +kernel))⟩
        · have f4 := (ti_eq (a := f.toInt) (b := 2) rfl (by decide +kernel)).mp c4
          refine lv_aload_n hx hb dX10_standardFor_64 rfl (lv_at hl 2 rfl) ?_
          refine lv_iload_n hx hb dX10_standardFor_65 rfl (lv_at hl 3 rfl) ?_
          refine ro_calli (va_runV (As := [.int w]) (rest := []) ⟨hx, hb, hml, hown, hts⟩ (x_X10_sortOf_e l D H.size .null a t i q c d w hI ) (cwV 1 hts gm_X10_standardFor_e_X10_sortOf_e_40 rfl rfl rfl (by decide +kernel) ⟨Nat.le_of_ble_eq_true rfl, Nat.le_of_ble_eq_true rfl⟩) (yA_V hN (xZ_k hZ hS hA) hK hP (ci := 10) (q0 := 0) rfl rfl) rfl rfl hl.1 rfl (lv_room (Nat.le_of_ble_eq_true rfl)) dX10_standardFor_66 ⟨Nat.le_of_ble_eq_true rfl, Nat.le_of_ble_eq_true rfl⟩) hS hA hP (fun r5 u5 H locs hw5 hP hS => ?_)
          have hw5 : (((r5.toInt = -9 ∧ ¬ (0 ≤ w.toInt ∧ w.toInt < (i 111).toInt)) ∨ (0 ≤ r5.toInt ∧ r5.toInt ≤ 5 ∧ 0 ≤ w.toInt ∧ w.toInt < (i 111).toInt)) ∧ (SO (c 106) (c 108) (i 111).toInt w.toInt r5.toInt)) := hw5
          obtain ⟨hw5, hr5_0⟩ := hw5
          have hr5_0 : SO (c 106) (c 108) (i 111).toInt w.toInt r5.toInt := hr5_0
          have how : r5.toInt = (c 106 (c 108 w.toInt.toNat).toNatClampNeg).toInt := by rcases hr5_0 with h9 | h9; (· exact h9.2.2); (· exfalso; omega)
          refine lv_if_ne (tgt := 76) hx hb dX10_standardFor_69 (by decide +kernel) (fun c6 => ?_) (fun c6 => ?_)
          · have f6 := mt (ti_eq (a := r5.toInt) (b := 0) rfl (by decide +kernel)).mpr c6
            refine lv_iconst (v := 0) hx hb dX10_standardFor_76 (by decide +kernel) ?_
            exact ro_iret hx hb hr hlocks hS dX10_standardFor_77 ⟨(show (0 : Int32).toInt = -9 ∨ (0 ≤ (0 : Int32).toInt ∧ (0 : Int32).toInt ≤ 1) from by decide +kernel), (show (0 : Int32).toInt = sfV (c 105) (c 108) (c 107) (c 106 (c 108 w.toInt.toNat).toNatClampNeg).toInt f.toInt w.toInt from sfV_0 (hz2_0.trans (stL_9 (by omega))) (by omega) (by decide +kernel))⟩
          · have f6 := (ti_eq (a := r5.toInt) (b := 0) rfl (by decide +kernel)).mp c6
            refine lv_iconst (v := 1) hx hb dX10_standardFor_72 (by decide +kernel) ?_
            refine lv_goto (tgt := 77) hx hb dX10_standardFor_73 (by decide +kernel) ?_
            exact ro_iret hx hb hr hlocks hS dX10_standardFor_77 ⟨(show (1 : Int32).toInt = -9 ∨ (0 ≤ (1 : Int32).toInt ∧ (1 : Int32).toInt ≤ 1) from by decide +kernel), (show (1 : Int32).toInt = sfV (c 105) (c 108) (c 107) (c 106 (c 108 w.toInt.toNat).toNatClampNeg).toInt f.toInt w.toInt from sfV_1 (hz2_0.trans (stL_9 (by omega))) ⟨by omega, by omega⟩ (by decide +kernel))⟩
      · have f3 := mt (ti_le (a := 24) (b := y2_4.toInt) (by decide +kernel) rfl).mpr c3
        refine lv_iload_n hx hb dX10_standardFor_17 rfl (lv_at hl 1 rfl) ?_
        refine lv_bipush (v := (-9)) hx hb dX10_standardFor_18 (by decide +kernel) ?_
        refine lv_icmp_eq (tgt := 59) hx hb dX10_standardFor_20 (by decide +kernel) (fun c7 => ?_) (fun c7 => ?_)
        · have f7 := (ti_eq (a := y2_3.toInt) (b := (-9)) rfl (by decide +kernel)).mp c7
          refine lv_iload_n hx hb dX10_standardFor_59 rfl (lv_at hl 4 rfl) ?_
          refine lv_iconst (v := 2) hx hb dX10_standardFor_60 (by decide +kernel) ?_
          refine lv_icmp_ne (tgt := 76) hx hb dX10_standardFor_61 (by decide +kernel) (fun c8 => ?_) (fun c8 => ?_)
          · have f8 := mt (ti_eq (a := f.toInt) (b := 2) rfl (by decide +kernel)).mpr c8
            refine lv_iconst (v := 0) hx hb dX10_standardFor_76 (by decide +kernel) ?_
            exact ro_iret hx hb hr hlocks hS dX10_standardFor_77 ⟨(show (0 : Int32).toInt = -9 ∨ (0 ≤ (0 : Int32).toInt ∧ (0 : Int32).toInt ≤ 1) from by decide +kernel), (show (0 : Int32).toInt = sfV (c 105) (c 108) (c 107) (c 106 (c 108 w.toInt.toNat).toNatClampNeg).toInt f.toInt w.toInt from sfV_0 (hz2_0.trans (stL_9 (by omega))) (by omega) (by decide +kernel))⟩
          · have f8 := (ti_eq (a := f.toInt) (b := 2) rfl (by decide +kernel)).mp c8
            refine lv_aload_n hx hb dX10_standardFor_64 rfl (lv_at hl 2 rfl) ?_
            refine lv_iload_n hx hb dX10_standardFor_65 rfl (lv_at hl 3 rfl) ?_
            refine ro_calli (va_runV (As := [.int w]) (rest := []) ⟨hx, hb, hml, hown, hts⟩ (x_X10_sortOf_e l D H.size .null a t i q c d w hI ) (cwV 1 hts gm_X10_standardFor_e_X10_sortOf_e_40 rfl rfl rfl (by decide +kernel) ⟨Nat.le_of_ble_eq_true rfl, Nat.le_of_ble_eq_true rfl⟩) (yA_V hN (xZ_k hZ hS hA) hK hP (ci := 10) (q0 := 0) rfl rfl) rfl rfl hl.1 rfl (lv_room (Nat.le_of_ble_eq_true rfl)) dX10_standardFor_66 ⟨Nat.le_of_ble_eq_true rfl, Nat.le_of_ble_eq_true rfl⟩) hS hA hP (fun r9 u9 H locs hw9 hP hS => ?_)
            have hw9 : (((r9.toInt = -9 ∧ ¬ (0 ≤ w.toInt ∧ w.toInt < (i 111).toInt)) ∨ (0 ≤ r9.toInt ∧ r9.toInt ≤ 5 ∧ 0 ≤ w.toInt ∧ w.toInt < (i 111).toInt)) ∧ (SO (c 106) (c 108) (i 111).toInt w.toInt r9.toInt)) := hw9
            obtain ⟨hw9, hr9_0⟩ := hw9
            have hr9_0 : SO (c 106) (c 108) (i 111).toInt w.toInt r9.toInt := hr9_0
            have how : r9.toInt = (c 106 (c 108 w.toInt.toNat).toNatClampNeg).toInt := by rcases hr9_0 with h9 | h9; (· exact h9.2.2); (· exfalso; omega)
            refine lv_if_ne (tgt := 76) hx hb dX10_standardFor_69 (by decide +kernel) (fun c10 => ?_) (fun c10 => ?_)
            · have f10 := mt (ti_eq (a := r9.toInt) (b := 0) rfl (by decide +kernel)).mpr c10
              refine lv_iconst (v := 0) hx hb dX10_standardFor_76 (by decide +kernel) ?_
              exact ro_iret hx hb hr hlocks hS dX10_standardFor_77 ⟨(show (0 : Int32).toInt = -9 ∨ (0 ≤ (0 : Int32).toInt ∧ (0 : Int32).toInt ≤ 1) from by decide +kernel), (show (0 : Int32).toInt = sfV (c 105) (c 108) (c 107) (c 106 (c 108 w.toInt.toNat).toNatClampNeg).toInt f.toInt w.toInt from sfV_0 (hz2_0.trans (stL_9 (by omega))) (by omega) (by decide +kernel))⟩
            · have f10 := (ti_eq (a := r9.toInt) (b := 0) rfl (by decide +kernel)).mp c10
              refine lv_iconst (v := 1) hx hb dX10_standardFor_72 (by decide +kernel) ?_
              refine lv_goto (tgt := 77) hx hb dX10_standardFor_73 (by decide +kernel) ?_
              exact ro_iret hx hb hr hlocks hS dX10_standardFor_77 ⟨(show (1 : Int32).toInt = -9 ∨ (0 ≤ (1 : Int32).toInt ∧ (1 : Int32).toInt ≤ 1) from by decide +kernel), (show (1 : Int32).toInt = sfV (c 105) (c 108) (c 107) (c 106 (c 108 w.toInt.toNat).toNatClampNeg).toInt f.toInt w.toInt from sfV_1 (hz2_0.trans (stL_9 (by omega))) ⟨by omega, by omega⟩ (by decide +kernel))⟩
        · have f7 := mt (ti_eq (a := y2_3.toInt) (b := (-9)) rfl (by decide +kernel)).mpr c7
          refine lv_aload_n hx hb dX10_standardFor_23 rfl (lv_at hl 2 rfl) ?_
          refine xgW_W_standards hx hb hts (fun _ h => List.mem_cons_of_mem _ (List.mem_append_right _ h)) hown hK hP (hts (.fieldLink RX10 18 "TalePlay$World" "standards" "[I") (List.mem_cons_of_mem _ (List.mem_append_left _ (List.mem_of_getElem? (i := 8) rfl)))) dX10_standardFor_24 ?_
          refine lv_iload_n hx hb dX10_standardFor_27 rfl (lv_at hl 1 rfl) ?_
          refine lv_bipush (v := 6) hx hb dX10_standardFor_28 (by decide +kernel) ?_
          refine lv_imul hx hb dX10_standardFor_30 ?_
          refine lv_topi (fun x11 ex11 => ?_)
          have tx11 := ti_mul (a := y2_3.toInt) (b := 6) ex11 rfl (by decide +kernel) (by omega) (by omega)
          refine lv_iload_n hx hb dX10_standardFor_31 rfl (lv_at hl 4 rfl) ?_
          refine lv_iadd hx hb dX10_standardFor_32 ?_
          refine lv_topi (fun x12 ex12 => ?_)
          have tx12 := ti_add (a := (y2_3.toInt * 6)) (b := f.toInt) ex12 tx11 rfl (by omega) (by omega)
          refine xlW_107 hx hb hK hP (vp_in_iff.mpr (by have h9 : x12.toInt = ((y2_3.toInt * 6) + f.toInt) := tx12; omega)) dX10_standardFor_33 (fun x13 ex13 => ?_)
          have rx13 : x13.toInt = -9 ∨ (0 ≤ x13.toInt ∧ x13.toInt ≤ 1) := by rw [ex13]; exact hI.2 107 _
          refine lv_istore (lv' := [(5, .int x13), (4, .int y2_4), (3, .int y2_3), (0, .ref (a 104)), (1, .int w), (2, .int f)]) hx hb dX10_standardFor_34 hl (by decide +kernel) rfl (fun ls hl => ?_)
          refine lv_iload hx hb dX10_standardFor_36 (lv_at hl 0 rfl) ?_
          refine lv_bipush (v := (-9)) hx hb dX10_standardFor_38 (by decide +kernel) ?_
          refine lv_icmp_eq (tgt := 46) hx hb dX10_standardFor_40 (by decide +kernel) (fun c14 => ?_) (fun c14 => ?_)
          · have f14 := (ti_eq (a := x13.toInt) (b := (-9)) rfl (by decide +kernel)).mp c14
            refine lv_aload_n hx hb dX10_standardFor_46 rfl (lv_at hl 3 rfl) ?_
            refine xgW_W_parents hx hb hts (fun _ h => List.mem_cons_of_mem _ (List.mem_append_right _ h)) hown hK hP (hts (.fieldLink RX10 9 "TalePlay$World" "parents" "[I") (List.mem_cons_of_mem _ (List.mem_append_left _ (List.mem_of_getElem? (i := 9) rfl)))) dX10_standardFor_47 ?_
            refine lv_iload_n hx hb dX10_standardFor_50 rfl (lv_at hl 2 rfl) ?_
            refine xlW_105 hx hb hK hP (vp_in_iff.mpr (by have h9 : y2_3.toInt = y2_3.toInt := rfl; omega)) dX10_standardFor_51 (fun x15 ex15 => ?_)
            have rx15 : x15.toInt = -9 ∨ (0 ≤ x15.toInt ∧ x15.toInt ≤ 23) := by rw [ex15]; exact hI.2 105 _
            refine lv_istore_n (lv' := [(3, .int x15), (5, .int x13), (4, .int y2_4), (0, .ref (a 104)), (1, .int w), (2, .int f)]) hx hb dX10_standardFor_52 rfl hl (by decide +kernel) rfl (fun ls hl => ?_)
            obtain ⟨x16, ex16⟩ : ∃ y : Int32, y = y2_4 + 1 := ⟨_, rfl⟩
            have tx16 := ti_add (a := y2_4.toInt) (b := 1) ex16 rfl (by decide +kernel) (by omega) (by omega)
            refine lv_iinc (v := x16) (lv' := [(4, .int x16), (3, .int x15), (5, .int x13), (0, .ref (a 104)), (1, .int w), (2, .int f)]) hx hb dX10_standardFor_53 hl (k := 2) rfl (by rw [ex16]; rfl) (by decide +kernel) rfl (fun ls hl => ?_)
            refine lv_goto (tgt := 10) hx hb dX10_standardFor_56 (by decide +kernel) ?_
            exact ih2 x16 x15 (show 0 ≤ x16.toInt ∧ x16.toInt ≤ 24 from by have h50 : x16.toInt = (y2_4.toInt + 1) := tx16; omega) (show x15.toInt = -9 ∨ (0 ≤ x15.toInt ∧ x15.toInt ≤ 23) from by have h50 : x16.toInt = (y2_4.toInt + 1) := tx16; omega) (show stL (c 105) (c 107) f.toInt 24 (c 108 w.toInt.toNat).toInt = stL (c 105) (c 107) f.toInt 24 x15.toInt from hz2_0.trans (stL_s hs_D (by omega) (by rw [(ix_n (f := c 107) (s := x12) (show (x12 : Int32).toInt = y2_3.toInt * 6 + f.toInt from by omega) ex13)]; omega) ex15)) (show x15.toInt = -9 ∨ x15.toInt + x16.toInt ≤ 23 from by have h9 := hs_D y2_3.toNatClampNeg; rw [← ex15, cl_nn (by omega)] at h9; have h8 := tx16; omega) (by have h50 : x16.toInt = (y2_4.toInt + 1) := tx16; omega) _ _ _ hP hS (lv_sub hl [0, 1, 3, 4, 5] rfl)
          · have f14 := mt (ti_eq (a := x13.toInt) (b := (-9)) rfl (by decide +kernel)).mpr c14
            refine lv_iload hx hb dX10_standardFor_43 (lv_at hl 0 rfl) ?_
            exact ro_iret hx hb hr hlocks hS dX10_standardFor_45 ⟨(show x13.toInt = -9 ∨ (0 ≤ x13.toInt ∧ x13.toInt ≤ 1) from by omega), (show x13.toInt = sfV (c 105) (c 108) (c 107) (c 106 (c 108 w.toInt.toNat).toNatClampNeg).toInt f.toInt w.toInt from sfV_y (hz2_0.trans ((stL_y (by omega) (by rw [(ix_n (f := c 107) (s := x12) (show (x12 : Int32).toInt = y2_3.toInt * 6 + f.toInt from by omega) ex13)]; omega)).trans (by rw [(ix_n (f := c 107) (s := x12) (show (x12 : Int32).toInt = y2_3.toInt * 6 + f.toInt from by omega) ex13)]))) (by omega))⟩
  exact lp2 _ (0 : Int32) x1 (show 0 ≤ (0 : Int32).toInt ∧ (0 : Int32).toInt ≤ 24 from by decide +kernel) (show x1.toInt = -9 ∨ (0 ≤ x1.toInt ∧ x1.toInt ≤ 23) from by have h50 : (0 : Int32).toInt = 0 := (by decide +kernel); omega) (show stL (c 105) (c 107) f.toInt 24 (c 108 w.toInt.toNat).toInt = stL (c 105) (c 107) f.toInt 24 x1.toInt from by rw [show (c 108 w.toInt.toNat) = x1 from ex1.symm]) (show x1.toInt = -9 ∨ x1.toInt + (0 : Int32).toInt ≤ 23 from by have h50 : (0 : Int32).toInt = 0 := (by decide +kernel); omega) (Nat.lt_succ_self _) _ _ _ hP hS (lv_sub hl [0, 1, 2, 3, 4] rfl)

def wm_X1_saidFlag_e : List Cond := .code yX1_saidFlag cX1_saidFlag 4 (some .int) :: ((([.fieldLink RX1 34 "TalePlay$Book" "flagBy" "[I", .fieldLink RX1 21 "TalePlay$Book" "cs" "[I", .fieldLink RX1 43 "TalePlay$Book" "world" "LTalePlay$World;", .methodLink RX1 114 yX10_standardFor, .instanceMethod yX10_standardFor, .selects RX10 yX10_standardFor yX10_standardFor, .initialized RX10, .code yX10_standardFor cX10_standardFor 6 (some .int), .fieldLink RX10 21 "TalePlay$World" "kindOf" "[I", .methodLink RX10 40 yX10_sortOf, .instanceMethod yX10_sortOf, .selects RX10 yX10_sortOf yX10_sortOf, .code yX10_sortOf cX10_sortOf 2 (some .int), .fieldLink RX10 37 "TalePlay$World" "objects" "I", .fieldLink RX10 15 "TalePlay$World" "sorts" "[I", .fieldLink RX10 18 "TalePlay$World" "standards" "[I"] : List Cond) ++ ([.fieldLink RX10 9 "TalePlay$World" "parents" "[I"] : List Cond)) ++ wsX10 ++ wsX100)
set_option maxRecDepth 20000 in
theorem gm_X1_saidFlag_e_X10_standardFor_e_114 : GoodIn wm_X1_saidFlag_e (wsV RX1 114 RX10 yX10_standardFor wm_X10_standardFor_e) := goodIn_w (List.forall_mem_append.mpr ⟨List.forall_mem_cons.mpr ⟨List.mem_cons_of_mem _ (List.mem_append_left _ (List.mem_append_left _ (List.mem_append_left _ (List.mem_of_getElem? (i := 3) rfl)))), List.forall_mem_cons.mpr ⟨List.mem_cons_of_mem _ (List.mem_append_left _ (List.mem_append_left _ (List.mem_append_left _ (List.mem_of_getElem? (i := 4) rfl)))), List.forall_mem_cons.mpr ⟨List.mem_cons_of_mem _ (List.mem_append_left _ (List.mem_append_left _ (List.mem_append_left _ (List.mem_of_getElem? (i := 5) rfl)))), List.forall_mem_cons.mpr ⟨List.mem_cons_of_mem _ (List.mem_append_left _ (List.mem_append_left _ (List.mem_append_left _ (List.mem_of_getElem? (i := 6) rfl)))), (fun _ h => absurd h List.not_mem_nil)⟩⟩⟩⟩, List.forall_mem_cons.mpr ⟨List.mem_cons_of_mem _ (List.mem_append_left _ (List.mem_append_left _ (List.mem_append_left _ (List.mem_of_getElem? (i := 7) rfl)))), List.forall_mem_append.mpr ⟨List.forall_mem_cons.mpr ⟨List.mem_cons_of_mem _ (List.mem_append_left _ (List.mem_append_left _ (List.mem_append_left _ (List.mem_of_getElem? (i := 8) rfl)))), List.forall_mem_cons.mpr ⟨List.mem_cons_of_mem _ (List.mem_append_left _ (List.mem_append_left _ (List.mem_append_left _ (List.mem_of_getElem? (i := 9) rfl)))), List.forall_mem_cons.mpr ⟨List.mem_cons_of_mem _ (List.mem_append_left _ (List.mem_append_left _ (List.mem_append_left _ (List.mem_of_getElem? (i := 10) rfl)))), List.forall_mem_cons.mpr ⟨List.mem_cons_of_mem _ (List.mem_append_left _ (List.mem_append_left _ (List.mem_append_left _ (List.mem_of_getElem? (i := 11) rfl)))), List.forall_mem_cons.mpr ⟨List.mem_cons_of_mem _ (List.mem_append_left _ (List.mem_append_left _ (List.mem_append_left _ (List.mem_of_getElem? (i := 6) rfl)))), List.forall_mem_cons.mpr ⟨List.mem_cons_of_mem _ (List.mem_append_left _ (List.mem_append_left _ (List.mem_append_left _ (List.mem_of_getElem? (i := 12) rfl)))), List.forall_mem_cons.mpr ⟨List.mem_cons_of_mem _ (List.mem_append_left _ (List.mem_append_left _ (List.mem_append_left _ (List.mem_of_getElem? (i := 13) rfl)))), List.forall_mem_cons.mpr ⟨List.mem_cons_of_mem _ (List.mem_append_left _ (List.mem_append_left _ (List.mem_append_left _ (List.mem_of_getElem? (i := 14) rfl)))), List.forall_mem_cons.mpr ⟨List.mem_cons_of_mem _ (List.mem_append_left _ (List.mem_append_left _ (List.mem_append_left _ (List.mem_of_getElem? (i := 15) rfl)))), List.forall_mem_cons.mpr ⟨List.mem_cons_of_mem _ (List.mem_append_left _ (List.mem_append_left _ (List.mem_append_right _ (List.mem_of_getElem? (i := 0) rfl)))), (fun _ h => absurd h List.not_mem_nil)⟩⟩⟩⟩⟩⟩⟩⟩⟩⟩, (fun _ h => List.mem_cons_of_mem _ (List.mem_append_right _ h))⟩⟩⟩) (by decide +kernel)
set_option maxHeartbeats 4000000 in
set_option maxRecDepth 100000 in
theorem x_X1_saidFlag_e (l : Launch) (D : va_G) (sz : Nat) (sk : Value) (a : Nat → Nat) (t : Nat → ClassId) (i : Nat → Int32) (q : Int64) (c : Nat → Nat → Int32) (d : Nat → Nat → Int64) (w : Int32) (f : Int32) (hI : xInv i c) (hiw : 0 ≤ w.toInt ∧ w.toInt < (i 111).toInt) (hf : 0 ≤ f.toInt ∧ f.toInt ≤ 5) (hs_D : PD (c 105)) : Met l yX1_saidFlag wm_X1_saidFlag_e ({ frames := 2, cells := 0, slots := 0, locals := 46 }) (va_Pc [.ref (a 112), .int w, .int f] (yA (a 186) D sz (xwB sk a t i q c d) (xtB t))) (va_Qi (fun (r : Int32) (_ : Unit) => ((r.toInt = -9 ∨ (0 ≤ r.toInt ∧ r.toInt ≤ 9)) ∧ (SgX (c 120) (c 116) w.toInt f.toInt (sfV (c 105) (c 108) (c 107) (c 106 (c 108 w.toInt.toNat).toNatClampNeg).toInt f.toInt w.toInt) r.toInt))) oA (ro sz)) 0 0 (ro sz) := by
  refine Met.ofW (cc := cX1_saidFlag) (maxL := 4) (ret := (some .int)) (by decide +kernel) rfl ?_
  intro p e s m args below meth cd s₁ B hml hv
  obtain ⟨rfl, ⟨hsz, hP, hK⟩, hN, hZ⟩ := hv
  have hx := B.exec
  have hb := B.bytes
  have hr := B.returns
  have hts := atoms_spec (ws := wm_X1_saidFlag_e) B.pre
  have hown : s.vm.findClass RX1 = some m.cls := findClass_of_methodNamed B.named
  have hlocks := B.notSynchronized
  subst hsz
  have hA : ∀ q : Nat, s.heap.size ≤ q → ro s.heap.size q := fun _ h => h
  have hS : va_S (ro s.heap.size) s.heap s.heap [] := va_S.rf
  have hl := lv_entry ([.ref (a 112), .int w, .int f]) (n := 4) (Nat.le_of_ble_eq_true rfl)
  rw [lg_entry_eq]
  generalize (lg_sl ([.ref (a 112), .int w, .int f]) ++ List.replicate (4 - (lg_sl ([.ref (a 112), .int w, .int f])).length) Slot.unset).toArray = ls at hl ⊢
  have hl : lv_has ls 4 [(0, .ref (a 112)), (1, .int w), (2, .int f)] := hl
  have rb111_i : 0 ≤ (i 111).toInt ∧ (i 111).toInt ≤ 30 := hI.1 111
  refine lv_aload_n hx hb dX1_saidFlag_0 rfl (lv_at hl 0 rfl) ?_
  refine xgB_B_flagBy hx hb hts (fun _ h => List.mem_cons_of_mem _ (List.mem_append_left _ (List.mem_append_right _ h))) hown hK hP (hts (.fieldLink RX1 34 "TalePlay$Book" "flagBy" "[I") (List.mem_cons_of_mem _ (List.mem_append_left _ (List.mem_append_left _ (List.mem_append_left _ (List.mem_of_getElem? (i := 0) rfl)))))) dX1_saidFlag_1 ?_
  refine lv_iload_n hx hb dX1_saidFlag_4 rfl (lv_at hl 1 rfl) ?_
  refine lv_bipush (v := 6) hx hb dX1_saidFlag_5 (by decide +kernel) ?_
  refine lv_imul hx hb dX1_saidFlag_7 ?_
  refine lv_topi (fun x1 ex1 => ?_)
  have tx1 := ti_mul (a := w.toInt) (b := 6) ex1 rfl (by decide +kernel) (by omega) (by omega)
  refine lv_iload_n hx hb dX1_saidFlag_8 rfl (lv_at hl 2 rfl) ?_
  refine lv_iadd hx hb dX1_saidFlag_9 ?_
  refine lv_topi (fun x2 ex2 => ?_)
  have tx2 := ti_add (a := (w.toInt * 6)) (b := f.toInt) ex2 tx1 rfl (by omega) (by omega)
  refine xlB_120 hx hb hK hP (vp_in_iff.mpr (by have h9 : x2.toInt = ((w.toInt * 6) + f.toInt) := tx2; omega)) dX1_saidFlag_10 (fun x3 ex3 => ?_)
  have rx3 : x3.toInt = -9 ∨ (0 ≤ x3.toInt ∧ x3.toInt ≤ 199) := by rw [ex3]; exact hI.2 120 _
  have gx3 : (c 120 (x2 : Int32).toNatClampNeg).toInt = x3.toInt := (congrArg Int32.toInt ex3).symm
  refine lv_istore_n (lv' := [(3, .int x3), (0, .ref (a 112)), (1, .int w), (2, .int f)]) hx hb dX1_saidFlag_11 rfl hl (by decide +kernel) rfl (fun ls hl => ?_)
  refine lv_iload_n hx hb dX1_saidFlag_12 rfl (lv_at hl 0 rfl) ?_
  refine lv_bipush (v := (-9)) hx hb dX1_saidFlag_13 (by decide +kernel) ?_
  refine lv_icmp_ne (tgt := 30) hx hb dX1_saidFlag_15 (by decide +kernel) (fun c4 => ?_) (fun c4 => ?_)
  · have f4 := mt (ti_eq (a := x3.toInt) (b := (-9)) rfl (by decide +kernel)).mpr c4
    refine lv_aload_n hx hb dX1_saidFlag_30 rfl (lv_at hl 1 rfl) ?_
    refine xgB_B_cs hx hb hts (fun _ h => List.mem_cons_of_mem _ (List.mem_append_left _ (List.mem_append_right _ h))) hown hK hP (hts (.fieldLink RX1 21 "TalePlay$Book" "cs" "[I") (List.mem_cons_of_mem _ (List.mem_append_left _ (List.mem_append_left _ (List.mem_append_left _ (List.mem_of_getElem? (i := 1) rfl)))))) dX1_saidFlag_31 ?_
    refine lv_iload_n hx hb dX1_saidFlag_34 rfl (lv_at hl 0 rfl) ?_
    refine xlB_116 hx hb hK hP (vp_in_iff.mpr (by have h9 : x3.toInt = x3.toInt := rfl; omega)) dX1_saidFlag_35 (fun x5 ex5 => ?_)
    have rx5 : 0 ≤ x5.toInt ∧ x5.toInt ≤ 9 := by rw [ex5]; exact hI.2 116 _
    have gx5 : (c 116 (x3 : Int32).toNatClampNeg).toInt = x5.toInt := (congrArg Int32.toInt ex5).symm
    exact ro_iret hx hb hr hlocks hS dX1_saidFlag_36 ⟨(show x5.toInt = -9 ∨ (0 ≤ x5.toInt ∧ x5.toInt ≤ 9) from by omega), (show SgX (c 120) (c 116) w.toInt f.toInt (sfV (c 105) (c 108) (c 107) (c 106 (c 108 w.toInt.toNat).toNatClampNeg).toInt f.toInt w.toInt) x5.toInt from Or.inr ⟨by rw [(ix_n (f := c 120) (s := x2) (show (x2 : Int32).toInt = w.toInt * 6 + f.toInt from by omega) ex3)]; omega, by rw [(ix_n (f := c 120) (s := x2) (show (x2 : Int32).toInt = w.toInt * 6 + f.toInt from by omega) ex3)]; exact gx5.symm⟩)⟩
  · have f4 := (ti_eq (a := x3.toInt) (b := (-9)) rfl (by decide +kernel)).mp c4
    refine lv_aload_n hx hb dX1_saidFlag_18 rfl (lv_at hl 1 rfl) ?_
    refine xgB_B_world hx hb hts (fun _ h => List.mem_cons_of_mem _ (List.mem_append_left _ (List.mem_append_right _ h))) hown hK hP (hts (.fieldLink RX1 43 "TalePlay$Book" "world" "LTalePlay$World;") (List.mem_cons_of_mem _ (List.mem_append_left _ (List.mem_append_left _ (List.mem_append_left _ (List.mem_of_getElem? (i := 2) rfl)))))) dX1_saidFlag_19 ?_
    refine lv_iload_n hx hb dX1_saidFlag_22 rfl (lv_at hl 2 rfl) ?_
    refine lv_iload_n hx hb dX1_saidFlag_23 rfl (lv_at hl 3 rfl) ?_
    refine ro_calli (va_runV (As := [.int w, .int f]) (rest := []) ⟨hx, hb, hml, hown, hts⟩ (x_X10_standardFor_e l D s.heap.size .null a t i q c d w f hI (show 0 ≤ w.toInt ∧ w.toInt < ((i 111) : Int32).toInt from by omega) (show 0 ≤ f.toInt ∧ f.toInt ≤ 5 from by omega) hs_D) (cwV 2 hts gm_X1_saidFlag_e_X10_standardFor_e_114 rfl rfl rfl (by decide +kernel) ⟨Nat.le_of_ble_eq_true rfl, Nat.le_of_ble_eq_true rfl⟩) (yA_V hN (xZ_k hZ hS hA) (xkB_W hK) (xuB_W (sk := sk) hP) (ci := 10) (q0 := 0) rfl rfl) rfl rfl hl.1 rfl (lv_room (Nat.le_of_ble_eq_true rfl)) dX1_saidFlag_24 ⟨Nat.le_of_ble_eq_true rfl, Nat.le_of_ble_eq_true rfl⟩) hS hA hP (fun r6 u6 H locs hw6 hP hS => ?_)
    have hw6 : ((r6.toInt = -9 ∨ (0 ≤ r6.toInt ∧ r6.toInt ≤ 1)) ∧ (r6.toInt = sfV (c 105) (c 108) (c 107) (c 106 (c 108 w.toInt.toNat).toNatClampNeg).toInt f.toInt w.toInt)) := hw6
    obtain ⟨hw6, hr6_0⟩ := hw6
    have hr6_0 : r6.toInt = sfV (c 105) (c 108) (c 107) (c 106 (c 108 w.toInt.toNat).toNatClampNeg).toInt f.toInt w.toInt := hr6_0
    refine lv_goto (tgt := 36) hx hb dX1_saidFlag_27 (by decide +kernel) ?_
    exact ro_iret hx hb hr hlocks hS dX1_saidFlag_36 ⟨(show r6.toInt = -9 ∨ (0 ≤ r6.toInt ∧ r6.toInt ≤ 9) from by omega), (show SgX (c 120) (c 116) w.toInt f.toInt (sfV (c 105) (c 108) (c 107) (c 106 (c 108 w.toInt.toNat).toNatClampNeg).toInt f.toInt w.toInt) r6.toInt from Or.inl ⟨by rw [(ix_n (f := c 120) (s := x2) (show (x2 : Int32).toInt = w.toInt * 6 + f.toInt from by omega) ex3)]; omega, hr6_0⟩)⟩

def wm_X11_flag_e : List Cond := .code yX11_flag cX11_flag 3 (some .int) :: ((([.fieldLink RX11 10 "TalePlay" "world" "LTalePlay$World;", .methodLink RX11 109 yX10_hasObject, .instanceMethod yX10_hasObject, .selects RX10 yX10_hasObject yX10_hasObject, .initialized RX10, .code yX10_hasObject cX10_hasObject 2 (some .boolean), .fieldLink RX10 37 "TalePlay$World" "objects" "I", .methodLink RX11 91 yX11_isBelow, .static yX11_isBelow, .initialized RX11, .code yX11_isBelow cX11_isBelow 2 (some .boolean), .methodLink RX11 220 yX10_canHave, .instanceMethod yX10_canHave, .selects RX10 yX10_canHave yX10_canHave, .code yX10_canHave cX10_canHave 3 (some .boolean), .methodLink RX10 48 yX10_isShutter] : List Cond) ++ (([.instanceMethod yX10_isShutter, .selects RX10 yX10_isShutter yX10_isShutter, .code yX10_isShutter cX10_isShutter 3 (some .boolean), .methodLink RX10 40 yX10_sortOf, .instanceMethod yX10_sortOf, .selects RX10 yX10_sortOf yX10_sortOf, .code yX10_sortOf cX10_sortOf 2 (some .int), .fieldLink RX10 15 "TalePlay$World" "sorts" "[I", .fieldLink RX10 21 "TalePlay$World" "kindOf" "[I", .methodLink RX10 44 yX10_isMovable, .instanceMethod yX10_isMovable, .selects RX10 yX10_isMovable yX10_isMovable, .code yX10_isMovable cX10_isMovable 3 (some .boolean), .methodLink RX10 51 yX10_isGoods, .instanceMethod yX10_isGoods, .selects RX10 yX10_isGoods yX10_isGoods] : List Cond) ++ (([.code yX10_isGoods cX10_isGoods 2 (some .boolean), .fieldLink RX11 21 "TalePlay" "book" "LTalePlay$Book;", .methodLink RX11 223 yX1_saidFlag, .instanceMethod yX1_saidFlag, .selects RX1 yX1_saidFlag yX1_saidFlag, .initialized RX1, .code yX1_saidFlag cX1_saidFlag 4 (some .int), .fieldLink RX1 34 "TalePlay$Book" "flagBy" "[I", .fieldLink RX1 21 "TalePlay$Book" "cs" "[I", .fieldLink RX1 43 "TalePlay$Book" "world" "LTalePlay$World;", .methodLink RX1 114 yX10_standardFor, .instanceMethod yX10_standardFor, .selects RX10 yX10_standardFor yX10_standardFor, .code yX10_standardFor cX10_standardFor 6 (some .int), .fieldLink RX10 18 "TalePlay$World" "standards" "[I", .fieldLink RX10 9 "TalePlay$World" "parents" "[I"] : List Cond) ++ ([.methodLink RX11 128 yX11_answerFinding, .instanceMethod yX11_answerFinding, .selects RX11 yX11_answerFinding yX11_answerFinding, .code yX11_answerFinding cX11_answerFinding 2 (some .int), .fieldLink RX11 72 "TalePlay" "latestFinding" "I", .fieldLink RX11 68 "TalePlay" "findingCounts" "[I"] : List Cond)))) ++ wsX110 ++ wsX100 ++ wsX10)
set_option maxRecDepth 20000 in
theorem gm_X11_flag_e_X10_hasObject_109 : GoodIn wm_X11_flag_e (wsV RX11 109 RX10 yX10_hasObject wm_X10_hasObject) := goodIn_w (List.forall_mem_append.mpr ⟨List.forall_mem_cons.mpr ⟨List.mem_cons_of_mem _ (List.mem_append_left _ (List.mem_append_left _ (List.mem_append_left _ (List.mem_append_left _ (List.mem_of_getElem? (i := 1) rfl))))), List.forall_mem_cons.mpr ⟨List.mem_cons_of_mem _ (List.mem_append_left _ (List.mem_append_left _ (List.mem_append_left _ (List.mem_append_left _ (List.mem_of_getElem? (i := 2) rfl))))), List.forall_mem_cons.mpr ⟨List.mem_cons_of_mem _ (List.mem_append_left _ (List.mem_append_left _ (List.mem_append_left _ (List.mem_append_left _ (List.mem_of_getElem? (i := 3) rfl))))), List.forall_mem_cons.mpr ⟨List.mem_cons_of_mem _ (List.mem_append_left _ (List.mem_append_left _ (List.mem_append_left _ (List.mem_append_left _ (List.mem_of_getElem? (i := 4) rfl))))), (fun _ h => absurd h List.not_mem_nil)⟩⟩⟩⟩, List.forall_mem_cons.mpr ⟨List.mem_cons_of_mem _ (List.mem_append_left _ (List.mem_append_left _ (List.mem_append_left _ (List.mem_append_left _ (List.mem_of_getElem? (i := 5) rfl))))), List.forall_mem_append.mpr ⟨List.forall_mem_cons.mpr ⟨List.mem_cons_of_mem _ (List.mem_append_left _ (List.mem_append_left _ (List.mem_append_left _ (List.mem_append_left _ (List.mem_of_getElem? (i := 6) rfl))))), (fun _ h => absurd h List.not_mem_nil)⟩, (fun _ h => List.mem_cons_of_mem _ (List.mem_append_left _ (List.mem_append_right _ h)))⟩⟩⟩) (by decide +kernel)
set_option maxRecDepth 20000 in
theorem gm_X11_flag_e_X11_isBelow_91 : GoodIn wm_X11_flag_e (va_wsS RX11 91 yX11_isBelow wm_X11_isBelow) := goodIn_w (List.forall_mem_append.mpr ⟨List.forall_mem_cons.mpr ⟨List.mem_cons_of_mem _ (List.mem_append_left _ (List.mem_append_left _ (List.mem_append_left _ (List.mem_append_left _ (List.mem_of_getElem? (i := 7) rfl))))), List.forall_mem_cons.mpr ⟨List.mem_cons_of_mem _ (List.mem_append_left _ (List.mem_append_left _ (List.mem_append_left _ (List.mem_append_left _ (List.mem_of_getElem? (i := 8) rfl))))), List.forall_mem_cons.mpr ⟨List.mem_cons_of_mem _ (List.mem_append_left _ (List.mem_append_left _ (List.mem_append_left _ (List.mem_append_left _ (List.mem_of_getElem? (i := 9) rfl))))), (fun _ h => absurd h List.not_mem_nil)⟩⟩⟩, List.forall_mem_cons.mpr ⟨List.mem_cons_of_mem _ (List.mem_append_left _ (List.mem_append_left _ (List.mem_append_left _ (List.mem_append_left _ (List.mem_of_getElem? (i := 10) rfl))))), (fun _ h => absurd h List.not_mem_nil)⟩⟩) (by decide +kernel)
set_option maxRecDepth 20000 in
theorem gm_X11_flag_e_X10_canHave_e_220 : GoodIn wm_X11_flag_e (wsV RX11 220 RX10 yX10_canHave wm_X10_canHave_e) := goodIn_w (List.forall_mem_append.mpr ⟨List.forall_mem_cons.mpr ⟨List.mem_cons_of_mem _ (List.mem_append_left _ (List.mem_append_left _ (List.mem_append_left _ (List.mem_append_left _ (List.mem_of_getElem? (i := 11) rfl))))), List.forall_mem_cons.mpr ⟨List.mem_cons_of_mem _ (List.mem_append_left _ (List.mem_append_left _ (List.mem_append_left _ (List.mem_append_left _ (List.mem_of_getElem? (i := 12) rfl))))), List.forall_mem_cons.mpr ⟨List.mem_cons_of_mem _ (List.mem_append_left _ (List.mem_append_left _ (List.mem_append_left _ (List.mem_append_left _ (List.mem_of_getElem? (i := 13) rfl))))), List.forall_mem_cons.mpr ⟨List.mem_cons_of_mem _ (List.mem_append_left _ (List.mem_append_left _ (List.mem_append_left _ (List.mem_append_left _ (List.mem_of_getElem? (i := 4) rfl))))), (fun _ h => absurd h List.not_mem_nil)⟩⟩⟩⟩, List.forall_mem_cons.mpr ⟨List.mem_cons_of_mem _ (List.mem_append_left _ (List.mem_append_left _ (List.mem_append_left _ (List.mem_append_left _ (List.mem_of_getElem? (i := 14) rfl))))), List.forall_mem_append.mpr ⟨List.forall_mem_append.mpr ⟨List.forall_mem_cons.mpr ⟨List.mem_cons_of_mem _ (List.mem_append_left _ (List.mem_append_left _ (List.mem_append_left _ (List.mem_append_left _ (List.mem_of_getElem? (i := 15) rfl))))), List.forall_mem_cons.mpr ⟨List.mem_cons_of_mem _ (List.mem_append_left _ (List.mem_append_left _ (List.mem_append_left _ (List.mem_append_right _ (List.mem_append_left _ (List.mem_of_getElem? (i := 0) rfl)))))), List.forall_mem_cons.mpr ⟨List.mem_cons_of_mem _ (List.mem_append_left _ (List.mem_append_left _ (List.mem_append_left _ (List.mem_append_right _ (List.mem_append_left _ (List.mem_of_getElem? (i := 1) rfl)))))), List.forall_mem_cons.mpr ⟨List.mem_cons_of_mem _ (List.mem_append_left _ (List.mem_append_left _ (List.mem_append_left _ (List.mem_append_left _ (List.mem_of_getElem? (i := 4) rfl))))), List.forall_mem_cons.mpr ⟨List.mem_cons_of_mem _ (List.mem_append_left _ (List.mem_append_left _ (List.mem_append_left _ (List.mem_append_right _ (List.mem_append_left _ (List.mem_of_getElem? (i := 2) rfl)))))), List.forall_mem_cons.mpr ⟨List.mem_cons_of_mem _ (List.mem_append_left _ (List.mem_append_left _ (List.mem_append_left _ (List.mem_append_right _ (List.mem_append_left _ (List.mem_of_getElem? (i := 3) rfl)))))), List.forall_mem_cons.mpr ⟨List.mem_cons_of_mem _ (List.mem_append_left _ (List.mem_append_left _ (List.mem_append_left _ (List.mem_append_right _ (List.mem_append_left _ (List.mem_of_getElem? (i := 4) rfl)))))), List.forall_mem_cons.mpr ⟨List.mem_cons_of_mem _ (List.mem_append_left _ (List.mem_append_left _ (List.mem_append_left _ (List.mem_append_right _ (List.mem_append_left _ (List.mem_of_getElem? (i := 5) rfl)))))), List.forall_mem_cons.mpr ⟨List.mem_cons_of_mem _ (List.mem_append_left _ (List.mem_append_left _ (List.mem_append_left _ (List.mem_append_right _ (List.mem_append_left _ (List.mem_of_getElem? (i := 6) rfl)))))), List.forall_mem_cons.mpr ⟨List.mem_cons_of_mem _ (List.mem_append_left _ (List.mem_append_left _ (List.mem_append_left _ (List.mem_append_left _ (List.mem_of_getElem? (i := 6) rfl))))), List.forall_mem_cons.mpr ⟨List.mem_cons_of_mem _ (List.mem_append_left _ (List.mem_append_left _ (List.mem_append_left _ (List.mem_append_right _ (List.mem_append_left _ (List.mem_of_getElem? (i := 7) rfl)))))), List.forall_mem_cons.mpr ⟨List.mem_cons_of_mem _ (List.mem_append_left _ (List.mem_append_left _ (List.mem_append_left _ (List.mem_append_right _ (List.mem_append_left _ (List.mem_of_getElem? (i := 8) rfl)))))), List.forall_mem_cons.mpr ⟨List.mem_cons_of_mem _ (List.mem_append_left _ (List.mem_append_left _ (List.mem_append_left _ (List.mem_append_right _ (List.mem_append_left _ (List.mem_of_getElem? (i := 9) rfl)))))), List.forall_mem_cons.mpr ⟨List.mem_cons_of_mem _ (List.mem_append_left _ (List.mem_append_left _ (List.mem_append_left _ (List.mem_append_right _ (List.mem_append_left _ (List.mem_of_getElem? (i := 10) rfl)))))), List.forall_mem_cons.mpr ⟨List.mem_cons_of_mem _ (List.mem_append_left _ (List.mem_append_left _ (List.mem_append_left _ (List.mem_append_right _ (List.mem_append_left _ (List.mem_of_getElem? (i := 11) rfl)))))), List.forall_mem_cons.mpr ⟨List.mem_cons_of_mem _ (List.mem_append_left _ (List.mem_append_left _ (List.mem_append_left _ (List.mem_append_right _ (List.mem_append_left _ (List.mem_of_getElem? (i := 12) rfl)))))), (fun _ h => absurd h List.not_mem_nil)⟩⟩⟩⟩⟩⟩⟩⟩⟩⟩⟩⟩⟩⟩⟩⟩, List.forall_mem_cons.mpr ⟨List.mem_cons_of_mem _ (List.mem_append_left _ (List.mem_append_left _ (List.mem_append_left _ (List.mem_append_right _ (List.mem_append_left _ (List.mem_of_getElem? (i := 13) rfl)))))), List.forall_mem_cons.mpr ⟨List.mem_cons_of_mem _ (List.mem_append_left _ (List.mem_append_left _ (List.mem_append_left _ (List.mem_append_right _ (List.mem_append_left _ (List.mem_of_getElem? (i := 14) rfl)))))), List.forall_mem_cons.mpr ⟨List.mem_cons_of_mem _ (List.mem_append_left _ (List.mem_append_left _ (List.mem_append_left _ (List.mem_append_right _ (List.mem_append_left _ (List.mem_of_getElem? (i := 15) rfl)))))), List.forall_mem_cons.mpr ⟨List.mem_cons_of_mem _ (List.mem_append_left _ (List.mem_append_left _ (List.mem_append_left _ (List.mem_append_right _ (List.mem_append_right _ (List.mem_append_left _ (List.mem_of_getElem? (i := 0) rfl))))))), (fun _ h => absurd h List.not_mem_nil)⟩⟩⟩⟩⟩, (fun _ h => List.mem_cons_of_mem _ (List.mem_append_left _ (List.mem_append_right _ h)))⟩⟩⟩) (by decide +kernel)
set_option maxRecDepth 20000 in
theorem gm_X11_flag_e_X1_saidFlag_e_223 : GoodIn wm_X11_flag_e (wsV RX11 223 RX1 yX1_saidFlag wm_X1_saidFlag_e) := goodIn_w (List.forall_mem_append.mpr ⟨List.forall_mem_cons.mpr ⟨List.mem_cons_of_mem _ (List.mem_append_left _ (List.mem_append_left _ (List.mem_append_left _ (List.mem_append_right _ (List.mem_append_right _ (List.mem_append_left _ (List.mem_of_getElem? (i := 2) rfl))))))), List.forall_mem_cons.mpr ⟨List.mem_cons_of_mem _ (List.mem_append_left _ (List.mem_append_left _ (List.mem_append_left _ (List.mem_append_right _ (List.mem_append_right _ (List.mem_append_left _ (List.mem_of_getElem? (i := 3) rfl))))))), List.forall_mem_cons.mpr ⟨List.mem_cons_of_mem _ (List.mem_append_left _ (List.mem_append_left _ (List.mem_append_left _ (List.mem_append_right _ (List.mem_append_right _ (List.mem_append_left _ (List.mem_of_getElem? (i := 4) rfl))))))), List.forall_mem_cons.mpr ⟨List.mem_cons_of_mem _ (List.mem_append_left _ (List.mem_append_left _ (List.mem_append_left _ (List.mem_append_right _ (List.mem_append_right _ (List.mem_append_left _ (List.mem_of_getElem? (i := 5) rfl))))))), (fun _ h => absurd h List.not_mem_nil)⟩⟩⟩⟩, List.forall_mem_cons.mpr ⟨List.mem_cons_of_mem _ (List.mem_append_left _ (List.mem_append_left _ (List.mem_append_left _ (List.mem_append_right _ (List.mem_append_right _ (List.mem_append_left _ (List.mem_of_getElem? (i := 6) rfl))))))), List.forall_mem_append.mpr ⟨List.forall_mem_append.mpr ⟨List.forall_mem_append.mpr ⟨List.forall_mem_cons.mpr ⟨List.mem_cons_of_mem _ (List.mem_append_left _ (List.mem_append_left _ (List.mem_append_left _ (List.mem_append_right _ (List.mem_append_right _ (List.mem_append_left _ (List.mem_of_getElem? (i := 7) rfl))))))), List.forall_mem_cons.mpr ⟨List.mem_cons_of_mem _ (List.mem_append_left _ (List.mem_append_left _ (List.mem_append_left _ (List.mem_append_right _ (List.mem_append_right _ (List.mem_append_left _ (List.mem_of_getElem? (i := 8) rfl))))))), List.forall_mem_cons.mpr ⟨List.mem_cons_of_mem _ (List.mem_append_left _ (List.mem_append_left _ (List.mem_append_left _ (List.mem_append_right _ (List.mem_append_right _ (List.mem_append_left _ (List.mem_of_getElem? (i := 9) rfl))))))), List.forall_mem_cons.mpr ⟨List.mem_cons_of_mem _ (List.mem_append_left _ (List.mem_append_left _ (List.mem_append_left _ (List.mem_append_right _ (List.mem_append_right _ (List.mem_append_left _ (List.mem_of_getElem? (i := 10) rfl))))))), List.forall_mem_cons.mpr ⟨List.mem_cons_of_mem _ (List.mem_append_left _ (List.mem_append_left _ (List.mem_append_left _ (List.mem_append_right _ (List.mem_append_right _ (List.mem_append_left _ (List.mem_of_getElem? (i := 11) rfl))))))), List.forall_mem_cons.mpr ⟨List.mem_cons_of_mem _ (List.mem_append_left _ (List.mem_append_left _ (List.mem_append_left _ (List.mem_append_right _ (List.mem_append_right _ (List.mem_append_left _ (List.mem_of_getElem? (i := 12) rfl))))))), List.forall_mem_cons.mpr ⟨List.mem_cons_of_mem _ (List.mem_append_left _ (List.mem_append_left _ (List.mem_append_left _ (List.mem_append_left _ (List.mem_of_getElem? (i := 4) rfl))))), List.forall_mem_cons.mpr ⟨List.mem_cons_of_mem _ (List.mem_append_left _ (List.mem_append_left _ (List.mem_append_left _ (List.mem_append_right _ (List.mem_append_right _ (List.mem_append_left _ (List.mem_of_getElem? (i := 13) rfl))))))), List.forall_mem_cons.mpr ⟨List.mem_cons_of_mem _ (List.mem_append_left _ (List.mem_append_left _ (List.mem_append_left _ (List.mem_append_right _ (List.mem_append_left _ (List.mem_of_getElem? (i := 8) rfl)))))), List.forall_mem_cons.mpr ⟨List.mem_cons_of_mem _ (List.mem_append_left _ (List.mem_append_left _ (List.mem_append_left _ (List.mem_append_right _ (List.mem_append_left _ (List.mem_of_getElem? (i := 3) rfl)))))), List.forall_mem_cons.mpr ⟨List.mem_cons_of_mem _ (List.mem_append_left _ (List.mem_append_left _ (List.mem_append_left _ (List.mem_append_right _ (List.mem_append_left _ (List.mem_of_getElem? (i := 4) rfl)))))), List.forall_mem_cons.mpr ⟨List.mem_cons_of_mem _ (List.mem_append_left _ (List.mem_append_left _ (List.mem_append_left _ (List.mem_append_right _ (List.mem_append_left _ (List.mem_of_getElem? (i := 5) rfl)))))), List.forall_mem_cons.mpr ⟨List.mem_cons_of_mem _ (List.mem_append_left _ (List.mem_append_left _ (List.mem_append_left _ (List.mem_append_right _ (List.mem_append_left _ (List.mem_of_getElem? (i := 6) rfl)))))), List.forall_mem_cons.mpr ⟨List.mem_cons_of_mem _ (List.mem_append_left _ (List.mem_append_left _ (List.mem_append_left _ (List.mem_append_left _ (List.mem_of_getElem? (i := 6) rfl))))), List.forall_mem_cons.mpr ⟨List.mem_cons_of_mem _ (List.mem_append_left _ (List.mem_append_left _ (List.mem_append_left _ (List.mem_append_right _ (List.mem_append_left _ (List.mem_of_getElem? (i := 7) rfl)))))), List.forall_mem_cons.mpr ⟨List.mem_cons_of_mem _ (List.mem_append_left _ (List.mem_append_left _ (List.mem_append_left _ (List.mem_append_right _ (List.mem_append_right _ (List.mem_append_left _ (List.mem_of_getElem? (i := 14) rfl))))))), (fun _ h => absurd h List.not_mem_nil)⟩⟩⟩⟩⟩⟩⟩⟩⟩⟩⟩⟩⟩⟩⟩⟩, List.forall_mem_cons.mpr ⟨List.mem_cons_of_mem _ (List.mem_append_left _ (List.mem_append_left _ (List.mem_append_left _ (List.mem_append_right _ (List.mem_append_right _ (List.mem_append_left _ (List.mem_of_getElem? (i := 15) rfl))))))), (fun _ h => absurd h List.not_mem_nil)⟩⟩, (fun _ h => List.mem_cons_of_mem _ (List.mem_append_right _ h))⟩, (fun _ h => List.mem_cons_of_mem _ (List.mem_append_left _ (List.mem_append_right _ h)))⟩⟩⟩) (by decide +kernel)
set_option maxRecDepth 20000 in
theorem gm_X11_flag_e_X11_answerFinding_128 : GoodIn wm_X11_flag_e (wsV RX11 128 RX11 yX11_answerFinding wm_X11_answerFinding) := goodIn_w (List.forall_mem_append.mpr ⟨List.forall_mem_cons.mpr ⟨List.mem_cons_of_mem _ (List.mem_append_left _ (List.mem_append_left _ (List.mem_append_left _ (List.mem_append_right _ (List.mem_append_right _ (List.mem_append_right _ (List.mem_of_getElem? (i := 0) rfl))))))), List.forall_mem_cons.mpr ⟨List.mem_cons_of_mem _ (List.mem_append_left _ (List.mem_append_left _ (List.mem_append_left _ (List.mem_append_right _ (List.mem_append_right _ (List.mem_append_right _ (List.mem_of_getElem? (i := 1) rfl))))))), List.forall_mem_cons.mpr ⟨List.mem_cons_of_mem _ (List.mem_append_left _ (List.mem_append_left _ (List.mem_append_left _ (List.mem_append_right _ (List.mem_append_right _ (List.mem_append_right _ (List.mem_of_getElem? (i := 2) rfl))))))), List.forall_mem_cons.mpr ⟨List.mem_cons_of_mem _ (List.mem_append_left _ (List.mem_append_left _ (List.mem_append_left _ (List.mem_append_left _ (List.mem_of_getElem? (i := 9) rfl))))), (fun _ h => absurd h List.not_mem_nil)⟩⟩⟩⟩, List.forall_mem_cons.mpr ⟨List.mem_cons_of_mem _ (List.mem_append_left _ (List.mem_append_left _ (List.mem_append_left _ (List.mem_append_right _ (List.mem_append_right _ (List.mem_append_right _ (List.mem_of_getElem? (i := 3) rfl))))))), List.forall_mem_append.mpr ⟨List.forall_mem_cons.mpr ⟨List.mem_cons_of_mem _ (List.mem_append_left _ (List.mem_append_left _ (List.mem_append_left _ (List.mem_append_right _ (List.mem_append_right _ (List.mem_append_right _ (List.mem_of_getElem? (i := 4) rfl))))))), List.forall_mem_cons.mpr ⟨List.mem_cons_of_mem _ (List.mem_append_left _ (List.mem_append_left _ (List.mem_append_left _ (List.mem_append_right _ (List.mem_append_right _ (List.mem_append_right _ (List.mem_of_getElem? (i := 5) rfl))))))), (fun _ h => absurd h List.not_mem_nil)⟩⟩, (fun _ h => List.mem_cons_of_mem _ (List.mem_append_left _ (List.mem_append_left _ (List.mem_append_right _ h))))⟩⟩⟩) (by decide +kernel)
set_option maxHeartbeats 4000000 in
set_option maxRecDepth 100000 in
theorem x_X11_flag_e (l : Launch) (D : va_G) (sz : Nat) (sk : Value) (a : Nat → Nat) (t : Nat → ClassId) (i : Nat → Int32) (q : Int64) (c : Nat → Nat → Int32) (d : Nat → Nat → Int64) (w : Int32) (f : Int32) (hI : xInv i c) (hs_D : PD (c 105)) : Met l yX11_flag wm_X11_flag_e ({ frames := 4, cells := 0, slots := 0, locals := 86 }) (va_Pc [.ref (a 100), .int w, .int f] (yB (a 186) D sz (xwT sk a t i q c d) (xtT t))) (va_Qi (fun (r : Int32) (u : MS) => True ∧ xInv u.1 u.2.2.1 ∧ (∀ k, k ∉ ([102] : List Nat) → u.1 k = i k) ∧ (∀ k, k ∉ ([101] : List Nat) → u.2.2.1 k = c k) ∧ (FgR (i 111).toInt w.toInt f.toInt (c 106 (c 108 w.toInt.toNat).toNatClampNeg).toInt r.toInt (SgX (c 120) (c 116) w.toInt f.toInt (sfV (c 105) (c 108) (c 107) (c 106 (c 108 w.toInt.toNat).toNatClampNeg).toInt f.toInt w.toInt) r.toInt))) (oC D (va_A (xwT sk a t i q c d) sz) (fun u : MS => xwT sk a t u.1 u.2.1 u.2.2.1 u.2.2.2) (fun _ => [])) (va_A (xwT sk a t i q c d) sz)) 0 0 (va_A (xwT sk a t i q c d) sz) := by
  refine Met.ofW (cc := cX11_flag) (maxL := 3) (ret := (some .int)) (by decide +kernel) rfl ?_
  intro p e s m args below meth cd s₁ B hml hv
  obtain ⟨rfl, ⟨hsz, hP, hK, hD0⟩, hN, hZ, hBW⟩ := hv
  have hx := B.exec
  have hb := B.bytes
  have hr := B.returns
  have hts := atoms_spec (ws := wm_X11_flag_e) B.pre
  have hown : s.vm.findClass RX11 = some m.cls := findClass_of_methodNamed B.named
  have hlocks := B.notSynchronized
  subst hsz
  have hD := hD0.self (sz := s.heap.size)
  have hZ := xZ_A hZ hP hBW
  generalize hAe : va_A (xwT sk a t i q c d) s.heap.size = A at hD hZ ⊢
  have hA : ∀ q : Nat, s.heap.size ≤ q → A q := fun q h => by rw [← hAe]; exact Or.inr h
  have hS : va_S A s.heap s.heap [] := va_S.rf
  have hfi : ∀ k, k ∉ ([] : List Nat) → i k = i k := fun _ _ => rfl
  have hfc : ∀ k, k ∉ ([] : List Nat) → c k = c k := fun _ _ => rfl
  have hl := lv_entry ([.ref (a 100), .int w, .int f]) (n := 3) (Nat.le_of_ble_eq_true rfl)
  rw [lg_entry_eq]
  generalize (lg_sl ([.ref (a 100), .int w, .int f]) ++ List.replicate (3 - (lg_sl ([.ref (a 100), .int w, .int f])).length) Slot.unset).toArray = ls at hl ⊢
  have hl : lv_has ls 3 [(0, .ref (a 100)), (1, .int w), (2, .int f)] := hl
  have rb111_i : 0 ≤ (i 111).toInt ∧ (i 111).toInt ≤ 30 := hI.1 111
  refine lv_aload_n hx hb dX11_flag_0 rfl (lv_at hl 0 rfl) ?_
  refine xgT_X_world hx hb hts (fun _ h => List.mem_cons_of_mem _ (List.mem_append_left _ (List.mem_append_left _ (List.mem_append_right _ h)))) hown hK hP (hts (.fieldLink RX11 10 "TalePlay" "world" "LTalePlay$World;") (List.mem_cons_of_mem _ (List.mem_append_left _ (List.mem_append_left _ (List.mem_append_left _ (List.mem_append_left _ (List.mem_of_getElem? (i := 0) rfl))))))) dX11_flag_1 ?_
  refine lv_iload_n hx hb dX11_flag_4 rfl (lv_at hl 1 rfl) ?_
  refine ro_calli (va_runV (As := [.int w]) (rest := []) ⟨hx, hb, hml, hown, hts⟩ (x_X10_hasObject l D s.heap.size .null a t i q c d w hI ) (cwV 1 hts gm_X11_flag_e_X10_hasObject_109 rfl rfl rfl (by decide +kernel) ⟨Nat.le_of_ble_eq_true rfl, Nat.le_of_ble_eq_true rfl⟩) (yA_V hN (xZ_k hZ hS hA) (xkT_W hK) (xuT_W (sk := sk) hP) (ci := 10) (q0 := 0) rfl rfl) rfl rfl hl.1 rfl (lv_room (Nat.le_of_ble_eq_true rfl)) dX11_flag_5 ⟨Nat.le_of_ble_eq_true rfl, Nat.le_of_ble_eq_true rfl⟩) hS hA hP (fun r1 u1 H locs hw1 hP hS => ?_)
  have hw1 : r1 = if (0 ≤ w.toInt ∧ w.toInt < (i 111).toInt) then 1 else 0 := hw1
  refine lv_if_eq (tgt := 20) hx hb dX11_flag_8 (by decide +kernel) (fun c2 => ?_) (fun c2 => ?_)
  · have f2 := fl_f hw1 c2
    refine lv_iconst (v := (-1)) hx hb dX11_flag_20 (by decide +kernel) ?_
    exact rw_iret (i, q, c, d) hx hb hr hlocks hS (hK.sub (tys' := []) [] rfl) hP hD dX11_flag_21 ⟨trivial, hI, fr_w hfi (by decide +kernel), fr_w hfc (by decide +kernel), (show FgR (i 111).toInt w.toInt f.toInt (c 106 (c 108 w.toInt.toNat).toNatClampNeg).toInt ((-1) : Int32).toInt (SgX (c 120) (c 116) w.toInt f.toInt (sfV (c 105) (c 108) (c 107) (c 106 (c 108 w.toInt.toNat).toNatClampNeg).toInt f.toInt w.toInt) ((-1) : Int32).toInt) from Or.inl ⟨by omega, by decide⟩)⟩
  · have f2 := fl_t hw1 c2
    refine lv_iload_n hx hb dX11_flag_11 rfl (lv_at hl 2 rfl) ?_
    refine lv_bipush (v := 6) hx hb dX11_flag_12 (by decide +kernel) ?_
    have hPc := hP.sub (ws' := []) [] rfl
    have hKc := hK.sub (tys' := []) [] rfl
    refine ro_calli (va_runS (As := [.int f, .int 6]) (rest := []) ⟨hx, hb, hml, hown, hts⟩ (c_X11_isBelow l D H.size f 6 f.toInt 6 rfl (by decide +kernel)) (va_cwS 2 hts gm_X11_flag_e_X11_isBelow_91 rfl rfl rfl (by decide +kernel) ⟨Nat.le_of_ble_eq_true rfl, Nat.le_of_ble_eq_true rfl⟩) (pA_S hKc hPc) rfl rfl hl.1 rfl (lv_room (Nat.le_of_ble_eq_true rfl)) dX11_flag_14 ⟨Nat.le_of_ble_eq_true rfl, Nat.le_of_ble_eq_true rfl⟩) hS hA hP (fun r4 u4 H locs hw4 hP hS => ?_)
    have hw4 : r4 = if (0 ≤ f.toInt ∧ f.toInt < 6) then 1 else 0 := hw4
    refine lv_if_ne (tgt := 22) hx hb dX11_flag_17 (by decide +kernel) (fun c5 => ?_) (fun c5 => ?_)
    · have f5 := fl_t hw4 c5
      refine lv_aload_n hx hb dX11_flag_22 rfl (lv_at hl 0 rfl) ?_
      refine xgT_X_world hx hb hts (fun _ h => List.mem_cons_of_mem _ (List.mem_append_left _ (List.mem_append_left _ (List.mem_append_right _ h)))) hown hK hP (hts (.fieldLink RX11 10 "TalePlay" "world" "LTalePlay$World;") (List.mem_cons_of_mem _ (List.mem_append_left _ (List.mem_append_left _ (List.mem_append_left _ (List.mem_append_left _ (List.mem_of_getElem? (i := 0) rfl))))))) dX11_flag_23 ?_
      refine lv_iload_n hx hb dX11_flag_26 rfl (lv_at hl 1 rfl) ?_
      refine lv_iload_n hx hb dX11_flag_27 rfl (lv_at hl 2 rfl) ?_
      refine ro_calli (va_runV (As := [.int w, .int f]) (rest := []) ⟨hx, hb, hml, hown, hts⟩ (x_X10_canHave_e l D H.size .null a t i q c d w f hI (show 0 ≤ w.toInt ∧ w.toInt < ((i 111) : Int32).toInt from by omega) (show 0 ≤ f.toInt ∧ f.toInt ≤ 5 from by omega)) (cwV 2 hts gm_X11_flag_e_X10_canHave_e_220 rfl rfl rfl (by decide +kernel) ⟨Nat.le_of_ble_eq_true rfl, Nat.le_of_ble_eq_true rfl⟩) (yA_V hN (xZ_k hZ hS hA) (xkT_W hK) (xuT_W (sk := sk) hP) (ci := 10) (q0 := 0) rfl rfl) rfl rfl hl.1 rfl (lv_room (Nat.le_of_ble_eq_true rfl)) dX11_flag_28 ⟨Nat.le_of_ble_eq_true rfl, Nat.le_of_ble_eq_true rfl⟩) hS hA hP (fun r6 u6 H locs hw6 hP hS => ?_)
      have hw6 : (((r6.toInt = 1 ∧ ((f.toInt ≤ 1 ∧ ((c 106 (c 108 w.toInt.toNat).toNatClampNeg).toInt = 2 ∨ (c 106 (c 108 w.toInt.toNat).toNatClampNeg).toInt = 3)) ∨ f.toInt = 2 ∨ (f.toInt = 3 ∧ ((c 106 (c 108 w.toInt.toNat).toNatClampNeg).toInt = 1 ∨ 3 ≤ (c 106 (c 108 w.toInt.toNat).toNatClampNeg).toInt)) ∨ (f.toInt = 4 ∧ (((c 106 (c 108 w.toInt.toNat).toNatClampNeg).toInt = 1 ∨ 3 ≤ (c 106 (c 108 w.toInt.toNat).toNatClampNeg).toInt) ∧ ¬ (c 106 (c 108 w.toInt.toNat).toNatClampNeg).toInt = 5)) ∨ (5 ≤ f.toInt ∧ (c 106 (c 108 w.toInt.toNat).toNatClampNeg).toInt = 3))) ∨ (r6.toInt = 0 ∧ ¬ ((f.toInt ≤ 1 ∧ ((c 106 (c 108 w.toInt.toNat).toNatClampNeg).toInt = 2 ∨ (c 106 (c 108 w.toInt.toNat).toNatClampNeg).toInt = 3)) ∨ f.toInt = 2 ∨ (f.toInt = 3 ∧ ((c 106 (c 108 w.toInt.toNat).toNatClampNeg).toInt = 1 ∨ 3 ≤ (c 106 (c 108 w.toInt.toNat).toNatClampNeg).toInt)) ∨ (f.toInt = 4 ∧ (((c 106 (c 108 w.toInt.toNat).toNatClampNeg).toInt = 1 ∨ 3 ≤ (c 106 (c 108 w.toInt.toNat).toNatClampNeg).toInt) ∧ ¬ (c 106 (c 108 w.toInt.toNat).toNatClampNeg).toInt = 5)) ∨ (5 ≤ f.toInt ∧ (c 106 (c 108 w.toInt.toNat).toNatClampNeg).toInt = 3))))) := hw6
      refine lv_if_ne (tgt := 40) hx hb dX11_flag_31 (by decide +kernel) (fun c7 => ?_) (fun c7 => ?_)
      · have f7 := mt (ti_eq (a := r6.toInt) (b := 0) rfl (by decide +kernel)).mpr c7
        refine lv_aload_n hx hb dX11_flag_40 rfl (lv_at hl 0 rfl) ?_
        refine xgT_X_book hx hb hts (fun _ h => List.mem_cons_of_mem _ (List.mem_append_left _ (List.mem_append_left _ (List.mem_append_right _ h)))) hown hK hP (hts (.fieldLink RX11 21 "TalePlay" "book" "LTalePlay$Book;") (List.mem_cons_of_mem _ (List.mem_append_left _ (List.mem_append_left _ (List.mem_append_left _ (List.mem_append_right _ (List.mem_append_right _ (List.mem_append_left _ (List.mem_of_getElem? (i := 1) rfl))))))))) dX11_flag_41 ?_
        refine lv_iload_n hx hb dX11_flag_44 rfl (lv_at hl 1 rfl) ?_
        refine lv_iload_n hx hb dX11_flag_45 rfl (lv_at hl 2 rfl) ?_
        refine ro_calli (va_runV (As := [.int w, .int f]) (rest := []) ⟨hx, hb, hml, hown, hts⟩ (x_X1_saidFlag_e l D H.size .null a t i q c d w f hI (show 0 ≤ w.toInt ∧ w.toInt < ((i 111) : Int32).toInt from by omega) (show 0 ≤ f.toInt ∧ f.toInt ≤ 5 from by omega) hs_D) (cwV 2 hts gm_X11_flag_e_X1_saidFlag_e_223 rfl rfl rfl (by decide +kernel) ⟨Nat.le_of_ble_eq_true rfl, Nat.le_of_ble_eq_true rfl⟩) (yA_V hN (xZ_k hZ hS hA) (xkT_B hK) (xuT_B (sk := sk) hP) (ci := 1) (q0 := 6) rfl rfl) rfl rfl hl.1 rfl (lv_room (Nat.le_of_ble_eq_true rfl)) dX11_flag_46 ⟨Nat.le_of_ble_eq_true rfl, Nat.le_of_ble_eq_true rfl⟩) hS hA hP (fun r8 u8 H locs hw8 hP hS => ?_)
        have hw8 : ((r8.toInt = -9 ∨ (0 ≤ r8.toInt ∧ r8.toInt ≤ 9)) ∧ (SgX (c 120) (c 116) w.toInt f.toInt (sfV (c 105) (c 108) (c 107) (c 106 (c 108 w.toInt.toNat).toNatClampNeg).toInt f.toInt w.toInt) r8.toInt)) := hw8
        obtain ⟨hw8, hr8_0⟩ := hw8
        have hr8_0 : SgX (c 120) (c 116) w.toInt f.toInt (sfV (c 105) (c 108) (c 107) (c 106 (c 108 w.toInt.toNat).toNatClampNeg).toInt f.toInt w.toInt) r8.toInt := hr8_0
        exact rw_iret (i, q, c, d) hx hb hr hlocks hS (hK.sub (tys' := []) [] rfl) hP hD dX11_flag_49 ⟨trivial, hI, fr_w hfi (by decide +kernel), fr_w hfc (by decide +kernel), (show FgR (i 111).toInt w.toInt f.toInt (c 106 (c 108 w.toInt.toNat).toNatClampNeg).toInt (r8 : Int32).toInt (SgX (c 120) (c 116) w.toInt f.toInt (sfV (c 105) (c 108) (c 107) (c 106 (c 108 w.toInt.toNat).toNatClampNeg).toInt f.toInt w.toInt) (r8 : Int32).toInt) from Or.inr (Or.inr ⟨by omega, by unfold Can; omega, hr8_0⟩))⟩
      · have f7 := (ti_eq (a := r6.toInt) (b := 0) rfl (by decide +kernel)).mp c7
        refine lv_aload_n hx hb dX11_flag_34 rfl (lv_at hl 0 rfl) ?_
        refine lv_iconst (v := 3) hx hb dX11_flag_35 (by decide +kernel) ?_
        refine al_calli (va_runV (As := [.int 3]) (rest := []) ⟨hx, hb, hml, hown, hts⟩ (x_X11_answerFinding l D H.size sk a t i q c d 3 hI (show 1 ≤ 3 ∧ 3 ≤ 6 from by decide +kernel)) (cwV 1 hts gm_X11_flag_e_X11_answerFinding_128 rfl rfl rfl (by decide +kernel) ⟨Nat.le_of_ble_eq_true rfl, Nat.le_of_ble_eq_true rfl⟩) (yB_V hN (xZ_k hZ hS hA) (xZ_n hZ hD) hK hP hD (ci := 11) (q0 := 0) rfl rfl) rfl rfl hl.1 rfl (lv_room (Nat.le_of_ble_eq_true rfl)) dX11_flag_36 ⟨Nat.le_of_ble_eq_true rfl, Nat.le_of_ble_eq_true rfl⟩) hS hA hP hD (fun r9 u9 H locs hw9 hP hD hS => ?_)
        obtain ⟨i9, q9, c9, d9⟩ := u9
        have hw9 : r9 = (-3) ∧ xInv i9 c9 ∧ (∀ k, k ∉ ([102] : List Nat) → i9 k = i k) ∧ (∀ k, k ∉ ([101] : List Nat) → c9 k = c k) := hw9
        obtain ⟨hw9, hI, hei9, hec9⟩ := hw9
        have hfi : ∀ k, k ∉ ([102] : List Nat) → i9 k = i k := fr_z hfi hei9 (by decide +kernel) (by decide +kernel)
        have hfc : ∀ k, k ∉ ([101] : List Nat) → c9 k = c k := fr_z hfc hec9 (by decide +kernel) (by decide +kernel)
        have hw9 : r9 = (-3) := hw9
        subst hw9
        exact rw_iret (i9, q9, c9, d9) hx hb hr hlocks hS (hK.sub (tys' := []) [] rfl) hP hD dX11_flag_39 ⟨trivial, hI, fr_w hfi (by decide +kernel), fr_w hfc (by decide +kernel), (show FgR (i 111).toInt w.toInt f.toInt (c 106 (c 108 w.toInt.toNat).toNatClampNeg).toInt ((-3) : Int32).toInt (SgX (c 120) (c 116) w.toInt f.toInt (sfV (c 105) (c 108) (c 107) (c 106 (c 108 w.toInt.toNat).toNatClampNeg).toInt f.toInt w.toInt) ((-3) : Int32).toInt) from Or.inr (Or.inl ⟨by omega, by unfold Can; omega, by decide⟩))⟩
    · have f5 := fl_f hw4 c5
      refine lv_iconst (v := (-1)) hx hb dX11_flag_20 (by decide +kernel) ?_
      exact rw_iret (i, q, c, d) hx hb hr hlocks hS (hK.sub (tys' := []) [] rfl) hP hD dX11_flag_21 ⟨trivial, hI, fr_w hfi (by decide +kernel), fr_w hfc (by decide +kernel), (show FgR (i 111).toInt w.toInt f.toInt (c 106 (c 108 w.toInt.toNat).toNatClampNeg).toInt ((-1) : Int32).toInt (SgX (c 120) (c 116) w.toInt f.toInt (sfV (c 105) (c 108) (c 107) (c 106 (c 108 w.toInt.toNat).toNatClampNeg).toInt f.toInt w.toInt) ((-1) : Int32).toInt) from Or.inl ⟨by omega, by decide⟩)⟩

set_option maxHeartbeats 4000000 in
set_option maxRecDepth 100000 in
theorem s_X12_saidFlag_e (l : Launch) (D : va_G) (sz : Nat) (o : Nat) (a : Nat → Nat) (t : Nat → ClassId) (i : Nat → Int32) (q : Int64) (c : Nat → Nat → Int32) (d : Nat → Nat → Int64) (w : Int32) (f : Int32) (hI : mInv i c) (hw : 0 ≤ w.toInt ∧ w.toInt ≤ 29) (hf : 0 ≤ f.toInt ∧ f.toInt ≤ 5) : Met l yX12_saidFlag wm_X12_saidFlag ({ frames := 1, cells := 0, slots := 0, locals := 25 }) (va_Pc [.ref o, .int w, .int f] (pA D sz (mW o a t i q c d) (mT t))) (va_Qi (fun (r : Int32) (_ : Unit) => ((r.toInt = -9 ∨ (0 ≤ r.toInt ∧ r.toInt ≤ 1)) ∧ (SgM (c 9) (c 10) (c 11) (c 12) (c 13) (i 8).toInt w.toInt f.toInt (sfV (c 3) (c 6) (c 4) (kS (c 3) (c 6) w.toInt) f.toInt w.toInt) r.toInt))) oA (ro sz)) 0 0 (ro sz) := by
  refine Met.ofW (cc := cX12_saidFlag) (maxL := 4) (ret := (some .int)) (by decide +kernel) rfl ?_
  intro p e s m args below meth cd s₁ B hml hv
  obtain ⟨rfl, hsz, hP, hK⟩ := hv
  have hx := B.exec
  have hb := B.bytes
  have hr := B.returns
  have hts := atoms_spec (ws := wm_X12_saidFlag) B.pre
  have hown : s.vm.findClass RX12 = some m.cls := findClass_of_methodNamed B.named
  have hlocks := B.notSynchronized
  subst hsz
  have hA : ∀ q : Nat, s.heap.size ≤ q → ro s.heap.size q := fun _ h => h
  have hS : va_S (ro s.heap.size) s.heap s.heap [] := va_S.rf
  have hl := lv_entry ([.ref o, .int w, .int f]) (n := 4) (Nat.le_of_ble_eq_true rfl)
  rw [lg_entry_eq]
  generalize (lg_sl ([.ref o, .int w, .int f]) ++ List.replicate (4 - (lg_sl ([.ref o, .int w, .int f])).length) Slot.unset).toArray = ls at hl ⊢
  have hl : lv_has ls 4 [(0, .ref o), (1, .int w), (2, .int f)] := hl
  have hPD : PD (c 3) := fun j => by have q9 : ((j : Int) ≤ 1 ∧ (c 3 j).toInt = -9) ∨ (2 ≤ (j : Int) ∧ (j : Int) ≤ 5 ∧ (c 3 j).toInt = 1) ∨ (6 ≤ (j : Int) ∧ 0 ≤ (c 3 j).toInt ∧ (c 3 j).toInt ≤ 23 ∧ (c 3 j).toInt < (j : Int)) := hI.2 3 j; omega
  refine lv_aload_n hx hb dX12_saidFlag_0 rfl (lv_at hl 0 rfl) ?_
  refine lv_bipush (v := 6) hx hb dX12_saidFlag_1 (by decide +kernel) ?_
  refine lv_iload_n hx hb dX12_saidFlag_3 rfl (lv_at hl 1 rfl) ?_
  refine lv_iload_n hx hb dX12_saidFlag_4 rfl (lv_at hl 2 rfl) ?_
  refine lv_iconst (v := 1) hx hb dX12_saidFlag_5 (by decide +kernel) ?_
  have rb8_i : 0 ≤ (i 8).toInt ∧ (i 8).toInt ≤ 200 := hI.1 8
  refine ro_calli (va_runV (As := [.int 6, .int w, .int f, .int 1]) (rest := []) ⟨hx, hb, hml, hown, hts⟩ (s_X12_saidSo_e l D s.heap.size o a t i q c d 6 w f 1 hI ) (cwV 4 hts gm_X12_saidFlag_X12_saidSo rfl rfl rfl (by decide +kernel) ⟨Nat.le_of_ble_eq_true rfl, Nat.le_of_ble_eq_true rfl⟩) (pA_V hK hP (ci := 12) (q0 := 0) rfl rfl) rfl rfl hl.1 rfl (lv_room (Nat.le_of_ble_eq_true rfl)) dX12_saidFlag_6 ⟨Nat.le_of_ble_eq_true rfl, Nat.le_of_ble_eq_true rfl⟩) hS hA hP (fun r1 u1 H locs hw1 hP hS => ?_)
  have hw1 : ((r1.toInt = -9 ∨ (0 ≤ r1.toInt ∧ r1.toInt ≤ 199)) ∧ (r1.toInt = fsF (sE (c 9) (c 10) (c 11) (c 12) (c 13) 6 w.toInt f.toInt 1) (i 8).toInt.toNat)) := hw1
  obtain ⟨hw1, hr1_0⟩ := hw1
  have hr1_0 : r1.toInt = fsF (sE (c 9) (c 10) (c 11) (c 12) (c 13) 6 w.toInt f.toInt 1) (i 8).toInt.toNat := hr1_0
  refine lv_bipush (v := (-9)) hx hb dX12_saidFlag_9 (by decide +kernel) ?_
  refine lv_icmp_eq (tgt := 16) hx hb dX12_saidFlag_11 (by decide +kernel) (fun c2 => ?_) (fun c2 => ?_)
  · have f2 := (ti_eq (a := r1.toInt) (b := (-9)) rfl (by decide +kernel)).mp c2
    refine lv_aload_n hx hb dX12_saidFlag_16 rfl (lv_at hl 0 rfl) ?_
    refine lv_bipush (v := 6) hx hb dX12_saidFlag_17 (by decide +kernel) ?_
    refine lv_iload_n hx hb dX12_saidFlag_19 rfl (lv_at hl 1 rfl) ?_
    refine lv_iload_n hx hb dX12_saidFlag_20 rfl (lv_at hl 2 rfl) ?_
    refine lv_iconst (v := 0) hx hb dX12_saidFlag_21 (by decide +kernel) ?_
    refine ro_calli (va_runV (As := [.int 6, .int w, .int f, .int 0]) (rest := []) ⟨hx, hb, hml, hown, hts⟩ (s_X12_saidSo_e l D H.size o a t i q c d 6 w f 0 hI ) (cwV 4 hts gm_X12_saidFlag_X12_saidSo rfl rfl rfl (by decide +kernel) ⟨Nat.le_of_ble_eq_true rfl, Nat.le_of_ble_eq_true rfl⟩) (pA_V hK hP (ci := 12) (q0 := 0) rfl rfl) rfl rfl hl.1 rfl (lv_room (Nat.le_of_ble_eq_true rfl)) dX12_saidFlag_22 ⟨Nat.le_of_ble_eq_true rfl, Nat.le_of_ble_eq_true rfl⟩) hS hA hP (fun r3 u3 H locs hw3 hP hS => ?_)
    have hw3 : ((r3.toInt = -9 ∨ (0 ≤ r3.toInt ∧ r3.toInt ≤ 199)) ∧ (r3.toInt = fsF (sE (c 9) (c 10) (c 11) (c 12) (c 13) 6 w.toInt f.toInt 0) (i 8).toInt.toNat)) := hw3
    obtain ⟨hw3, hr3_0⟩ := hw3
    have hr3_0 : r3.toInt = fsF (sE (c 9) (c 10) (c 11) (c 12) (c 13) 6 w.toInt f.toInt 0) (i 8).toInt.toNat := hr3_0
    refine lv_bipush (v := (-9)) hx hb dX12_saidFlag_25 (by decide +kernel) ?_
    refine lv_icmp_eq (tgt := 32) hx hb dX12_saidFlag_27 (by decide +kernel) (fun c4 => ?_) (fun c4 => ?_)
    · have f4 := (ti_eq (a := r3.toInt) (b := (-9)) rfl (by decide +kernel)).mp c4
      refine lv_aload_n hx hb dX12_saidFlag_32 rfl (lv_at hl 0 rfl) ?_
      refine mget_6 hx hb hts (fun _ h => List.mem_cons_of_mem _ (List.mem_append_right _ h)) hown hK hP (hts (.fieldLink RX12 19 "TalePlayModel" "kindOf" "[I") (List.mem_cons_of_mem _ (List.mem_append_left _ (List.mem_append_left _ (List.mem_of_getElem? (i := 11) rfl))))) dX12_saidFlag_33 ?_
      refine lv_iload_n hx hb dX12_saidFlag_36 rfl (lv_at hl 1 rfl) ?_
      refine mld_6 hx hb hK hP (vp_in_iff.mpr (by have h9 : w.toInt = w.toInt := rfl; omega)) dX12_saidFlag_37 (fun x5 ex5 => ?_)
      have rx5 : 0 ≤ x5.toInt ∧ x5.toInt ≤ 23 := by rw [ex5]; exact hI.2 6 _
      refine lv_istore_n (lv' := [(3, .int x5), (0, .ref o), (1, .int w), (2, .int f)]) hx hb dX12_saidFlag_38 rfl hl (by decide +kernel) rfl (fun ls hl => ?_)
      have lp6 : ∀ (fu : Nat) (y6_3 : Int32), (y6_3.toInt = -9 ∨ (0 ≤ y6_3.toInt ∧ y6_3.toInt ≤ 23)) → (stL (c 3) (c 4) f.toInt 24 (c 6 w.toInt.toNat).toInt = stL (c 3) (c 4) f.toInt 24 y6_3.toInt) → (y6_3.toInt + 10).toNat < fu → ∀ (H : Heap) (locs : List Loc) (ls : Array Slot), va_P D vwCl (mW o a t i q c d) H → va_S (ro s.heap.size) s.heap H locs → lv_has ls 4 [(3, .int y6_3), (0, .ref o), (1, .int w), (2, .int f)] → W p l e (headSpec wm_X12_saidFlag ({ frames := 1, cells := 0, slots := 0, locals := 25 })).room s m ([.ref o, .int w, .int f] : List Value).toArray below meth cd H locs 0 0 (MQ below (va_Qi (fun (r : Int32) (_ : Unit) => ((r.toInt = -9 ∨ (0 ≤ r.toInt ∧ r.toInt ≤ 1)) ∧ (SgM (c 9) (c 10) (c 11) (c 12) (c 13) (i 8).toInt w.toInt f.toInt (sfV (c 3) (c 6) (c 4) (kS (c 3) (c 6) w.toInt) f.toInt w.toInt) r.toInt))) oA (ro s.heap.size)) ([.ref o, .int w, .int f] : List Value).toArray s 0 0 (ro s.heap.size)) (F0 m 39 ls []) := by
        intro fu
        induction fu with
        | zero => intro y6_3 hy6_3 hz6_0 hm; exact absurd hm (Nat.not_lt_zero _)
        | succ fu ih =>
          intro y6_3 hy6_3 hz6_0 hm H locs ls hP hS hl
          have ih6 := ih
          refine lv_iload_n hx hb dX12_saidFlag_39 rfl (lv_at hl 0 rfl) ?_
          refine lv_bipush (v := (-9)) hx hb dX12_saidFlag_40 (by decide +kernel) ?_
          refine lv_icmp_eq (tgt := 83) hx hb dX12_saidFlag_42 (by decide +kernel) (fun c7 => ?_) (fun c7 => ?_)
          · have f7 := (ti_eq (a := y6_3.toInt) (b := (-9)) rfl (by decide +kernel)).mp c7
            refine lv_iload_n hx hb dX12_saidFlag_83 rfl (lv_at hl 3 rfl) ?_
            refine lv_iconst (v := 2) hx hb dX12_saidFlag_84 (by decide +kernel) ?_
            refine lv_icmp_ne (tgt := 101) hx hb dX12_saidFlag_85 (by decide +kernel) (fun c8 => ?_) (fun c8 => ?_)
            · have f8 := mt (ti_eq (a := f.toInt) (b := 2) rfl (by decide +kernel)).mpr c8
              refine lv_iconst (v := 0) hx hb dX12_saidFlag_101 (by decide +kernel) ?_
              exact ro_iret hx hb hr hlocks hS dX12_saidFlag_102 ⟨(show (0 : Int32).toInt = -9 ∨ (0 ≤ (0 : Int32).toInt ∧ (0 : Int32).toInt ≤ 1) from by decide +kernel), (show SgM (c 9) (c 10) (c 11) (c 12) (c 13) (i 8).toInt w.toInt f.toInt (sfV (c 3) (c 6) (c 4) (kS (c 3) (c 6) w.toInt) f.toInt w.toInt) (0 : Int32).toInt from Or.inr (Or.inr ⟨by omega, by omega, sfV_0 (hz6_0.trans (stL_9 (by omega))) (by omega) (by decide +kernel)⟩))⟩
            · have f8 := (ti_eq (a := f.toInt) (b := 2) rfl (by decide +kernel)).mp c8
              refine lv_aload_n hx hb dX12_saidFlag_88 rfl (lv_at hl 1 rfl) ?_
              refine lv_iload_n hx hb dX12_saidFlag_89 rfl (lv_at hl 2 rfl) ?_
              refine lv_iconst (v := 0) hx hb dX12_saidFlag_90 (by decide +kernel) ?_
              refine ro_calli (va_runV (As := [.int w, .int 0]) (rest := []) ⟨hx, hb, hml, hown, hts⟩ (s_X12_isOf_e l D H.size o a t i q c d w 0 hI (show 0 ≤ w.toInt ∧ w.toInt ≤ 29 from by have h91 : (0 : Int32).toInt = 0 := (by decide +kernel); omega) (show 0 ≤ 0 ∧ 0 ≤ 5 from by decide +kernel)) (cwV 2 hts gm_X12_saidFlag_X12_isOf rfl rfl rfl (by decide +kernel) ⟨Nat.le_of_ble_eq_true rfl, Nat.le_of_ble_eq_true rfl⟩) (pA_V hK hP (ci := 12) (q0 := 0) rfl rfl) rfl rfl hl.1 rfl (lv_room (Nat.le_of_ble_eq_true rfl)) dX12_saidFlag_91 ⟨Nat.le_of_ble_eq_true rfl, Nat.le_of_ble_eq_true rfl⟩) hS hA hP (fun r9 u9 H locs hw9 hP hS => ?_)
              have hw9 : ((0 ≤ r9.toInt ∧ r9.toInt ≤ 1) ∧ (0 ≤ kS (c 3) (c 6) w.toInt ∧ kS (c 3) (c 6) w.toInt ≤ 5 ∧ ((r9.toInt = 1 ∧ (kS (c 3) (c 6) w.toInt = 0 ∨ ((1 : Int) = 0 ∧ 1 < kS (c 3) (c 6) w.toInt))) ∨ (r9.toInt = 0 ∧ ¬ (kS (c 3) (c 6) w.toInt = 0 ∨ ((1 : Int) = 0 ∧ 1 < kS (c 3) (c 6) w.toInt)))))) := hw9
              obtain ⟨hw9, hr9_0⟩ := hw9
              have hr9_0 : 0 ≤ kS (c 3) (c 6) w.toInt ∧ kS (c 3) (c 6) w.toInt ≤ 5 ∧ ((r9.toInt = 1 ∧ (kS (c 3) (c 6) w.toInt = 0 ∨ ((1 : Int) = 0 ∧ 1 < kS (c 3) (c 6) w.toInt))) ∨ (r9.toInt = 0 ∧ ¬ (kS (c 3) (c 6) w.toInt = 0 ∨ ((1 : Int) = 0 ∧ 1 < kS (c 3) (c 6) w.toInt)))) := hr9_0
              refine lv_if_eq (tgt := 101) hx hb dX12_saidFlag_94 (by decide +kernel) (fun c10 => ?_) (fun c10 => ?_)
              · have f10 := (ti_eq (a := r9.toInt) (b := 0) rfl (by decide +kernel)).mp c10
                refine lv_iconst (v := 0) hx hb dX12_saidFlag_101 (by decide +kernel) ?_
                exact ro_iret hx hb hr hlocks hS dX12_saidFlag_102 ⟨(show (0 : Int32).toInt = -9 ∨ (0 ≤ (0 : Int32).toInt ∧ (0 : Int32).toInt ≤ 1) from by decide +kernel), (show SgM (c 9) (c 10) (c 11) (c 12) (c 13) (i 8).toInt w.toInt f.toInt (sfV (c 3) (c 6) (c 4) (kS (c 3) (c 6) w.toInt) f.toInt w.toInt) (0 : Int32).toInt from Or.inr (Or.inr ⟨by omega, by omega, sfV_0 (hz6_0.trans (stL_9 (by omega))) (by omega) (by decide +kernel)⟩))⟩
              · have f10 := mt (ti_eq (a := r9.toInt) (b := 0) rfl (by decide +kernel)).mpr c10
                refine lv_iconst (v := 1) hx hb dX12_saidFlag_97 (by decide +kernel) ?_
                refine lv_goto (tgt := 102) hx hb dX12_saidFlag_98 (by decide +kernel) ?_
                exact ro_iret hx hb hr hlocks hS dX12_saidFlag_102 ⟨(show (1 : Int32).toInt = -9 ∨ (0 ≤ (1 : Int32).toInt ∧ (1 : Int32).toInt ≤ 1) from by decide +kernel), (show SgM (c 9) (c 10) (c 11) (c 12) (c 13) (i 8).toInt w.toInt f.toInt (sfV (c 3) (c 6) (c 4) (kS (c 3) (c 6) w.toInt) f.toInt w.toInt) (1 : Int32).toInt from Or.inr (Or.inr ⟨by omega, by omega, sfV_1 (hz6_0.trans (stL_9 (by omega))) ⟨by omega, by omega⟩ (by decide +kernel)⟩))⟩
          · have f7 := mt (ti_eq (a := y6_3.toInt) (b := (-9)) rfl (by decide +kernel)).mpr c7
            refine lv_aload_n hx hb dX12_saidFlag_45 rfl (lv_at hl 1 rfl) ?_
            refine mget_4 hx hb hts (fun _ h => List.mem_cons_of_mem _ (List.mem_append_right _ h)) hown hK hP (hts (.fieldLink RX12 16 "TalePlayModel" "defaults" "[I") (List.mem_cons_of_mem _ (List.mem_append_left _ (List.mem_append_right _ (List.mem_of_getElem? (i := 1) rfl))))) dX12_saidFlag_46 ?_
            refine lv_bipush (v := 6) hx hb dX12_saidFlag_49 (by decide +kernel) ?_
            refine lv_iload_n hx hb dX12_saidFlag_51 rfl (lv_at hl 0 rfl) ?_
            refine lv_imul hx hb dX12_saidFlag_52 ?_
            refine lv_topi (fun x11 ex11 => ?_)
            have tx11 := ti_mul (a := 6) (b := y6_3.toInt) ex11 (by decide +kernel) rfl (by omega) (by omega)
            refine lv_iload_n hx hb dX12_saidFlag_53 rfl (lv_at hl 3 rfl) ?_
            refine lv_iadd hx hb dX12_saidFlag_54 ?_
            refine lv_topi (fun x12 ex12 => ?_)
            have tx12 := ti_add (a := (6 * y6_3.toInt)) (b := f.toInt) ex12 tx11 rfl (by omega) (by omega)
            refine mld_4 hx hb hK hP (vp_in_iff.mpr (by have h9 : x12.toInt = ((6 * y6_3.toInt) + f.toInt) := tx12; omega)) dX12_saidFlag_55 (fun x13 ex13 => ?_)
            have rx13 : x13.toInt = -9 ∨ (0 ≤ x13.toInt ∧ x13.toInt ≤ 1) := by rw [ex13]; exact hI.2 4 _
            refine lv_bipush (v := (-9)) hx hb dX12_saidFlag_56 (by decide +kernel) ?_
            refine lv_icmp_eq (tgt := 73) hx hb dX12_saidFlag_58 (by decide +kernel) (fun c14 => ?_) (fun c14 => ?_)
            · have f14 := (ti_eq (a := x13.toInt) (b := (-9)) rfl (by decide +kernel)).mp c14
              refine lv_aload_n hx hb dX12_saidFlag_73 rfl (lv_at hl 1 rfl) ?_
              refine mget_3 hx hb hts (fun _ h => List.mem_cons_of_mem _ (List.mem_append_right _ h)) hown hK hP (hts (.fieldLink RX12 13 "TalePlayModel" "parentOf" "[I") (List.mem_cons_of_mem _ (List.mem_append_left _ (List.mem_append_right _ (List.mem_of_getElem? (i := 0) rfl))))) dX12_saidFlag_74 ?_
              refine lv_iload_n hx hb dX12_saidFlag_77 rfl (lv_at hl 0 rfl) ?_
              refine mld_3 hx hb hK hP (vp_in_iff.mpr (by have h9 : y6_3.toInt = y6_3.toInt := rfl; omega)) dX12_saidFlag_78 (fun x15 ex15 => ?_)
              have rx15 : ((((y6_3 : Int32).toNatClampNeg : Nat) : Int) ≤ 1 ∧ x15.toInt = -9) ∨ (2 ≤ (((y6_3 : Int32).toNatClampNeg : Nat) : Int) ∧ (((y6_3 : Int32).toNatClampNeg : Nat) : Int) ≤ 5 ∧ x15.toInt = 1) ∨ (6 ≤ (((y6_3 : Int32).toNatClampNeg : Nat) : Int) ∧ 0 ≤ x15.toInt ∧ x15.toInt ≤ 23 ∧ x15.toInt < (((y6_3 : Int32).toNatClampNeg : Nat) : Int)) := by rw [ex15]; exact hI.2 3 _
              have rc15 : (((y6_3 : Int32).toNatClampNeg : Nat) : Int) = (y6_3 : Int32).toInt := cl_nn (by have h9 : y6_3.toInt = y6_3.toInt := rfl; omega)
              refine lv_istore_n (lv' := [(3, .int x15), (0, .ref o), (1, .int w), (2, .int f)]) hx hb dX12_saidFlag_79 rfl hl (by decide +kernel) rfl (fun ls hl => ?_)
              refine lv_goto (tgt := 39) hx hb dX12_saidFlag_80 (by decide +kernel) ?_
              exact ih6 x15 (show x15.toInt = -9 ∨ (0 ≤ x15.toInt ∧ x15.toInt ≤ 23) from by omega) (show stL (c 3) (c 4) f.toInt 24 (c 6 w.toInt.toNat).toInt = stL (c 3) (c 4) f.toInt 24 x15.toInt from hz6_0.trans (stL_s hPD (by omega) (by rw [(ix_n (f := c 4) (s := x12) (show (x12 : Int32).toInt = y6_3.toInt * 6 + f.toInt from by omega) ex13)]; omega) ex15)) (by omega) _ _ _ hP hS (lv_sub hl [0, 1, 2, 3] rfl)
            · have f14 := mt (ti_eq (a := x13.toInt) (b := (-9)) rfl (by decide +kernel)).mpr c14
              refine lv_aload_n hx hb dX12_saidFlag_61 rfl (lv_at hl 1 rfl) ?_
              refine mget_4 hx hb hts (fun _ h => List.mem_cons_of_mem _ (List.mem_append_right _ h)) hown hK hP (hts (.fieldLink RX12 16 "TalePlayModel" "defaults" "[I") (List.mem_cons_of_mem _ (List.mem_append_left _ (List.mem_append_right _ (List.mem_of_getElem? (i := 1) rfl))))) dX12_saidFlag_62 ?_
              refine lv_bipush (v := 6) hx hb dX12_saidFlag_65 (by decide +kernel) ?_
              refine lv_iload_n hx hb dX12_saidFlag_67 rfl (lv_at hl 0 rfl) ?_
              refine lv_imul hx hb dX12_saidFlag_68 ?_
              refine lv_topi (fun x16 ex16 => ?_)
              have tx16 := ti_mul (a := 6) (b := y6_3.toInt) ex16 (by decide +kernel) rfl (by omega) (by omega)
              refine lv_iload_n hx hb dX12_saidFlag_69 rfl (lv_at hl 3 rfl) ?_
              refine lv_iadd hx hb dX12_saidFlag_70 ?_
              refine lv_topi (fun x17 ex17 => ?_)
              have tx17 := ti_add (a := (6 * y6_3.toInt)) (b := f.toInt) ex17 tx16 rfl (by omega) (by omega)
              refine mld_4 hx hb hK hP (vp_in_iff.mpr (by have h9 : x17.toInt = ((6 * y6_3.toInt) + f.toInt) := tx17; omega)) dX12_saidFlag_71 (fun x18 ex18 => ?_)
              have rx18 : x18.toInt = -9 ∨ (0 ≤ x18.toInt ∧ x18.toInt ≤ 1) := by rw [ex18]; exact hI.2 4 _
              exact ro_iret hx hb hr hlocks hS dX12_saidFlag_72 ⟨(show x18.toInt = -9 ∨ (0 ≤ x18.toInt ∧ x18.toInt ≤ 1) from by omega), (show SgM (c 9) (c 10) (c 11) (c 12) (c 13) (i 8).toInt w.toInt f.toInt (sfV (c 3) (c 6) (c 4) (kS (c 3) (c 6) w.toInt) f.toInt w.toInt) x18.toInt from Or.inr (Or.inr ⟨by omega, by omega, sfV_y (hz6_0.trans ((stL_y (by omega) (by rw [(ix_n (f := c 4) (s := x12) (show (x12 : Int32).toInt = y6_3.toInt * 6 + f.toInt from by omega) ex13)]; omega)).trans (by rw [(ix_n (f := c 4) (s := x17) (show (x17 : Int32).toInt = y6_3.toInt * 6 + f.toInt from by omega) ex18)]))) (by have h9 := congrArg Int32.toInt (((ix_n (f := c 4) (s := x12) (show (x12 : Int32).toInt = y6_3.toInt * 6 + f.toInt from by omega) ex13)).symm.trans (ix_n (f := c 4) (s := x17) (show (x17 : Int32).toInt = y6_3.toInt * 6 + f.toInt from by omega) ex18)); omega)⟩))⟩
      exact lp6 _ x5 (show x5.toInt = -9 ∨ (0 ≤ x5.toInt ∧ x5.toInt ≤ 23) from by omega) (show stL (c 3) (c 4) f.toInt 24 (c 6 w.toInt.toNat).toInt = stL (c 3) (c 4) f.toInt 24 x5.toInt from by rw [show (c 6 w.toInt.toNat) = x5 from ex5.symm]) (Nat.lt_succ_self _) _ _ _ hP hS (lv_sub hl [0, 1, 2, 3] rfl)
    · have f4 := mt (ti_eq (a := r3.toInt) (b := (-9)) rfl (by decide +kernel)).mpr c4
      refine lv_iconst (v := 0) hx hb dX12_saidFlag_30 (by decide +kernel) ?_
      exact ro_iret hx hb hr hlocks hS dX12_saidFlag_31 ⟨(show (0 : Int32).toInt = -9 ∨ (0 ≤ (0 : Int32).toInt ∧ (0 : Int32).toInt ≤ 1) from by decide +kernel), (show SgM (c 9) (c 10) (c 11) (c 12) (c 13) (i 8).toInt w.toInt f.toInt (sfV (c 3) (c 6) (c 4) (kS (c 3) (c 6) w.toInt) f.toInt w.toInt) (0 : Int32).toInt from Or.inr (Or.inl ⟨by omega, by omega, by decide⟩))⟩
  · have f2 := mt (ti_eq (a := r1.toInt) (b := (-9)) rfl (by decide +kernel)).mpr c2
    refine lv_iconst (v := 1) hx hb dX12_saidFlag_14 (by decide +kernel) ?_
    exact ro_iret hx hb hr hlocks hS dX12_saidFlag_15 ⟨(show (1 : Int32).toInt = -9 ∨ (0 ≤ (1 : Int32).toInt ∧ (1 : Int32).toInt ≤ 1) from by decide +kernel), (show SgM (c 9) (c 10) (c 11) (c 12) (c 13) (i 8).toInt w.toInt f.toInt (sfV (c 3) (c 6) (c 4) (kS (c 3) (c 6) w.toInt) f.toInt w.toInt) (1 : Int32).toInt from Or.inl ⟨by omega, by decide⟩)⟩

set_option maxHeartbeats 4000000 in
set_option maxRecDepth 100000 in
theorem s_X12_flag_e (l : Launch) (D : va_G) (sz : Nat) (o : Nat) (a : Nat → Nat) (t : Nat → ClassId) (i : Nat → Int32) (q : Int64) (c : Nat → Nat → Int32) (d : Nat → Nat → Int64) (w : Int32) (f : Int32) (hI : mInv i c) : Met l yX12_flag wm_X12_flag ({ frames := 4, cells := 0, slots := 0, locals := 87 }) (va_Pc [.ref o, .int w, .int f] (pB D sz (mW o a t i q c d) (mT t))) (va_Qi (fun (r : Int32) (u : MS) => True ∧ mInv u.1 u.2.2.1 ∧ (∀ k, k ∉ ([0] : List Nat) → u.1 k = i k) ∧ (∀ k, k ∉ ([1] : List Nat) → u.2.2.1 k = c k) ∧ (FgR (i 5).toInt w.toInt f.toInt (kS (c 3) (c 6) w.toInt) r.toInt (SgM (c 9) (c 10) (c 11) (c 12) (c 13) (i 8).toInt w.toInt f.toInt (sfV (c 3) (c 6) (c 4) (kS (c 3) (c 6) w.toInt) f.toInt w.toInt) r.toInt))) (oC D (va_A (mW o a t i q c d) sz) (fun u : MS => mW o a t u.1 u.2.1 u.2.2.1 u.2.2.2) (fun _ => [])) (va_A (mW o a t i q c d) sz)) 0 0 (va_A (mW o a t i q c d) sz) := by
  refine Met.ofW (cc := cX12_flag) (maxL := 3) (ret := (some .int)) (by decide +kernel) rfl ?_
  intro p e s m args below meth cd s₁ B hml hv
  obtain ⟨rfl, hsz, hP, hK, hD0⟩ := hv
  have hx := B.exec
  have hb := B.bytes
  have hr := B.returns
  have hts := atoms_spec (ws := wm_X12_flag) B.pre
  have hown : s.vm.findClass RX12 = some m.cls := findClass_of_methodNamed B.named
  have hlocks := B.notSynchronized
  subst hsz
  have hD := hD0.self (sz := s.heap.size)
  generalize hAe : va_A (mW o a t i q c d) s.heap.size = A at hD ⊢
  have hA : ∀ q : Nat, s.heap.size ≤ q → A q := fun q h => by rw [← hAe]; exact Or.inr h
  have hS : va_S A s.heap s.heap [] := va_S.rf
  have hfi : ∀ k, k ∉ ([] : List Nat) → i k = i k := fun _ _ => rfl
  have hfc : ∀ k, k ∉ ([] : List Nat) → c k = c k := fun _ _ => rfl
  have hl := lv_entry ([.ref o, .int w, .int f]) (n := 3) (Nat.le_of_ble_eq_true rfl)
  rw [lg_entry_eq]
  generalize (lg_sl ([.ref o, .int w, .int f]) ++ List.replicate (3 - (lg_sl ([.ref o, .int w, .int f])).length) Slot.unset).toArray = ls at hl ⊢
  have hl : lv_has ls 3 [(0, .ref o), (1, .int w), (2, .int f)] := hl
  have rb5_i : 0 ≤ (i 5).toInt ∧ (i 5).toInt ≤ 30 := hI.1 5
  refine lv_aload_n hx hb dX12_flag_0 rfl (lv_at hl 0 rfl) ?_
  refine lv_iload_n hx hb dX12_flag_1 rfl (lv_at hl 1 rfl) ?_
  refine ro_calli (va_runV (As := [.int w]) (rest := []) ⟨hx, hb, hml, hown, hts⟩ (s_X12_isObject l D s.heap.size o a t i q c d w hI ) (cwV 1 hts gm_X12_flag_X12_isObject rfl rfl rfl (by decide +kernel) ⟨Nat.le_of_ble_eq_true rfl, Nat.le_of_ble_eq_true rfl⟩) (pA_V hK hP (ci := 12) (q0 := 0) rfl rfl) rfl rfl hl.1 rfl (lv_room (Nat.le_of_ble_eq_true rfl)) dX12_flag_2 ⟨Nat.le_of_ble_eq_true rfl, Nat.le_of_ble_eq_true rfl⟩) hS hA hP (fun r1 u1 H locs hw1 hP hS => ?_)
  have hw1 : r1 = if (0 ≤ w.toInt ∧ w.toInt ≤ (i 5).toInt - 1) then 1 else 0 := hw1
  refine lv_if_eq (tgt := 20) hx hb dX12_flag_5 (by decide +kernel) (fun c2 => ?_) (fun c2 => ?_)
  · have f2 := fl_f hw1 c2
    refine lv_iconst (v := (-1)) hx hb dX12_flag_20 (by decide +kernel) ?_
    exact rw_iret (i, q, c, d) hx hb hr hlocks hS (hK.sub (tys' := []) [] rfl) hP hD dX12_flag_21 ⟨trivial, hI, fr_w hfi (by decide +kernel), fr_w hfc (by decide +kernel), (show FgR (i 5).toInt w.toInt f.toInt (kS (c 3) (c 6) w.toInt) ((-1) : Int32).toInt (SgM (c 9) (c 10) (c 11) (c 12) (c 13) (i 8).toInt w.toInt f.toInt (sfV (c 3) (c 6) (c 4) (kS (c 3) (c 6) w.toInt) f.toInt w.toInt) ((-1) : Int32).toInt) from Or.inl ⟨by omega, by decide⟩)⟩
  · have f2 := fl_t hw1 c2
    refine lv_iload_n hx hb dX12_flag_8 rfl (lv_at hl 2 rfl) ?_
    refine lv_i2l (v := f.toInt64) hx hb dX12_flag_9 rfl ?_
    refine lv_lconst (v := 0) hx hb dX12_flag_10 (by decide +kernel) ?_
    refine lv_ldc2 (v := 5) hx hb hown (hts (.constantLong RX12 170 (5)) (List.mem_cons_of_mem _ (List.mem_append_left _ (List.mem_append_left _ (List.mem_of_getElem? (i := 9) rfl))))) dX12_flag_11 ?_
    have hPc := hP.sub (ws' := []) [] rfl
    have hKc := hK.sub (tys' := []) [] rfl
    refine ro_calli (va_runS (As := [.long f.toInt64, .long 0, .long 5]) (rest := []) ⟨hx, hb, hml, hown, hts⟩ (c_X12_in l D H.size f.toInt64 0 5 f.toInt 0 5 ((Int32.toInt_toInt64 f).trans rfl) (by decide +kernel) (by decide +kernel)) (va_cwS 3 hts gm_X12_flag_X12_in rfl rfl rfl (by decide +kernel) ⟨Nat.le_of_ble_eq_true rfl, Nat.le_of_ble_eq_true rfl⟩) (pA_S hKc hPc) rfl rfl hl.1 rfl (lv_room (Nat.le_of_ble_eq_true rfl)) dX12_flag_14 ⟨Nat.le_of_ble_eq_true rfl, Nat.le_of_ble_eq_true rfl⟩) hS hA hP (fun r3 u3 H locs hw3 hP hS => ?_)
    have hw3 : r3 = if (0 ≤ f.toInt ∧ f.toInt ≤ 5) then 1 else 0 := hw3
    refine lv_if_ne (tgt := 22) hx hb dX12_flag_17 (by decide +kernel) (fun c4 => ?_) (fun c4 => ?_)
    · have f4 := fl_t hw3 c4
      refine lv_aload_n hx hb dX12_flag_22 rfl (lv_at hl 0 rfl) ?_
      refine lv_iload_n hx hb dX12_flag_23 rfl (lv_at hl 1 rfl) ?_
      refine lv_iload_n hx hb dX12_flag_24 rfl (lv_at hl 2 rfl) ?_
      refine ro_calli (va_runV (As := [.int w, .int f]) (rest := []) ⟨hx, hb, hml, hown, hts⟩ (s_X12_mayHave_e l D H.size o a t i q c d w f hI (show 0 ≤ w.toInt ∧ w.toInt ≤ 29 from by omega) (show 0 ≤ f.toInt ∧ f.toInt ≤ 5 from by omega)) (cwV 2 hts gm_X12_flag_X12_mayHave rfl rfl rfl (by decide +kernel) ⟨Nat.le_of_ble_eq_true rfl, Nat.le_of_ble_eq_true rfl⟩) (pA_V hK hP (ci := 12) (q0 := 0) rfl rfl) rfl rfl hl.1 rfl (lv_room (Nat.le_of_ble_eq_true rfl)) dX12_flag_25 ⟨Nat.le_of_ble_eq_true rfl, Nat.le_of_ble_eq_true rfl⟩) hS hA hP (fun r5 u5 H locs hw5 hP hS => ?_)
      have hw5 : (((r5.toInt = 1 ∧ ((f.toInt ≤ 1 ∧ (kS (c 3) (c 6) w.toInt = 2 ∨ kS (c 3) (c 6) w.toInt = 3)) ∨ f.toInt = 2 ∨ (f.toInt = 3 ∧ (kS (c 3) (c 6) w.toInt = 1 ∨ 3 ≤ kS (c 3) (c 6) w.toInt)) ∨ (f.toInt = 4 ∧ ((kS (c 3) (c 6) w.toInt = 1 ∨ 3 ≤ kS (c 3) (c 6) w.toInt) ∧ ¬ kS (c 3) (c 6) w.toInt = 5)) ∨ (5 ≤ f.toInt ∧ kS (c 3) (c 6) w.toInt = 3))) ∨ (r5.toInt = 0 ∧ ¬ ((f.toInt ≤ 1 ∧ (kS (c 3) (c 6) w.toInt = 2 ∨ kS (c 3) (c 6) w.toInt = 3)) ∨ f.toInt = 2 ∨ (f.toInt = 3 ∧ (kS (c 3) (c 6) w.toInt = 1 ∨ 3 ≤ kS (c 3) (c 6) w.toInt)) ∨ (f.toInt = 4 ∧ ((kS (c 3) (c 6) w.toInt = 1 ∨ 3 ≤ kS (c 3) (c 6) w.toInt) ∧ ¬ kS (c 3) (c 6) w.toInt = 5)) ∨ (5 ≤ f.toInt ∧ kS (c 3) (c 6) w.toInt = 3))))) := hw5
      refine lv_if_eq (tgt := 40) hx hb dX12_flag_28 (by decide +kernel) (fun c6 => ?_) (fun c6 => ?_)
      · have f6 := (ti_eq (a := r5.toInt) (b := 0) rfl (by decide +kernel)).mp c6
        refine lv_aload_n hx hb dX12_flag_40 rfl (lv_at hl 0 rfl) ?_
        refine lv_iconst (v := 3) hx hb dX12_flag_41 (by decide +kernel) ?_
        refine al_calli (va_runV (As := [.int 3]) (rest := []) ⟨hx, hb, hml, hown, hts⟩ (s_X12_meets l D H.size o a t i q c d 3 hI (show 1 ≤ 3 ∧ 3 ≤ 6 from by decide +kernel)) (cwV 1 hts gm_X12_flag_X12_meets rfl rfl rfl (by decide +kernel) ⟨Nat.le_of_ble_eq_true rfl, Nat.le_of_ble_eq_true rfl⟩) (pB_V hK hP hD (ci := 12) (q0 := 0) rfl rfl) rfl rfl hl.1 rfl (lv_room (Nat.le_of_ble_eq_true rfl)) dX12_flag_42 ⟨Nat.le_of_ble_eq_true rfl, Nat.le_of_ble_eq_true rfl⟩) hS hA hP hD (fun r7 u7 H locs hw7 hP hD hS => ?_)
        obtain ⟨i7, q7, c7, d7⟩ := u7
        have hw7 : r7 = (-3) ∧ mInv i7 c7 ∧ (∀ k, k ∉ ([0] : List Nat) → i7 k = i k) ∧ (∀ k, k ∉ ([1] : List Nat) → c7 k = c k) := hw7
        obtain ⟨hw7, hI, hei7, hec7⟩ := hw7
        have hfi : ∀ k, k ∉ ([0] : List Nat) → i7 k = i k := fr_z hfi hei7 (by decide +kernel) (by decide +kernel)
        have hfc : ∀ k, k ∉ ([1] : List Nat) → c7 k = c k := fr_z hfc hec7 (by decide +kernel) (by decide +kernel)
        have hP : va_P D vwCl (mW o a t i7 q7 c7 d7) H := hP
        have hD : va_D A (mW o a t i7 q7 c7 d7) := hD
        have hw7 : r7 = (-3) := hw7
        subst hw7
        exact rw_iret (i7, q7, c7, d7) hx hb hr hlocks hS (hK.sub (tys' := []) [] rfl) hP hD dX12_flag_45 ⟨trivial, hI, fr_w hfi (by decide +kernel), fr_w hfc (by decide +kernel), (show FgR (i 5).toInt w.toInt f.toInt (kS (c 3) (c 6) w.toInt) ((-3) : Int32).toInt (SgM (c 9) (c 10) (c 11) (c 12) (c 13) (i 8).toInt w.toInt f.toInt (sfV (c 3) (c 6) (c 4) (kS (c 3) (c 6) w.toInt) f.toInt w.toInt) ((-3) : Int32).toInt) from Or.inr (Or.inl ⟨by omega, by unfold Can; omega, by decide⟩))⟩
      · have f6 := mt (ti_eq (a := r5.toInt) (b := 0) rfl (by decide +kernel)).mpr c6
        refine lv_aload_n hx hb dX12_flag_31 rfl (lv_at hl 0 rfl) ?_
        refine lv_iload_n hx hb dX12_flag_32 rfl (lv_at hl 1 rfl) ?_
        refine lv_iload_n hx hb dX12_flag_33 rfl (lv_at hl 2 rfl) ?_
        have rb8_i : 0 ≤ (i 8).toInt ∧ (i 8).toInt ≤ 200 := hI.1 8
        refine ro_calli (va_runV (As := [.int w, .int f]) (rest := []) ⟨hx, hb, hml, hown, hts⟩ (s_X12_saidFlag_e l D H.size o a t i q c d w f hI (show 0 ≤ w.toInt ∧ w.toInt ≤ 29 from by omega) (show 0 ≤ f.toInt ∧ f.toInt ≤ 5 from by omega)) (cwV 2 hts gm_X12_flag_X12_saidFlag rfl rfl rfl (by decide +kernel) ⟨Nat.le_of_ble_eq_true rfl, Nat.le_of_ble_eq_true rfl⟩) (pA_V hK hP (ci := 12) (q0 := 0) rfl rfl) rfl rfl hl.1 rfl (lv_room (Nat.le_of_ble_eq_true rfl)) dX12_flag_34 ⟨Nat.le_of_ble_eq_true rfl, Nat.le_of_ble_eq_true rfl⟩) hS hA hP (fun r8 u8 H locs hw8 hP hS => ?_)
        have hw8 : ((r8.toInt = -9 ∨ (0 ≤ r8.toInt ∧ r8.toInt ≤ 1)) ∧ (SgM (c 9) (c 10) (c 11) (c 12) (c 13) (i 8).toInt w.toInt f.toInt (sfV (c 3) (c 6) (c 4) (kS (c 3) (c 6) w.toInt) f.toInt w.toInt) r8.toInt)) := hw8
        obtain ⟨hw8, hr8_0⟩ := hw8
        have hr8_0 : SgM (c 9) (c 10) (c 11) (c 12) (c 13) (i 8).toInt w.toInt f.toInt (sfV (c 3) (c 6) (c 4) (kS (c 3) (c 6) w.toInt) f.toInt w.toInt) r8.toInt := hr8_0
        refine lv_goto (tgt := 45) hx hb dX12_flag_37 (by decide +kernel) ?_
        exact rw_iret (i, q, c, d) hx hb hr hlocks hS (hK.sub (tys' := []) [] rfl) hP hD dX12_flag_45 ⟨trivial, hI, fr_w hfi (by decide +kernel), fr_w hfc (by decide +kernel), (show FgR (i 5).toInt w.toInt f.toInt (kS (c 3) (c 6) w.toInt) (r8 : Int32).toInt (SgM (c 9) (c 10) (c 11) (c 12) (c 13) (i 8).toInt w.toInt f.toInt (sfV (c 3) (c 6) (c 4) (kS (c 3) (c 6) w.toInt) f.toInt w.toInt) (r8 : Int32).toInt) from Or.inr (Or.inr ⟨by omega, by unfold Can; omega, hr8_0⟩))⟩
    · have f4 := fl_f hw3 c4
      refine lv_iconst (v := (-1)) hx hb dX12_flag_20 (by decide +kernel) ?_
      exact rw_iret (i, q, c, d) hx hb hr hlocks hS (hK.sub (tys' := []) [] rfl) hP hD dX12_flag_21 ⟨trivial, hI, fr_w hfi (by decide +kernel), fr_w hfc (by decide +kernel), (show FgR (i 5).toInt w.toInt f.toInt (kS (c 3) (c 6) w.toInt) ((-1) : Int32).toInt (SgM (c 9) (c 10) (c 11) (c 12) (c 13) (i 8).toInt w.toInt f.toInt (sfV (c 3) (c 6) (c 4) (kS (c 3) (c 6) w.toInt) f.toInt w.toInt) ((-1) : Int32).toInt) from Or.inl ⟨by omega, by decide⟩)⟩

