def wm_X10_standardFor_e : List Cond := .code yX10_standardFor cX10_standardFor 6 (some .int) :: (([.fieldLink RX10 21 "TalePlay$World" "kindOf" "[I", .methodLink RX10 40 yX10_sortOf, .instanceMethod yX10_sortOf, .selects RX10 yX10_sortOf yX10_sortOf, .initialized RX10, .code yX10_sortOf cX10_sortOf 2 (some .int), .fieldLink RX10 37 "TalePlay$World" "objects" "I", .fieldLink RX10 15 "TalePlay$World" "sorts" "[I", .fieldLink RX10 18 "TalePlay$World" "standards" "[I", .fieldLink RX10 9 "TalePlay$World" "parents" "[I"] : List Cond) ++ wsX100)
set_option maxRecDepth 20000 in
theorem gm_X10_standardFor_e_X10_sortOf_e_40 : GoodIn wm_X10_standardFor_e (wsV RX10 40 RX10 yX10_sortOf wm_X10_sortOf_e) := goodIn_w (List.forall_mem_append.mpr ⟨List.forall_mem_cons.mpr ⟨List.mem_cons_of_mem _ (List.mem_append_left _ (List.mem_of_getElem? (i := 1) rfl)), List.forall_mem_cons.mpr ⟨List.mem_cons_of_mem _ (List.mem_append_left _ (List.mem_of_getElem? (i := 2) rfl)), List.forall_mem_cons.mpr ⟨List.mem_cons_of_mem _ (List.mem_append_left _ (List.mem_of_getElem? (i := 3) rfl)), List.forall_mem_cons.mpr ⟨List.mem_cons_of_mem _ (List.mem_append_left _ (List.mem_of_getElem? (i := 4) rfl)), (fun _ h => absurd h List.not_mem_nil)⟩⟩⟩⟩, List.forall_mem_cons.mpr ⟨List.mem_cons_of_mem _ (List.mem_append_left _ (List.mem_of_getElem? (i := 5) rfl)), List.forall_mem_append.mpr ⟨List.forall_mem_cons.mpr ⟨List.mem_cons_of_mem _ (List.mem_append_left _ (List.mem_of_getElem? (i := 6) rfl)), List.forall_mem_cons.mpr ⟨List.mem_cons_of_mem _ (List.mem_append_left _ (List.mem_of_getElem? (i := 7) rfl)), List.forall_mem_cons.mpr ⟨List.mem_cons_of_mem _ (List.mem_append_left _ (List.mem_of_getElem? (i := 0) rfl)), (fun _ h => absurd h List.not_mem_nil)⟩⟩⟩, (fun _ h => List.mem_cons_of_mem _ (List.mem_append_right _ h))⟩⟩⟩) (by decide +kernel)
set_option maxHeartbeats 4000000 in
set_option maxRecDepth 100000 in
theorem x_X10_standardFor_e (l : Launch) (D : va_G) (sz : Nat) (sk : Value) (a : Nat → Nat) (t : Nat → ClassId) (i : Nat → Int32) (q : Int64) (c : Nat → Nat → Int32) (d : Nat → Nat → Int64) (w : Int32) (f : Int32) (hI : xInv i c) (hiw : 0 ≤ w.toInt ∧ w.toInt < (i 111).toInt) (hf : 0 ≤ f.toInt ∧ f.toInt ≤ 5) (hs_D : PD (c 105)) : Met l yX10_standardFor wm_X10_standardFor_e ({ frames := 1, cells := 0, slots := 0, locals := 21 }) (va_Pc [.ref (a 104), .int w, .int f] (yA (a 186) D sz (xwW sk a t i q c d) (xtW t))) (va_Qi (fun (r : Int32) (_ : Unit) => ((r.toInt = -9 ∨ (0 ≤ r.toInt ∧ r.toInt ≤ 1)) ∧ (r.toInt = sfV (c 105) (c 108) (c 107) (c 106 (c 108 w.toInt.toNat).toNatClampNeg).toInt f.toInt w.toInt))) oA (ro sz)) 0 0 (ro sz) := by
  refine Met.ofW (cc := cX10_standardFor) (maxL := 6) (ret := (some .int)) (by decide +kernel) rfl ?_
  intro p e s m args below meth cd s₁ B hml hv
  obtain ⟨rfl, ⟨hsz, hP, hK⟩, hN, hZ⟩ := hv
  have hx := B.exec
  have hb := B.bytes
  have hr := B.returns
  have hts := atoms_spec (ws := wm_X10_standardFor_e) B.pre
  have hown : s.vm.findClass RX10 = some m.cls := findClass_of_methodNamed B.named
  have hlocks := B.notSynchronized
  subst hsz
  have hA : ∀ q : Nat, s.heap.size ≤ q → ro s.heap.size q := fun _ h => h
  have hS : va_S (ro s.heap.size) s.heap s.heap [] := va_S.rf
  have hl := lv_entry ([.ref (a 104), .int w, .int f]) (n := 6) (Nat.le_of_ble_eq_true rfl)
  rw [lg_entry_eq]
  generalize (lg_sl ([.ref (a 104), .int w, .int f]) ++ List.replicate (6 - (lg_sl ([.ref (a 104), .int w, .int f])).length) Slot.unset).toArray = ls at hl ⊢
  have hl : lv_has ls 6 [(0, .ref (a 104)), (1, .int w), (2, .int f)] := hl
  have rb111_i : 0 ≤ (i 111).toInt ∧ (i 111).toInt ≤ 30 := hI.1 111
  refine lv_aload_n hx hb dX10_standardFor_0 rfl (lv_at hl 0 rfl) ?_
  refine xgW_W_kindOf hx hb hts (fun _ h => List.mem_cons_of_mem _ (List.mem_append_right _ h)) hown hK hP (hts (.fieldLink RX10 21 "TalePlay$World" "kindOf" "[I") (List.mem_cons_of_mem _ (List.mem_append_left _ (List.mem_of_getElem? (i := 0) rfl)))) dX10_standardFor_1 ?_
  refine lv_iload_n hx hb dX10_standardFor_4 rfl (lv_at hl 1 rfl) ?_
  refine xlW_108 hx hb hK hP (vp_in_iff.mpr (by have h9 : w.toInt = w.toInt := rfl; omega)) dX10_standardFor_5 (fun x1 ex1 => ?_)
  have rx1 : 0 ≤ x1.toInt ∧ x1.toInt ≤ 23 := by rw [ex1]; exact hI.2 108 _
  refine lv_istore_n (lv' := [(3, .int x1), (0, .ref (a 104)), (1, .int w), (2, .int f)]) hx hb dX10_standardFor_6 rfl hl (by decide +kernel) rfl (fun ls hl => ?_)
  refine lv_iconst (v := 0) hx hb dX10_standardFor_7 (by decide +kernel) ?_
  refine lv_istore (lv' := [(4, .int 0), (3, .int x1), (0, .ref (a 104)), (1, .int w), (2, .int f)]) hx hb dX10_standardFor_8 hl (by decide +kernel) rfl (fun ls hl => ?_)
  have lp2 : ∀ (fu : Nat) (y2_4 : Int32) (y2_3 : Int32), (0 ≤ y2_4.toInt ∧ y2_4.toInt ≤ 24) → (y2_3.toInt = -9 ∨ (0 ≤ y2_3.toInt ∧ y2_3.toInt ≤ 23)) → (stL (c 105) (c 107) f.toInt 24 (c 108 w.toInt.toNat).toInt = stL (c 105) (c 107) f.toInt 24 y2_3.toInt) → (y2_3.toInt = -9 ∨ y2_3.toInt + y2_4.toInt ≤ 23) → (24 - y2_4.toInt).toNat < fu → ∀ (H : Heap) (locs : List Loc) (ls : Array Slot), va_P D vwCl (xwW sk a t i q c d) H → va_S (ro s.heap.size) s.heap H locs → lv_has ls 6 [(4, .int y2_4), (3, .int y2_3), (0, .ref (a 104)), (1, .int w), (2, .int f)] → W p l e (headSpec wm_X10_standardFor_e ({ frames := 1, cells := 0, slots := 0, locals := 21 })).room s m ([.ref (a 104), .int w, .int f] : List Value).toArray below meth cd H locs 0 0 (MQ below (va_Qi (fun (r : Int32) (_ : Unit) => ((r.toInt = -9 ∨ (0 ≤ r.toInt ∧ r.toInt ≤ 1)) ∧ (r.toInt = sfV (c 105) (c 108) (c 107) (c 106 (c 108 w.toInt.toNat).toNatClampNeg).toInt f.toInt w.toInt))) oA (ro s.heap.size)) ([.ref (a 104), .int w, .int f] : List Value).toArray s 0 0 (ro s.heap.size)) (F0 m 10 ls []) := by
    intro fu
    induction fu with
    | zero => intro y2_4 y2_3 hy2_4 hy2_3 hz2_0 hz2_1 hm; exact absurd hm (Nat.not_lt_zero _)
    | succ fu ih =>
      intro y2_4 y2_3 hy2_4 hy2_3 hz2_0 hz2_1 hm H locs ls hP hS hl
      have ih2 := ih
      refine lv_iload hx hb dX10_standardFor_10 (lv_at hl 0 rfl) ?_
      refine lv_bipush (v := 24) hx hb dX10_standardFor_12 (by decide +kernel) ?_
      refine lv_icmp_ge (tgt := 59) hx hb dX10_standardFor_14 (by decide +kernel) (fun c3 => ?_) (fun c3 => ?_)
      · have f3 := (ti_le (a := 24) (b := y2_4.toInt) (by decide +kernel) rfl).mp c3
        refine lv_iload_n hx hb dX10_standardFor_59 rfl (lv_at hl 4 rfl) ?_
        refine lv_iconst (v := 2) hx hb dX10_standardFor_60 (by decide +kernel) ?_
        refine lv_icmp_ne (tgt := 76) hx hb dX10_standardFor_61 (by decide +kernel) (fun c4 => ?_) (fun c4 => ?_)
        · have f4 := mt (ti_eq (a := f.toInt) (b := 2) rfl (by decide +kernel)).mpr c4
          refine lv_iconst (v := 0) hx hb dX10_standardFor_76 (by decide +kernel) ?_
          exact ro_iret hx hb hr hlocks hS dX10_standardFor_77 ⟨(show (0 : Int32).toInt = -9 ∨ (0 ≤ (0 : Int32).toInt ∧ (0 : Int32).toInt ≤ 1) from by have h9 : (0 : Int32).toInt = 0 := (by decide +kernel); omega), (show (0 : Int32).toInt = sfV (c 105) (c 108) (c 107) (c 106 (c 108 w.toInt.toNat).toNatClampNeg).toInt f.toInt w.toInt from sfV_0 (hz2_0.trans (stL_9 (by omega))) (by omega) (by decide +kernel))⟩
        · have f4 := (ti_eq (a := f.toInt) (b := 2) rfl (by decide +kernel)).mp c4
          refine lv_aload_n hx hb dX10_standardFor_64 rfl (lv_at hl 2 rfl) ?_
          refine lv_iload_n hx hb dX10_standardFor_65 rfl (lv_at hl 3 rfl) ?_
          refine ro_calli (va_runV (As := [.int w]) (rest := []) ⟨hx, hb, hml, hown, hts⟩ (x_X10_sortOf_e l D H.size .null a t i q c d w hI ) (cwV 1 hts gm_X10_standardFor_e_X10_sortOf_e_40 rfl rfl rfl (by decide +kernel) ⟨Nat.le_of_ble_eq_true rfl, Nat.le_of_ble_eq_true rfl⟩) (yA_V hN (xZ_k hZ hS hA) hK hP (ci := 10) (q0 := 0) rfl rfl) rfl rfl hl.1 rfl (lv_room (Nat.le_of_ble_eq_true rfl)) dX10_standardFor_66 ⟨Nat.le_of_ble_eq_true rfl, Nat.le_of_ble_eq_true rfl⟩) hS hA hP (fun r5 u5 H locs hw5 hP hS => ?_)
          have hw5 : (((r5.toInt = -9 ∧ ¬ (0 ≤ w.toInt ∧ w.toInt < (i 111).toInt)) ∨ (0 ≤ r5.toInt ∧ r5.toInt ≤ 5 ∧ 0 ≤ w.toInt ∧ w.toInt < (i 111).toInt)) ∧ (SO (c 106) (c 108) (i 111).toInt w.toInt r5.toInt)) := hw5
          obtain ⟨hw5, hr5_0⟩ := hw5
          have hr5_0 : SO (c 106) (c 108) (i 111).toInt w.toInt r5.toInt := hr5_0
          have how : r5.toInt = (c 106 (c 108 w.toInt.toNat).toNatClampNeg).toInt := by rcases hr5_0 with h9 | h9; (· exact h9.2.2); (· exfalso; omega)
          refine lv_if_ne (tgt := 76) hx hb dX10_standardFor_69 (by decide +kernel) (fun c6 => ?_) (fun c6 => ?_)
          · have f6 := mt (ti_eq (a := r5.toInt) (b := 0) rfl (by decide +kernel)).mpr c6
            refine lv_iconst (v := 0) hx hb dX10_standardFor_76 (by decide +kernel) ?_
            exact ro_iret hx hb hr hlocks hS dX10_standardFor_77 ⟨(show (0 : Int32).toInt = -9 ∨ (0 ≤ (0 : Int32).toInt ∧ (0 : Int32).toInt ≤ 1) from by have h9 : (0 : Int32).toInt = 0 := (by decide +kernel); omega), (show (0 : Int32).toInt = sfV (c 105) (c 108) (c 107) (c 106 (c 108 w.toInt.toNat).toNatClampNeg).toInt f.toInt w.toInt from sfV_0 (hz2_0.trans (stL_9 (by omega))) (by omega) (by decide +kernel))⟩
          · have f6 := (ti_eq (a := r5.toInt) (b := 0) rfl (by decide +kernel)).mp c6
            refine lv_iconst (v := 1) hx hb dX10_standardFor_72 (by decide +kernel) ?_
            refine lv_goto (tgt := 77) hx hb dX10_standardFor_73 (by decide +kernel) ?_
            exact ro_iret hx hb hr hlocks hS dX10_standardFor_77 ⟨(show (1 : Int32).toInt = -9 ∨ (0 ≤ (1 : Int32).toInt ∧ (1 : Int32).toInt ≤ 1) from by have h9 : (1 : Int32).toInt = 1 := (by decide +kernel); omega), (show (1 : Int32).toInt = sfV (c 105) (c 108) (c 107) (c 106 (c 108 w.toInt.toNat).toNatClampNeg).toInt f.toInt w.toInt from sfV_1 (hz2_0.trans (stL_9 (by omega))) ⟨by omega, by omega⟩ (by decide +kernel))⟩
      · have f3 := mt (ti_le (a := 24) (b := y2_4.toInt) (by decide +kernel) rfl).mpr c3
        refine lv_iload_n hx hb dX10_standardFor_17 rfl (lv_at hl 1 rfl) ?_
        refine lv_bipush (v := (-9)) hx hb dX10_standardFor_18 (by decide +kernel) ?_
        refine lv_icmp_eq (tgt := 59) hx hb dX10_standardFor_20 (by decide +kernel) (fun c7 => ?_) (fun c7 => ?_)
        · have f7 := (ti_eq (a := y2_3.toInt) (b := (-9)) rfl (by decide +kernel)).mp c7
          refine lv_iload_n hx hb dX10_standardFor_59 rfl (lv_at hl 4 rfl) ?_
          refine lv_iconst (v := 2) hx hb dX10_standardFor_60 (by decide +kernel) ?_
          refine lv_icmp_ne (tgt := 76) hx hb dX10_standardFor_61 (by decide +kernel) (fun c8 => ?_) (fun c8 => ?_)
          · have f8 := mt (ti_eq (a := f.toInt) (b := 2) rfl (by decide +kernel)).mpr c8
            refine lv_iconst (v := 0) hx hb dX10_standardFor_76 (by decide +kernel) ?_
            exact ro_iret hx hb hr hlocks hS dX10_standardFor_77 ⟨(show (0 : Int32).toInt = -9 ∨ (0 ≤ (0 : Int32).toInt ∧ (0 : Int32).toInt ≤ 1) from by have h9 : (0 : Int32).toInt = 0 := (by decide +kernel); omega), (show (0 : Int32).toInt = sfV (c 105) (c 108) (c 107) (c 106 (c 108 w.toInt.toNat).toNatClampNeg).toInt f.toInt w.toInt from sfV_0 (hz2_0.trans (stL_9 (by omega))) (by omega) (by decide +kernel))⟩
          · have f8 := (ti_eq (a := f.toInt) (b := 2) rfl (by decide +kernel)).mp c8
            refine lv_aload_n hx hb dX10_standardFor_64 rfl (lv_at hl 2 rfl) ?_
            refine lv_iload_n hx hb dX10_standardFor_65 rfl (lv_at hl 3 rfl) ?_
            refine ro_calli (va_runV (As := [.int w]) (rest := []) ⟨hx, hb, hml, hown, hts⟩ (x_X10_sortOf_e l D H.size .null a t i q c d w hI ) (cwV 1 hts gm_X10_standardFor_e_X10_sortOf_e_40 rfl rfl rfl (by decide +kernel) ⟨Nat.le_of_ble_eq_true rfl, Nat.le_of_ble_eq_true rfl⟩) (yA_V hN (xZ_k hZ hS hA) hK hP (ci := 10) (q0 := 0) rfl rfl) rfl rfl hl.1 rfl (lv_room (Nat.le_of_ble_eq_true rfl)) dX10_standardFor_66 ⟨Nat.le_of_ble_eq_true rfl, Nat.le_of_ble_eq_true rfl⟩) hS hA hP (fun r9 u9 H locs hw9 hP hS => ?_)
            have hw9 : (((r9.toInt = -9 ∧ ¬ (0 ≤ w.toInt ∧ w.toInt < (i 111).toInt)) ∨ (0 ≤ r9.toInt ∧ r9.toInt ≤ 5 ∧ 0 ≤ w.toInt ∧ w.toInt < (i 111).toInt)) ∧ (SO (c 106) (c 108) (i 111).toInt w.toInt r9.toInt)) := hw9
            obtain ⟨hw9, hr9_0⟩ := hw9
            have hr9_0 : SO (c 106) (c 108) (i 111).toInt w.toInt r9.toInt := hr9_0
            have how : r9.toInt = (c 106 (c 108 w.toInt.toNat).toNatClampNeg).toInt := by rcases hr9_0 with h9 | h9; (· exact h9.2.2); (· exfalso; omega)
            refine lv_if_ne (tgt := 76) hx hb dX10_standardFor_69 (by decide +kernel) (fun c10 => ?_) (fun c10 => ?_)
            · have f10 := mt (ti_eq (a := r9.toInt) (b := 0) rfl (by decide +kernel)).mpr c10
              refine lv_iconst (v := 0) hx hb dX10_standardFor_76 (by decide +kernel) ?_
              exact ro_iret hx hb hr hlocks hS dX10_standardFor_77 ⟨(show (0 : Int32).toInt = -9 ∨ (0 ≤ (0 : Int32).toInt ∧ (0 : Int32).toInt ≤ 1) from by have h9 : (0 : Int32).toInt = 0 := (by decide +kernel); omega), (show (0 : Int32).toInt = sfV (c 105) (c 108) (c 107) (c 106 (c 108 w.toInt.toNat).toNatClampNeg).toInt f.toInt w.toInt from sfV_0 (hz2_0.trans (stL_9 (by omega))) (by omega) (by decide +kernel))⟩
            · have f10 := (ti_eq (a := r9.toInt) (b := 0) rfl (by decide +kernel)).mp c10
              refine lv_iconst (v := 1) hx hb dX10_standardFor_72 (by decide +kernel) ?_
              refine lv_goto (tgt := 77) hx hb dX10_standardFor_73 (by decide +kernel) ?_
              exact ro_iret hx hb hr hlocks hS dX10_standardFor_77 ⟨(show (1 : Int32).toInt = -9 ∨ (0 ≤ (1 : Int32).toInt ∧ (1 : Int32).toInt ≤ 1) from by have h9 : (1 : Int32).toInt = 1 := (by decide +kernel); omega), (show (1 : Int32).toInt = sfV (c 105) (c 108) (c 107) (c 106 (c 108 w.toInt.toNat).toNatClampNeg).toInt f.toInt w.toInt from sfV_1 (hz2_0.trans (stL_9 (by omega))) ⟨by omega, by omega⟩ (by decide +kernel))⟩
        · have f7 := mt (ti_eq (a := y2_3.toInt) (b := (-9)) rfl (by decide +kernel)).mpr c7
          refine lv_aload_n hx hb dX10_standardFor_23 rfl (lv_at hl 2 rfl) ?_
          refine xgW_W_standards hx hb hts (fun _ h => List.mem_cons_of_mem _ (List.mem_append_right _ h)) hown hK hP (hts (.fieldLink RX10 18 "TalePlay$World" "standards" "[I") (List.mem_cons_of_mem _ (List.mem_append_left _ (List.mem_of_getElem? (i := 8) rfl)))) dX10_standardFor_24 ?_
          refine lv_iload_n hx hb dX10_standardFor_27 rfl (lv_at hl 1 rfl) ?_
          refine lv_bipush (v := 6) hx hb dX10_standardFor_28 (by decide +kernel) ?_
          refine lv_imul hx hb dX10_standardFor_30 ?_
          refine lv_topi (fun x11 ex11 => ?_)
          have tx11 := ti_mul (a := y2_3.toInt) (b := 6) ex11 rfl (by decide +kernel) (by omega) (by omega)
          refine lv_iload_n hx hb dX10_standardFor_31 rfl (lv_at hl 4 rfl) ?_
          refine lv_iadd hx hb dX10_standardFor_32 ?_
          refine lv_topi (fun x12 ex12 => ?_)
          have tx12 := ti_add (a := (y2_3.toInt * 6)) (b := f.toInt) ex12 tx11 rfl (by omega) (by omega)
          refine xlW_107 hx hb hK hP (vp_in_iff.mpr (by have h9 : x12.toInt = ((y2_3.toInt * 6) + f.toInt) := tx12; omega)) dX10_standardFor_33 (fun x13 ex13 => ?_)
          have rx13 : x13.toInt = -9 ∨ (0 ≤ x13.toInt ∧ x13.toInt ≤ 1) := by rw [ex13]; exact hI.2 107 _
          refine lv_istore (lv' := [(5, .int x13), (4, .int y2_4), (3, .int y2_3), (0, .ref (a 104)), (1, .int w), (2, .int f)]) hx hb dX10_standardFor_34 hl (by decide +kernel) rfl (fun ls hl => ?_)
          refine lv_iload hx hb dX10_standardFor_36 (lv_at hl 0 rfl) ?_
          refine lv_bipush (v := (-9)) hx hb dX10_standardFor_38 (by decide +kernel) ?_
          refine lv_icmp_eq (tgt := 46) hx hb dX10_standardFor_40 (by decide +kernel) (fun c14 => ?_) (fun c14 => ?_)
          · have f14 := (ti_eq (a := x13.toInt) (b := (-9)) rfl (by decide +kernel)).mp c14
            refine lv_aload_n hx hb dX10_standardFor_46 rfl (lv_at hl 3 rfl) ?_
            refine xgW_W_parents hx hb hts (fun _ h => List.mem_cons_of_mem _ (List.mem_append_right _ h)) hown hK hP (hts (.fieldLink RX10 9 "TalePlay$World" "parents" "[I") (List.mem_cons_of_mem _ (List.mem_append_left _ (List.mem_of_getElem? (i := 9) rfl)))) dX10_standardFor_47 ?_
            refine lv_iload_n hx hb dX10_standardFor_50 rfl (lv_at hl 2 rfl) ?_
            refine xlW_105 hx hb hK hP (vp_in_iff.mpr (by have h9 : y2_3.toInt = y2_3.toInt := rfl; omega)) dX10_standardFor_51 (fun x15 ex15 => ?_)
            have rx15 : x15.toInt = -9 ∨ (0 ≤ x15.toInt ∧ x15.toInt ≤ 23) := by rw [ex15]; exact hI.2 105 _
            refine lv_istore_n (lv' := [(3, .int x15), (5, .int x13), (4, .int y2_4), (0, .ref (a 104)), (1, .int w), (2, .int f)]) hx hb dX10_standardFor_52 rfl hl (by decide +kernel) rfl (fun ls hl => ?_)
            obtain ⟨x16, ex16⟩ : ∃ y : Int32, y = y2_4 + 1 := ⟨_, rfl⟩
            have tx16 := ti_add (a := y2_4.toInt) (b := 1) ex16 rfl (by decide +kernel) (by omega) (by omega)
            refine lv_iinc (v := x16) (lv' := [(4, .int x16), (3, .int x15), (5, .int x13), (0, .ref (a 104)), (1, .int w), (2, .int f)]) hx hb dX10_standardFor_53 hl (k := 2) rfl (by rw [ex16]; rfl) (by decide +kernel) rfl (fun ls hl => ?_)
            refine lv_goto (tgt := 10) hx hb dX10_standardFor_56 (by decide +kernel) ?_
            exact ih2 x16 x15 (show 0 ≤ x16.toInt ∧ x16.toInt ≤ 24 from by have h50 : x16.toInt = (y2_4.toInt + 1) := tx16; omega) (show x15.toInt = -9 ∨ (0 ≤ x15.toInt ∧ x15.toInt ≤ 23) from by have h50 : x16.toInt = (y2_4.toInt + 1) := tx16; omega) (show stL (c 105) (c 107) f.toInt 24 (c 108 w.toInt.toNat).toInt = stL (c 105) (c 107) f.toInt 24 x15.toInt from hz2_0.trans (stL_s hs_D (by omega) (by rw [(ix_n (f := c 107) (s := x12) (show (x12 : Int32).toInt = y2_3.toInt * 6 + f.toInt from by omega) ex13)]; omega) ex15)) (show x15.toInt = -9 ∨ x15.toInt + x16.toInt ≤ 23 from by have h9 := hs_D y2_3.toNatClampNeg; rw [← ex15, cl_nn (by omega)] at h9; have h8 := tx16; omega) (by have h50 : x16.toInt = (y2_4.toInt + 1) := tx16; omega) _ _ _ hP hS (lv_sub hl [0, 1, 3, 4, 5] rfl)
          · have f14 := mt (ti_eq (a := x13.toInt) (b := (-9)) rfl (by decide +kernel)).mpr c14
            refine lv_iload hx hb dX10_standardFor_43 (lv_at hl 0 rfl) ?_
            exact ro_iret hx hb hr hlocks hS dX10_standardFor_45 ⟨(show x13.toInt = -9 ∨ (0 ≤ x13.toInt ∧ x13.toInt ≤ 1) from by omega), (show x13.toInt = sfV (c 105) (c 108) (c 107) (c 106 (c 108 w.toInt.toNat).toNatClampNeg).toInt f.toInt w.toInt from sfV_y (hz2_0.trans ((stL_y (by omega) (by rw [(ix_n (f := c 107) (s := x12) (show (x12 : Int32).toInt = y2_3.toInt * 6 + f.toInt from by omega) ex13)]; omega)).trans (by rw [(ix_n (f := c 107) (s := x12) (show (x12 : Int32).toInt = y2_3.toInt * 6 + f.toInt from by omega) ex13)]))) (by omega))⟩
  exact lp2 _ (0 : Int32) x1 (show 0 ≤ (0 : Int32).toInt ∧ (0 : Int32).toInt ≤ 24 from by have h50 : (0 : Int32).toInt = 0 := (by decide +kernel); omega) (show x1.toInt = -9 ∨ (0 ≤ x1.toInt ∧ x1.toInt ≤ 23) from by have h50 : (0 : Int32).toInt = 0 := (by decide +kernel); omega) (show stL (c 105) (c 107) f.toInt 24 (c 108 w.toInt.toNat).toInt = stL (c 105) (c 107) f.toInt 24 x1.toInt from by rw [show (c 108 w.toInt.toNat) = x1 from ex1.symm]) (show x1.toInt = -9 ∨ x1.toInt + (0 : Int32).toInt ≤ 23 from by have h50 : (0 : Int32).toInt = 0 := (by decide +kernel); omega) (Nat.lt_succ_self _) _ _ _ hP hS (lv_sub hl [0, 1, 2, 3, 4] rfl)

def wm_X1_saidFlag_e : List Cond := .code yX1_saidFlag cX1_saidFlag 4 (some .int) :: ((([.fieldLink RX1 34 "TalePlay$Book" "flagBy" "[I", .fieldLink RX1 21 "TalePlay$Book" "cs" "[I", .fieldLink RX1 43 "TalePlay$Book" "world" "LTalePlay$World;", .methodLink RX1 114 yX10_standardFor, .instanceMethod yX10_standardFor, .selects RX10 yX10_standardFor yX10_standardFor, .initialized RX10, .code yX10_standardFor cX10_standardFor 6 (some .int), .fieldLink RX10 21 "TalePlay$World" "kindOf" "[I", .methodLink RX10 40 yX10_sortOf, .instanceMethod yX10_sortOf, .selects RX10 yX10_sortOf yX10_sortOf, .code yX10_sortOf cX10_sortOf 2 (some .int), .fieldLink RX10 37 "TalePlay$World" "objects" "I", .fieldLink RX10 15 "TalePlay$World" "sorts" "[I", .fieldLink RX10 18 "TalePlay$World" "standards" "[I"] : List Cond) ++ ([.fieldLink RX10 9 "TalePlay$World" "parents" "[I"] : List Cond)) ++ wsX10 ++ wsX100)
set_option maxRecDepth 20000 in
theorem gm_X1_saidFlag_e_X10_standardFor_e_114 : GoodIn wm_X1_saidFlag_e (wsV RX1 114 RX10 yX10_standardFor wm_X10_standardFor_e) := goodIn_w (List.forall_mem_append.mpr ⟨List.forall_mem_cons.mpr ⟨List.mem_cons_of_mem _ (List.mem_append_left _ (List.mem_append_left _ (List.mem_append_left _ (List.mem_of_getElem? (i := 3) rfl)))), List.forall_mem_cons.mpr ⟨List.mem_cons_of_mem _ (List.mem_append_left _ (List.mem_append_left _ (List.mem_append_left _ (List.mem_of_getElem? (i := 4) rfl)))), List.forall_mem_cons.mpr ⟨List.mem_cons_of_mem _ (List.mem_append_left _ (List.mem_append_left _ (List.mem_append_left _ (List.mem_of_getElem? (i := 5) rfl)))), List.forall_mem_cons.mpr ⟨List.mem_cons_of_mem _ (List.mem_append_left _ (List.mem_append_left _ (List.mem_append_left _ (List.mem_of_getElem? (i := 6) rfl)))), (fun _ h => absurd h List.not_mem_nil)⟩⟩⟩⟩, List.forall_mem_cons.mpr ⟨List.mem_cons_of_mem _ (List.mem_append_left _ (List.mem_append_left _ (List.mem_append_left _ (List.mem_of_getElem? (i := 7) rfl)))), List.forall_mem_append.mpr ⟨List.forall_mem_cons.mpr ⟨List.mem_cons_of_mem _ (List.mem_append_left _ (List.mem_append_left _ (List.mem_append_left _ (List.mem_of_getElem? (i := 8) rfl)))), List.forall_mem_cons.mpr ⟨List.mem_cons_of_mem _ (List.mem_append_left _ (List.mem_append_left _ (List.mem_append_left _ (List.mem_of_getElem? (i := 9) rfl)))), List.forall_mem_cons.mpr ⟨List.mem_cons_of_mem _ (List.mem_append_left _ (List.mem_append_left _ (List.mem_append_left _ (List.mem_of_getElem? (i := 10) rfl)))), List.forall_mem_cons.mpr ⟨List.mem_cons_of_mem _ (List.mem_append_left _ (List.mem_append_left _ (List.mem_append_left _ (List.mem_of_getElem? (i := 11) rfl)))), List.forall_mem_cons.mpr ⟨List.mem_cons_of_mem _ (List.mem_append_left _ (List.mem_append_left _ (List.mem_append_left _ (List.mem_of_getElem? (i := 6) rfl)))), List.forall_mem_cons.mpr ⟨List.mem_cons_of_mem _ (List.mem_append_left _ (List.mem_append_left _ (List.mem_append_left _ (List.mem_of_getElem? (i := 12) rfl)))), List.forall_mem_cons.mpr ⟨List.mem_cons_of_mem _ (List.mem_append_left _ (List.mem_append_left _ (List.mem_append_left _ (List.mem_of_getElem? (i := 13) rfl)))), List.forall_mem_cons.mpr ⟨List.mem_cons_of_mem _ (List.mem_append_left _ (List.mem_append_left _ (List.mem_append_left _ (List.mem_of_getElem? (i := 14) rfl)))), List.forall_mem_cons.mpr ⟨List.mem_cons_of_mem _ (List.mem_append_left _ (List.mem_append_left _ (List.mem_append_left _ (List.mem_of_getElem? (i := 15) rfl)))), List.forall_mem_cons.mpr ⟨List.mem_cons_of_mem _ (List.mem_append_left _ (List.mem_append_left _ (List.mem_append_right _ (List.mem_of_getElem? (i := 0) rfl)))), (fun _ h => absurd h List.not_mem_nil)⟩⟩⟩⟩⟩⟩⟩⟩⟩⟩, (fun _ h => List.mem_cons_of_mem _ (List.mem_append_right _ h))⟩⟩⟩) (by decide +kernel)
set_option maxHeartbeats 4000000 in
set_option maxRecDepth 100000 in
theorem x_X1_saidFlag_e (l : Launch) (D : va_G) (sz : Nat) (sk : Value) (a : Nat → Nat) (t : Nat → ClassId) (i : Nat → Int32) (q : Int64) (c : Nat → Nat → Int32) (d : Nat → Nat → Int64) (w : Int32) (f : Int32) (hI : xInv i c) (hiw : 0 ≤ w.toInt ∧ w.toInt < (i 111).toInt) (hf : 0 ≤ f.toInt ∧ f.toInt ≤ 5) (hs_D : PD (c 105)) : Met l yX1_saidFlag wm_X1_saidFlag_e ({ frames := 2, cells := 0, slots := 0, locals := 46 }) (va_Pc [.ref (a 112), .int w, .int f] (yA (a 186) D sz (xwB sk a t i q c d) (xtB t))) (va_Qi (fun (r : Int32) (_ : Unit) => ((r.toInt = -9 ∨ (0 ≤ r.toInt ∧ r.toInt ≤ 9)) ∧ (SgX (c 120) (c 116) w.toInt f.toInt (sfV (c 105) (c 108) (c 107) (c 106 (c 108 w.toInt.toNat).toNatClampNeg).toInt f.toInt w.toInt) r.toInt))) oA (ro sz)) 0 0 (ro sz) := by
  refine Met.ofW (cc := cX1_saidFlag) (maxL := 4) (ret := (some .int)) (by decide +kernel) rfl ?_
  intro p e s m args below meth cd s₁ B hml hv
  obtain ⟨rfl, ⟨hsz, hP, hK⟩, hN, hZ⟩ := hv
  have hx := B.exec
  have hb := B.bytes
  have hr := B.returns
  have hts := atoms_spec (ws := wm_X1_saidFlag_e) B.pre
  have hown : s.vm.findClass RX1 = some m.cls := findClass_of_methodNamed B.named
  have hlocks := B.notSynchronized
  subst hsz
  have hA : ∀ q : Nat, s.heap.size ≤ q → ro s.heap.size q := fun _ h => h
  have hS : va_S (ro s.heap.size) s.heap s.heap [] := va_S.rf
  have hl := lv_entry ([.ref (a 112), .int w, .int f]) (n := 4) (Nat.le_of_ble_eq_true rfl)
  rw [lg_entry_eq]
  generalize (lg_sl ([.ref (a 112), .int w, .int f]) ++ List.replicate (4 - (lg_sl ([.ref (a 112), .int w, .int f])).length) Slot.unset).toArray = ls at hl ⊢
  have hl : lv_has ls 4 [(0, .ref (a 112)), (1, .int w), (2, .int f)] := hl
  have rb111_i : 0 ≤ (i 111).toInt ∧ (i 111).toInt ≤ 30 := hI.1 111
  refine lv_aload_n hx hb dX1_saidFlag_0 rfl (lv_at hl 0 rfl) ?_
  refine xgB_B_flagBy hx hb hts (fun _ h => List.mem_cons_of_mem _ (List.mem_append_left _ (List.mem_append_right _ h))) hown hK hP (hts (.fieldLink RX1 34 "TalePlay$Book" "flagBy" "[I") (List.mem_cons_of_mem _ (List.mem_append_left _ (List.mem_append_left _ (List.mem_append_left _ (List.mem_of_getElem? (i := 0) rfl)))))) dX1_saidFlag_1 ?_
  refine lv_iload_n hx hb dX1_saidFlag_4 rfl (lv_at hl 1 rfl) ?_
  refine lv_bipush (v := 6) hx hb dX1_saidFlag_5 (by decide +kernel) ?_
  refine lv_imul hx hb dX1_saidFlag_7 ?_
  refine lv_topi (fun x1 ex1 => ?_)
  have tx1 := ti_mul (a := w.toInt) (b := 6) ex1 rfl (by decide +kernel) (by omega) (by omega)
  refine lv_iload_n hx hb dX1_saidFlag_8 rfl (lv_at hl 2 rfl) ?_
  refine lv_iadd hx hb dX1_saidFlag_9 ?_
  refine lv_topi (fun x2 ex2 => ?_)
  have tx2 := ti_add (a := (w.toInt * 6)) (b := f.toInt) ex2 tx1 rfl (by omega) (by omega)
  refine xlB_120 hx hb hK hP (vp_in_iff.mpr (by have h9 : x2.toInt = ((w.toInt * 6) + f.toInt) := tx2; omega)) dX1_saidFlag_10 (fun x3 ex3 => ?_)
  have rx3 : x3.toInt = -9 ∨ (0 ≤ x3.toInt ∧ x3.toInt ≤ 199) := by rw [ex3]; exact hI.2 120 _
  have gx3 : (c 120 (x2 : Int32).toNatClampNeg).toInt = x3.toInt := (congrArg Int32.toInt ex3).symm
  refine lv_istore_n (lv' := [(3, .int x3), (0, .ref (a 112)), (1, .int w), (2, .int f)]) hx hb dX1_saidFlag_11 rfl hl (by decide +kernel) rfl (fun ls hl => ?_)
  refine lv_iload_n hx hb dX1_saidFlag_12 rfl (lv_at hl 0 rfl) ?_
  refine lv_bipush (v := (-9)) hx hb dX1_saidFlag_13 (by decide +kernel) ?_
  refine lv_icmp_ne (tgt := 30) hx hb dX1_saidFlag_15 (by decide +kernel) (fun c4 => ?_) (fun c4 => ?_)
  · have f4 := mt (ti_eq (a := x3.toInt) (b := (-9)) rfl (by decide +kernel)).mpr c4
    refine lv_aload_n hx hb dX1_saidFlag_30 rfl (lv_at hl 1 rfl) ?_
    refine xgB_B_cs hx hb hts (fun _ h => List.mem_cons_of_mem _ (List.mem_append_left _ (List.mem_append_right _ h))) hown hK hP (hts (.fieldLink RX1 21 "TalePlay$Book" "cs" "[I") (List.mem_cons_of_mem _ (List.mem_append_left _ (List.mem_append_left _ (List.mem_append_left _ (List.mem_of_getElem? (i := 1) rfl)))))) dX1_saidFlag_31 ?_
    refine lv_iload_n hx hb dX1_saidFlag_34 rfl (lv_at hl 0 rfl) ?_
    refine xlB_116 hx hb hK hP (vp_in_iff.mpr (by have h9 : x3.toInt = x3.toInt := rfl; omega)) dX1_saidFlag_35 (fun x5 ex5 => ?_)
    have rx5 : 0 ≤ x5.toInt ∧ x5.toInt ≤ 9 := by rw [ex5]; exact hI.2 116 _
    have gx5 : (c 116 (x3 : Int32).toNatClampNeg).toInt = x5.toInt := (congrArg Int32.toInt ex5).symm
    exact ro_iret hx hb hr hlocks hS dX1_saidFlag_36 ⟨(show x5.toInt = -9 ∨ (0 ≤ x5.toInt ∧ x5.toInt ≤ 9) from by omega), (show SgX (c 120) (c 116) w.toInt f.toInt (sfV (c 105) (c 108) (c 107) (c 106 (c 108 w.toInt.toNat).toNatClampNeg).toInt f.toInt w.toInt) x5.toInt from Or.inr ⟨by rw [(ix_n (f := c 120) (s := x2) (show (x2 : Int32).toInt = w.toInt * 6 + f.toInt from by omega) ex3)]; omega, by rw [(ix_n (f := c 120) (s := x2) (show (x2 : Int32).toInt = w.toInt * 6 + f.toInt from by omega) ex3)]; exact gx5.symm⟩)⟩
  · have f4 := (ti_eq (a := x3.toInt) (b := (-9)) rfl (by decide +kernel)).mp c4
    refine lv_aload_n hx hb dX1_saidFlag_18 rfl (lv_at hl 1 rfl) ?_
    refine xgB_B_world hx hb hts (fun _ h => List.mem_cons_of_mem _ (List.mem_append_left _ (List.mem_append_right _ h))) hown hK hP (hts (.fieldLink RX1 43 "TalePlay$Book" "world" "LTalePlay$World;") (List.mem_cons_of_mem _ (List.mem_append_left _ (List.mem_append_left _ (List.mem_append_left _ (List.mem_of_getElem? (i := 2) rfl)))))) dX1_saidFlag_19 ?_
    refine lv_iload_n hx hb dX1_saidFlag_22 rfl (lv_at hl 2 rfl) ?_
    refine lv_iload_n hx hb dX1_saidFlag_23 rfl (lv_at hl 3 rfl) ?_
    refine ro_calli (va_runV (As := [.int w, .int f]) (rest := []) ⟨hx, hb, hml, hown, hts⟩ (x_X10_standardFor_e l D s.heap.size .null a t i q c d w f hI (show 0 ≤ w.toInt ∧ w.toInt < ((i 111) : Int32).toInt from by omega) (show 0 ≤ f.toInt ∧ f.toInt ≤ 5 from by omega) hs_D) (cwV 2 hts gm_X1_saidFlag_e_X10_standardFor_e_114 rfl rfl rfl (by decide +kernel) ⟨Nat.le_of_ble_eq_true rfl, Nat.le_of_ble_eq_true rfl⟩) (yA_V hN (xZ_k hZ hS hA) (xkB_W hK) (xuB_W (sk := sk) hP) (ci := 10) (q0 := 0) rfl rfl) rfl rfl hl.1 rfl (lv_room (Nat.le_of_ble_eq_true rfl)) dX1_saidFlag_24 ⟨Nat.le_of_ble_eq_true rfl, Nat.le_of_ble_eq_true rfl⟩) hS hA hP (fun r6 u6 H locs hw6 hP hS => ?_)
    have hw6 : ((r6.toInt = -9 ∨ (0 ≤ r6.toInt ∧ r6.toInt ≤ 1)) ∧ (r6.toInt = sfV (c 105) (c 108) (c 107) (c 106 (c 108 w.toInt.toNat).toNatClampNeg).toInt f.toInt w.toInt)) := hw6
    obtain ⟨hw6, hr6_0⟩ := hw6
    have hr6_0 : r6.toInt = sfV (c 105) (c 108) (c 107) (c 106 (c 108 w.toInt.toNat).toNatClampNeg).toInt f.toInt w.toInt := hr6_0
    refine lv_goto (tgt := 36) hx hb dX1_saidFlag_27 (by decide +kernel) ?_
    exact ro_iret hx hb hr hlocks hS dX1_saidFlag_36 ⟨(show r6.toInt = -9 ∨ (0 ≤ r6.toInt ∧ r6.toInt ≤ 9) from by omega), (show SgX (c 120) (c 116) w.toInt f.toInt (sfV (c 105) (c 108) (c 107) (c 106 (c 108 w.toInt.toNat).toNatClampNeg).toInt f.toInt w.toInt) r6.toInt from Or.inl ⟨by rw [(ix_n (f := c 120) (s := x2) (show (x2 : Int32).toInt = w.toInt * 6 + f.toInt from by omega) ex3)]; omega, hr6_0⟩)⟩

set_option maxHeartbeats 4000000 in
set_option maxRecDepth 100000 in
theorem s_X12_saidFlag_e (l : Launch) (D : va_G) (sz : Nat) (o : Nat) (a : Nat → Nat) (t : Nat → ClassId) (i : Nat → Int32) (q : Int64) (c : Nat → Nat → Int32) (d : Nat → Nat → Int64) (w : Int32) (f : Int32) (hI : mInv i c) (hw : 0 ≤ w.toInt ∧ w.toInt ≤ 29) (hf : 0 ≤ f.toInt ∧ f.toInt ≤ 5) : Met l yX12_saidFlag wm_X12_saidFlag ({ frames := 1, cells := 0, slots := 0, locals := 25 }) (va_Pc [.ref o, .int w, .int f] (pA D sz (mW o a t i q c d) (mT t))) (va_Qi (fun (r : Int32) (_ : Unit) => ((r.toInt = -9 ∨ (0 ≤ r.toInt ∧ r.toInt ≤ 1)) ∧ (SgM (c 9) (c 10) (c 11) (c 12) (c 13) (i 8).toInt w.toInt f.toInt (sfV (c 3) (c 6) (c 4) (kS (c 3) (c 6) w.toInt) f.toInt w.toInt) r.toInt))) oA (ro sz)) 0 0 (ro sz) := by
  refine Met.ofW (cc := cX12_saidFlag) (maxL := 4) (ret := (some .int)) (by decide +kernel) rfl ?_
  intro p e s m args below meth cd s₁ B hml hv
  obtain ⟨rfl, hsz, hP, hK⟩ := hv
  have hx := B.exec
  have hb := B.bytes
  have hr := B.returns
  have hts := atoms_spec (ws := wm_X12_saidFlag) B.pre
  have hown : s.vm.findClass RX12 = some m.cls := findClass_of_methodNamed B.named
  have hlocks := B.notSynchronized
  subst hsz
  have hA : ∀ q : Nat, s.heap.size ≤ q → ro s.heap.size q := fun _ h => h
  have hS : va_S (ro s.heap.size) s.heap s.heap [] := va_S.rf
  have hl := lv_entry ([.ref o, .int w, .int f]) (n := 4) (Nat.le_of_ble_eq_true rfl)
  rw [lg_entry_eq]
  generalize (lg_sl ([.ref o, .int w, .int f]) ++ List.replicate (4 - (lg_sl ([.ref o, .int w, .int f])).length) Slot.unset).toArray = ls at hl ⊢
  have hl : lv_has ls 4 [(0, .ref o), (1, .int w), (2, .int f)] := hl
  have hPD : PD (c 3) := fun j => by have q9 : ((j : Int) ≤ 1 ∧ (c 3 j).toInt = -9) ∨ (2 ≤ (j : Int) ∧ (j : Int) ≤ 5 ∧ (c 3 j).toInt = 1) ∨ (6 ≤ (j : Int) ∧ 0 ≤ (c 3 j).toInt ∧ (c 3 j).toInt ≤ 23 ∧ (c 3 j).toInt < (j : Int)) := hI.2 3 j; omega
  refine lv_aload_n hx hb dX12_saidFlag_0 rfl (lv_at hl 0 rfl) ?_
  refine lv_bipush (v := 6) hx hb dX12_saidFlag_1 (by decide +kernel) ?_
  refine lv_iload_n hx hb dX12_saidFlag_3 rfl (lv_at hl 1 rfl) ?_
  refine lv_iload_n hx hb dX12_saidFlag_4 rfl (lv_at hl 2 rfl) ?_
  refine lv_iconst (v := 1) hx hb dX12_saidFlag_5 (by decide +kernel) ?_
  have rb8_i : 0 ≤ (i 8).toInt ∧ (i 8).toInt ≤ 200 := hI.1 8
  refine ro_calli (va_runV (As := [.int 6, .int w, .int f, .int 1]) (rest := []) ⟨hx, hb, hml, hown, hts⟩ (s_X12_saidSo_e l D s.heap.size o a t i q c d 6 w f 1 hI ) (cwV 4 hts gm_X12_saidFlag_X12_saidSo rfl rfl rfl (by decide +kernel) ⟨Nat.le_of_ble_eq_true rfl, Nat.le_of_ble_eq_true rfl⟩) (pA_V hK hP (ci := 12) (q0 := 0) rfl rfl) rfl rfl hl.1 rfl (lv_room (Nat.le_of_ble_eq_true rfl)) dX12_saidFlag_6 ⟨Nat.le_of_ble_eq_true rfl, Nat.le_of_ble_eq_true rfl⟩) hS hA hP (fun r1 u1 H locs hw1 hP hS => ?_)
  have hw1 : ((r1.toInt = -9 ∨ (0 ≤ r1.toInt ∧ r1.toInt ≤ 199)) ∧ (r1.toInt = fsF (sE (c 9) (c 10) (c 11) (c 12) (c 13) 6 w.toInt f.toInt 1) (i 8).toInt.toNat)) := hw1
  obtain ⟨hw1, hr1_0⟩ := hw1
  have hr1_0 : r1.toInt = fsF (sE (c 9) (c 10) (c 11) (c 12) (c 13) 6 w.toInt f.toInt 1) (i 8).toInt.toNat := hr1_0
  refine lv_bipush (v := (-9)) hx hb dX12_saidFlag_9 (by decide +kernel) ?_
  refine lv_icmp_eq (tgt := 16) hx hb dX12_saidFlag_11 (by decide +kernel) (fun c2 => ?_) (fun c2 => ?_)
  · have f2 := (ti_eq (a := r1.toInt) (b := (-9)) rfl (by decide +kernel)).mp c2
    refine lv_aload_n hx hb dX12_saidFlag_16 rfl (lv_at hl 0 rfl) ?_
    refine lv_bipush (v := 6) hx hb dX12_saidFlag_17 (by decide +kernel) ?_
    refine lv_iload_n hx hb dX12_saidFlag_19 rfl (lv_at hl 1 rfl) ?_
    refine lv_iload_n hx hb dX12_saidFlag_20 rfl (lv_at hl 2 rfl) ?_
    refine lv_iconst (v := 0) hx hb dX12_saidFlag_21 (by decide +kernel) ?_
    refine ro_calli (va_runV (As := [.int 6, .int w, .int f, .int 0]) (rest := []) ⟨hx, hb, hml, hown, hts⟩ (s_X12_saidSo_e l D H.size o a t i q c d 6 w f 0 hI ) (cwV 4 hts gm_X12_saidFlag_X12_saidSo rfl rfl rfl (by decide +kernel) ⟨Nat.le_of_ble_eq_true rfl, Nat.le_of_ble_eq_true rfl⟩) (pA_V hK hP (ci := 12) (q0 := 0) rfl rfl) rfl rfl hl.1 rfl (lv_room (Nat.le_of_ble_eq_true rfl)) dX12_saidFlag_22 ⟨Nat.le_of_ble_eq_true rfl, Nat.le_of_ble_eq_true rfl⟩) hS hA hP (fun r3 u3 H locs hw3 hP hS => ?_)
    have hw3 : ((r3.toInt = -9 ∨ (0 ≤ r3.toInt ∧ r3.toInt ≤ 199)) ∧ (r3.toInt = fsF (sE (c 9) (c 10) (c 11) (c 12) (c 13) 6 w.toInt f.toInt 0) (i 8).toInt.toNat)) := hw3
    obtain ⟨hw3, hr3_0⟩ := hw3
    have hr3_0 : r3.toInt = fsF (sE (c 9) (c 10) (c 11) (c 12) (c 13) 6 w.toInt f.toInt 0) (i 8).toInt.toNat := hr3_0
    refine lv_bipush (v := (-9)) hx hb dX12_saidFlag_25 (by decide +kernel) ?_
    refine lv_icmp_eq (tgt := 32) hx hb dX12_saidFlag_27 (by decide +kernel) (fun c4 => ?_) (fun c4 => ?_)
    · have f4 := (ti_eq (a := r3.toInt) (b := (-9)) rfl (by decide +kernel)).mp c4
      refine lv_aload_n hx hb dX12_saidFlag_32 rfl (lv_at hl 0 rfl) ?_
      refine mget_6 hx hb hts (fun _ h => List.mem_cons_of_mem _ (List.mem_append_right _ h)) hown hK hP (hts (.fieldLink RX12 19 "TalePlayModel" "kindOf" "[I") (List.mem_cons_of_mem _ (List.mem_append_left _ (List.mem_append_left _ (List.mem_of_getElem? (i := 11) rfl))))) dX12_saidFlag_33 ?_
      refine lv_iload_n hx hb dX12_saidFlag_36 rfl (lv_at hl 1 rfl) ?_
      refine mld_6 hx hb hK hP (vp_in_iff.mpr (by have h9 : w.toInt = w.toInt := rfl; omega)) dX12_saidFlag_37 (fun x5 ex5 => ?_)
      have rx5 : 0 ≤ x5.toInt ∧ x5.toInt ≤ 23 := by rw [ex5]; exact hI.2 6 _
      refine lv_istore_n (lv' := [(3, .int x5), (0, .ref o), (1, .int w), (2, .int f)]) hx hb dX12_saidFlag_38 rfl hl (by decide +kernel) rfl (fun ls hl => ?_)
      have lp6 : ∀ (fu : Nat) (y6_3 : Int32), (y6_3.toInt = -9 ∨ (0 ≤ y6_3.toInt ∧ y6_3.toInt ≤ 23)) → (stL (c 3) (c 4) f.toInt 24 (c 6 w.toInt.toNat).toInt = stL (c 3) (c 4) f.toInt 24 y6_3.toInt) → (y6_3.toInt + 10).toNat < fu → ∀ (H : Heap) (locs : List Loc) (ls : Array Slot), va_P D vwCl (mW o a t i q c d) H → va_S (ro s.heap.size) s.heap H locs → lv_has ls 4 [(3, .int y6_3), (0, .ref o), (1, .int w), (2, .int f)] → W p l e (headSpec wm_X12_saidFlag ({ frames := 1, cells := 0, slots := 0, locals := 25 })).room s m ([.ref o, .int w, .int f] : List Value).toArray below meth cd H locs 0 0 (MQ below (va_Qi (fun (r : Int32) (_ : Unit) => ((r.toInt = -9 ∨ (0 ≤ r.toInt ∧ r.toInt ≤ 1)) ∧ (SgM (c 9) (c 10) (c 11) (c 12) (c 13) (i 8).toInt w.toInt f.toInt (sfV (c 3) (c 6) (c 4) (kS (c 3) (c 6) w.toInt) f.toInt w.toInt) r.toInt))) oA (ro s.heap.size)) ([.ref o, .int w, .int f] : List Value).toArray s 0 0 (ro s.heap.size)) (F0 m 39 ls []) := by
        intro fu
        induction fu with
        | zero => intro y6_3 hy6_3 hz6_0 hm; exact absurd hm (Nat.not_lt_zero _)
        | succ fu ih =>
          intro y6_3 hy6_3 hz6_0 hm H locs ls hP hS hl
          have ih6 := ih
          refine lv_iload_n hx hb dX12_saidFlag_39 rfl (lv_at hl 0 rfl) ?_
          refine lv_bipush (v := (-9)) hx hb dX12_saidFlag_40 (by decide +kernel) ?_
          refine lv_icmp_eq (tgt := 83) hx hb dX12_saidFlag_42 (by decide +kernel) (fun c7 => ?_) (fun c7 => ?_)
          · have f7 := (ti_eq (a := y6_3.toInt) (b := (-9)) rfl (by decide +kernel)).mp c7
            refine lv_iload_n hx hb dX12_saidFlag_83 rfl (lv_at hl 3 rfl) ?_
            refine lv_iconst (v := 2) hx hb dX12_saidFlag_84 (by decide +kernel) ?_
            refine lv_icmp_ne (tgt := 101) hx hb dX12_saidFlag_85 (by decide +kernel) (fun c8 => ?_) (fun c8 => ?_)
            · have f8 := mt (ti_eq (a := f.toInt) (b := 2) rfl (by decide +kernel)).mpr c8
              refine lv_iconst (v := 0) hx hb dX12_saidFlag_101 (by decide +kernel) ?_
              exact ro_iret hx hb hr hlocks hS dX12_saidFlag_102 ⟨(show (0 : Int32).toInt = -9 ∨ (0 ≤ (0 : Int32).toInt ∧ (0 : Int32).toInt ≤ 1) from by have h9 : (0 : Int32).toInt = 0 := (by decide +kernel); omega), (show SgM (c 9) (c 10) (c 11) (c 12) (c 13) (i 8).toInt w.toInt f.toInt (sfV (c 3) (c 6) (c 4) (kS (c 3) (c 6) w.toInt) f.toInt w.toInt) (0 : Int32).toInt from Or.inr (Or.inr ⟨by omega, by omega, sfV_0 (hz6_0.trans (stL_9 (by omega))) (by omega) (by decide +kernel)⟩))⟩
            · have f8 := (ti_eq (a := f.toInt) (b := 2) rfl (by decide +kernel)).mp c8
              refine lv_aload_n hx hb dX12_saidFlag_88 rfl (lv_at hl 1 rfl) ?_
              refine lv_iload_n hx hb dX12_saidFlag_89 rfl (lv_at hl 2 rfl) ?_
              refine lv_iconst (v := 0) hx hb dX12_saidFlag_90 (by decide +kernel) ?_
              refine ro_calli (va_runV (As := [.int w, .int 0]) (rest := []) ⟨hx, hb, hml, hown, hts⟩ (s_X12_isOf_e l D H.size o a t i q c d w 0 hI (show 0 ≤ w.toInt ∧ w.toInt ≤ 29 from by have h91 : (0 : Int32).toInt = 0 := (by decide +kernel); omega) (show 0 ≤ 0 ∧ 0 ≤ 5 from by have h91 : (0 : Int32).toInt = 0 := (by decide +kernel); omega)) (cwV 2 hts gm_X12_saidFlag_X12_isOf rfl rfl rfl (by decide +kernel) ⟨Nat.le_of_ble_eq_true rfl, Nat.le_of_ble_eq_true rfl⟩) (pA_V hK hP (ci := 12) (q0 := 0) rfl rfl) rfl rfl hl.1 rfl (lv_room (Nat.le_of_ble_eq_true rfl)) dX12_saidFlag_91 ⟨Nat.le_of_ble_eq_true rfl, Nat.le_of_ble_eq_true rfl⟩) hS hA hP (fun r9 u9 H locs hw9 hP hS => ?_)
              have hw9 : ((0 ≤ r9.toInt ∧ r9.toInt ≤ 1) ∧ (0 ≤ kS (c 3) (c 6) w.toInt ∧ kS (c 3) (c 6) w.toInt ≤ 5 ∧ ((r9.toInt = 1 ∧ (kS (c 3) (c 6) w.toInt = 0 ∨ ((1 : Int) = 0 ∧ 1 < kS (c 3) (c 6) w.toInt))) ∨ (r9.toInt = 0 ∧ ¬ (kS (c 3) (c 6) w.toInt = 0 ∨ ((1 : Int) = 0 ∧ 1 < kS (c 3) (c 6) w.toInt)))))) := hw9
              obtain ⟨hw9, hr9_0⟩ := hw9
              have hr9_0 : 0 ≤ kS (c 3) (c 6) w.toInt ∧ kS (c 3) (c 6) w.toInt ≤ 5 ∧ ((r9.toInt = 1 ∧ (kS (c 3) (c 6) w.toInt = 0 ∨ ((1 : Int) = 0 ∧ 1 < kS (c 3) (c 6) w.toInt))) ∨ (r9.toInt = 0 ∧ ¬ (kS (c 3) (c 6) w.toInt = 0 ∨ ((1 : Int) = 0 ∧ 1 < kS (c 3) (c 6) w.toInt)))) := hr9_0
              refine lv_if_eq (tgt := 101) hx hb dX12_saidFlag_94 (by decide +kernel) (fun c10 => ?_) (fun c10 => ?_)
              · have f10 := (ti_eq (a := r9.toInt) (b := 0) rfl (by decide +kernel)).mp c10
                refine lv_iconst (v := 0) hx hb dX12_saidFlag_101 (by decide +kernel) ?_
                exact ro_iret hx hb hr hlocks hS dX12_saidFlag_102 ⟨(show (0 : Int32).toInt = -9 ∨ (0 ≤ (0 : Int32).toInt ∧ (0 : Int32).toInt ≤ 1) from by have h9 : (0 : Int32).toInt = 0 := (by decide +kernel); omega), (show SgM (c 9) (c 10) (c 11) (c 12) (c 13) (i 8).toInt w.toInt f.toInt (sfV (c 3) (c 6) (c 4) (kS (c 3) (c 6) w.toInt) f.toInt w.toInt) (0 : Int32).toInt from Or.inr (Or.inr ⟨by omega, by omega, sfV_0 (hz6_0.trans (stL_9 (by omega))) (by omega) (by decide +kernel)⟩))⟩
              · have f10 := mt (ti_eq (a := r9.toInt) (b := 0) rfl (by decide +kernel)).mpr c10
                refine lv_iconst (v := 1) hx hb dX12_saidFlag_97 (by decide +kernel) ?_
                refine lv_goto (tgt := 102) hx hb dX12_saidFlag_98 (by decide +kernel) ?_
                exact ro_iret hx hb hr hlocks hS dX12_saidFlag_102 ⟨(show (1 : Int32).toInt = -9 ∨ (0 ≤ (1 : Int32).toInt ∧ (1 : Int32).toInt ≤ 1) from by have h9 : (1 : Int32).toInt = 1 := (by decide +kernel); omega), (show SgM (c 9) (c 10) (c 11) (c 12) (c 13) (i 8).toInt w.toInt f.toInt (sfV (c 3) (c 6) (c 4) (kS (c 3) (c 6) w.toInt) f.toInt w.toInt) (1 : Int32).toInt from Or.inr (Or.inr ⟨by omega, by omega, sfV_1 (hz6_0.trans (stL_9 (by omega))) ⟨by omega, by omega⟩ (by decide +kernel)⟩))⟩
          · have f7 := mt (ti_eq (a := y6_3.toInt) (b := (-9)) rfl (by decide +kernel)).mpr c7
            refine lv_aload_n hx hb dX12_saidFlag_45 rfl (lv_at hl 1 rfl) ?_
            refine mget_4 hx hb hts (fun _ h => List.mem_cons_of_mem _ (List.mem_append_right _ h)) hown hK hP (hts (.fieldLink RX12 16 "TalePlayModel" "defaults" "[I") (List.mem_cons_of_mem _ (List.mem_append_left _ (List.mem_append_right _ (List.mem_of_getElem? (i := 1) rfl))))) dX12_saidFlag_46 ?_
            refine lv_bipush (v := 6) hx hb dX12_saidFlag_49 (by decide +kernel) ?_
            refine lv_iload_n hx hb dX12_saidFlag_51 rfl (lv_at hl 0 rfl) ?_
            refine lv_imul hx hb dX12_saidFlag_52 ?_
            refine lv_topi (fun x11 ex11 => ?_)
            have tx11 := ti_mul (a := 6) (b := y6_3.toInt) ex11 (by decide +kernel) rfl (by omega) (by omega)
            refine lv_iload_n hx hb dX12_saidFlag_53 rfl (lv_at hl 3 rfl) ?_
            refine lv_iadd hx hb dX12_saidFlag_54 ?_
            refine lv_topi (fun x12 ex12 => ?_)
            have tx12 := ti_add (a := (6 * y6_3.toInt)) (b := f.toInt) ex12 tx11 rfl (by omega) (by omega)
            refine mld_4 hx hb hK hP (vp_in_iff.mpr (by have h9 : x12.toInt = ((6 * y6_3.toInt) + f.toInt) := tx12; omega)) dX12_saidFlag_55 (fun x13 ex13 => ?_)
            have rx13 : x13.toInt = -9 ∨ (0 ≤ x13.toInt ∧ x13.toInt ≤ 1) := by rw [ex13]; exact hI.2 4 _
            refine lv_bipush (v := (-9)) hx hb dX12_saidFlag_56 (by decide +kernel) ?_
            refine lv_icmp_eq (tgt := 73) hx hb dX12_saidFlag_58 (by decide +kernel) (fun c14 => ?_) (fun c14 => ?_)
            · have f14 := (ti_eq (a := x13.toInt) (b := (-9)) rfl (by decide +kernel)).mp c14
              refine lv_aload_n hx hb dX12_saidFlag_73 rfl (lv_at hl 1 rfl) ?_
              refine mget_3 hx hb hts (fun _ h => List.mem_cons_of_mem _ (List.mem_append_right _ h)) hown hK hP (hts (.fieldLink RX12 13 "TalePlayModel" "parentOf" "[I") (List.mem_cons_of_mem _ (List.mem_append_left _ (List.mem_append_right _ (List.mem_of_getElem? (i := 0) rfl))))) dX12_saidFlag_74 ?_
              refine lv_iload_n hx hb dX12_saidFlag_77 rfl (lv_at hl 0 rfl) ?_
              refine mld_3 hx hb hK hP (vp_in_iff.mpr (by have h9 : y6_3.toInt = y6_3.toInt := rfl; omega)) dX12_saidFlag_78 (fun x15 ex15 => ?_)
              have rx15 : ((((y6_3 : Int32).toNatClampNeg : Nat) : Int) ≤ 1 ∧ x15.toInt = -9) ∨ (2 ≤ (((y6_3 : Int32).toNatClampNeg : Nat) : Int) ∧ (((y6_3 : Int32).toNatClampNeg : Nat) : Int) ≤ 5 ∧ x15.toInt = 1) ∨ (6 ≤ (((y6_3 : Int32).toNatClampNeg : Nat) : Int) ∧ 0 ≤ x15.toInt ∧ x15.toInt ≤ 23 ∧ x15.toInt < (((y6_3 : Int32).toNatClampNeg : Nat) : Int)) := by rw [ex15]; exact hI.2 3 _
              have rc15 : (((y6_3 : Int32).toNatClampNeg : Nat) : Int) = (y6_3 : Int32).toInt := cl_nn (by have h9 : y6_3.toInt = y6_3.toInt := rfl; omega)
              refine lv_istore_n (lv' := [(3, .int x15), (0, .ref o), (1, .int w), (2, .int f)]) hx hb dX12_saidFlag_79 rfl hl (by decide +kernel) rfl (fun ls hl => ?_)
              refine lv_goto (tgt := 39) hx hb dX12_saidFlag_80 (by decide +kernel) ?_
              exact ih6 x15 (show x15.toInt = -9 ∨ (0 ≤ x15.toInt ∧ x15.toInt ≤ 23) from by omega) (show stL (c 3) (c 4) f.toInt 24 (c 6 w.toInt.toNat).toInt = stL (c 3) (c 4) f.toInt 24 x15.toInt from hz6_0.trans (stL_s hPD (by omega) (by rw [(ix_n (f := c 4) (s := x12) (show (x12 : Int32).toInt = y6_3.toInt * 6 + f.toInt from by omega) ex13)]; omega) ex15)) (by omega) _ _ _ hP hS (lv_sub hl [0, 1, 2, 3] rfl)
            · have f14 := mt (ti_eq (a := x13.toInt) (b := (-9)) rfl (by decide +kernel)).mpr c14
              refine lv_aload_n hx hb dX12_saidFlag_61 rfl (lv_at hl 1 rfl) ?_
              refine mget_4 hx hb hts (fun _ h => List.mem_cons_of_mem _ (List.mem_append_right _ h)) hown hK hP (hts (.fieldLink RX12 16 "TalePlayModel" "defaults" "[I") (List.mem_cons_of_mem _ (List.mem_append_left _ (List.mem_append_right _ (List.mem_of_getElem? (i := 1) rfl))))) dX12_saidFlag_62 ?_
              refine lv_bipush (v := 6) hx hb dX12_saidFlag_65 (by decide +kernel) ?_
              refine lv_iload_n hx hb dX12_saidFlag_67 rfl (lv_at hl 0 rfl) ?_
              refine lv_imul hx hb dX12_saidFlag_68 ?_
              refine lv_topi (fun x16 ex16 => ?_)
              have tx16 := ti_mul (a := 6) (b := y6_3.toInt) ex16 (by decide +kernel) rfl (by omega) (by omega)
              refine lv_iload_n hx hb dX12_saidFlag_69 rfl (lv_at hl 3 rfl) ?_
              refine lv_iadd hx hb dX12_saidFlag_70 ?_
              refine lv_topi (fun x17 ex17 => ?_)
              have tx17 := ti_add (a := (6 * y6_3.toInt)) (b := f.toInt) ex17 tx16 rfl (by omega) (by omega)
              refine mld_4 hx hb hK hP (vp_in_iff.mpr (by have h9 : x17.toInt = ((6 * y6_3.toInt) + f.toInt) := tx17; omega)) dX12_saidFlag_71 (fun x18 ex18 => ?_)
              have rx18 : x18.toInt = -9 ∨ (0 ≤ x18.toInt ∧ x18.toInt ≤ 1) := by rw [ex18]; exact hI.2 4 _
              exact ro_iret hx hb hr hlocks hS dX12_saidFlag_72 ⟨(show x18.toInt = -9 ∨ (0 ≤ x18.toInt ∧ x18.toInt ≤ 1) from by omega), (show SgM (c 9) (c 10) (c 11) (c 12) (c 13) (i 8).toInt w.toInt f.toInt (sfV (c 3) (c 6) (c 4) (kS (c 3) (c 6) w.toInt) f.toInt w.toInt) x18.toInt from Or.inr (Or.inr ⟨by omega, by omega, sfV_y (hz6_0.trans ((stL_y (by omega) (by rw [(ix_n (f := c 4) (s := x12) (show (x12 : Int32).toInt = y6_3.toInt * 6 + f.toInt from by omega) ex13)]; omega)).trans (by rw [(ix_n (f := c 4) (s := x17) (show (x17 : Int32).toInt = y6_3.toInt * 6 + f.toInt from by omega) ex18)]))) (by have h9 := congrArg Int32.toInt (((ix_n (f := c 4) (s := x12) (show (x12 : Int32).toInt = y6_3.toInt * 6 + f.toInt from by omega) ex13)).symm.trans (ix_n (f := c 4) (s := x17) (show (x17 : Int32).toInt = y6_3.toInt * 6 + f.toInt from by omega) ex18)); omega)⟩))⟩
      exact lp6 _ x5 (show x5.toInt = -9 ∨ (0 ≤ x5.toInt ∧ x5.toInt ≤ 23) from by omega) (show stL (c 3) (c 4) f.toInt 24 (c 6 w.toInt.toNat).toInt = stL (c 3) (c 4) f.toInt 24 x5.toInt from by rw [show (c 6 w.toInt.toNat) = x5 from ex5.symm]) (Nat.lt_succ_self _) _ _ _ hP hS (lv_sub hl [0, 1, 2, 3] rfl)
    · have f4 := mt (ti_eq (a := r3.toInt) (b := (-9)) rfl (by decide +kernel)).mpr c4
      refine lv_iconst (v := 0) hx hb dX12_saidFlag_30 (by decide +kernel) ?_
      exact ro_iret hx hb hr hlocks hS dX12_saidFlag_31 ⟨(show (0 : Int32).toInt = -9 ∨ (0 ≤ (0 : Int32).toInt ∧ (0 : Int32).toInt ≤ 1) from by have h9 : (0 : Int32).toInt = 0 := (by decide +kernel); omega), (show SgM (c 9) (c 10) (c 11) (c 12) (c 13) (i 8).toInt w.toInt f.toInt (sfV (c 3) (c 6) (c 4) (kS (c 3) (c 6) w.toInt) f.toInt w.toInt) (0 : Int32).toInt from Or.inr (Or.inl ⟨by omega, by omega, by decide⟩))⟩
  · have f2 := mt (ti_eq (a := r1.toInt) (b := (-9)) rfl (by decide +kernel)).mpr c2
    refine lv_iconst (v := 1) hx hb dX12_saidFlag_14 (by decide +kernel) ?_
    exact ro_iret hx hb hr hlocks hS dX12_saidFlag_15 ⟨(show (1 : Int32).toInt = -9 ∨ (0 ≤ (1 : Int32).toInt ∧ (1 : Int32).toInt ≤ 1) from by have h9 : (1 : Int32).toInt = 1 := (by decide +kernel); omega), (show SgM (c 9) (c 10) (c 11) (c 12) (c 13) (i 8).toInt w.toInt f.toInt (sfV (c 3) (c 6) (c 4) (kS (c 3) (c 6) w.toInt) f.toInt w.toInt) (1 : Int32).toInt from Or.inl ⟨by omega, by decide⟩)⟩

theorem LdR_of {i : Nat → Int32} {c : Nat → Nat → Int32} {F A B C S : Nat → Int32} {n r d ld dr bw im : Int} (hI : mInv i c) (h : FeM (c 3) (c 6) F A B C S n r d ld dr bw im) : LdR (c 3) (c 6) F A B C S n r d ld := by
  unfold FeM at h
  unfold LdR
  rcases h with ⟨a, _, _, h⟩ | ⟨a, _, h⟩
  · rcases h with ⟨k, _, e⟩ | ⟨k, _, e⟩
    · exact Or.inl ⟨a, (kS_k hI (by omega) (by omega)).mpr k, e⟩
    · exact Or.inr (Or.inl ⟨a, fun w => k ((kS_k hI (by omega) (by omega)).mp w), e⟩)
  · rcases h with ⟨k, _, _, e⟩ | ⟨k, _, _, e⟩
    · exact Or.inr (Or.inr (Or.inl ⟨a, k, e⟩))
    · exact Or.inr (Or.inr (Or.inr ⟨a, k, e⟩))

