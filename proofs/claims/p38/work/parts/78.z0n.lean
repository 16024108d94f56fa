def wm_X1_findSame_e : List Cond := .code yX1_findSame cX1_findSame 7 (some .int) :: (([.methodLink RX1 88 yX1_standingFor, .instanceMethod yX1_standingFor, .selects RX1 yX1_standingFor yX1_standingFor, .initialized RX1, .code yX1_standingFor cX1_standingFor 5 (some .int), .fieldLink RX1 28 "TalePlay$Book" "placeBy" "[I", .fieldLink RX1 31 "TalePlay$Book" "exitBy" "[I", .fieldLink RX1 34 "TalePlay$Book" "flagBy" "[I", .fieldLink RX1 37 "TalePlay$Book" "keyBy" "[I", .fieldLink RX1 9 "TalePlay$Book" "forms" "[I", .fieldLink RX1 15 "TalePlay$Book" "as" "[I", .fieldLink RX1 18 "TalePlay$Book" "bs" "[I", .fieldLink RX1 21 "TalePlay$Book" "cs" "[I"] : List Cond) ++ wsX10)
set_option maxRecDepth 20000 in
theorem gm_X1_findSame_e_X1_standingFor_e_88 : GoodIn wm_X1_findSame_e (wsV RX1 88 RX1 yX1_standingFor wm_X1_standingFor_e) := goodIn_w (List.forall_mem_append.mpr ⟨List.forall_mem_cons.mpr ⟨List.mem_cons_of_mem _ (List.mem_append_left _ (List.mem_of_getElem? (i := 0) rfl)), List.forall_mem_cons.mpr ⟨List.mem_cons_of_mem _ (List.mem_append_left _ (List.mem_of_getElem? (i := 1) rfl)), List.forall_mem_cons.mpr ⟨List.mem_cons_of_mem _ (List.mem_append_left _ (List.mem_of_getElem? (i := 2) rfl)), List.forall_mem_cons.mpr ⟨List.mem_cons_of_mem _ (List.mem_append_left _ (List.mem_of_getElem? (i := 3) rfl)), (fun _ h => absurd h List.not_mem_nil)⟩⟩⟩⟩, List.forall_mem_cons.mpr ⟨List.mem_cons_of_mem _ (List.mem_append_left _ (List.mem_of_getElem? (i := 4) rfl)), List.forall_mem_append.mpr ⟨List.forall_mem_cons.mpr ⟨List.mem_cons_of_mem _ (List.mem_append_left _ (List.mem_of_getElem? (i := 5) rfl)), List.forall_mem_cons.mpr ⟨List.mem_cons_of_mem _ (List.mem_append_left _ (List.mem_of_getElem? (i := 6) rfl)), List.forall_mem_cons.mpr ⟨List.mem_cons_of_mem _ (List.mem_append_left _ (List.mem_of_getElem? (i := 7) rfl)), List.forall_mem_cons.mpr ⟨List.mem_cons_of_mem _ (List.mem_append_left _ (List.mem_of_getElem? (i := 8) rfl)), (fun _ h => absurd h List.not_mem_nil)⟩⟩⟩⟩, (fun _ h => List.mem_cons_of_mem _ (List.mem_append_right _ h))⟩⟩⟩) (by decide +kernel)
set_option maxHeartbeats 4000000 in
set_option maxRecDepth 100000 in
theorem x_X1_findSame_e (l : Launch) (D : va_G) (sz : Nat) (sk : Value) (a : Nat → Nat) (t : Nat → ClassId) (i : Nat → Int32) (q : Int64) (c : Nat → Nat → Int32) (d : Nat → Nat → Int64) (f : Int32) (w1 : Int32) (w2 : Int32) (w3 : Int32) (hI : xInv i c) (hw1 : 0 ≤ w1.toInt ∧ w1.toInt ≤ 29) (hfl : f.toInt = 6 → 0 ≤ w2.toInt ∧ w2.toInt ≤ 5) (hex : f.toInt = 5 → 0 ≤ w3.toInt ∧ w3.toInt ≤ 9) (hky : f.toInt = 7 → 0 ≤ w2.toInt ∧ w2.toInt ≤ 29) : Met l yX1_findSame wm_X1_findSame_e ({ frames := 1, cells := 0, slots := 0, locals := 24 }) (va_Pc [.ref (a 112), .int f, .int w1, .int w2, .int w3] (yA (a 186) D sz (xwB sk a t i q c d) (xtB t))) (va_Qi (fun (r : Int32) (_ : Unit) => ((r.toInt = -9 ∨ (0 ≤ r.toInt ∧ r.toInt ≤ 199)) ∧ ((r.toInt = -9 ∧ ¬ SX (c 113) (c 114) (c 115) (c 116) (sFv (c 118) (c 119) (c 120) (c 121) f.toInt w1.toInt w2.toInt w3.toInt) f.toInt w1.toInt w2.toInt w3.toInt) ∨ (r = sFv (c 118) (c 119) (c 120) (c 121) f.toInt w1.toInt w2.toInt w3.toInt ∧ SX (c 113) (c 114) (c 115) (c 116) (sFv (c 118) (c 119) (c 120) (c 121) f.toInt w1.toInt w2.toInt w3.toInt) f.toInt w1.toInt w2.toInt w3.toInt)))) oA (ro sz)) 0 0 (ro sz) := by
  refine Met.ofW (cc := cX1_findSame) (maxL := 7) (ret := (some .int)) (by decide +kernel) rfl ?_
  intro p e s m args below meth cd s₁ B hml hv
  obtain ⟨rfl, ⟨hsz, hP, hK⟩, hN, hZ⟩ := hv
  have hx := B.exec
  have hb := B.bytes
  have hr := B.returns
  have hts := atoms_spec (ws := wm_X1_findSame_e) B.pre
  have hown : s.vm.findClass RX1 = some m.cls := findClass_of_methodNamed B.named
  have hlocks := B.notSynchronized
  subst hsz
  have hA : ∀ q : Nat, s.heap.size ≤ q → ro s.heap.size q := fun _ h => h
  have hS : va_S (ro s.heap.size) s.heap s.heap [] := va_S.rf
  have hl := lv_entry ([.ref (a 112), .int f, .int w1, .int w2, .int w3]) (n := 7) (Nat.le_of_ble_eq_true rfl)
  rw [lg_entry_eq]
  generalize (lg_sl ([.ref (a 112), .int f, .int w1, .int w2, .int w3]) ++ List.replicate (7 - (lg_sl ([.ref (a 112), .int f, .int w1, .int w2, .int w3])).length) Slot.unset).toArray = ls at hl ⊢
  have hl : lv_has ls 7 [(0, .ref (a 112)), (1, .int f), (2, .int w1), (3, .int w2), (4, .int w3)] := hl
  refine lv_aload_n hx hb dX1_findSame_0 rfl (lv_at hl 0 rfl) ?_
  refine lv_iload_n hx hb dX1_findSame_1 rfl (lv_at hl 1 rfl) ?_
  refine lv_iload_n hx hb dX1_findSame_2 rfl (lv_at hl 2 rfl) ?_
  refine lv_iload_n hx hb dX1_findSame_3 rfl (lv_at hl 3 rfl) ?_
  refine lv_iload hx hb dX1_findSame_4 (lv_at hl 4 rfl) ?_
  refine ro_calli (va_runV (As := [.int f, .int w1, .int w2, .int w3]) (rest := []) ⟨hx, hb, hml, hown, hts⟩ (x_X1_standingFor_e l D s.heap.size .null a t i q c d f w1 w2 w3 hI (show 0 ≤ w1.toInt ∧ w1.toInt ≤ 29 from by omega) (show f.toInt = 6 → 0 ≤ w2.toInt ∧ w2.toInt ≤ 5 from by omega) (show f.toInt = 5 → 0 ≤ w3.toInt ∧ w3.toInt ≤ 9 from by omega) (show f.toInt = 7 → 0 ≤ w2.toInt ∧ w2.toInt ≤ 29 from by omega)) (cwV 4 hts gm_X1_findSame_e_X1_standingFor_e_88 rfl rfl rfl (by decide +kernel) ⟨Nat.le_of_ble_eq_true rfl, Nat.le_of_ble_eq_true rfl⟩) (yA_V hN (xZ_k hZ hS hA) hK hP (ci := 1) (q0 := 6) rfl rfl) rfl rfl hl.1 rfl (lv_room (Nat.le_of_ble_eq_true rfl)) dX1_findSame_6 ⟨Nat.le_of_ble_eq_true rfl, Nat.le_of_ble_eq_true rfl⟩) hS hA hP (fun r1 u1 H locs hw1 hP hS => ?_)
  have hw1 : ((r1.toInt = -9 ∨ (0 ≤ r1.toInt ∧ r1.toInt ≤ 199)) ∧ (r1 = sFv (c 118) (c 119) (c 120) (c 121) f.toInt w1.toInt w2.toInt w3.toInt)) := hw1
  obtain ⟨hw1, hr1_0⟩ := hw1
  have hr1_0 : r1 = sFv (c 118) (c 119) (c 120) (c 121) f.toInt w1.toInt w2.toInt w3.toInt := hr1_0
  refine lv_istore (lv' := [(5, .int r1), (0, .ref (a 112)), (1, .int f), (2, .int w1), (3, .int w2), (4, .int w3)]) hx hb dX1_findSame_9 hl (by decide +kernel) rfl (fun ls hl => ?_)
  refine lv_iload hx hb dX1_findSame_11 (lv_at hl 0 rfl) ?_
  refine lv_bipush (v := (-9)) hx hb dX1_findSame_13 (by decide +kernel) ?_
  refine lv_icmp_eq (tgt := 67) hx hb dX1_findSame_15 (by decide +kernel) (fun c2 => ?_) (fun c2 => ?_)
  · have f2 := (ti_eq (a := r1.toInt) (b := (-9)) rfl (by decide +kernel)).mp c2
    refine lv_iconst (v := 0) hx hb dX1_findSame_67 (by decide +kernel) ?_
    refine lv_istore (lv' := [(6, .int 0), (5, .int r1), (0, .ref (a 112)), (1, .int f), (2, .int w1), (3, .int w2), (4, .int w3)]) hx hb dX1_findSame_68 hl (by decide +kernel) rfl (fun ls hl => ?_)
    refine lv_iload hx hb dX1_findSame_70 (lv_at hl 0 rfl) ?_
    refine lv_if_eq (tgt := 80) hx hb dX1_findSame_72 (by decide +kernel) (fun _ => ?_) (fun q9 => absurd (by decide +kernel) q9)
    refine lv_bipush (v := (-9)) hx hb dX1_findSame_80 (by decide +kernel) ?_
    exact ro_iret hx hb hr hlocks hS dX1_findSame_82 ⟨(show ((-9) : Int32).toInt = -9 ∨ (0 ≤ ((-9) : Int32).toInt ∧ ((-9) : Int32).toInt ≤ 199) from by have h9 : ((-9) : Int32).toInt = -9 := (by decide +kernel); omega), (show (((-9) : Int32).toInt = -9 ∧ ¬ SX (c 113) (c 114) (c 115) (c 116) (sFv (c 118) (c 119) (c 120) (c 121) f.toInt w1.toInt w2.toInt w3.toInt) f.toInt w1.toInt w2.toInt w3.toInt) ∨ (((-9) : Int32) = sFv (c 118) (c 119) (c 120) (c 121) f.toInt w1.toInt w2.toInt w3.toInt ∧ SX (c 113) (c 114) (c 115) (c 116) (sFv (c 118) (c 119) (c 120) (c 121) f.toInt w1.toInt w2.toInt w3.toInt) f.toInt w1.toInt w2.toInt w3.toInt) from Or.inl ⟨by decide, by rw [← hr1_0]; unfold SX; omega⟩)⟩
  · have f2 := mt (ti_eq (a := r1.toInt) (b := (-9)) rfl (by decide +kernel)).mpr c2
    refine lv_aload_n hx hb dX1_findSame_18 rfl (lv_at hl 1 rfl) ?_
    refine xgB_B_forms hx hb hts (fun _ h => List.mem_cons_of_mem _ (List.mem_append_right _ h)) hown hK hP (hts (.fieldLink RX1 9 "TalePlay$Book" "forms" "[I") (List.mem_cons_of_mem _ (List.mem_append_left _ (List.mem_of_getElem? (i := 9) rfl)))) dX1_findSame_19 ?_
    refine lv_iload hx hb dX1_findSame_22 (lv_at hl 0 rfl) ?_
    refine xlB_113 hx hb hK hP (vp_in_iff.mpr (by have h9 : r1.toInt = r1.toInt := rfl; omega)) dX1_findSame_24 (fun x3 ex3 => ?_)
    have rx3 : 0 ≤ x3.toInt ∧ x3.toInt ≤ 7 := by rw [ex3]; exact hI.2 113 _
    have gx3 : (c 113 (r1 : Int32).toNatClampNeg).toInt = x3.toInt := (congrArg Int32.toInt ex3).symm
    refine lv_iload_n hx hb dX1_findSame_25 rfl (lv_at hl 2 rfl) ?_
    refine lv_icmp_ne (tgt := 67) hx hb dX1_findSame_26 (by decide +kernel) (fun c4 => ?_) (fun c4 => ?_)
    · have f4 := mt (ti_eq (a := x3.toInt) (b := f.toInt) rfl rfl).mpr c4
      refine lv_iconst (v := 0) hx hb dX1_findSame_67 (by decide +kernel) ?_
      refine lv_istore (lv' := [(6, .int 0), (5, .int r1), (0, .ref (a 112)), (1, .int f), (2, .int w1), (3, .int w2), (4, .int w3)]) hx hb dX1_findSame_68 hl (by decide +kernel) rfl (fun ls hl => ?_)
      refine lv_iload hx hb dX1_findSame_70 (lv_at hl 0 rfl) ?_
      refine lv_if_eq (tgt := 80) hx hb dX1_findSame_72 (by decide +kernel) (fun _ => ?_) (fun q9 => absurd (by decide +kernel) q9)
      refine lv_bipush (v := (-9)) hx hb dX1_findSame_80 (by decide +kernel) ?_
      exact ro_iret hx hb hr hlocks hS dX1_findSame_82 ⟨(show ((-9) : Int32).toInt = -9 ∨ (0 ≤ ((-9) : Int32).toInt ∧ ((-9) : Int32).toInt ≤ 199) from by have h9 : ((-9) : Int32).toInt = -9 := (by decide +kernel); omega), (show (((-9) : Int32).toInt = -9 ∧ ¬ SX (c 113) (c 114) (c 115) (c 116) (sFv (c 118) (c 119) (c 120) (c 121) f.toInt w1.toInt w2.toInt w3.toInt) f.toInt w1.toInt w2.toInt w3.toInt) ∨ (((-9) : Int32) = sFv (c 118) (c 119) (c 120) (c 121) f.toInt w1.toInt w2.toInt w3.toInt ∧ SX (c 113) (c 114) (c 115) (c 116) (sFv (c 118) (c 119) (c 120) (c 121) f.toInt w1.toInt w2.toInt w3.toInt) f.toInt w1.toInt w2.toInt w3.toInt) from Or.inl ⟨by decide, by rw [← hr1_0]; unfold SX; omega⟩)⟩
    · have f4 := (ti_eq (a := x3.toInt) (b := f.toInt) rfl rfl).mp c4
      refine lv_aload_n hx hb dX1_findSame_29 rfl (lv_at hl 1 rfl) ?_
      refine xgB_B_as hx hb hts (fun _ h => List.mem_cons_of_mem _ (List.mem_append_right _ h)) hown hK hP (hts (.fieldLink RX1 15 "TalePlay$Book" "as" "[I") (List.mem_cons_of_mem _ (List.mem_append_left _ (List.mem_of_getElem? (i := 10) rfl)))) dX1_findSame_30 ?_
      refine lv_iload hx hb dX1_findSame_33 (lv_at hl 0 rfl) ?_
      refine xlB_114 hx hb hK hP (vp_in_iff.mpr (by have h9 : r1.toInt = r1.toInt := rfl; omega)) dX1_findSame_35 (fun x5 ex5 => ?_)
      have rx5 : 0 ≤ x5.toInt ∧ x5.toInt ≤ 29 := by rw [ex5]; exact hI.2 114 _
      have gx5 : (c 114 (r1 : Int32).toNatClampNeg).toInt = x5.toInt := (congrArg Int32.toInt ex5).symm
      refine lv_iload_n hx hb dX1_findSame_36 rfl (lv_at hl 3 rfl) ?_
      refine lv_icmp_ne (tgt := 67) hx hb dX1_findSame_37 (by decide +kernel) (fun c6 => ?_) (fun c6 => ?_)
      · have f6 := mt (ti_eq (a := x5.toInt) (b := w1.toInt) rfl rfl).mpr c6
        refine lv_iconst (v := 0) hx hb dX1_findSame_67 (by decide +kernel) ?_
        refine lv_istore (lv' := [(6, .int 0), (5, .int r1), (0, .ref (a 112)), (1, .int f), (2, .int w1), (3, .int w2), (4, .int w3)]) hx hb dX1_findSame_68 hl (by decide +kernel) rfl (fun ls hl => ?_)
        refine lv_iload hx hb dX1_findSame_70 (lv_at hl 0 rfl) ?_
        refine lv_if_eq (tgt := 80) hx hb dX1_findSame_72 (by decide +kernel) (fun _ => ?_) (fun q9 => absurd (by decide +kernel) q9)
        refine lv_bipush (v := (-9)) hx hb dX1_findSame_80 (by decide +kernel) ?_
        exact ro_iret hx hb hr hlocks hS dX1_findSame_82 ⟨(show ((-9) : Int32).toInt = -9 ∨ (0 ≤ ((-9) : Int32).toInt ∧ ((-9) : Int32).toInt ≤ 199) from by have h9 : ((-9) : Int32).toInt = -9 := (by decide +kernel); omega), (show (((-9) : Int32).toInt = -9 ∧ ¬ SX (c 113) (c 114) (c 115) (c 116) (sFv (c 118) (c 119) (c 120) (c 121) f.toInt w1.toInt w2.toInt w3.toInt) f.toInt w1.toInt w2.toInt w3.toInt) ∨ (((-9) : Int32) = sFv (c 118) (c 119) (c 120) (c 121) f.toInt w1.toInt w2.toInt w3.toInt ∧ SX (c 113) (c 114) (c 115) (c 116) (sFv (c 118) (c 119) (c 120) (c 121) f.toInt w1.toInt w2.toInt w3.toInt) f.toInt w1.toInt w2.toInt w3.toInt) from Or.inl ⟨by decide, by rw [← hr1_0]; unfold SX; omega⟩)⟩
      · have f6 := (ti_eq (a := x5.toInt) (b := w1.toInt) rfl rfl).mp c6
        refine lv_aload_n hx hb dX1_findSame_40 rfl (lv_at hl 1 rfl) ?_
        refine xgB_B_bs hx hb hts (fun _ h => List.mem_cons_of_mem _ (List.mem_append_right _ h)) hown hK hP (hts (.fieldLink RX1 18 "TalePlay$Book" "bs" "[I") (List.mem_cons_of_mem _ (List.mem_append_left _ (List.mem_of_getElem? (i := 11) rfl)))) dX1_findSame_41 ?_
        refine lv_iload hx hb dX1_findSame_44 (lv_at hl 0 rfl) ?_
        refine xlB_115 hx hb hK hP (vp_in_iff.mpr (by have h9 : r1.toInt = r1.toInt := rfl; omega)) dX1_findSame_46 (fun x7 ex7 => ?_)
        have rx7 : 0 ≤ x7.toInt ∧ x7.toInt ≤ 29 := by rw [ex7]; exact hI.2 115 _
        have gx7 : (c 115 (r1 : Int32).toNatClampNeg).toInt = x7.toInt := (congrArg Int32.toInt ex7).symm
        refine lv_iload_n hx hb dX1_findSame_47 rfl (lv_at hl 4 rfl) ?_
        refine lv_icmp_ne (tgt := 67) hx hb dX1_findSame_48 (by decide +kernel) (fun c8 => ?_) (fun c8 => ?_)
        · have f8 := mt (ti_eq (a := x7.toInt) (b := w2.toInt) rfl rfl).mpr c8
          refine lv_iconst (v := 0) hx hb dX1_findSame_67 (by decide +kernel) ?_
          refine lv_istore (lv' := [(6, .int 0), (5, .int r1), (0, .ref (a 112)), (1, .int f), (2, .int w1), (3, .int w2), (4, .int w3)]) hx hb dX1_findSame_68 hl (by decide +kernel) rfl (fun ls hl => ?_)
          refine lv_iload hx hb dX1_findSame_70 (lv_at hl 0 rfl) ?_
          refine lv_if_eq (tgt := 80) hx hb dX1_findSame_72 (by decide +kernel) (fun _ => ?_) (fun q9 => absurd (by decide +kernel) q9)
          refine lv_bipush (v := (-9)) hx hb dX1_findSame_80 (by decide +kernel) ?_
          exact ro_iret hx hb hr hlocks hS dX1_findSame_82 ⟨(show ((-9) : Int32).toInt = -9 ∨ (0 ≤ ((-9) : Int32).toInt ∧ ((-9) : Int32).toInt ≤ 199) from by have h9 : ((-9) : Int32).toInt = -9 := (by decide +kernel); omega), (show (((-9) : Int32).toInt = -9 ∧ ¬ SX (c 113) (c 114) (c 115) (c 116) (sFv (c 118) (c 119) (c 120) (c 121) f.toInt w1.toInt w2.toInt w3.toInt) f.toInt w1.toInt w2.toInt w3.toInt) ∨ (((-9) : Int32) = sFv (c 118) (c 119) (c 120) (c 121) f.toInt w1.toInt w2.toInt w3.toInt ∧ SX (c 113) (c 114) (c 115) (c 116) (sFv (c 118) (c 119) (c 120) (c 121) f.toInt w1.toInt w2.toInt w3.toInt) f.toInt w1.toInt w2.toInt w3.toInt) from Or.inl ⟨by decide, by rw [← hr1_0]; unfold SX; omega⟩)⟩
        · have f8 := (ti_eq (a := x7.toInt) (b := w2.toInt) rfl rfl).mp c8
          refine lv_aload_n hx hb dX1_findSame_51 rfl (lv_at hl 1 rfl) ?_
          refine xgB_B_cs hx hb hts (fun _ h => List.mem_cons_of_mem _ (List.mem_append_right _ h)) hown hK hP (hts (.fieldLink RX1 21 "TalePlay$Book" "cs" "[I") (List.mem_cons_of_mem _ (List.mem_append_left _ (List.mem_of_getElem? (i := 12) rfl)))) dX1_findSame_52 ?_
          refine lv_iload hx hb dX1_findSame_55 (lv_at hl 0 rfl) ?_
          refine xlB_116 hx hb hK hP (vp_in_iff.mpr (by have h9 : r1.toInt = r1.toInt := rfl; omega)) dX1_findSame_57 (fun x9 ex9 => ?_)
          have rx9 : 0 ≤ x9.toInt ∧ x9.toInt ≤ 9 := by rw [ex9]; exact hI.2 116 _
          have gx9 : (c 116 (r1 : Int32).toNatClampNeg).toInt = x9.toInt := (congrArg Int32.toInt ex9).symm
          refine lv_iload hx hb dX1_findSame_58 (lv_at hl 5 rfl) ?_
          refine lv_icmp_ne (tgt := 67) hx hb dX1_findSame_60 (by decide +kernel) (fun c10 => ?_) (fun c10 => ?_)
          · have f10 := mt (ti_eq (a := x9.toInt) (b := w3.toInt) rfl rfl).mpr c10
            refine lv_iconst (v := 0) hx hb dX1_findSame_67 (by decide +kernel) ?_
            refine lv_istore (lv' := [(6, .int 0), (5, .int r1), (0, .ref (a 112)), (1, .int f), (2, .int w1), (3, .int w2), (4, .int w3)]) hx hb dX1_findSame_68 hl (by decide +kernel) rfl (fun ls hl => ?_)
            refine lv_iload hx hb dX1_findSame_70 (lv_at hl 0 rfl) ?_
            refine lv_if_eq (tgt := 80) hx hb dX1_findSame_72 (by decide +kernel) (fun _ => ?_) (fun q9 => absurd (by decide +kernel) q9)
            refine lv_bipush (v := (-9)) hx hb dX1_findSame_80 (by decide +kernel) ?_
            exact ro_iret hx hb hr hlocks hS dX1_findSame_82 ⟨(show ((-9) : Int32).toInt = -9 ∨ (0 ≤ ((-9) : Int32).toInt ∧ ((-9) : Int32).toInt ≤ 199) from by have h9 : ((-9) : Int32).toInt = -9 := (by decide +kernel); omega), (show (((-9) : Int32).toInt = -9 ∧ ¬ SX (c 113) (c 114) (c 115) (c 116) (sFv (c 118) (c 119) (c 120) (c 121) f.toInt w1.toInt w2.toInt w3.toInt) f.toInt w1.toInt w2.toInt w3.toInt) ∨ (((-9) : Int32) = sFv (c 118) (c 119) (c 120) (c 121) f.toInt w1.toInt w2.toInt w3.toInt ∧ SX (c 113) (c 114) (c 115) (c 116) (sFv (c 118) (c 119) (c 120) (c 121) f.toInt w1.toInt w2.toInt w3.toInt) f.toInt w1.toInt w2.toInt w3.toInt) from Or.inl ⟨by decide, by rw [← hr1_0]; unfold SX; omega⟩)⟩
          · have f10 := (ti_eq (a := x9.toInt) (b := w3.toInt) rfl rfl).mp c10
            refine lv_iconst (v := 1) hx hb dX1_findSame_63 (by decide +kernel) ?_
            refine lv_goto (tgt := 68) hx hb dX1_findSame_64 (by decide +kernel) ?_
            refine lv_istore (lv' := [(6, .int 1), (5, .int r1), (0, .ref (a 112)), (1, .int f), (2, .int w1), (3, .int w2), (4, .int w3)]) hx hb dX1_findSame_68 hl (by decide +kernel) rfl (fun ls hl => ?_)
            refine lv_iload hx hb dX1_findSame_70 (lv_at hl 0 rfl) ?_
            refine lv_if_eq (tgt := 80) hx hb dX1_findSame_72 (by decide +kernel) (fun q9 => absurd q9 (by decide +kernel)) (fun _ => ?_)
            refine lv_iload hx hb dX1_findSame_75 (lv_at hl 1 rfl) ?_
            refine lv_goto (tgt := 82) hx hb dX1_findSame_77 (by decide +kernel) ?_
            exact ro_iret hx hb hr hlocks hS dX1_findSame_82 ⟨(show r1.toInt = -9 ∨ (0 ≤ r1.toInt ∧ r1.toInt ≤ 199) from by omega), (show (r1.toInt = -9 ∧ ¬ SX (c 113) (c 114) (c 115) (c 116) (sFv (c 118) (c 119) (c 120) (c 121) f.toInt w1.toInt w2.toInt w3.toInt) f.toInt w1.toInt w2.toInt w3.toInt) ∨ (r1 = sFv (c 118) (c 119) (c 120) (c 121) f.toInt w1.toInt w2.toInt w3.toInt ∧ SX (c 113) (c 114) (c 115) (c 116) (sFv (c 118) (c 119) (c 120) (c 121) f.toInt w1.toInt w2.toInt w3.toInt) f.toInt w1.toInt w2.toInt w3.toInt) from Or.inr ⟨hr1_0, by rw [← hr1_0]; unfold SX; omega⟩)⟩

def wm_X1_addClash_e : List Cond := .code yX1_addClash cX1_addClash 2 (some .boolean) :: (([.fieldLink RX1 118 "TalePlay$Book" "clashes" "I", .fieldLink RX1 40 "TalePlay$Book" "clashRow" "[I"] : List Cond) ++ wsX10)
set_option maxHeartbeats 4000000 in
set_option maxRecDepth 100000 in
theorem x_X1_addClash_e (l : Launch) (D : va_G) (sz : Nat) (sk : Value) (a : Nat → Nat) (t : Nat → ClassId) (i : Nat → Int32) (q : Int64) (c : Nat → Nat → Int32) (d : Nat → Nat → Int64) (s1 : Int32) (hI : xInv i c) (hs1 : s1.toInt = -9 ∨ (0 ≤ s1.toInt ∧ s1.toInt ≤ 199)) : Met l yX1_addClash wm_X1_addClash_e ({ frames := 0, cells := 0, slots := 0, locals := 0 }) (va_Pc [.ref (a 112), .int s1] (yB (a 186) D sz (xwT sk a t i q c d) (xtT t))) (va_Qi (fun (r : Int32) (u : MS) => ((r.toInt = 0 ∧ (s1.toInt = -9 ∨ 30 ≤ (i 123).toInt)) ∨ (r.toInt = 1 ∧ ¬ s1.toInt = -9 ∧ (i 123).toInt ≤ 29)) ∧ xInv u.1 u.2.2.1 ∧ (∀ k, k ∉ ([123] : List Nat) → u.1 k = i k) ∧ (∀ k, k ∉ ([122] : List Nat) → u.2.2.1 k = c k) ∧ ((u.1 123).toInt = (i 123).toInt + r.toInt) ∧ ((r.toInt = 0 ∧ (u.2.2.1 122) = (c 122)) ∨ (r.toInt = 1 ∧ (u.2.2.1 122) = upd (c 122) (i 123).toNatClampNeg s1))) (oC D (va_A (xwT sk a t i q c d) sz) (fun u : MS => xwT sk a t u.1 u.2.1 u.2.2.1 u.2.2.2) (fun _ => [])) (va_A (xwT sk a t i q c d) sz)) 0 0 (va_A (xwT sk a t i q c d) sz) := by
  refine Met.ofW (cc := cX1_addClash) (maxL := 2) (ret := (some .boolean)) (by decide +kernel) rfl ?_
  intro p e s m args below meth cd s₁ B hml hv
  obtain ⟨rfl, ⟨hsz, hP, hK, hD0⟩, hN, hZ, hBW⟩ := hv
  have hx := B.exec
  have hb := B.bytes
  have hr := B.returns
  have hts := atoms_spec (ws := wm_X1_addClash_e) B.pre
  have hown : s.vm.findClass RX1 = some m.cls := findClass_of_methodNamed B.named
  have hlocks := B.notSynchronized
  subst hsz
  have hD := hD0.self (sz := s.heap.size)
  have hZ := xZ_A hZ hP hBW
  generalize hAe : va_A (xwT sk a t i q c d) s.heap.size = A at hD hZ ⊢
  have hA : ∀ q : Nat, s.heap.size ≤ q → A q := fun q h => by rw [← hAe]; exact Or.inr h
  have hS : va_S A s.heap s.heap [] := va_S.rf
  have hfi : ∀ k, k ∉ ([] : List Nat) → i k = i k := fun _ _ => rfl
  have hfc : ∀ k, k ∉ ([] : List Nat) → c k = c k := fun _ _ => rfl
  have hl := lv_entry ([.ref (a 112), .int s1]) (n := 2) (Nat.le_of_ble_eq_true rfl)
  rw [lg_entry_eq]
  generalize (lg_sl ([.ref (a 112), .int s1]) ++ List.replicate (2 - (lg_sl ([.ref (a 112), .int s1])).length) Slot.unset).toArray = ls at hl ⊢
  have hl : lv_has ls 2 [(0, .ref (a 112)), (1, .int s1)] := hl
  have rb123_i : 0 ≤ (i 123).toInt ∧ (i 123).toInt ≤ 30 := hI.1 123
  refine lv_iload_n hx hb dX1_addClash_0 rfl (lv_at hl 1 rfl) ?_
  refine lv_bipush (v := (-9)) hx hb dX1_addClash_1 (by decide +kernel) ?_
  refine lv_icmp_eq (tgt := 18) hx hb dX1_addClash_3 (by decide +kernel) (fun c1 => ?_) (fun c1 => ?_)
  · have f1 := (ti_eq (a := s1.toInt) (b := (-9)) rfl (by decide +kernel)).mp c1
    refine lv_iconst (v := 0) hx hb dX1_addClash_18 (by decide +kernel) ?_
    exact rw_zret (i, q, c, d) hx hb hr hlocks hS (hK.sub (tys' := []) [] rfl) hP hD rfl dX1_addClash_19 ⟨(show ((0 : Int32).toInt = 0 ∧ (s1.toInt = -9 ∨ 30 ≤ (i 123).toInt)) ∨ ((0 : Int32).toInt = 1 ∧ ¬ s1.toInt = -9 ∧ (i 123).toInt ≤ 29) from by have h9 : (0 : Int32).toInt = 0 := (by decide +kernel); omega), hI, fr_w hfi (by decide +kernel), fr_w hfc (by decide +kernel), (show ((i 123) : Int32).toInt = (i 123).toInt + (0 : Int32).toInt from by have h51 : (0 : Int32).toInt = 0 := (by decide +kernel); omega), (show ((0 : Int32).toInt = 0 ∧ (c 122) = (c 122)) ∨ ((0 : Int32).toInt = 1 ∧ (c 122) = upd (c 122) (i 123).toNatClampNeg s1) from Or.inl ⟨by decide, rfl⟩)⟩
  · have f1 := mt (ti_eq (a := s1.toInt) (b := (-9)) rfl (by decide +kernel)).mpr c1
    refine lv_aload_n hx hb dX1_addClash_6 rfl (lv_at hl 0 rfl) ?_
    refine xgT_B_clashes (v := (i 123)) rfl hx hb hts (fun _ h => List.mem_cons_of_mem _ (List.mem_append_right _ h)) hown hK hP (hts (.fieldLink RX1 118 "TalePlay$Book" "clashes" "I") (List.mem_cons_of_mem _ (List.mem_append_left _ (List.mem_of_getElem? (i := 0) rfl)))) dX1_addClash_7 ?_
    refine lv_aload_n hx hb dX1_addClash_10 rfl (lv_at hl 0 rfl) ?_
    refine xgT_B_clashRow hx hb hts (fun _ h => List.mem_cons_of_mem _ (List.mem_append_right _ h)) hown hK hP (hts (.fieldLink RX1 40 "TalePlay$Book" "clashRow" "[I") (List.mem_cons_of_mem _ (List.mem_append_left _ (List.mem_of_getElem? (i := 1) rfl)))) dX1_addClash_11 ?_
    refine xnT_122 hx hb hK hP dX1_addClash_14 ?_
    refine lv_icmp_lt (tgt := 20) hx hb dX1_addClash_15 (by decide +kernel) (fun c2 => ?_) (fun c2 => ?_)
    · have f2 := (ti_lt (a := (i 123).toInt) (b := 30) rfl (by decide +kernel)).mp c2
      refine lv_aload_n hx hb dX1_addClash_20 rfl (lv_at hl 0 rfl) ?_
      refine xgT_B_clashRow hx hb hts (fun _ h => List.mem_cons_of_mem _ (List.mem_append_right _ h)) hown hK hP (hts (.fieldLink RX1 40 "TalePlay$Book" "clashRow" "[I") (List.mem_cons_of_mem _ (List.mem_append_left _ (List.mem_of_getElem? (i := 1) rfl)))) dX1_addClash_21 ?_
      refine lv_aload_n hx hb dX1_addClash_24 rfl (lv_at hl 0 rfl) ?_
      refine lv_dup hx hb dX1_addClash_25 rfl ?_
      refine xgT_B_clashes (v := (i 123)) rfl hx hb hts (fun _ h => List.mem_cons_of_mem _ (List.mem_append_right _ h)) hown hK hP (hts (.fieldLink RX1 118 "TalePlay$Book" "clashes" "I") (List.mem_cons_of_mem _ (List.mem_append_left _ (List.mem_of_getElem? (i := 0) rfl)))) dX1_addClash_26 ?_
      refine lv_dup_x1 hx hb dX1_addClash_29 rfl rfl ?_
      refine lv_iconst (v := 1) hx hb dX1_addClash_30 (by decide +kernel) ?_
      refine lv_iadd hx hb dX1_addClash_31 ?_
      refine lv_topi (fun x3 ex3 => ?_)
      have tx3 := ti_add (a := (i 123).toInt) (b := 1) ex3 rfl (by decide +kernel) (by omega) (by omega)
      refine xpT_B_clashes hx hb hts (fun _ h => List.mem_cons_of_mem _ (List.mem_append_right _ h)) hown hK hP hD hS (hts (.fieldLink RX1 118 "TalePlay$Book" "clashes" "I") (List.mem_cons_of_mem _ (List.mem_append_left _ (List.mem_of_getElem? (i := 0) rfl)))) rfl rfl dX1_addClash_32 (fun H locs hP hD hS => ?_)
      have hI := xInv_i hI (k := 123) (v := x3) (show 0 ≤ (x3 : Int32).toInt ∧ (x3 : Int32).toInt ≤ 30 from by have h9 : x3.toInt = ((i 123).toInt + 1) := tx3; omega)
      have hfi : ∀ k, k ∉ ([123] : List Nat) → (upd i 123 x3) k = i k := fr_iz hfi (by decide +kernel) (by decide +kernel)
      refine lv_iload_n hx hb dX1_addClash_35 rfl (lv_at hl 1 rfl) ?_
      refine xsT_122 hx hb hK hP hD hS (vp_in_iff.mpr (by have h9 : (i 123).toInt = (i 123).toInt := rfl; omega)) dX1_addClash_36 (fun H locs hP hD hS => ?_)
      have hI := xInv_c hI (k := 122) (j := ((i 123) : Int32).toNatClampNeg) (x := s1) (show 0 ≤ (s1 : Int32).toInt ∧ (s1 : Int32).toInt ≤ 199 from by omega)
      have hfc : ∀ k, k ∉ ([122] : List Nat) → (updA c 122 ((i 123) : Int32).toNatClampNeg s1) k = c k := fr_cz hfc (by decide +kernel) (by decide +kernel)
      refine lv_iconst (v := 1) hx hb dX1_addClash_37 (by decide +kernel) ?_
      exact rw_zret ((upd i 123 x3), q, (updA c 122 ((i 123) : Int32).toNatClampNeg s1), d) hx hb hr hlocks hS (hK.sub (tys' := []) [] rfl) hP hD rfl dX1_addClash_38 ⟨(show ((1 : Int32).toInt = 0 ∧ (s1.toInt = -9 ∨ 30 ≤ (i 123).toInt)) ∨ ((1 : Int32).toInt = 1 ∧ ¬ s1.toInt = -9 ∧ (i 123).toInt ≤ 29) from by have h9 : (1 : Int32).toInt = 1 := (by decide +kernel); omega), hI, fr_w hfi (by decide +kernel), fr_w hfc (by decide +kernel), (show (x3 : Int32).toInt = (i 123).toInt + (1 : Int32).toInt from by have h50 : x3.toInt = ((i 123).toInt + 1) := tx3; have h51 : (1 : Int32).toInt = 1 := (by decide +kernel); omega), (show ((1 : Int32).toInt = 0 ∧ ((updA c 122 ((i 123) : Int32).toNatClampNeg s1) 122) = (c 122)) ∨ ((1 : Int32).toInt = 1 ∧ ((updA c 122 ((i 123) : Int32).toNatClampNeg s1) 122) = upd (c 122) (i 123).toNatClampNeg s1) from Or.inr ⟨by decide, rfl⟩)⟩
    · have f2 := mt (ti_lt (a := (i 123).toInt) (b := 30) rfl (by decide +kernel)).mpr c2
      refine lv_iconst (v := 0) hx hb dX1_addClash_18 (by decide +kernel) ?_
      exact rw_zret (i, q, c, d) hx hb hr hlocks hS (hK.sub (tys' := []) [] rfl) hP hD rfl dX1_addClash_19 ⟨(show ((0 : Int32).toInt = 0 ∧ (s1.toInt = -9 ∨ 30 ≤ (i 123).toInt)) ∨ ((0 : Int32).toInt = 1 ∧ ¬ s1.toInt = -9 ∧ (i 123).toInt ≤ 29) from by have h9 : (0 : Int32).toInt = 0 := (by decide +kernel); omega), hI, fr_w hfi (by decide +kernel), fr_w hfc (by decide +kernel), (show ((i 123) : Int32).toInt = (i 123).toInt + (0 : Int32).toInt from by have h51 : (0 : Int32).toInt = 0 := (by decide +kernel); omega), (show ((0 : Int32).toInt = 0 ∧ (c 122) = (c 122)) ∨ ((0 : Int32).toInt = 1 ∧ (c 122) = upd (c 122) (i 123).toNatClampNeg s1) from Or.inl ⟨by decide, rfl⟩)⟩

def wm_X1_saying_e : List Cond := .code yX1_saying cX1_saying 5 (some .int) :: (([.fieldLink RX1 34 "TalePlay$Book" "flagBy" "[I", .fieldLink RX1 21 "TalePlay$Book" "cs" "[I"] : List Cond) ++ wsX10)
set_option maxHeartbeats 4000000 in
set_option maxRecDepth 100000 in
theorem x_X1_saying_e (l : Launch) (D : va_G) (sz : Nat) (sk : Value) (a : Nat → Nat) (t : Nat → ClassId) (i : Nat → Int32) (q : Int64) (c : Nat → Nat → Int32) (d : Nat → Nat → Int64) (w : Int32) (f : Int32) (v1 : Int32) (hI : xInv i c) (hw : 0 ≤ w.toInt ∧ w.toInt ≤ 29) (hf : 0 ≤ f.toInt ∧ f.toInt ≤ 5) : Met l yX1_saying wm_X1_saying_e ({ frames := 0, cells := 0, slots := 0, locals := 0 }) (va_Pc [.ref (a 112), .int w, .int f, .int v1] (yA (a 186) D sz (xwB sk a t i q c d) (xtB t))) (va_Qi (fun (r : Int32) (_ : Unit) => ((r.toInt = -9 ∨ (0 ≤ r.toInt ∧ r.toInt ≤ 199)) ∧ ((r.toInt = -9 ∧ ¬ SyX (c 120) (c 116) w.toInt f.toInt v1.toInt) ∨ (¬ r.toInt = -9 ∧ r = (c 120 (w.toInt * 6 + f.toInt).toNat) ∧ SyX (c 120) (c 116) w.toInt f.toInt v1.toInt)))) oA (ro sz)) 0 0 (ro sz) := by
  refine Met.ofW (cc := cX1_saying) (maxL := 5) (ret := (some .int)) (by decide +kernel) rfl ?_
  intro p e s m args below meth cd s₁ B hml hv
  obtain ⟨rfl, ⟨hsz, hP, hK⟩, hN, hZ⟩ := hv
  have hx := B.exec
  have hb := B.bytes
  have hr := B.returns
  have hts := atoms_spec (ws := wm_X1_saying_e) B.pre
  have hown : s.vm.findClass RX1 = some m.cls := findClass_of_methodNamed B.named
  have hlocks := B.notSynchronized
  subst hsz
  have hA : ∀ q : Nat, s.heap.size ≤ q → ro s.heap.size q := fun _ h => h
  have hS : va_S (ro s.heap.size) s.heap s.heap [] := va_S.rf
  have hl := lv_entry ([.ref (a 112), .int w, .int f, .int v1]) (n := 5) (Nat.le_of_ble_eq_true rfl)
  rw [lg_entry_eq]
  generalize (lg_sl ([.ref (a 112), .int w, .int f, .int v1]) ++ List.replicate (5 - (lg_sl ([.ref (a 112), .int w, .int f, .int v1])).length) Slot.unset).toArray = ls at hl ⊢
  have hl : lv_has ls 5 [(0, .ref (a 112)), (1, .int w), (2, .int f), (3, .int v1)] := hl
  refine lv_aload_n hx hb dX1_saying_0 rfl (lv_at hl 0 rfl) ?_
  refine xgB_B_flagBy hx hb hts (fun _ h => List.mem_cons_of_mem _ (List.mem_append_right _ h)) hown hK hP (hts (.fieldLink RX1 34 "TalePlay$Book" "flagBy" "[I") (List.mem_cons_of_mem _ (List.mem_append_left _ (List.mem_of_getElem? (i := 0) rfl)))) dX1_saying_1 ?_
  refine lv_iload_n hx hb dX1_saying_4 rfl (lv_at hl 1 rfl) ?_
  refine lv_bipush (v := 6) hx hb dX1_saying_5 (by decide +kernel) ?_
  refine lv_imul hx hb dX1_saying_7 ?_
  refine lv_topi (fun x1 ex1 => ?_)
  have tx1 := ti_mul (a := w.toInt) (b := 6) ex1 rfl (by decide +kernel) (by omega) (by omega)
  refine lv_iload_n hx hb dX1_saying_8 rfl (lv_at hl 2 rfl) ?_
  refine lv_iadd hx hb dX1_saying_9 ?_
  refine lv_topi (fun x2 ex2 => ?_)
  have tx2 := ti_add (a := (w.toInt * 6)) (b := f.toInt) ex2 tx1 rfl (by omega) (by omega)
  refine xlB_120 hx hb hK hP (vp_in_iff.mpr (by have h9 : x2.toInt = ((w.toInt * 6) + f.toInt) := tx2; omega)) dX1_saying_10 (fun x3 ex3 => ?_)
  have rx3 : x3.toInt = -9 ∨ (0 ≤ x3.toInt ∧ x3.toInt ≤ 199) := by rw [ex3]; exact hI.2 120 _
  have gx3 : (c 120 (x2 : Int32).toNatClampNeg).toInt = x3.toInt := (congrArg Int32.toInt ex3).symm
  refine lv_istore (lv' := [(4, .int x3), (0, .ref (a 112)), (1, .int w), (2, .int f), (3, .int v1)]) hx hb dX1_saying_11 hl (by decide +kernel) rfl (fun ls hl => ?_)
  refine lv_iload hx hb dX1_saying_13 (lv_at hl 0 rfl) ?_
  refine lv_bipush (v := (-9)) hx hb dX1_saying_15 (by decide +kernel) ?_
  refine lv_icmp_eq (tgt := 36) hx hb dX1_saying_17 (by decide +kernel) (fun c4 => ?_) (fun c4 => ?_)
  · have f4 := (ti_eq (a := x3.toInt) (b := (-9)) rfl (by decide +kernel)).mp c4
    refine lv_bipush (v := (-9)) hx hb dX1_saying_36 (by decide +kernel) ?_
    exact ro_iret hx hb hr hlocks hS dX1_saying_38 ⟨(show ((-9) : Int32).toInt = -9 ∨ (0 ≤ ((-9) : Int32).toInt ∧ ((-9) : Int32).toInt ≤ 199) from by have h9 : ((-9) : Int32).toInt = -9 := (by decide +kernel); omega), (show (((-9) : Int32).toInt = -9 ∧ ¬ SyX (c 120) (c 116) w.toInt f.toInt v1.toInt) ∨ (¬ ((-9) : Int32).toInt = -9 ∧ ((-9) : Int32) = (c 120 (w.toInt * 6 + f.toInt).toNat) ∧ SyX (c 120) (c 116) w.toInt f.toInt v1.toInt) from Or.inl ⟨by decide, by unfold SyX; rw [(ix_n (f := c 120) (s := x2) (show (x2 : Int32).toInt = w.toInt * 6 + f.toInt from by omega) ex3)]; omega⟩)⟩
  · have f4 := mt (ti_eq (a := x3.toInt) (b := (-9)) rfl (by decide +kernel)).mpr c4
    refine lv_aload_n hx hb dX1_saying_20 rfl (lv_at hl 1 rfl) ?_
    refine xgB_B_cs hx hb hts (fun _ h => List.mem_cons_of_mem _ (List.mem_append_right _ h)) hown hK hP (hts (.fieldLink RX1 21 "TalePlay$Book" "cs" "[I") (List.mem_cons_of_mem _ (List.mem_append_left _ (List.mem_of_getElem? (i := 1) rfl)))) dX1_saying_21 ?_
    refine lv_iload hx hb dX1_saying_24 (lv_at hl 0 rfl) ?_
    refine xlB_116 hx hb hK hP (vp_in_iff.mpr (by have h9 : x3.toInt = x3.toInt := rfl; omega)) dX1_saying_26 (fun x5 ex5 => ?_)
    have rx5 : 0 ≤ x5.toInt ∧ x5.toInt ≤ 9 := by rw [ex5]; exact hI.2 116 _
    have gx5 : (c 116 (x3 : Int32).toNatClampNeg).toInt = x5.toInt := (congrArg Int32.toInt ex5).symm
    refine lv_iload_n hx hb dX1_saying_27 rfl (lv_at hl 4 rfl) ?_
    refine lv_icmp_ne (tgt := 36) hx hb dX1_saying_28 (by decide +kernel) (fun c6 => ?_) (fun c6 => ?_)
    · have f6 := mt (ti_eq (a := x5.toInt) (b := v1.toInt) rfl rfl).mpr c6
      refine lv_bipush (v := (-9)) hx hb dX1_saying_36 (by decide +kernel) ?_
      exact ro_iret hx hb hr hlocks hS dX1_saying_38 ⟨(show ((-9) : Int32).toInt = -9 ∨ (0 ≤ ((-9) : Int32).toInt ∧ ((-9) : Int32).toInt ≤ 199) from by have h9 : ((-9) : Int32).toInt = -9 := (by decide +kernel); omega), (show (((-9) : Int32).toInt = -9 ∧ ¬ SyX (c 120) (c 116) w.toInt f.toInt v1.toInt) ∨ (¬ ((-9) : Int32).toInt = -9 ∧ ((-9) : Int32) = (c 120 (w.toInt * 6 + f.toInt).toNat) ∧ SyX (c 120) (c 116) w.toInt f.toInt v1.toInt) from Or.inl ⟨by decide, by unfold SyX; rw [(ix_n (f := c 120) (s := x2) (show (x2 : Int32).toInt = w.toInt * 6 + f.toInt from by omega) ex3)]; omega⟩)⟩
    · have f6 := (ti_eq (a := x5.toInt) (b := v1.toInt) rfl rfl).mp c6
      refine lv_iload hx hb dX1_saying_31 (lv_at hl 0 rfl) ?_
      refine lv_goto (tgt := 38) hx hb dX1_saying_33 (by decide +kernel) ?_
      exact ro_iret hx hb hr hlocks hS dX1_saying_38 ⟨(show x3.toInt = -9 ∨ (0 ≤ x3.toInt ∧ x3.toInt ≤ 199) from by omega), (show (x3.toInt = -9 ∧ ¬ SyX (c 120) (c 116) w.toInt f.toInt v1.toInt) ∨ (¬ x3.toInt = -9 ∧ x3 = (c 120 (w.toInt * 6 + f.toInt).toNat) ∧ SyX (c 120) (c 116) w.toInt f.toInt v1.toInt) from Or.inr ⟨by omega, (ix_n (f := c 120) (s := x2) (show (x2 : Int32).toInt = w.toInt * 6 + f.toInt from by omega) ex3).symm, by unfold SyX; rw [(ix_n (f := c 120) (s := x2) (show (x2 : Int32).toInt = w.toInt * 6 + f.toInt from by omega) ex3)]; omega⟩)⟩

def wm_X6_isUp_e : List Cond := .code yX6_isUp cX6_isUp 5 (some .boolean) :: (([.methodLink RX6 25 yX6_holderOf, .instanceMethod yX6_holderOf, .selects RX6 yX6_holderOf yX6_holderOf, .initialized RX6, .code yX6_holderOf cX6_holderOf 3 (some .int), .fieldLink RX6 9 "TalePlay$Scene" "cells" "[I"] : List Cond) ++ wsX60)
set_option maxRecDepth 20000 in
theorem gm_X6_isUp_e_X6_holderOf_BP_25 : GoodIn wm_X6_isUp_e (wsV RX6 25 RX6 yX6_holderOf wm_X6_holderOf_BP) := goodIn_w (List.forall_mem_append.mpr ⟨List.forall_mem_cons.mpr ⟨List.mem_cons_of_mem _ (List.mem_append_left _ (List.mem_of_getElem? (i := 0) rfl)), List.forall_mem_cons.mpr ⟨List.mem_cons_of_mem _ (List.mem_append_left _ (List.mem_of_getElem? (i := 1) rfl)), List.forall_mem_cons.mpr ⟨List.mem_cons_of_mem _ (List.mem_append_left _ (List.mem_of_getElem? (i := 2) rfl)), List.forall_mem_cons.mpr ⟨List.mem_cons_of_mem _ (List.mem_append_left _ (List.mem_of_getElem? (i := 3) rfl)), (fun _ h => absurd h List.not_mem_nil)⟩⟩⟩⟩, List.forall_mem_cons.mpr ⟨List.mem_cons_of_mem _ (List.mem_append_left _ (List.mem_of_getElem? (i := 4) rfl)), List.forall_mem_append.mpr ⟨List.forall_mem_cons.mpr ⟨List.mem_cons_of_mem _ (List.mem_append_left _ (List.mem_of_getElem? (i := 5) rfl)), (fun _ h => absurd h List.not_mem_nil)⟩, (fun _ h => List.mem_cons_of_mem _ (List.mem_append_right _ h))⟩⟩⟩) (by decide +kernel)
set_option maxHeartbeats 4000000 in
set_option maxRecDepth 100000 in
theorem x_X6_isUp_e (l : Launch) (D : va_G) (sz : Nat) (sk : Value) (a : Nat → Nat) (t : Nat → ClassId) (i : Nat → Int32) (q : Int64) (c : Nat → Nat → Int32) (d : Nat → Nat → Int64) (w1 : Int32) (w2 : Int32) (hI : xInv i c) (hw2 : 0 ≤ w2.toInt ∧ w2.toInt ≤ 29) (hw10 : 0 ≤ w1.toInt) (hs_A : Acy (hF (c 127))) : Met l yX6_isUp wm_X6_isUp_e ({ frames := 1, cells := 0, slots := 0, locals := 22 }) (va_Pc [.ref (a 126), .int w1, .int w2] (yA (a 186) D sz (xwP0 sk a t i q c d) (xtP0 t))) (va_Qi (fun (r : Int32) (_ : Unit) => ((0 ≤ r.toInt ∧ r.toInt ≤ 1) ∧ (Sm r (Ch (hF (c 127)) (hF (c 127) w2.toInt) w1.toInt)))) oA (ro sz)) 0 0 (ro sz) := by
  refine Met.ofW (cc := cX6_isUp) (maxL := 5) (ret := (some .boolean)) (by decide +kernel) rfl ?_
  intro p e s m args below meth cd s₁ B hml hv
  obtain ⟨rfl, ⟨hsz, hP, hK⟩, hN, hZ⟩ := hv
  have hx := B.exec
  have hb := B.bytes
  have hr := B.returns
  have hts := atoms_spec (ws := wm_X6_isUp_e) B.pre
  have hown : s.vm.findClass RX6 = some m.cls := findClass_of_methodNamed B.named
  have hlocks := B.notSynchronized
  subst hsz
  have hA : ∀ q : Nat, s.heap.size ≤ q → ro s.heap.size q := fun _ h => h
  have hS : va_S (ro s.heap.size) s.heap s.heap [] := va_S.rf
  have hl := lv_entry ([.ref (a 126), .int w1, .int w2]) (n := 5) (Nat.le_of_ble_eq_true rfl)
  rw [lg_entry_eq]
  generalize (lg_sl ([.ref (a 126), .int w1, .int w2]) ++ List.replicate (5 - (lg_sl ([.ref (a 126), .int w1, .int w2])).length) Slot.unset).toArray = ls at hl ⊢
  have hl : lv_has ls 5 [(0, .ref (a 126)), (1, .int w1), (2, .int w2)] := hl
  obtain ⟨rk, hrk⟩ := hs_A
  refine lv_aload_n hx hb dX6_isUp_0 rfl (lv_at hl 0 rfl) ?_
  refine lv_iload_n hx hb dX6_isUp_1 rfl (lv_at hl 2 rfl) ?_
  refine ro_calli (va_runV (As := [.int w2]) (rest := []) ⟨hx, hb, hml, hown, hts⟩ (x_X6_holderOf_BP l D s.heap.size .null a t i q c d w2 hI (show 0 ≤ w2.toInt ∧ w2.toInt ≤ 29 from by omega)) (cwV 1 hts gm_X6_isUp_e_X6_holderOf_BP_25 rfl rfl rfl (by decide +kernel) ⟨Nat.le_of_ble_eq_true rfl, Nat.le_of_ble_eq_true rfl⟩) (yA_V hN (xZ_k hZ hS hA) hK hP (ci := 6) (q0 := 0) rfl rfl) rfl rfl hl.1 rfl (lv_room (Nat.le_of_ble_eq_true rfl)) dX6_isUp_2 ⟨Nat.le_of_ble_eq_true rfl, Nat.le_of_ble_eq_true rfl⟩) hS hA hP (fun r1 u1 H locs hw1 hP hS => ?_)
  have hw1 : ((r1.toInt = -9 ∧ (c 127 w2.toNatClampNeg).toInt % 256 = 255) ∨ (0 ≤ r1.toInt ∧ r1.toInt ≤ 29 ∧ ¬ (c 127 w2.toNatClampNeg).toInt % 256 = 255 ∧ r1.toInt = (c 127 w2.toNatClampNeg).toInt / 8 % 32)) := hw1
  have hh0 : hF (c 127) w2.toInt = r1.toInt := hF_at (by omega) hw1
  have hk0 := hrk.1 r1.toInt
  refine lv_istore_n (lv' := [(3, .int r1), (0, .ref (a 126)), (1, .int w1), (2, .int w2)]) hx hb dX6_isUp_5 rfl hl (by decide +kernel) rfl (fun ls hl => ?_)
  refine lv_iconst (v := 0) hx hb dX6_isUp_6 (by decide +kernel) ?_
  refine lv_istore (lv' := [(4, .int 0), (3, .int r1), (0, .ref (a 126)), (1, .int w1), (2, .int w2)]) hx hb dX6_isUp_7 hl (by decide +kernel) rfl (fun ls hl => ?_)
  have lp2 : ∀ (fu : Nat) (y2_4 : Int32) (y2_3 : Int32), (0 ≤ y2_4.toInt ∧ y2_4.toInt ≤ 30) → (y2_3.toInt = -9 ∨ (0 ≤ y2_3.toInt ∧ y2_3.toInt ≤ 29)) → (Ch (hF (c 127)) (hF (c 127) w2.toInt) w1.toInt ↔ Ch (hF (c 127)) y2_3.toInt w1.toInt) → (y2_3.toInt = -9 ∨ (rk y2_3.toInt : Int) + y2_4.toInt ≤ 29) → (30 - y2_4.toInt).toNat < fu → ∀ (H : Heap) (locs : List Loc) (ls : Array Slot), va_P D vwCl (xwP0 sk a t i q c d) H → va_S (ro s.heap.size) s.heap H locs → lv_has ls 5 [(4, .int y2_4), (3, .int y2_3), (0, .ref (a 126)), (1, .int w1), (2, .int w2)] → W p l e (headSpec wm_X6_isUp_e ({ frames := 1, cells := 0, slots := 0, locals := 22 })).room s m ([.ref (a 126), .int w1, .int w2] : List Value).toArray below meth cd H locs 0 0 (MQ below (va_Qi (fun (r : Int32) (_ : Unit) => ((0 ≤ r.toInt ∧ r.toInt ≤ 1) ∧ (Sm r (Ch (hF (c 127)) (hF (c 127) w2.toInt) w1.toInt)))) oA (ro s.heap.size)) ([.ref (a 126), .int w1, .int w2] : List Value).toArray s 0 0 (ro s.heap.size)) (F0 m 9 ls []) := by
    intro fu
    induction fu with
    | zero => intro y2_4 y2_3 hy2_4 hy2_3 hz2_0 hz2_1 hm; exact absurd hm (Nat.not_lt_zero _)
    | succ fu ih =>
      intro y2_4 y2_3 hy2_4 hy2_3 hz2_0 hz2_1 hm H locs ls hP hS hl
      have ih2 := ih
      refine lv_iload hx hb dX6_isUp_9 (lv_at hl 0 rfl) ?_
      refine lv_bipush (v := 30) hx hb dX6_isUp_11 (by decide +kernel) ?_
      refine lv_icmp_ge (tgt := 41) hx hb dX6_isUp_13 (by decide +kernel) (fun c3 => ?_) (fun c3 => ?_)
      · have f3 := (ti_le (a := 30) (b := y2_4.toInt) (by decide +kernel) rfl).mp c3
        refine lv_iconst (v := 0) hx hb dX6_isUp_41 (by decide +kernel) ?_
        exact ro_zret hx hb hr hlocks hS rfl dX6_isUp_42 ⟨(show 0 ≤ (0 : Int32).toInt ∧ (0 : Int32).toInt ≤ 1 from by have h9 : (0 : Int32).toInt = 0 := (by decide +kernel); omega), (show Sm (0 : Int32) (Ch (hF (c 127)) (hF (c 127) w2.toInt) w1.toInt) from sm_0 (fun h9 => by have h8 := hz2_0.mp h9; rw [show y2_3.toInt = -9 by omega] at h8; have h7 := Ch_nd hF_9 h8; omega))⟩
      · have f3 := mt (ti_le (a := 30) (b := y2_4.toInt) (by decide +kernel) rfl).mpr c3
        refine lv_iload_n hx hb dX6_isUp_16 rfl (lv_at hl 1 rfl) ?_
        refine lv_bipush (v := (-9)) hx hb dX6_isUp_17 (by decide +kernel) ?_
        refine lv_icmp_eq (tgt := 41) hx hb dX6_isUp_19 (by decide +kernel) (fun c4 => ?_) (fun c4 => ?_)
        · have f4 := (ti_eq (a := y2_3.toInt) (b := (-9)) rfl (by decide +kernel)).mp c4
          refine lv_iconst (v := 0) hx hb dX6_isUp_41 (by decide +kernel) ?_
          exact ro_zret hx hb hr hlocks hS rfl dX6_isUp_42 ⟨(show 0 ≤ (0 : Int32).toInt ∧ (0 : Int32).toInt ≤ 1 from by have h9 : (0 : Int32).toInt = 0 := (by decide +kernel); omega), (show Sm (0 : Int32) (Ch (hF (c 127)) (hF (c 127) w2.toInt) w1.toInt) from sm_0 (fun h9 => by have h8 := hz2_0.mp h9; rw [show y2_3.toInt = -9 by omega] at h8; have h7 := Ch_nd hF_9 h8; omega))⟩
        · have f4 := mt (ti_eq (a := y2_3.toInt) (b := (-9)) rfl (by decide +kernel)).mpr c4
          refine lv_iload_n hx hb dX6_isUp_22 rfl (lv_at hl 1 rfl) ?_
          refine lv_iload_n hx hb dX6_isUp_23 rfl (lv_at hl 3 rfl) ?_
          refine lv_icmp_ne (tgt := 29) hx hb dX6_isUp_24 (by decide +kernel) (fun c5 => ?_) (fun c5 => ?_)
          · have f5 := mt (ti_eq (a := y2_3.toInt) (b := w1.toInt) rfl rfl).mpr c5
            refine lv_aload_n hx hb dX6_isUp_29 rfl (lv_at hl 2 rfl) ?_
            refine lv_iload_n hx hb dX6_isUp_30 rfl (lv_at hl 1 rfl) ?_
            refine ro_calli (va_runV (As := [.int y2_3]) (rest := []) ⟨hx, hb, hml, hown, hts⟩ (x_X6_holderOf_BP l D H.size .null a t i q c d y2_3 hI (show 0 ≤ y2_3.toInt ∧ y2_3.toInt ≤ 29 from by omega)) (cwV 1 hts gm_X6_isUp_e_X6_holderOf_BP_25 rfl rfl rfl (by decide +kernel) ⟨Nat.le_of_ble_eq_true rfl, Nat.le_of_ble_eq_true rfl⟩) (yA_V hN (xZ_k hZ hS hA) hK hP (ci := 6) (q0 := 0) rfl rfl) rfl rfl hl.1 rfl (lv_room (Nat.le_of_ble_eq_true rfl)) dX6_isUp_31 ⟨Nat.le_of_ble_eq_true rfl, Nat.le_of_ble_eq_true rfl⟩) hS hA hP (fun r6 u6 H locs hw6 hP hS => ?_)
            have hw6 : ((r6.toInt = -9 ∧ (c 127 y2_3.toNatClampNeg).toInt % 256 = 255) ∨ (0 ≤ r6.toInt ∧ r6.toInt ≤ 29 ∧ ¬ (c 127 y2_3.toNatClampNeg).toInt % 256 = 255 ∧ r6.toInt = (c 127 y2_3.toNatClampNeg).toInt / 8 % 32)) := hw6
            have hh1 : hF (c 127) y2_3.toInt = r6.toInt := hF_at (by omega) hw6
            have hk1 : r6.toInt = -9 ∨ rk r6.toInt < rk y2_3.toInt := by by_cases q9 : r6.toInt = -9; (· exact Or.inl q9); (· have h8 := hrk.2 y2_3.toInt (by omega) (by omega) (by rw [hh1]; exact q9); rw [hh1] at h8; exact Or.inr h8)
            refine lv_istore_n (lv' := [(3, .int r6), (4, .int y2_4), (0, .ref (a 126)), (1, .int w1), (2, .int w2)]) hx hb dX6_isUp_34 rfl hl (by decide +kernel) rfl (fun ls hl => ?_)
            obtain ⟨x7, ex7⟩ : ∃ y : Int32, y = y2_4 + 1 := ⟨_, rfl⟩
            have tx7 := ti_add (a := y2_4.toInt) (b := 1) ex7 rfl (by decide +kernel) (by omega) (by omega)
            refine lv_iinc (v := x7) (lv' := [(4, .int x7), (3, .int r6), (0, .ref (a 126)), (1, .int w1), (2, .int w2)]) hx hb dX6_isUp_35 hl (k := 1) rfl (by rw [ex7]; rfl) (by decide +kernel) rfl (fun ls hl => ?_)
            refine lv_goto (tgt := 9) hx hb dX6_isUp_38 (by decide +kernel) ?_
            exact ih2 x7 r6 (show 0 ≤ x7.toInt ∧ x7.toInt ≤ 30 from by have h50 : x7.toInt = (y2_4.toInt + 1) := tx7; omega) (show r6.toInt = -9 ∨ (0 ≤ r6.toInt ∧ r6.toInt ≤ 29) from by have h50 : x7.toInt = (y2_4.toInt + 1) := tx7; omega) (show Ch (hF (c 127)) (hF (c 127) w2.toInt) w1.toInt ↔ Ch (hF (c 127)) r6.toInt w1.toInt from hz2_0.trans (by rw [Ch_nx (f := hF (c 127)) (x := y2_3.toInt) (by omega), hh1])) (show r6.toInt = -9 ∨ (rk r6.toInt : Int) + x7.toInt ≤ 29 from by have h50 : x7.toInt = (y2_4.toInt + 1) := tx7; omega) (by have h50 : x7.toInt = (y2_4.toInt + 1) := tx7; omega) _ _ _ hP hS (lv_sub hl [0, 1, 2, 3, 4] rfl)
          · have f5 := (ti_eq (a := y2_3.toInt) (b := w1.toInt) rfl rfl).mp c5
            refine lv_iconst (v := 1) hx hb dX6_isUp_27 (by decide +kernel) ?_
            exact ro_zret hx hb hr hlocks hS rfl dX6_isUp_28 ⟨(show 0 ≤ (1 : Int32).toInt ∧ (1 : Int32).toInt ≤ 1 from by have h9 : (1 : Int32).toInt = 1 := (by decide +kernel); omega), (show Sm (1 : Int32) (Ch (hF (c 127)) (hF (c 127) w2.toInt) w1.toInt) from sm_1 (hz2_0.mpr (by rw [show y2_3.toInt = w1.toInt by omega]; exact Ch_rf)))⟩
  exact lp2 _ (0 : Int32) r1 (show 0 ≤ (0 : Int32).toInt ∧ (0 : Int32).toInt ≤ 30 from by have h50 : (0 : Int32).toInt = 0 := (by decide +kernel); omega) (show r1.toInt = -9 ∨ (0 ≤ r1.toInt ∧ r1.toInt ≤ 29) from by have h50 : (0 : Int32).toInt = 0 := (by decide +kernel); omega) (show Ch (hF (c 127)) (hF (c 127) w2.toInt) w1.toInt ↔ Ch (hF (c 127)) r1.toInt w1.toInt from by rw [hh0]) (show r1.toInt = -9 ∨ (rk r1.toInt : Int) + (0 : Int32).toInt ≤ 29 from by have h50 : (0 : Int32).toInt = 0 := (by decide +kernel); omega) (Nat.lt_succ_self _) _ _ _ hP hS (lv_sub hl [0, 1, 2, 3, 4] rfl)

def wm_X1_isPlaceClashing_e : List Cond := .code yX1_isPlaceClashing cX1_isPlaceClashing 4 (some .boolean) :: ((([.fieldLink RX1 52 "TalePlay$Book" "places" "LTalePlay$Scene;", .methodLink RX1 134 yX6_isUp, .instanceMethod yX6_isUp, .selects RX6 yX6_isUp yX6_isUp, .initialized RX6, .code yX6_isUp cX6_isUp 5 (some .boolean), .methodLink RX6 25 yX6_holderOf, .instanceMethod yX6_holderOf, .selects RX6 yX6_holderOf yX6_holderOf, .code yX6_holderOf cX6_holderOf 3 (some .int), .fieldLink RX6 9 "TalePlay$Scene" "cells" "[I", .methodLink RX1 140 yX1_saying, .instanceMethod yX1_saying, .selects RX1 yX1_saying yX1_saying, .initialized RX1, .code yX1_saying cX1_saying 5 (some .int)] : List Cond) ++ ([.fieldLink RX1 34 "TalePlay$Book" "flagBy" "[I", .fieldLink RX1 21 "TalePlay$Book" "cs" "[I", .methodLink RX1 121 yX1_addClash, .instanceMethod yX1_addClash, .selects RX1 yX1_addClash yX1_addClash, .code yX1_addClash cX1_addClash 2 (some .boolean), .fieldLink RX1 118 "TalePlay$Book" "clashes" "I", .fieldLink RX1 40 "TalePlay$Book" "clashRow" "[I", .methodLink RX1 137 yX1_addChain, .instanceMethod yX1_addChain, .selects RX1 yX1_addChain yX1_addChain, .code yX1_addChain cX1_addChain 5 none, .fieldLink RX1 28 "TalePlay$Book" "placeBy" "[I", .methodLink RX1 143 yX6_holderOf] : List Cond)) ++ wsX10 ++ wsX60)
set_option maxRecDepth 20000 in
theorem gm_X1_isPlaceClashing_e_X6_isUp_e_134 : GoodIn wm_X1_isPlaceClashing_e (wsV RX1 134 RX6 yX6_isUp wm_X6_isUp_e) := goodIn_w (List.forall_mem_append.mpr ⟨List.forall_mem_cons.mpr ⟨List.mem_cons_of_mem _ (List.mem_append_left _ (List.mem_append_left _ (List.mem_append_left _ (List.mem_of_getElem? (i := 1) rfl)))), List.forall_mem_cons.mpr ⟨List.mem_cons_of_mem _ (List.mem_append_left _ (List.mem_append_left _ (List.mem_append_left _ (List.mem_of_getElem? (i := 2) rfl)))), List.forall_mem_cons.mpr ⟨List.mem_cons_of_mem _ (List.mem_append_left _ (List.mem_append_left _ (List.mem_append_left _ (List.mem_of_getElem? (i := 3) rfl)))), List.forall_mem_cons.mpr ⟨List.mem_cons_of_mem _ (List.mem_append_left _ (List.mem_append_left _ (List.mem_append_left _ (List.mem_of_getElem? (i := 4) rfl)))), (fun _ h => absurd h List.not_mem_nil)⟩⟩⟩⟩, List.forall_mem_cons.mpr ⟨List.mem_cons_of_mem _ (List.mem_append_left _ (List.mem_append_left _ (List.mem_append_left _ (List.mem_of_getElem? (i := 5) rfl)))), List.forall_mem_append.mpr ⟨List.forall_mem_cons.mpr ⟨List.mem_cons_of_mem _ (List.mem_append_left _ (List.mem_append_left _ (List.mem_append_left _ (List.mem_of_getElem? (i := 6) rfl)))), List.forall_mem_cons.mpr ⟨List.mem_cons_of_mem _ (List.mem_append_left _ (List.mem_append_left _ (List.mem_append_left _ (List.mem_of_getElem? (i := 7) rfl)))), List.forall_mem_cons.mpr ⟨List.mem_cons_of_mem _ (List.mem_append_left _ (List.mem_append_left _ (List.mem_append_left _ (List.mem_of_getElem? (i := 8) rfl)))), List.forall_mem_cons.mpr ⟨List.mem_cons_of_mem _ (List.mem_append_left _ (List.mem_append_left _ (List.mem_append_left _ (List.mem_of_getElem? (i := 4) rfl)))), List.forall_mem_cons.mpr ⟨List.mem_cons_of_mem _ (List.mem_append_left _ (List.mem_append_left _ (List.mem_append_left _ (List.mem_of_getElem? (i := 9) rfl)))), List.forall_mem_cons.mpr ⟨List.mem_cons_of_mem _ (List.mem_append_left _ (List.mem_append_left _ (List.mem_append_left _ (List.mem_of_getElem? (i := 10) rfl)))), (fun _ h => absurd h List.not_mem_nil)⟩⟩⟩⟩⟩⟩, (fun _ h => List.mem_cons_of_mem _ (List.mem_append_right _ h))⟩⟩⟩) (by decide +kernel)
set_option maxRecDepth 20000 in
theorem gm_X1_isPlaceClashing_e_X1_saying_e_140 : GoodIn wm_X1_isPlaceClashing_e (wsV RX1 140 RX1 yX1_saying wm_X1_saying_e) := goodIn_w (List.forall_mem_append.mpr ⟨List.forall_mem_cons.mpr ⟨List.mem_cons_of_mem _ (List.mem_append_left _ (List.mem_append_left _ (List.mem_append_left _ (List.mem_of_getElem? (i := 11) rfl)))), List.forall_mem_cons.mpr ⟨List.mem_cons_of_mem _ (List.mem_append_left _ (List.mem_append_left _ (List.mem_append_left _ (List.mem_of_getElem? (i := 12) rfl)))), List.forall_mem_cons.mpr ⟨List.mem_cons_of_mem _ (List.mem_append_left _ (List.mem_append_left _ (List.mem_append_left _ (List.mem_of_getElem? (i := 13) rfl)))), List.forall_mem_cons.mpr ⟨List.mem_cons_of_mem _ (List.mem_append_left _ (List.mem_append_left _ (List.mem_append_left _ (List.mem_of_getElem? (i := 14) rfl)))), (fun _ h => absurd h List.not_mem_nil)⟩⟩⟩⟩, List.forall_mem_cons.mpr ⟨List.mem_cons_of_mem _ (List.mem_append_left _ (List.mem_append_left _ (List.mem_append_left _ (List.mem_of_getElem? (i := 15) rfl)))), List.forall_mem_append.mpr ⟨List.forall_mem_cons.mpr ⟨List.mem_cons_of_mem _ (List.mem_append_left _ (List.mem_append_left _ (List.mem_append_right _ (List.mem_of_getElem? (i := 0) rfl)))), List.forall_mem_cons.mpr ⟨List.mem_cons_of_mem _ (List.mem_append_left _ (List.mem_append_left _ (List.mem_append_right _ (List.mem_of_getElem? (i := 1) rfl)))), (fun _ h => absurd h List.not_mem_nil)⟩⟩, (fun _ h => List.mem_cons_of_mem _ (List.mem_append_left _ (List.mem_append_right _ h)))⟩⟩⟩) (by decide +kernel)
set_option maxRecDepth 20000 in
theorem gm_X1_isPlaceClashing_e_X1_addClash_e_121 : GoodIn wm_X1_isPlaceClashing_e (wsV RX1 121 RX1 yX1_addClash wm_X1_addClash_e) := goodIn_w (List.forall_mem_append.mpr ⟨List.forall_mem_cons.mpr ⟨List.mem_cons_of_mem _ (List.mem_append_left _ (List.mem_append_left _ (List.mem_append_right _ (List.mem_of_getElem? (i := 2) rfl)))), List.forall_mem_cons.mpr ⟨List.mem_cons_of_mem _ (List.mem_append_left _ (List.mem_append_left _ (List.mem_append_right _ (List.mem_of_getElem? (i := 3) rfl)))), List.forall_mem_cons.mpr ⟨List.mem_cons_of_mem _ (List.mem_append_left _ (List.mem_append_left _ (List.mem_append_right _ (List.mem_of_getElem? (i := 4) rfl)))), List.forall_mem_cons.mpr ⟨List.mem_cons_of_mem _ (List.mem_append_left _ (List.mem_append_left _ (List.mem_append_left _ (List.mem_of_getElem? (i := 14) rfl)))), (fun _ h => absurd h List.not_mem_nil)⟩⟩⟩⟩, List.forall_mem_cons.mpr ⟨List.mem_cons_of_mem _ (List.mem_append_left _ (List.mem_append_left _ (List.mem_append_right _ (List.mem_of_getElem? (i := 5) rfl)))), List.forall_mem_append.mpr ⟨List.forall_mem_cons.mpr ⟨List.mem_cons_of_mem _ (List.mem_append_left _ (List.mem_append_left _ (List.mem_append_right _ (List.mem_of_getElem? (i := 6) rfl)))), List.forall_mem_cons.mpr ⟨List.mem_cons_of_mem _ (List.mem_append_left _ (List.mem_append_left _ (List.mem_append_right _ (List.mem_of_getElem? (i := 7) rfl)))), (fun _ h => absurd h List.not_mem_nil)⟩⟩, (fun _ h => List.mem_cons_of_mem _ (List.mem_append_left _ (List.mem_append_right _ h)))⟩⟩⟩) (by decide +kernel)
set_option maxRecDepth 20000 in
theorem gm_X1_isPlaceClashing_e_X1_addChain_137 : GoodIn wm_X1_isPlaceClashing_e (wsV RX1 137 RX1 yX1_addChain wm_X1_addChain) := goodIn_w (List.forall_mem_append.mpr ⟨List.forall_mem_cons.mpr ⟨List.mem_cons_of_mem _ (List.mem_append_left _ (List.mem_append_left _ (List.mem_append_right _ (List.mem_of_getElem? (i := 8) rfl)))), List.forall_mem_cons.mpr ⟨List.mem_cons_of_mem _ (List.mem_append_left _ (List.mem_append_left _ (List.mem_append_right _ (List.mem_of_getElem? (i := 9) rfl)))), List.forall_mem_cons.mpr ⟨List.mem_cons_of_mem _ (List.mem_append_left _ (List.mem_append_left _ (List.mem_append_right _ (List.mem_of_getElem? (i := 10) rfl)))), List.forall_mem_cons.mpr ⟨List.mem_cons_of_mem _ (List.mem_append_left _ (List.mem_append_left _ (List.mem_append_left _ (List.mem_of_getElem? (i := 14) rfl)))), (fun _ h => absurd h List.not_mem_nil)⟩⟩⟩⟩, List.forall_mem_cons.mpr ⟨List.mem_cons_of_mem _ (List.mem_append_left _ (List.mem_append_left _ (List.mem_append_right _ (List.mem_of_getElem? (i := 11) rfl)))), List.forall_mem_append.mpr ⟨List.forall_mem_append.mpr ⟨List.forall_mem_cons.mpr ⟨List.mem_cons_of_mem _ (List.mem_append_left _ (List.mem_append_left _ (List.mem_append_right _ (List.mem_of_getElem? (i := 12) rfl)))), List.forall_mem_cons.mpr ⟨List.mem_cons_of_mem _ (List.mem_append_left _ (List.mem_append_left _ (List.mem_append_right _ (List.mem_of_getElem? (i := 2) rfl)))), List.forall_mem_cons.mpr ⟨List.mem_cons_of_mem _ (List.mem_append_left _ (List.mem_append_left _ (List.mem_append_right _ (List.mem_of_getElem? (i := 3) rfl)))), List.forall_mem_cons.mpr ⟨List.mem_cons_of_mem _ (List.mem_append_left _ (List.mem_append_left _ (List.mem_append_right _ (List.mem_of_getElem? (i := 4) rfl)))), List.forall_mem_cons.mpr ⟨List.mem_cons_of_mem _ (List.mem_append_left _ (List.mem_append_left _ (List.mem_append_left _ (List.mem_of_getElem? (i := 14) rfl)))), List.forall_mem_cons.mpr ⟨List.mem_cons_of_mem _ (List.mem_append_left _ (List.mem_append_left _ (List.mem_append_right _ (List.mem_of_getElem? (i := 5) rfl)))), List.forall_mem_cons.mpr ⟨List.mem_cons_of_mem _ (List.mem_append_left _ (List.mem_append_left _ (List.mem_append_right _ (List.mem_of_getElem? (i := 6) rfl)))), List.forall_mem_cons.mpr ⟨List.mem_cons_of_mem _ (List.mem_append_left _ (List.mem_append_left _ (List.mem_append_right _ (List.mem_of_getElem? (i := 7) rfl)))), List.forall_mem_cons.mpr ⟨List.mem_cons_of_mem _ (List.mem_append_left _ (List.mem_append_left _ (List.mem_append_left _ (List.mem_of_getElem? (i := 0) rfl)))), List.forall_mem_cons.mpr ⟨List.mem_cons_of_mem _ (List.mem_append_left _ (List.mem_append_left _ (List.mem_append_right _ (List.mem_of_getElem? (i := 13) rfl)))), List.forall_mem_cons.mpr ⟨List.mem_cons_of_mem _ (List.mem_append_left _ (List.mem_append_left _ (List.mem_append_left _ (List.mem_of_getElem? (i := 7) rfl)))), List.forall_mem_cons.mpr ⟨List.mem_cons_of_mem _ (List.mem_append_left _ (List.mem_append_left _ (List.mem_append_left _ (List.mem_of_getElem? (i := 8) rfl)))), List.forall_mem_cons.mpr ⟨List.mem_cons_of_mem _ (List.mem_append_left _ (List.mem_append_left _ (List.mem_append_left _ (List.mem_of_getElem? (i := 4) rfl)))), List.forall_mem_cons.mpr ⟨List.mem_cons_of_mem _ (List.mem_append_left _ (List.mem_append_left _ (List.mem_append_left _ (List.mem_of_getElem? (i := 9) rfl)))), List.forall_mem_cons.mpr ⟨List.mem_cons_of_mem _ (List.mem_append_left _ (List.mem_append_left _ (List.mem_append_left _ (List.mem_of_getElem? (i := 10) rfl)))), (fun _ h => absurd h List.not_mem_nil)⟩⟩⟩⟩⟩⟩⟩⟩⟩⟩⟩⟩⟩⟩⟩, (fun _ h => List.mem_cons_of_mem _ (List.mem_append_left _ (List.mem_append_right _ h)))⟩, (fun _ h => List.mem_cons_of_mem _ (List.mem_append_right _ h))⟩⟩⟩) (by decide +kernel)
set_option maxHeartbeats 4000000 in
set_option maxRecDepth 100000 in
theorem x_X1_isPlaceClashing_e (l : Launch) (D : va_G) (sz : Nat) (sk : Value) (a : Nat → Nat) (t : Nat → ClassId) (i : Nat → Int32) (q : Int64) (c : Nat → Nat → Int32) (d : Nat → Nat → Int64) (f : Int32) (w1 : Int32) (w2 : Int32) (hI : xInv i c) (hw1 : 0 ≤ w1.toInt ∧ w1.toInt ≤ 29) (hw2 : 0 ≤ w2.toInt ∧ w2.toInt ≤ 29) (hc0 : (i 123).toInt = 0) (hs_A : Acy (hF (c 127))) : Met l yX1_isPlaceClashing wm_X1_isPlaceClashing_e ({ frames := 2, cells := 0, slots := 0, locals := 46 }) (va_Pc [.ref (a 112), .int f, .int w1, .int w2] (yB (a 186) D sz (xwT sk a t i q c d) (xtT t))) (va_Qi (fun (r : Int32) (u : MS) => ((0 ≤ r.toInt ∧ r.toInt ≤ 1) ∧ (Sm r (PlX (c 127) (c 120) (c 116) f.toInt w1.toInt w2.toInt))) ∧ xInv u.1 u.2.2.1 ∧ (∀ k, k ∉ ([123] : List Nat) → u.1 k = i k) ∧ (∀ k, k ∉ ([122] : List Nat) → u.2.2.1 k = c k)) (oC D (va_A (xwT sk a t i q c d) sz) (fun u : MS => xwT sk a t u.1 u.2.1 u.2.2.1 u.2.2.2) (fun _ => [])) (va_A (xwT sk a t i q c d) sz)) 0 0 (va_A (xwT sk a t i q c d) sz) := by
  refine Met.ofW (cc := cX1_isPlaceClashing) (maxL := 4) (ret := (some .boolean)) (by decide +kernel) rfl ?_
  intro p e s m args below meth cd s₁ B hml hv
  obtain ⟨rfl, ⟨hsz, hP, hK, hD0⟩, hN, hZ, hBW⟩ := hv
  have hx := B.exec
  have hb := B.bytes
  have hr := B.returns
  have hts := atoms_spec (ws := wm_X1_isPlaceClashing_e) B.pre
  have hown : s.vm.findClass RX1 = some m.cls := findClass_of_methodNamed B.named
  have hlocks := B.notSynchronized
  subst hsz
  have hD := hD0.self (sz := s.heap.size)
  have hZ := xZ_A hZ hP hBW
  generalize hAe : va_A (xwT sk a t i q c d) s.heap.size = A at hD hZ ⊢
  have hA : ∀ q : Nat, s.heap.size ≤ q → A q := fun q h => by rw [← hAe]; exact Or.inr h
  have hS : va_S A s.heap s.heap [] := va_S.rf
  have hfi : ∀ k, k ∉ ([] : List Nat) → i k = i k := fun _ _ => rfl
  have hfc : ∀ k, k ∉ ([] : List Nat) → c k = c k := fun _ _ => rfl
  have hl := lv_entry ([.ref (a 112), .int f, .int w1, .int w2]) (n := 4) (Nat.le_of_ble_eq_true rfl)
  rw [lg_entry_eq]
  generalize (lg_sl ([.ref (a 112), .int f, .int w1, .int w2]) ++ List.replicate (4 - (lg_sl ([.ref (a 112), .int f, .int w1, .int w2])).length) Slot.unset).toArray = ls at hl ⊢
  have hl : lv_has ls 4 [(0, .ref (a 112)), (1, .int f), (2, .int w1), (3, .int w2)] := hl
  have rb123_i : 0 ≤ (i 123).toInt ∧ (i 123).toInt ≤ 30 := hI.1 123
  refine lv_iload_n hx hb dX1_isPlaceClashing_0 rfl (lv_at hl 2 rfl) ?_
  refine lv_iload_n hx hb dX1_isPlaceClashing_1 rfl (lv_at hl 3 rfl) ?_
  refine lv_icmp_ne (tgt := 7) hx hb dX1_isPlaceClashing_2 (by decide +kernel) (fun c1 => ?_) (fun c1 => ?_)
  · have f1 := mt (ti_eq (a := w1.toInt) (b := w2.toInt) rfl rfl).mpr c1
    refine lv_aload_n hx hb dX1_isPlaceClashing_7 rfl (lv_at hl 0 rfl) ?_
    refine xgT_B_places hx hb hts (fun _ h => List.mem_cons_of_mem _ (List.mem_append_left _ (List.mem_append_right _ h))) hown hK hP (hts (.fieldLink RX1 52 "TalePlay$Book" "places" "LTalePlay$Scene;") (List.mem_cons_of_mem _ (List.mem_append_left _ (List.mem_append_left _ (List.mem_append_left _ (List.mem_of_getElem? (i := 0) rfl)))))) dX1_isPlaceClashing_8 ?_
    refine lv_iload_n hx hb dX1_isPlaceClashing_11 rfl (lv_at hl 2 rfl) ?_
    refine lv_iload_n hx hb dX1_isPlaceClashing_12 rfl (lv_at hl 3 rfl) ?_
    refine ro_calli (va_runV (As := [.int w1, .int w2]) (rest := []) ⟨hx, hb, hml, hown, hts⟩ (x_X6_isUp_e l D s.heap.size .null a t i q c d w1 w2 hI (show 0 ≤ w2.toInt ∧ w2.toInt ≤ 29 from by omega) (show 0 ≤ w1.toInt from by omega) hs_A) (cwV 2 hts gm_X1_isPlaceClashing_e_X6_isUp_e_134 rfl rfl rfl (by decide +kernel) ⟨Nat.le_of_ble_eq_true rfl, Nat.le_of_ble_eq_true rfl⟩) (yA_V hN (xZ_k hZ hS hA) (xkT_P0 hK) (xuT_P0 (sk := sk) hP) (ci := 6) (q0 := 0) rfl rfl) rfl rfl hl.1 rfl (lv_room (Nat.le_of_ble_eq_true rfl)) dX1_isPlaceClashing_13 ⟨Nat.le_of_ble_eq_true rfl, Nat.le_of_ble_eq_true rfl⟩) hS hA hP (fun r2 u2 H locs hw2 hP hS => ?_)
    have hw2 : ((0 ≤ r2.toInt ∧ r2.toInt ≤ 1) ∧ (Sm r2 (Ch (hF (c 127)) (hF (c 127) w2.toInt) w1.toInt))) := hw2
    obtain ⟨hw2, hr2_0⟩ := hw2
    have hr2_0 : Sm r2 (Ch (hF (c 127)) (hF (c 127) w2.toInt) w1.toInt) := hr2_0
    refine lv_if_eq (tgt := 27) hx hb dX1_isPlaceClashing_16 (by decide +kernel) (fun c3 => ?_) (fun c3 => ?_)
    · have f3 := (ti_eq (a := r2.toInt) (b := 0) rfl (by decide +kernel)).mp c3
      have s3 := sm_f hr2_0 c3
      refine lv_iload_n hx hb dX1_isPlaceClashing_27 rfl (lv_at hl 1 rfl) ?_
      refine lv_iconst (v := 3) hx hb dX1_isPlaceClashing_28 (by decide +kernel) ?_
      refine lv_icmp_ne (tgt := 50) hx hb dX1_isPlaceClashing_29 (by decide +kernel) (fun c4 => ?_) (fun c4 => ?_)
      · have f4 := mt (ti_eq (a := f.toInt) (b := 3) rfl (by decide +kernel)).mpr c4
        refine lv_iconst (v := 0) hx hb dX1_isPlaceClashing_50 (by decide +kernel) ?_
        exact rw_zret (i, q, c, d) hx hb hr hlocks hS (hK.sub (tys' := []) [] rfl) hP hD rfl dX1_isPlaceClashing_51 ⟨⟨(show 0 ≤ (0 : Int32).toInt ∧ (0 : Int32).toInt ≤ 1 from by have h9 : (0 : Int32).toInt = 0 := (by decide +kernel); omega), (show Sm (0 : Int32) (PlX (c 127) (c 120) (c 116) f.toInt w1.toInt w2.toInt) from sm_0 (fun h9 => by rcases h9 with h9 | h9 | ⟨h7, h9⟩; (· omega); (· exact s3 h9); (· first | (exfalso; omega; done))))⟩, hI, fr_w hfi (by decide +kernel), fr_w hfc (by decide +kernel)⟩
      · have f4 := (ti_eq (a := f.toInt) (b := 3) rfl (by decide +kernel)).mp c4
        refine lv_aload_n hx hb dX1_isPlaceClashing_32 rfl (lv_at hl 0 rfl) ?_
        refine lv_aload_n hx hb dX1_isPlaceClashing_33 rfl (lv_at hl 0 rfl) ?_
        refine lv_iload_n hx hb dX1_isPlaceClashing_34 rfl (lv_at hl 2 rfl) ?_
        refine lv_iconst (v := 4) hx hb dX1_isPlaceClashing_35 (by decide +kernel) ?_
        refine lv_iconst (v := 0) hx hb dX1_isPlaceClashing_36 (by decide +kernel) ?_
        refine ro_calli (va_runV (As := [.int w1, .int 4, .int 0]) (rest := [.ref (a 112)]) ⟨hx, hb, hml, hown, hts⟩ (x_X1_saying_e l D H.size .null a t i q c d w1 4 0 hI (show 0 ≤ w1.toInt ∧ w1.toInt ≤ 29 from by have h91 : (4 : Int32).toInt = 4 := (by decide +kernel); have h92 : (0 : Int32).toInt = 0 := (by decide +kernel); omega) (show 0 ≤ 4 ∧ 4 ≤ 5 from by have h91 : (4 : Int32).toInt = 4 := (by decide +kernel); have h92 : (0 : Int32).toInt = 0 := (by decide +kernel); omega)) (cwV 3 hts gm_X1_isPlaceClashing_e_X1_saying_e_140 rfl rfl rfl (by decide +kernel) ⟨Nat.le_of_ble_eq_true rfl, Nat.le_of_ble_eq_true rfl⟩) (yA_V hN (xZ_k hZ hS hA) (xkT_B hK) (xuT_B (sk := sk) hP) (ci := 1) (q0 := 6) rfl rfl) rfl rfl hl.1 rfl (lv_room (Nat.le_of_ble_eq_true rfl)) dX1_isPlaceClashing_37 ⟨Nat.le_of_ble_eq_true rfl, Nat.le_of_ble_eq_true rfl⟩) hS hA hP (fun r5 u5 H locs hw5 hP hS => ?_)
        have hw5 : ((r5.toInt = -9 ∨ (0 ≤ r5.toInt ∧ r5.toInt ≤ 199)) ∧ ((r5.toInt = -9 ∧ ¬ SyX (c 120) (c 116) w1.toInt 4 0) ∨ (¬ r5.toInt = -9 ∧ r5 = (c 120 (w1.toInt * 6 + 4).toNat) ∧ SyX (c 120) (c 116) w1.toInt 4 0))) := hw5
        obtain ⟨hw5, hr5_0⟩ := hw5
        have hr5_0 : (r5.toInt = -9 ∧ ¬ SyX (c 120) (c 116) w1.toInt 4 0) ∨ (¬ r5.toInt = -9 ∧ r5 = (c 120 (w1.toInt * 6 + 4).toNat) ∧ SyX (c 120) (c 116) w1.toInt 4 0) := hr5_0
        refine al_calli (va_runV (As := [.int r5]) (rest := []) ⟨hx, hb, hml, hown, hts⟩ (x_X1_addClash_e l D H.size sk a t i q c d r5 hI (show r5.toInt = -9 ∨ (0 ≤ r5.toInt ∧ r5.toInt ≤ 199) from by omega)) (cwV 1 hts gm_X1_isPlaceClashing_e_X1_addClash_e_121 rfl rfl rfl (by decide +kernel) ⟨Nat.le_of_ble_eq_true rfl, Nat.le_of_ble_eq_true rfl⟩) (yB_V hN (xZ_k hZ hS hA) (xZ_n hZ hD) hK hP hD (ci := 1) (q0 := 8) rfl rfl) rfl rfl hl.1 rfl (lv_room (Nat.le_of_ble_eq_true rfl)) dX1_isPlaceClashing_40 ⟨Nat.le_of_ble_eq_true rfl, Nat.le_of_ble_eq_true rfl⟩) hS hA hP hD (fun r6 u6 H locs hw6 hP hD hS => ?_)
        obtain ⟨i6, q6, c6, d6⟩ := u6
        have hw6 : ((r6.toInt = 0 ∧ (r5.toInt = -9 ∨ 30 ≤ (i 123).toInt)) ∨ (r6.toInt = 1 ∧ ¬ r5.toInt = -9 ∧ (i 123).toInt ≤ 29)) ∧ xInv i6 c6 ∧ (∀ k, k ∉ ([123] : List Nat) → i6 k = i k) ∧ (∀ k, k ∉ ([122] : List Nat) → c6 k = c k) ∧ ((i6 123).toInt = (i 123).toInt + r6.toInt) ∧ ((r6.toInt = 0 ∧ (c6 122) = (c 122)) ∨ (r6.toInt = 1 ∧ (c6 122) = upd (c 122) (i 123).toNatClampNeg r5)) := hw6
        obtain ⟨hw6, hI, hei6, hec6, hxp6_0, hxp6_1⟩ := hw6
        have hxp6_0 : (i6 123).toInt = (i 123).toInt + r6.toInt := hxp6_0
        have hxp6_1 : (r6.toInt = 0 ∧ (c6 122) = (c 122)) ∨ (r6.toInt = 1 ∧ (c6 122) = upd (c 122) (i 123).toNatClampNeg r5) := hxp6_1
        have hfi : ∀ k, k ∉ ([123] : List Nat) → i6 k = i k := fr_z hfi hei6 (by decide +kernel) (by decide +kernel)
        have hfc : ∀ k, k ∉ ([122] : List Nat) → c6 k = c k := fr_z hfc hec6 (by decide +kernel) (by decide +kernel)
        refine lv_if_eq (tgt := 50) hx hb dX1_isPlaceClashing_43 (by decide +kernel) (fun c7 => ?_) (fun c7 => ?_)
        · have f7 := (ti_eq (a := r6.toInt) (b := 0) rfl (by decide +kernel)).mp c7
          refine lv_iconst (v := 0) hx hb dX1_isPlaceClashing_50 (by decide +kernel) ?_
          exact rw_zret (i6, q6, c6, d6) hx hb hr hlocks hS (hK.sub (tys' := []) [] rfl) hP hD rfl dX1_isPlaceClashing_51 ⟨⟨(show 0 ≤ (0 : Int32).toInt ∧ (0 : Int32).toInt ≤ 1 from by have h9 : (0 : Int32).toInt = 0 := (by decide +kernel); omega), (show Sm (0 : Int32) (PlX (c 127) (c 120) (c 116) f.toInt w1.toInt w2.toInt) from sm_0 (fun h9 => by rcases h9 with h9 | h9 | ⟨h7, h9⟩; (· omega); (· exact s3 h9); (· first | (exfalso; omega; done) | (rcases hr5_0 with h8 | h8; (· exact h8.2 h9); (· exfalso; omega)))))⟩, hI, fr_w hfi (by decide +kernel), fr_w hfc (by decide +kernel)⟩
        · have f7 := mt (ti_eq (a := r6.toInt) (b := 0) rfl (by decide +kernel)).mpr c7
          refine lv_iconst (v := 1) hx hb dX1_isPlaceClashing_46 (by decide +kernel) ?_
          refine lv_goto (tgt := 51) hx hb dX1_isPlaceClashing_47 (by decide +kernel) ?_
          exact rw_zret (i6, q6, c6, d6) hx hb hr hlocks hS (hK.sub (tys' := []) [] rfl) hP hD rfl dX1_isPlaceClashing_51 ⟨⟨(show 0 ≤ (1 : Int32).toInt ∧ (1 : Int32).toInt ≤ 1 from by have h9 : (1 : Int32).toInt = 1 := (by decide +kernel); omega), (show Sm (1 : Int32) (PlX (c 127) (c 120) (c 116) f.toInt w1.toInt w2.toInt) from sm_1 (Or.inr (Or.inr ⟨by omega, by rcases hr5_0 with h9 | h9; (· exfalso; omega); (· exact h9.2.2)⟩)))⟩, hI, fr_w hfi (by decide +kernel), fr_w hfc (by decide +kernel)⟩
    · have f3 := mt (ti_eq (a := r2.toInt) (b := 0) rfl (by decide +kernel)).mpr c3
      have s3 := sm_t hr2_0 c3
      refine lv_aload_n hx hb dX1_isPlaceClashing_19 rfl (lv_at hl 0 rfl) ?_
      refine lv_iload_n hx hb dX1_isPlaceClashing_20 rfl (lv_at hl 2 rfl) ?_
      refine lv_iload_n hx hb dX1_isPlaceClashing_21 rfl (lv_at hl 3 rfl) ?_
      refine al_callv (va_runV (As := [.int w1, .int w2]) (rest := []) ⟨hx, hb, hml, hown, hts⟩ (x_X1_addChain l D H.size sk a t i q c d w1 w2 hI (show 0 ≤ w2.toInt ∧ w2.toInt ≤ 29 from by omega)) (cwV 2 hts gm_X1_isPlaceClashing_e_X1_addChain_137 rfl rfl rfl (by decide +kernel) ⟨Nat.le_of_ble_eq_true rfl, Nat.le_of_ble_eq_true rfl⟩) (yB_V hN (xZ_k hZ hS hA) (xZ_n hZ hD) hK hP hD (ci := 1) (q0 := 8) rfl rfl) rfl rfl hl.1 rfl (lv_room (Nat.le_of_ble_eq_true rfl)) dX1_isPlaceClashing_22 ⟨Nat.le_of_ble_eq_true rfl, Nat.le_of_ble_eq_true rfl⟩) hS hA hP hD (fun u8 H locs hw8 hP hD hS => ?_)
      obtain ⟨i8, q8, c8, d8⟩ := u8
      have hw8 : True ∧ xInv i8 c8 ∧ (∀ k, k ∉ ([123] : List Nat) → i8 k = i k) ∧ (∀ k, k ∉ ([122] : List Nat) → c8 k = c k) := hw8
      obtain ⟨hw8, hI, hei8, hec8⟩ := hw8
      have hfi : ∀ k, k ∉ ([123] : List Nat) → i8 k = i k := fr_z hfi hei8 (by decide +kernel) (by decide +kernel)
      have hfc : ∀ k, k ∉ ([122] : List Nat) → c8 k = c k := fr_z hfc hec8 (by decide +kernel) (by decide +kernel)
      refine lv_iconst (v := 1) hx hb dX1_isPlaceClashing_25 (by decide +kernel) ?_
      exact rw_zret (i8, q8, c8, d8) hx hb hr hlocks hS (hK.sub (tys' := []) [] rfl) hP hD rfl dX1_isPlaceClashing_26 ⟨⟨(show 0 ≤ (1 : Int32).toInt ∧ (1 : Int32).toInt ≤ 1 from by have h9 : (1 : Int32).toInt = 1 := (by decide +kernel); omega), (show Sm (1 : Int32) (PlX (c 127) (c 120) (c 116) f.toInt w1.toInt w2.toInt) from sm_1 (Or.inr (Or.inl s3)))⟩, hI, fr_w hfi (by decide +kernel), fr_w hfc (by decide +kernel)⟩
  · have f1 := (ti_eq (a := w1.toInt) (b := w2.toInt) rfl rfl).mp c1
    refine lv_iconst (v := 1) hx hb dX1_isPlaceClashing_5 (by decide +kernel) ?_
    exact rw_zret (i, q, c, d) hx hb hr hlocks hS (hK.sub (tys' := []) [] rfl) hP hD rfl dX1_isPlaceClashing_6 ⟨⟨(show 0 ≤ (1 : Int32).toInt ∧ (1 : Int32).toInt ≤ 1 from by have h9 : (1 : Int32).toInt = 1 := (by decide +kernel); omega), (show Sm (1 : Int32) (PlX (c 127) (c 120) (c 116) f.toInt w1.toInt w2.toInt) from sm_1 (Or.inl (by omega)))⟩, hI, fr_w hfi (by decide +kernel), fr_w hfc (by decide +kernel)⟩

