def wm_X9_cellAsSaid : List Cond := .code yX9_cellAsSaid cX9_cellAsSaid 4 (some .int) :: (([.fieldLink RX9 25 "TalePlay$Tale" "book" "LTalePlay$Book;", .fieldLink RX9 84 "TalePlay$Book" "places" "LTalePlay$Scene;", .fieldLink RX9 65 "TalePlay$Scene" "cells" "[I", .fieldLink RX9 21 "TalePlay$Tale" "world" "LTalePlay$World;", .methodLink RX9 89 yX10_canHave, .instanceMethod yX10_canHave, .selects RX10 yX10_canHave yX10_canHave, .initialized RX10, .code yX10_canHave cX10_canHave 3 (some .boolean), .methodLink RX10 48 yX10_isShutter, .instanceMethod yX10_isShutter, .selects RX10 yX10_isShutter yX10_isShutter, .code yX10_isShutter cX10_isShutter 3 (some .boolean), .methodLink RX10 40 yX10_sortOf, .instanceMethod yX10_sortOf, .selects RX10 yX10_sortOf yX10_sortOf, .code yX10_sortOf cX10_sortOf 2 (some .int), .fieldLink RX10 37 "TalePlay$World" "objects" "I", .fieldLink RX10 15 "TalePlay$World" "sorts" "[I", .fieldLink RX10 21 "TalePlay$World" "kindOf" "[I", .methodLink RX10 44 yX10_isMovable, .instanceMethod yX10_isMovable, .selects RX10 yX10_isMovable yX10_isMovable, .code yX10_isMovable cX10_isMovable 3 (some .boolean), .methodLink RX10 51 yX10_isGoods, .instanceMethod yX10_isGoods, .selects RX10 yX10_isGoods yX10_isGoods, .code yX10_isGoods cX10_isGoods 2 (some .boolean), .methodLink RX9 93 yX1_saidFlag, .instanceMethod yX1_saidFlag, .selects RX1 yX1_saidFlag yX1_saidFlag, .initialized RX1, .code yX1_saidFlag cX1_saidFlag 4 (some .int), .fieldLink RX1 34 "TalePlay$Book" "flagBy" "[I", .fieldLink RX1 21 "TalePlay$Book" "cs" "[I", .fieldLink RX1 43 "TalePlay$Book" "world" "LTalePlay$World;", .methodLink RX1 114 yX10_standardFor, .instanceMethod yX10_standardFor, .selects RX10 yX10_standardFor yX10_standardFor, .code yX10_standardFor cX10_standardFor 6 (some .int), .fieldLink RX10 18 "TalePlay$World" "standards" "[I", .fieldLink RX10 9 "TalePlay$World" "parents" "[I", .methodLink RX9 97 yX6_flagged, .static yX6_flagged, .initialized RX6, .code yX6_flagged cX6_flagged 4 (some .int)] : List Cond) ++ wsX90 ++ wsX10 ++ wsX60 ++ wsX100)
set_option maxRecDepth 20000 in
theorem gm_X9_cellAsSaid_X10_canHave_89 : GoodIn wm_X9_cellAsSaid (wsV RX9 89 RX10 yX10_canHave wm_X10_canHave) := goodIn_app (goodIn_of _ (by decide +kernel)) (goodIn_r _ [9, 10, 11, 12, 8, 13, 14, 15, 16, 17, 18, 19, 20, 21, 22, 23, 24, 25, 26, 27, 28, 75, 76, 77, 78, 79, 80, 81] rfl (by decide +kernel))
set_option maxRecDepth 20000 in
theorem gm_X9_cellAsSaid_X1_saidFlag_93 : GoodIn wm_X9_cellAsSaid (wsV RX9 93 RX1 yX1_saidFlag wm_X1_saidFlag) := goodIn_app (goodIn_of _ (by decide +kernel)) (goodIn_r _ [33, 34, 35, 36, 37, 38, 39, 8, 40, 20, 14, 15, 16, 17, 18, 19, 41, 42, 58, 59, 60, 61, 62, 63, 64, 65, 66, 67, 68, 69, 70, 71, 72, 75, 76, 77, 78, 79, 80, 81] rfl (by decide +kernel))
set_option maxRecDepth 20000 in
theorem gm_X9_cellAsSaid_X6_flagged_97 : GoodIn wm_X9_cellAsSaid (va_wsS RX9 97 yX6_flagged wm_X6_flagged) := goodIn_app (goodIn_of _ (by decide +kernel)) (goodIn_r _ [46] rfl (by decide +kernel))
set_option maxHeartbeats 4000000 in
set_option maxRecDepth 100000 in
theorem x_X9_cellAsSaid (l : Launch) (D : va_G) (sz : Nat) (sk : Value) (a : Nat → Nat) (t : Nat → ClassId) (i : Nat → Int32) (q : Int64) (c : Nat → Nat → Int32) (d : Nat → Nat → Int64) (w : Int32) (hI : xInv i c) (hw : 0 ≤ w.toInt ∧ w.toInt ≤ 29) : Met l yX9_cellAsSaid wm_X9_cellAsSaid ({ frames := 4, cells := 0, slots := 0, locals := 86 }) (va_Pc [.ref (a 142), .int w] (yA (a 186) D sz (xwT sk a t i q c d) (xtT t))) (va_Qi (fun (r : Int32) (_ : Unit) => ((0 ≤ r.toInt ∧ r.toInt ≤ 16383 ∧ (r.toInt % 256 = 255 ∨ (r.toInt % 8 ≤ 4 ∧ r.toInt / 8 % 32 ≤ 29))) ∧ (r.toInt % 256 = (c 127 w.toNatClampNeg).toInt % 256))) oA (ro sz)) 0 0 (ro sz) := by
  refine Met.ofW (cc := cX9_cellAsSaid) (maxL := 4) (ret := (some .int)) (by decide) rfl ?_
  intro p e s m args below meth cd s₁ B hml hv
  obtain ⟨rfl, ⟨hsz, hP, hK⟩, hN, hZ⟩ := hv
  have hx := B.exec
  have hb := B.bytes
  have hr := B.returns
  have hts := atoms_spec (ws := wm_X9_cellAsSaid) B.pre
  have hown : s.vm.findClass RX9 = some m.cls := findClass_of_methodNamed B.named
  have hlocks := B.notSynchronized
  subst hsz
  have hA : ∀ q : Nat, s.heap.size ≤ q → ro s.heap.size q := fun _ h => h
  have hS : va_S (ro s.heap.size) s.heap s.heap [] := va_S.rf
  have hl := lv_entry ([.ref (a 142), .int w]) (n := 4) (Nat.le_of_ble_eq_true rfl)
  rw [lg_entry_eq]
  generalize (lg_sl ([.ref (a 142), .int w]) ++ List.replicate (4 - (lg_sl ([.ref (a 142), .int w])).length) Slot.unset).toArray = ls at hl ⊢
  have hl : lv_has ls 4 [(0, .ref (a 142)), (1, .int w)] := hl
  refine lv_aload_n hx hb dX9_cellAsSaid_0 rfl (lv_at hl 0 rfl) ?_
  refine xgT_T_book hx hb hts (fun _ h => List.mem_cons_of_mem _ (List.mem_append_left _ (List.mem_append_left _ (List.mem_append_left _ (List.mem_append_right _ h))))) hown hK hP (hts (.fieldLink RX9 25 "TalePlay$Tale" "book" "LTalePlay$Book;") (by decide +kernel)) dX9_cellAsSaid_1 ?_
  refine xgT_B_places hx hb hts (fun _ h => List.mem_cons_of_mem _ (List.mem_append_left _ (List.mem_append_left _ (List.mem_append_right _ h)))) hown hK hP (hts (.fieldLink RX9 84 "TalePlay$Book" "places" "LTalePlay$Scene;") (by decide +kernel)) dX9_cellAsSaid_4 ?_
  refine xgT_BP_cells hx hb hts (fun _ h => List.mem_cons_of_mem _ (List.mem_append_left _ (List.mem_append_right _ h))) hown hK hP (hts (.fieldLink RX9 65 "TalePlay$Scene" "cells" "[I") (by decide +kernel)) dX9_cellAsSaid_7 ?_
  refine lv_iload_n hx hb dX9_cellAsSaid_10 rfl (lv_at hl 1 rfl) ?_
  refine xlT_127 hx hb hK hP (vp_in_iff.mpr (by have h9 : w.toInt = w.toInt := rfl; omega)) dX9_cellAsSaid_11 (fun x1 ex1 => ?_)
  have rx1 : 0 ≤ x1.toInt ∧ x1.toInt ≤ 16383 ∧ (x1.toInt % 256 = 255 ∨ (x1.toInt % 8 ≤ 4 ∧ x1.toInt / 8 % 32 ≤ 29)) := by rw [ex1]; exact hI.2 127 _
  have gx1 : (c 127 (w : Int32).toNatClampNeg).toInt = x1.toInt := (congrArg Int32.toInt ex1).symm
  refine lv_istore_n (lv' := [(2, .int x1), (0, .ref (a 142)), (1, .int w)]) hx hb dX9_cellAsSaid_12 rfl hl (by decide) rfl (fun ls hl => ?_)
  refine lv_iconst (v := 0) hx hb dX9_cellAsSaid_13 (by decide) ?_
  refine lv_istore_n (lv' := [(3, .int 0), (2, .int x1), (0, .ref (a 142)), (1, .int w)]) hx hb dX9_cellAsSaid_14 rfl hl (by decide) rfl (fun ls hl => ?_)
  have lp2 : ∀ (fu : Nat) (y2_3 : Int32) (y2_2 : Int32), (0 ≤ y2_3.toInt ∧ y2_3.toInt ≤ 6) → (0 ≤ y2_2.toInt ∧ y2_2.toInt ≤ 16383) → (y2_2.toInt % 256 = (c 127 w.toNatClampNeg).toInt % 256) → (6 - y2_3.toInt).toNat < fu → ∀ (H : Heap) (locs : List Loc) (ls : Array Slot), va_P D vwCl (xwT sk a t i q c d) H → va_S (ro s.heap.size) s.heap H locs → lv_has ls 4 [(3, .int y2_3), (2, .int y2_2), (0, .ref (a 142)), (1, .int w)] → W p l e (headSpec wm_X9_cellAsSaid ({ frames := 4, cells := 0, slots := 0, locals := 86 })).room s m ([.ref (a 142), .int w] : List Value).toArray below meth cd H locs 0 0 (MQ below (va_Qi (fun (r : Int32) (_ : Unit) => ((0 ≤ r.toInt ∧ r.toInt ≤ 16383 ∧ (r.toInt % 256 = 255 ∨ (r.toInt % 8 ≤ 4 ∧ r.toInt / 8 % 32 ≤ 29))) ∧ (r.toInt % 256 = (c 127 w.toNatClampNeg).toInt % 256))) oA (ro s.heap.size)) ([.ref (a 142), .int w] : List Value).toArray s 0 0 (ro s.heap.size)) (F0 m 15 ls []) := by
    intro fu
    induction fu with
    | zero => intro y2_3 y2_2 hy2_3 hy2_2 hz2_0 hm; exact absurd hm (Nat.not_lt_zero _)
    | succ fu ih =>
      intro y2_3 y2_2 hy2_3 hy2_2 hz2_0 hm H locs ls hP hS hl
      have ih2 := ih
      refine lv_iload_n hx hb dX9_cellAsSaid_15 rfl (lv_at hl 0 rfl) ?_
      refine lv_bipush (v := 6) hx hb dX9_cellAsSaid_16 (by decide) ?_
      refine lv_icmp_ge (tgt := 63) hx hb dX9_cellAsSaid_18 (by decide) (fun c3 => ?_) (fun c3 => ?_)
      · have f3 := (ti_le (a := 6) (b := y2_3.toInt) (by decide) rfl).mp c3
        refine lv_iload_n hx hb dX9_cellAsSaid_63 rfl (lv_at hl 1 rfl) ?_
        exact ro_iret hx hb hr hlocks hS dX9_cellAsSaid_64 ⟨(show 0 ≤ y2_2.toInt ∧ y2_2.toInt ≤ 16383 ∧ (y2_2.toInt % 256 = 255 ∨ (y2_2.toInt % 8 ≤ 4 ∧ y2_2.toInt / 8 % 32 ≤ 29)) from by omega), (show y2_2.toInt % 256 = (c 127 w.toNatClampNeg).toInt % 256 from by omega)⟩
      · have f3 := mt (ti_le (a := 6) (b := y2_3.toInt) (by decide) rfl).mpr c3
        refine lv_aload_n hx hb dX9_cellAsSaid_21 rfl (lv_at hl 2 rfl) ?_
        refine xgT_T_world hx hb hts (fun _ h => List.mem_cons_of_mem _ (List.mem_append_left _ (List.mem_append_left _ (List.mem_append_left _ (List.mem_append_right _ h))))) hown hK hP (hts (.fieldLink RX9 21 "TalePlay$Tale" "world" "LTalePlay$World;") (by decide +kernel)) dX9_cellAsSaid_22 ?_
        refine lv_iload_n hx hb dX9_cellAsSaid_25 rfl (lv_at hl 3 rfl) ?_
        refine lv_iload_n hx hb dX9_cellAsSaid_26 rfl (lv_at hl 0 rfl) ?_
        refine ro_calli (va_runV (As := [.int w, .int y2_3]) (rest := []) ⟨hx, hb, hml, hown, hts⟩ (x_X10_canHave l D H.size .null a t i q c d w y2_3 hI ) (cwV 2 hts gm_X9_cellAsSaid_X10_canHave_89 rfl rfl rfl (by decide +kernel) ⟨Nat.le_of_ble_eq_true rfl, Nat.le_of_ble_eq_true rfl⟩) (yA_V hN (xZ_k hZ hS hA) (xkT_W hK) (xuT_W (sk := sk) hP) (ci := 10) (q0 := 0) rfl rfl) rfl rfl hl.1 rfl (lv_room (Nat.le_of_ble_eq_true rfl)) dX9_cellAsSaid_27 ⟨Nat.le_of_ble_eq_true rfl, Nat.le_of_ble_eq_true rfl⟩) hS hA hP (fun r4 u4 H locs hw4 hP hS => ?_)
        have hw4 : (0 ≤ r4.toInt ∧ r4.toInt ≤ 1) := hw4
        have jn5 : ∀ (y5_2 : Int32), (0 ≤ y5_2.toInt ∧ y5_2.toInt ≤ 16383) → (y5_2.toInt % 256 = (c 127 w.toNatClampNeg).toInt % 256) → ∀ (H : Heap) (locs : List Loc) (ls : Array Slot), va_P D vwCl (xwT sk a t i q c d) H → va_S (ro s.heap.size) s.heap H locs → lv_has ls 4 [(3, .int y2_3), (0, .ref (a 142)), (1, .int w), (2, .int y5_2)] → W p l e (headSpec wm_X9_cellAsSaid ({ frames := 4, cells := 0, slots := 0, locals := 86 })).room s m ([.ref (a 142), .int w] : List Value).toArray below meth cd H locs 0 0 (MQ below (va_Qi (fun (r : Int32) (_ : Unit) => ((0 ≤ r.toInt ∧ r.toInt ≤ 16383 ∧ (r.toInt % 256 = 255 ∨ (r.toInt % 8 ≤ 4 ∧ r.toInt / 8 % 32 ≤ 29))) ∧ (r.toInt % 256 = (c 127 w.toNatClampNeg).toInt % 256))) oA (ro s.heap.size)) ([.ref (a 142), .int w] : List Value).toArray s 0 0 (ro s.heap.size)) (F0 m 57 ls []) := by
          intro y5_2 hy5_2 hz5_0 H locs ls hP hS hl
          obtain ⟨x6, ex6⟩ : ∃ y : Int32, y = y2_3 + 1 := ⟨_, rfl⟩
          have tx6 := ti_add (a := y2_3.toInt) (b := 1) ex6 rfl (by decide) (by omega) (by omega)
          refine lv_iinc (v := x6) (lv' := [(3, .int x6), (0, .ref (a 142)), (1, .int w), (2, .int y5_2)]) hx hb dX9_cellAsSaid_57 hl (k := 0) rfl (by rw [ex6]; rfl) (by decide) rfl (fun ls hl => ?_)
          refine lv_goto (tgt := 15) hx hb dX9_cellAsSaid_60 (by decide) ?_
          exact ih2 x6 y5_2 (show 0 ≤ x6.toInt ∧ x6.toInt ≤ 6 from by have h50 : x6.toInt = (y2_3.toInt + 1) := tx6; omega) (show 0 ≤ y5_2.toInt ∧ y5_2.toInt ≤ 16383 from by have h50 : x6.toInt = (y2_3.toInt + 1) := tx6; omega) (show y5_2.toInt % 256 = (c 127 w.toNatClampNeg).toInt % 256 from by have h50 : x6.toInt = (y2_3.toInt + 1) := tx6; omega) (by have h50 : x6.toInt = (y2_3.toInt + 1) := tx6; omega) _ _ _ hP hS (lv_sub hl [0, 3, 1, 2] rfl)
        refine lv_if_eq (tgt := 57) hx hb dX9_cellAsSaid_30 (by decide) (fun c7 => ?_) (fun c7 => ?_)
        · have f7 := (ti_eq (a := r4.toInt) (b := 0) rfl (by decide)).mp c7
          exact jn5 y2_2  (show 0 ≤ y2_2.toInt ∧ y2_2.toInt ≤ 16383 from by omega) (show y2_2.toInt % 256 = (c 127 w.toNatClampNeg).toInt % 256 from by omega) _ _ _ hP hS (lv_sub hl [0, 2, 3, 1] rfl)
        · have f7 := mt (ti_eq (a := r4.toInt) (b := 0) rfl (by decide)).mpr c7
          refine lv_iload_n hx hb dX9_cellAsSaid_33 rfl (lv_at hl 1 rfl) ?_
          refine lv_iload_n hx hb dX9_cellAsSaid_34 rfl (lv_at hl 0 rfl) ?_
          refine lv_aload_n hx hb dX9_cellAsSaid_35 rfl (lv_at hl 2 rfl) ?_
          refine xgT_T_book hx hb hts (fun _ h => List.mem_cons_of_mem _ (List.mem_append_left _ (List.mem_append_left _ (List.mem_append_left _ (List.mem_append_right _ h))))) hown hK hP (hts (.fieldLink RX9 25 "TalePlay$Tale" "book" "LTalePlay$Book;") (by decide +kernel)) dX9_cellAsSaid_36 ?_
          refine lv_iload_n hx hb dX9_cellAsSaid_39 rfl (lv_at hl 3 rfl) ?_
          refine lv_iload_n hx hb dX9_cellAsSaid_40 rfl (lv_at hl 0 rfl) ?_
          refine ro_calli (va_runV (As := [.int w, .int y2_3]) (rest := [.int y2_3, .int y2_2]) ⟨hx, hb, hml, hown, hts⟩ (x_X1_saidFlag l D H.size .null a t i q c d w y2_3 hI (show 0 ≤ w.toInt ∧ w.toInt ≤ 29 from by omega) (show 0 ≤ y2_3.toInt ∧ y2_3.toInt ≤ 5 from by omega)) (cwV 2 hts gm_X9_cellAsSaid_X1_saidFlag_93 rfl rfl rfl (by decide +kernel) ⟨Nat.le_of_ble_eq_true rfl, Nat.le_of_ble_eq_true rfl⟩) (yA_V hN (xZ_k hZ hS hA) (xkT_B hK) (xuT_B (sk := sk) hP) (ci := 1) (q0 := 6) rfl rfl) rfl rfl hl.1 rfl (lv_room (Nat.le_of_ble_eq_true rfl)) dX9_cellAsSaid_41 ⟨Nat.le_of_ble_eq_true rfl, Nat.le_of_ble_eq_true rfl⟩) hS hA hP (fun r8 u8 H locs hw8 hP hS => ?_)
          have hw8 : (r8.toInt = -9 ∨ (0 ≤ r8.toInt ∧ r8.toInt ≤ 9)) := hw8
          refine lv_iconst (v := 1) hx hb dX9_cellAsSaid_44 (by decide) ?_
          have jn9 : ∀ (z9_0 : Int32), (z9_0.toInt = 0 ∨ z9_0.toInt = 1) → ∀ (H : Heap) (locs : List Loc) (ls : Array Slot), va_P D vwCl (xwT sk a t i q c d) H → va_S (ro s.heap.size) s.heap H locs → lv_has ls 4 [(3, .int y2_3), (2, .int y2_2), (0, .ref (a 142)), (1, .int w)] → W p l e (headSpec wm_X9_cellAsSaid ({ frames := 4, cells := 0, slots := 0, locals := 86 })).room s m ([.ref (a 142), .int w] : List Value).toArray below meth cd H locs 0 0 (MQ below (va_Qi (fun (r : Int32) (_ : Unit) => ((0 ≤ r.toInt ∧ r.toInt ≤ 16383 ∧ (r.toInt % 256 = 255 ∨ (r.toInt % 8 ≤ 4 ∧ r.toInt / 8 % 32 ≤ 29))) ∧ (r.toInt % 256 = (c 127 w.toNatClampNeg).toInt % 256))) oA (ro s.heap.size)) ([.ref (a 142), .int w] : List Value).toArray s 0 0 (ro s.heap.size)) (F0 m 53 ls [.int z9_0, .int y2_3, .int y2_2]) := by
            intro z9_0 hs9_0 H locs ls hP hS hl
            have hPc := hP.sub (ws' := []) [] rfl
            have hKc := hK.sub (tys' := []) [] rfl
            refine ro_calli (va_runS (As := [.int y2_2, .int y2_3, .int z9_0]) (rest := []) ⟨hx, hb, hml, hown, hts⟩ (c_X6_flagged l D H.size y2_2 y2_3 z9_0 y2_2.toInt y2_3.toInt rfl rfl (by omega) (by omega)) (va_cwS 3 hts gm_X9_cellAsSaid_X6_flagged_97 rfl rfl rfl (by decide +kernel) ⟨Nat.le_of_ble_eq_true rfl, Nat.le_of_ble_eq_true rfl⟩) (pA_S hKc hPc) rfl rfl hl.1 rfl (lv_room (Nat.le_of_ble_eq_true rfl)) dX9_cellAsSaid_53 ⟨Nat.le_of_ble_eq_true rfl, Nat.le_of_ble_eq_true rfl⟩) hS hA hP (fun r11 u11 H locs hw11 hP hS => ?_)
            have hw11 : 0 ≤ r11.toInt ∧ r11.toInt ≤ 16383 ∧ r11.toInt % 256 = y2_2.toInt % 256 := hw11
            refine lv_istore_n (lv' := [(2, .int r11), (3, .int y2_3), (0, .ref (a 142)), (1, .int w)]) hx hb dX9_cellAsSaid_56 rfl hl (by decide) rfl (fun ls hl => ?_)
            exact jn5 r11  (show 0 ≤ r11.toInt ∧ r11.toInt ≤ 16383 from by omega) (show r11.toInt % 256 = (c 127 w.toNatClampNeg).toInt % 256 from by omega) _ _ _ hP hS (lv_sub hl [1, 2, 3, 0] rfl)
          refine lv_icmp_ne (tgt := 52) hx hb dX9_cellAsSaid_45 (by decide) (fun c12 => ?_) (fun c12 => ?_)
          · have f12 := mt (ti_eq (a := r8.toInt) (b := 1) rfl (by decide)).mpr c12
            refine lv_iconst (v := 0) hx hb dX9_cellAsSaid_52 (by decide) ?_
            exact jn9  (0 : Int32) (show (0 : Int32).toInt = 0 ∨ (0 : Int32).toInt = 1 from by have h54 : (0 : Int32).toInt = 0 := (by decide); omega) _ _ _ hP hS (lv_sub hl [0, 1, 2, 3] rfl)
          · have f12 := (ti_eq (a := r8.toInt) (b := 1) rfl (by decide)).mp c12
            refine lv_iconst (v := 1) hx hb dX9_cellAsSaid_48 (by decide) ?_
            refine lv_goto (tgt := 53) hx hb dX9_cellAsSaid_49 (by decide) ?_
            exact jn9  (1 : Int32) (show (1 : Int32).toInt = 0 ∨ (1 : Int32).toInt = 1 from by have h54 : (1 : Int32).toInt = 1 := (by decide); omega) _ _ _ hP hS (lv_sub hl [0, 1, 2, 3] rfl)
  exact lp2 _ (0 : Int32) x1 (show 0 ≤ (0 : Int32).toInt ∧ (0 : Int32).toInt ≤ 6 from by have h50 : (0 : Int32).toInt = 0 := (by decide); omega) (show 0 ≤ x1.toInt ∧ x1.toInt ≤ 16383 from by have h50 : (0 : Int32).toInt = 0 := (by decide); omega) (show x1.toInt % 256 = (c 127 w.toNatClampNeg).toInt % 256 from by have h50 : (0 : Int32).toInt = 0 := (by decide); omega) (Nat.lt_succ_self _) _ _ _ hP hS (lv_sub hl [0, 1, 2, 3] rfl)

def wm_X9_start : List Cond := .code yX9_start cX9_start 3 none :: (([.fieldLink RX9 21 "TalePlay$Tale" "world" "LTalePlay$World;", .fieldLink RX9 60 "TalePlay$World" "objects" "I", .fieldLink RX9 72 "TalePlay$Tale" "there" "Z", .fieldLink RX9 56 "TalePlay$Tale" "player" "I", .fieldLink RX9 52 "TalePlay$Tale" "acts" "LTalePlay$Acts;", .fieldLink RX9 76 "TalePlay$Acts" "player" "I", .fieldLink RX9 77 "TalePlay$Tale" "turns" "I", .fieldLink RX9 43 "TalePlay$Tale" "sight" "LTalePlay$Sight;", .methodLink RX9 80 yX8_look, .instanceMethod yX8_look, .selects RX8 yX8_look yX8_look, .initialized RX8, .code yX8_look cX8_look 6 none, .methodLink RX8 30 yX8_shellOf, .instanceMethod yX8_shellOf, .selects RX8 yX8_shellOf yX8_shellOf, .code yX8_shellOf cX8_shellOf 5 (some .int), .fieldLink RX8 26 "TalePlay$Sight" "scene" "LTalePlay$Scene;", .methodLink RX8 62 yX6_holderOf, .instanceMethod yX6_holderOf, .selects RX6 yX6_holderOf yX6_holderOf, .initialized RX6, .code yX6_holderOf cX6_holderOf 3 (some .int), .fieldLink RX6 9 "TalePlay$Scene" "cells" "[I", .fieldLink RX8 18 "TalePlay$Sight" "world" "LTalePlay$World;", .methodLink RX8 34 yX10_sortOf, .instanceMethod yX10_sortOf, .selects RX10 yX10_sortOf yX10_sortOf, .initialized RX10, .code yX10_sortOf cX10_sortOf 2 (some .int), .fieldLink RX10 37 "TalePlay$World" "objects" "I", .fieldLink RX10 15 "TalePlay$World" "sorts" "[I", .fieldLink RX10 21 "TalePlay$World" "kindOf" "[I", .methodLink RX8 65 yX8_isCover, .instanceMethod yX8_isCover, .selects RX8 yX8_isCover yX8_isCover, .code yX8_isCover cX8_isCover 3 (some .boolean), .methodLink RX8 40 yX6_has, .instanceMethod yX6_has, .selects RX6 yX6_has yX6_has, .code yX6_has cX6_has 3 (some .boolean), .fieldLink RX8 46 "TalePlay$Sight" "bright" "Z", .fieldLink RX8 50 "TalePlay$World" "objects" "I", .methodLink RX8 58 yX6_lies, .instanceMethod yX6_lies, .selects RX6 yX6_lies yX6_lies, .code yX6_lies cX6_lies 4 (some .boolean), .fieldLink RX8 9 "TalePlay$Sight" "seen" "[Z", .fieldLink RX8 15 "TalePlay$Sight" "reached" "[Z", .methodLink RX8 54 yX8_isInView, .instanceMethod yX8_isInView, .selects RX8 yX8_isInView yX8_isInView, .code yX8_isInView cX8_isInView 6 (some .boolean), .fieldLink RX8 22 "TalePlay$Sight" "roads" "LTalePlay$Roads;", .methodLink RX8 69 yX5_isSide, .instanceMethod yX5_isSide, .selects RX5 yX5_isSide yX5_isSide, .initialized RX5, .code yX5_isSide cX5_isSide 3 (some .boolean), .fieldLink RX5 24 "TalePlay$Roads" "firstSides" "[I", .fieldLink RX5 27 "TalePlay$Roads" "secondSides" "[I", .fieldLink RX9 34 "TalePlay$Tale" "scene" "LTalePlay$Scene;", .fieldLink RX9 65 "TalePlay$Scene" "cells" "[I", .methodLink RX9 68 yX9_cellAsSaid, .instanceMethod yX9_cellAsSaid, .selects RX9 yX9_cellAsSaid yX9_cellAsSaid, .initialized RX9, .code yX9_cellAsSaid cX9_cellAsSaid 4 (some .int), .fieldLink RX9 25 "TalePlay$Tale" "book" "LTalePlay$Book;", .fieldLink RX9 84 "TalePlay$Book" "places" "LTalePlay$Scene;", .methodLink RX9 89 yX10_canHave, .instanceMethod yX10_canHave, .selects RX10 yX10_canHave yX10_canHave, .code yX10_canHave cX10_canHave 3 (some .boolean), .methodLink RX10 48 yX10_isShutter, .instanceMethod yX10_isShutter, .selects RX10 yX10_isShutter yX10_isShutter, .code yX10_isShutter cX10_isShutter 3 (some .boolean), .methodLink RX10 40 yX10_sortOf, .methodLink RX10 44 yX10_isMovable, .instanceMethod yX10_isMovable, .selects RX10 yX10_isMovable yX10_isMovable, .code yX10_isMovable cX10_isMovable 3 (some .boolean), .methodLink RX10 51 yX10_isGoods, .instanceMethod yX10_isGoods, .selects RX10 yX10_isGoods yX10_isGoods, .code yX10_isGoods cX10_isGoods 2 (some .boolean), .methodLink RX9 93 yX1_saidFlag, .instanceMethod yX1_saidFlag, .selects RX1 yX1_saidFlag yX1_saidFlag, .initialized RX1, .code yX1_saidFlag cX1_saidFlag 4 (some .int), .fieldLink RX1 34 "TalePlay$Book" "flagBy" "[I", .fieldLink RX1 21 "TalePlay$Book" "cs" "[I", .fieldLink RX1 43 "TalePlay$Book" "world" "LTalePlay$World;", .methodLink RX1 114 yX10_standardFor, .instanceMethod yX10_standardFor, .selects RX10 yX10_standardFor yX10_standardFor, .code yX10_standardFor cX10_standardFor 6 (some .int), .fieldLink RX10 18 "TalePlay$World" "standards" "[I", .fieldLink RX10 9 "TalePlay$World" "parents" "[I", .methodLink RX9 97 yX6_flagged, .static yX6_flagged, .code yX6_flagged cX6_flagged 4 (some .int)] : List Cond) ++ wsX90 ++ wsX100 ++ wsX00 ++ wsX80 ++ wsX60 ++ wsX50 ++ wsX10)
set_option maxRecDepth 20000 in
theorem gm_X9_start_X8_look_TG_80 : GoodIn wm_X9_start (wsV RX9 80 RX8 yX8_look wm_X8_look_TG) := goodIn_app (goodIn_of _ (by decide +kernel)) (goodIn_r _ [13, 14, 15, 16, 12, 17, 18, 19, 20, 21, 22, 23, 24, 25, 26, 27, 28, 29, 30, 31, 32, 33, 34, 35, 36, 37, 38, 39, 40, 41, 42, 43, 44, 45, 46, 47, 48, 49, 50, 51, 52, 53, 54, 55, 56, 57, 58, 59, 60, 61, 130, 131, 132, 133, 134, 135, 136, 137, 116, 117, 118, 119, 120, 121, 122, 138, 139, 140, 141, 142, 143, 144, 145, 146, 147, 148] rfl (by decide +kernel))
set_option maxRecDepth 20000 in
theorem gm_X9_start_X9_cellAsSaid_68 : GoodIn wm_X9_start (wsV RX9 68 RX9 yX9_cellAsSaid wm_X9_cellAsSaid) := goodIn_app (goodIn_of _ (by decide +kernel)) (goodIn_r _ [68, 69, 70, 63, 1, 71, 72, 73, 29, 74, 75, 76, 77, 78, 79, 27, 28, 30, 31, 32, 33, 80, 81, 82, 83, 84, 85, 86, 87, 88, 89, 90, 91, 92, 93, 94, 95, 96, 97, 98, 99, 100, 101, 102, 103, 22, 104, 105, 106, 107, 108, 109, 110, 111, 112, 113, 114, 115, 149, 150, 151, 152, 153, 154, 155, 156, 157, 158, 159, 160, 161, 162, 163, 136, 137, 116, 117, 118, 119, 120, 121, 122] rfl (by decide +kernel))
set_option maxHeartbeats 4000000 in
set_option maxRecDepth 100000 in
theorem x_X9_start (l : Launch) (D : va_G) (sz : Nat) (sk : Value) (a : Nat → Nat) (t : Nat → ClassId) (i : Nat → Int32) (q : Int64) (c : Nat → Nat → Int32) (d : Nat → Nat → Int64) (w : Int32) (hI : xInv i c) (hw : 0 ≤ w.toInt ∧ w.toInt ≤ 29) (hwo : w.toInt < (i 111).toInt) (hpm : ¬ (c 127 w.toNatClampNeg).toInt % 256 = 255) : Met l yX9_start wm_X9_start ({ frames := 5, cells := 0, slots := 0, locals := 109 }) (va_Pc [.ref (a 142), .int w] (yB (a 186) D sz (xwT sk a t i q c d) (xtT t))) (va_Qv (fun (u : MS) => True ∧ xInv u.1 u.2.2.1 ∧ (∀ k, k ∉ ([146, 147, 148, 154, 156] : List Nat) → u.1 k = i k) ∧ (∀ k, k ∉ ([150, 152, 153] : List Nat) → u.2.2.1 k = c k) ∧ (PJ (u.1 146) (u.1 147) (u.1 156) (u.1 148) (u.2.2.1 150) (u.2.2.1 144) (u.2.2.1 145))) (oC D (va_A (xwT sk a t i q c d) sz) (fun u : MS => xwT sk a t u.1 u.2.1 u.2.2.1 u.2.2.2) (fun _ => [])) (va_A (xwT sk a t i q c d) sz)) 0 0 (va_A (xwT sk a t i q c d) sz) := by
  refine Met.ofW (cc := cX9_start) (maxL := 3) (ret := none) (by decide) rfl ?_
  intro p e s m args below meth cd s₁ B hml hv
  obtain ⟨rfl, ⟨hsz, hP, hK, hD0⟩, hN, hZ, hBW⟩ := hv
  have hx := B.exec
  have hb := B.bytes
  have hr := B.returns
  have hts := atoms_spec (ws := wm_X9_start) B.pre
  have hown : s.vm.findClass RX9 = some m.cls := findClass_of_methodNamed B.named
  have hlocks := B.notSynchronized
  subst hsz
  have hD := hD0.self (sz := s.heap.size)
  have hZ := xZ_A hZ hP hBW
  generalize hAe : va_A (xwT sk a t i q c d) s.heap.size = A at hD hZ ⊢
  have hA : ∀ q : Nat, s.heap.size ≤ q → A q := fun q h => by rw [← hAe]; exact Or.inr h
  have hS : va_S A s.heap s.heap [] := va_S.rf
  have hfi : ∀ k, k ∉ ([] : List Nat) → i k = i k := fun _ _ => rfl
  have hfc : ∀ k, k ∉ ([] : List Nat) → c k = c k := fun _ _ => rfl
  have hl := lv_entry ([.ref (a 142), .int w]) (n := 3) (Nat.le_of_ble_eq_true rfl)
  rw [lg_entry_eq]
  generalize (lg_sl ([.ref (a 142), .int w]) ++ List.replicate (3 - (lg_sl ([.ref (a 142), .int w])).length) Slot.unset).toArray = ls at hl ⊢
  have hl : lv_has ls 3 [(0, .ref (a 142)), (1, .int w)] := hl
  refine lv_iconst (v := 0) hx hb dX9_start_0 (by decide) ?_
  refine lv_istore_n (lv' := [(2, .int 0), (0, .ref (a 142)), (1, .int w)]) hx hb dX9_start_1 rfl hl (by decide) rfl (fun ls hl => ?_)
  have lp1 : ∀ (fu : Nat) (i1 : Nat → Int32) (q1 : Int64) (c1 : Nat → Nat → Int32) (d1 : Nat → Nat → Int64) (y1_2 : Int32), xInv i1 c1 → (∀ k, k ∉ ([] : List Nat) → i1 k = i k) → (∀ k, k ∉ ([150] : List Nat) → c1 k = c k) → (0 ≤ y1_2.toInt ∧ y1_2.toInt ≤ 30) → (Im (w.toInt < y1_2.toInt) (¬ (c1 150 w.toNatClampNeg).toInt % 256 = 255)) → (30 - y1_2.toInt).toNat < fu → ∀ (H : Heap) (locs : List Loc) (ls : Array Slot), va_P D vwCl (xwT sk a t i1 q1 c1 d1) H → va_D A (xwT sk a t i1 q1 c1 d1) → va_S A s.heap H locs → lv_has ls 3 [(2, .int y1_2), (0, .ref (a 142)), (1, .int w)] → W p l e (headSpec wm_X9_start ({ frames := 5, cells := 0, slots := 0, locals := 109 })).room s m ([.ref (a 142), .int w] : List Value).toArray below meth cd H locs 0 0 (MQ below (va_Qv (fun (u : MS) => True ∧ xInv u.1 u.2.2.1 ∧ (∀ k, k ∉ ([146, 147, 148, 154, 156] : List Nat) → u.1 k = i k) ∧ (∀ k, k ∉ ([150, 152, 153] : List Nat) → u.2.2.1 k = c k) ∧ (PJ (u.1 146) (u.1 147) (u.1 156) (u.1 148) (u.2.2.1 150) (u.2.2.1 144) (u.2.2.1 145))) (oC D A (fun u : MS => xwT sk a t u.1 u.2.1 u.2.2.1 u.2.2.2) (fun _ => [])) A) ([.ref (a 142), .int w] : List Value).toArray s 0 0 A) (F0 m 2 ls []) := by
    intro fu
    induction fu with
    | zero => intro i1 q1 c1 d1 y1_2 hI hfi hfc hy1_2 hz1_0 hm; exact absurd hm (Nat.not_lt_zero _)
    | succ fu ih =>
      intro i1 q1 c1 d1 y1_2 hI hfi hfc hy1_2 hz1_0 hm H locs ls hP hD hS hl
      have ih1 := ih
      refine lv_iload_n hx hb dX9_start_2 rfl (lv_at hl 0 rfl) ?_
      refine lv_aload_n hx hb dX9_start_3 rfl (lv_at hl 1 rfl) ?_
      refine xgT_T_world hx hb hts (fun _ h => List.mem_cons_of_mem _ (List.mem_append_left _ (List.mem_append_left _ (List.mem_append_left _ (List.mem_append_left _ (List.mem_append_left _ (List.mem_append_left _ (List.mem_append_right _ h)))))))) hown hK hP (hts (.fieldLink RX9 21 "TalePlay$Tale" "world" "LTalePlay$World;") (by decide +kernel)) dX9_start_4 ?_
      refine xgT_W_objects (v := (i1 111)) rfl hx hb hts (fun _ h => List.mem_cons_of_mem _ (List.mem_append_left _ (List.mem_append_left _ (List.mem_append_left _ (List.mem_append_left _ (List.mem_append_left _ (List.mem_append_right _ h))))))) hown hK hP (hts (.fieldLink RX9 60 "TalePlay$World" "objects" "I") (by decide +kernel)) dX9_start_7 ?_
      have rb111_i1 : 0 ≤ (i1 111).toInt ∧ (i1 111).toInt ≤ 30 := hI.1 111
      have re111_i1 : (i1 111).toInt = (i 111).toInt := congrArg Int32.toInt (hfi 111 (by decide))
      refine lv_icmp_ge (tgt := 33) hx hb dX9_start_10 (by decide) (fun c2 => ?_) (fun c2 => ?_)
      · have f2 := (ti_le (a := (i1 111).toInt) (b := y1_2.toInt) rfl rfl).mp c2
        have hpl9 : ¬ (c1 150 w.toNatClampNeg).toInt % 256 = 255 := hz1_0 (by omega)
        refine lv_aload_n hx hb dX9_start_33 rfl (lv_at hl 1 rfl) ?_
        refine lv_iconst (v := 1) hx hb dX9_start_34 (by decide) ?_
        refine xpT_T_there hx hb hts (fun _ h => List.mem_cons_of_mem _ (List.mem_append_left _ (List.mem_append_left _ (List.mem_append_left _ (List.mem_append_left _ (List.mem_append_left _ (List.mem_append_left _ (List.mem_append_right _ h)))))))) hown hK hP hD hS (hts (.fieldLink RX9 72 "TalePlay$Tale" "there" "Z") (by decide +kernel)) rfl rfl dX9_start_35 (fun H locs hP hD hS => ?_)
        have hI := xInv_i hI (k := 146) (v := 1) (show 0 ≤ (1 : Int32).toInt ∧ (1 : Int32).toInt ≤ 1 from by have h9 : (1 : Int32).toInt = 1 := (by decide); omega)
        have hfi : ∀ k, k ∉ ([146] : List Nat) → (upd i1 146 1) k = i k := fr_iz hfi (by decide) (by decide)
        refine lv_aload_n hx hb dX9_start_38 rfl (lv_at hl 1 rfl) ?_
        refine lv_iload_n hx hb dX9_start_39 rfl (lv_at hl 2 rfl) ?_
        refine xpT_T_player hx hb hts (fun _ h => List.mem_cons_of_mem _ (List.mem_append_left _ (List.mem_append_left _ (List.mem_append_left _ (List.mem_append_left _ (List.mem_append_left _ (List.mem_append_left _ (List.mem_append_right _ h)))))))) hown hK hP hD hS (hts (.fieldLink RX9 56 "TalePlay$Tale" "player" "I") (by decide +kernel)) rfl rfl dX9_start_40 (fun H locs hP hD hS => ?_)
        have hI := xInv_i hI (k := 147) (v := w) (show (w : Int32).toInt = -9 ∨ (0 ≤ (w : Int32).toInt ∧ (w : Int32).toInt ≤ 29) from by omega)
        have hfi : ∀ k, k ∉ ([146, 147] : List Nat) → (upd (upd i1 146 1) 147 w) k = i k := fr_iz hfi (by decide) (by decide)
        refine lv_aload_n hx hb dX9_start_43 rfl (lv_at hl 1 rfl) ?_
        refine xgT_T_acts hx hb hts (fun _ h => List.mem_cons_of_mem _ (List.mem_append_left _ (List.mem_append_left _ (List.mem_append_left _ (List.mem_append_left _ (List.mem_append_left _ (List.mem_append_left _ (List.mem_append_right _ h)))))))) hown hK hP (hts (.fieldLink RX9 52 "TalePlay$Tale" "acts" "LTalePlay$Acts;") (by decide +kernel)) dX9_start_44 ?_
        refine lv_iload_n hx hb dX9_start_47 rfl (lv_at hl 2 rfl) ?_
        refine xpT_TA_player hx hb hts (fun _ h => List.mem_cons_of_mem _ (List.mem_append_left _ (List.mem_append_left _ (List.mem_append_left _ (List.mem_append_left _ (List.mem_append_right _ h)))))) hown hK hP hD hS (hts (.fieldLink RX9 76 "TalePlay$Acts" "player" "I") (by decide +kernel)) rfl rfl dX9_start_48 (fun H locs hP hD hS => ?_)
        have hI := xInv_i hI (k := 156) (v := w) (show (w : Int32).toInt = -9 ∨ (0 ≤ (w : Int32).toInt ∧ (w : Int32).toInt ≤ 29) from by omega)
        have hfi : ∀ k, k ∉ ([146, 147, 156] : List Nat) → (upd (upd (upd i1 146 1) 147 w) 156 w) k = i k := fr_iz hfi (by decide) (by decide)
        refine lv_aload_n hx hb dX9_start_51 rfl (lv_at hl 1 rfl) ?_
        refine lv_iconst (v := 0) hx hb dX9_start_52 (by decide) ?_
        refine xpT_T_turns hx hb hts (fun _ h => List.mem_cons_of_mem _ (List.mem_append_left _ (List.mem_append_left _ (List.mem_append_left _ (List.mem_append_left _ (List.mem_append_left _ (List.mem_append_left _ (List.mem_append_right _ h)))))))) hown hK hP hD hS (hts (.fieldLink RX9 77 "TalePlay$Tale" "turns" "I") (by decide +kernel)) rfl rfl dX9_start_53 (fun H locs hP hD hS => ?_)
        have hI := xInv_i hI (k := 148) (v := 0) (show 0 ≤ (0 : Int32).toInt ∧ (0 : Int32).toInt ≤ 100 from by have h9 : (0 : Int32).toInt = 0 := (by decide); omega)
        have hfi : ∀ k, k ∉ ([146, 147, 148, 156] : List Nat) → (upd (upd (upd (upd i1 146 1) 147 w) 156 w) 148 0) k = i k := fr_iz hfi (by decide) (by decide)
        have hPJ : PJ (1 : Int32) (w : Int32) (w : Int32) (0 : Int32) (c1 150) (c1 144) (c1 145) := PJ_st (by omega) hpl9 (by decide)
        refine lv_aload_n hx hb dX9_start_56 rfl (lv_at hl 1 rfl) ?_
        refine xgT_T_sight hx hb hts (fun _ h => List.mem_cons_of_mem _ (List.mem_append_left _ (List.mem_append_left _ (List.mem_append_left _ (List.mem_append_left _ (List.mem_append_left _ (List.mem_append_left _ (List.mem_append_right _ h)))))))) hown hK hP (hts (.fieldLink RX9 43 "TalePlay$Tale" "sight" "LTalePlay$Sight;") (by decide +kernel)) dX9_start_57 ?_
        refine lv_aload_n hx hb dX9_start_60 rfl (lv_at hl 1 rfl) ?_
        refine xgT_T_player (i := (upd (upd (upd (upd i1 146 1) 147 w) 156 w) 148 0)) (v := w) rfl hx hb hts (fun _ h => List.mem_cons_of_mem _ (List.mem_append_left _ (List.mem_append_left _ (List.mem_append_left _ (List.mem_append_left _ (List.mem_append_left _ (List.mem_append_left _ (List.mem_append_right _ h)))))))) hown hK hP (hts (.fieldLink RX9 56 "TalePlay$Tale" "player" "I") (by decide +kernel)) dX9_start_61 ?_
        refine al_callv (va_runV (As := [.int w]) (rest := []) ⟨hx, hb, hml, hown, hts⟩ (x_X8_look_TG l D H.size sk a t (upd (upd (upd (upd i1 146 1) 147 w) 156 w) 148 0) q1 c1 d1 w hI (show 0 ≤ w.toInt ∧ w.toInt ≤ 29 from by have h60 : (1 : Int32).toInt = 1 := (by decide); have h63 : (0 : Int32).toInt = 0 := (by decide); omega)) (cwV 1 hts gm_X9_start_X8_look_TG_80 rfl rfl rfl (by decide +kernel) ⟨Nat.le_of_ble_eq_true rfl, Nat.le_of_ble_eq_true rfl⟩) (yB_V hN (xZ_k hZ hS hA) (xZ_n hZ hD) hK hP hD (ci := 8) (q0 := 39) rfl rfl) rfl rfl hl.1 rfl (lv_room (Nat.le_of_ble_eq_true rfl)) dX9_start_64 ⟨Nat.le_of_ble_eq_true rfl, Nat.le_of_ble_eq_true rfl⟩) hS hA hP hD (fun u3 H locs hw3 hP hD hS => ?_)
        obtain ⟨i3, q3, c3, d3⟩ := u3
        have hw3 : True ∧ xInv i3 c3 ∧ (∀ k, k ∉ ([154] : List Nat) → i3 k = (upd (upd (upd (upd i1 146 1) 147 w) 156 w) 148 0) k) ∧ (∀ k, k ∉ ([152, 153] : List Nat) → c3 k = c1 k) := hw3
        obtain ⟨hw3, hI, hei3, hec3⟩ := hw3
        have hfi : ∀ k, k ∉ ([146, 147, 148, 154, 156] : List Nat) → i3 k = i k := fr_z hfi hei3 (by decide) (by decide)
        have hfc : ∀ k, k ∉ ([150, 152, 153] : List Nat) → c3 k = c k := fr_z hfc hec3 (by decide) (by decide)
        have hPJ : PJ ((i3 146) : Int32) ((i3 147) : Int32) ((i3 156) : Int32) ((i3 148) : Int32) (c3 150) (c3 144) (c3 145) := by rw [show c3 144 = c1 144 from hec3 144 (by decide), show c3 145 = c1 145 from hec3 145 (by decide), show c3 150 = c1 150 from hec3 150 (by decide), show i3 146 = (upd (upd (upd (upd i1 146 1) 147 w) 156 w) 148 0) 146 from hei3 146 (by decide), show i3 147 = (upd (upd (upd (upd i1 146 1) 147 w) 156 w) 148 0) 147 from hei3 147 (by decide), show i3 148 = (upd (upd (upd (upd i1 146 1) 147 w) 156 w) 148 0) 148 from hei3 148 (by decide), show i3 156 = (upd (upd (upd (upd i1 146 1) 147 w) 156 w) 148 0) 156 from hei3 156 (by decide)]; exact hPJ
        exact rw_vret (i3, q3, c3, d3) hx hb hr hlocks hS (hK.sub (tys' := []) [] rfl) hP hD dX9_start_67 ⟨trivial, hI, fr_w hfi (by decide), fr_w hfc (by decide), (show PJ ((i3 146) : Int32) ((i3 147) : Int32) ((i3 156) : Int32) ((i3 148) : Int32) (c3 150) (c3 144) (c3 145) from hPJ)⟩
      · have f2 := mt (ti_le (a := (i1 111).toInt) (b := y1_2.toInt) rfl rfl).mpr c2
        refine lv_aload_n hx hb dX9_start_13 rfl (lv_at hl 1 rfl) ?_
        refine xgT_T_scene hx hb hts (fun _ h => List.mem_cons_of_mem _ (List.mem_append_left _ (List.mem_append_left _ (List.mem_append_left _ (List.mem_append_left _ (List.mem_append_left _ (List.mem_append_left _ (List.mem_append_right _ h)))))))) hown hK hP (hts (.fieldLink RX9 34 "TalePlay$Tale" "scene" "LTalePlay$Scene;") (by decide +kernel)) dX9_start_14 ?_
        refine xgT_TS_cells hx hb hts (fun _ h => List.mem_cons_of_mem _ (List.mem_append_left _ (List.mem_append_left _ (List.mem_append_right _ h)))) hown hK hP (hts (.fieldLink RX9 65 "TalePlay$Scene" "cells" "[I") (by decide +kernel)) dX9_start_17 ?_
        refine lv_iload_n hx hb dX9_start_20 rfl (lv_at hl 0 rfl) ?_
        refine lv_aload_n hx hb dX9_start_21 rfl (lv_at hl 1 rfl) ?_
        refine lv_iload_n hx hb dX9_start_22 rfl (lv_at hl 0 rfl) ?_
        refine ro_calli (va_runV (As := [.int y1_2]) (rest := [.int y1_2, .ref (a 150)]) ⟨hx, hb, hml, hown, hts⟩ (x_X9_cellAsSaid l D H.size sk a t i1 q1 c1 d1 y1_2 hI (show 0 ≤ y1_2.toInt ∧ y1_2.toInt ≤ 29 from by omega)) (cwV 1 hts gm_X9_start_X9_cellAsSaid_68 rfl rfl rfl (by decide +kernel) ⟨Nat.le_of_ble_eq_true rfl, Nat.le_of_ble_eq_true rfl⟩) (yA_V hN (xZ_k hZ hS hA) hK hP (ci := 9) (q0 := 33) rfl rfl) rfl rfl hl.1 rfl (lv_room (Nat.le_of_ble_eq_true rfl)) dX9_start_23 ⟨Nat.le_of_ble_eq_true rfl, Nat.le_of_ble_eq_true rfl⟩) hS hA hP (fun r4 u4 H locs hw4 hP hS => ?_)
        have hw4 : ((0 ≤ r4.toInt ∧ r4.toInt ≤ 16383 ∧ (r4.toInt % 256 = 255 ∨ (r4.toInt % 8 ≤ 4 ∧ r4.toInt / 8 % 32 ≤ 29))) ∧ (r4.toInt % 256 = (c1 127 y1_2.toNatClampNeg).toInt % 256)) := hw4
        obtain ⟨hw4, hr4_0⟩ := hw4
        have hr4_0 : r4.toInt % 256 = (c 127 y1_2.toNatClampNeg).toInt % 256 := by have h9 := hr4_0; rw [show c1 127 = c 127 from hfc 127 (by decide)] at h9; exact h9
        refine xsT_150 hx hb hK hP hD hS (vp_in_iff.mpr (by have h9 : y1_2.toInt = y1_2.toInt := rfl; omega)) dX9_start_26 (fun H locs hP hD hS => ?_)
        have hI := xInv_c hI (k := 150) (j := (y1_2 : Int32).toNatClampNeg) (x := r4) (show 0 ≤ (r4 : Int32).toInt ∧ (r4 : Int32).toInt ≤ 16383 ∧ ((r4 : Int32).toInt % 256 = 255 ∨ ((r4 : Int32).toInt % 8 ≤ 4 ∧ (r4 : Int32).toInt / 8 % 32 ≤ 29)) from by omega)
        have hfc := fr_c hfc (k := 150) (j := (y1_2 : Int32).toNatClampNeg) (x := r4) (by decide)
        obtain ⟨x5, ex5⟩ : ∃ y : Int32, y = y1_2 + 1 := ⟨_, rfl⟩
        have tx5 := ti_add (a := y1_2.toInt) (b := 1) ex5 rfl (by decide) (by omega) (by omega)
        refine lv_iinc (v := x5) (lv' := [(2, .int x5), (0, .ref (a 142)), (1, .int w)]) hx hb dX9_start_27 hl (k := 0) rfl (by rw [ex5]; rfl) (by decide) rfl (fun ls hl => ?_)
        refine lv_goto (tgt := 2) hx hb dX9_start_30 (by decide) ?_
        exact ih1 i1 q1 (updA c1 150 (y1_2 : Int32).toNatClampNeg r4) d1 x5 hI (fr_w hfi (by decide)) (fr_w hfc (by decide)) (show 0 ≤ x5.toInt ∧ x5.toInt ≤ 30 from by have h50 : x5.toInt = (y1_2.toInt + 1) := tx5; omega) (show Im (w.toInt < x5.toInt) (¬ ((updA c1 150 (y1_2 : Int32).toNatClampNeg r4) 150 w.toNatClampNeg).toInt % 256 = 255) from Im_st (v := r4) hz1_0 (by omega) (by omega) tx5 (fun h9 => by have h8 := hr4_0; rw [← cl_e (x := w) (y := y1_2) h9] at h8; omega)) (by have h50 : x5.toInt = (y1_2.toInt + 1) := tx5; omega) _ _ _ hP hD hS (lv_sub hl [0, 1, 2] rfl)
  exact lp1 _ i q c d (0 : Int32) hI (fr_w hfi (by decide)) (fr_w hfc (by decide)) (show 0 ≤ (0 : Int32).toInt ∧ (0 : Int32).toInt ≤ 30 from by have h50 : (0 : Int32).toInt = 0 := (by decide); omega) (show Im (w.toInt < (0 : Int32).toInt) (¬ (c 150 w.toNatClampNeg).toInt % 256 = 255) from fun h9 => absurd h9 (by have h8 : (0 : Int32).toInt = 0 := (by decide); omega)) (Nat.lt_succ_self _) _ _ _ hP hD hS (lv_sub hl [0, 1, 2] rfl)

def wm_X9_isAct : List Cond := .code yX9_isAct cX9_isAct 4 (some .boolean) :: (([.methodLink RX9 104 yX0_hasX, .static yX0_hasX, .initialized RX0, .code yX0_hasX cX0_hasX 1 (some .boolean), .methodLink RX9 111 yX0_hasY, .static yX0_hasY, .code yX0_hasY cX0_hasY 1 (some .boolean), .fieldLink RX9 21 "TalePlay$Tale" "world" "LTalePlay$World;", .methodLink RX9 108 yX10_hasObject, .instanceMethod yX10_hasObject, .selects RX10 yX10_hasObject yX10_hasObject, .initialized RX10, .code yX10_hasObject cX10_hasObject 2 (some .boolean), .fieldLink RX10 37 "TalePlay$World" "objects" "I", .code yX11_isBelow cX11_isBelow 2 (some .boolean), .initialized RX11, .static yX11_isBelow] : List Cond) ++ wsX90 ++ wsX100)
set_option maxRecDepth 20000 in
theorem gm_X9_isAct_X0_hasX_104 : GoodIn wm_X9_isAct (va_wsS RX9 104 yX0_hasX wm_X0_hasX) := goodIn_app (goodIn_of _ (by decide +kernel)) (goodIn_r _ [4] rfl (by decide +kernel))
set_option maxRecDepth 20000 in
theorem gm_X9_isAct_X0_hasY_111 : GoodIn wm_X9_isAct (va_wsS RX9 111 yX0_hasY wm_X0_hasY) := goodIn_app (goodIn_of _ (by decide +kernel)) (goodIn_r _ [7] rfl (by decide +kernel))
set_option maxRecDepth 20000 in
theorem gm_X9_isAct_X10_hasObject_108 : GoodIn wm_X9_isAct (wsV RX9 108 RX10 yX10_hasObject wm_X10_hasObject) := goodIn_app (goodIn_of _ (by decide +kernel)) (goodIn_r _ [13, 14, 29, 30, 31, 32, 33, 34, 35] rfl (by decide +kernel))
set_option maxRecDepth 20000 in
theorem gm_X9_isAct_X11_isBelow_101 : GoodIn wm_X9_isAct wm_X11_isBelow := goodIn_r _ [15] rfl (by decide +kernel)
set_option maxHeartbeats 4000000 in
set_option maxRecDepth 100000 in
theorem x_X9_isAct (l : Launch) (D : va_G) (sz : Nat) (sk : Value) (a : Nat → Nat) (t : Nat → ClassId) (i : Nat → Int32) (q : Int64) (c : Nat → Nat → Int32) (d : Nat → Nat → Int64) (v1 : Int32) (w : Int32) (w2 : Int32) (hI : xInv i c) : Met l yX9_isAct wm_X9_isAct ({ frames := 1, cells := 0, slots := 0, locals := 21 }) (va_Pc [.ref (a 142), .int v1, .int w, .int w2] (yA (a 186) D sz (xwT sk a t i q c d) (xtT t))) (va_Qi (fun (r : Int32) (_ : Unit) => ((0 ≤ r.toInt ∧ r.toInt ≤ 1) ∧ (Im (r.toInt = 1) (0 ≤ v1.toInt ∧ v1.toInt ≤ 12 ∧ (v1.toInt = 0 → 0 ≤ w.toInt ∧ w.toInt ≤ 9) ∧ (1 ≤ v1.toInt ∧ v1.toInt ≤ 10 → 0 ≤ w.toInt ∧ w.toInt < (i 111).toInt) ∧ (v1.toInt = 3 ∨ v1.toInt = 4 ∨ v1.toInt = 7 ∨ v1.toInt = 8 → 0 ≤ w2.toInt ∧ w2.toInt < (i 111).toInt))))) oA (ro sz)) 0 0 (ro sz) := by
  refine Met.ofW (cc := cX9_isAct) (maxL := 4) (ret := (some .boolean)) (by decide) rfl ?_
  intro p e s m args below meth cd s₁ B hml hv
  obtain ⟨rfl, ⟨hsz, hP, hK⟩, hN, hZ⟩ := hv
  have hx := B.exec
  have hb := B.bytes
  have hr := B.returns
  have hts := atoms_spec (ws := wm_X9_isAct) B.pre
  have hown : s.vm.findClass RX9 = some m.cls := findClass_of_methodNamed B.named
  have hlocks := B.notSynchronized
  subst hsz
  have hA : ∀ q : Nat, s.heap.size ≤ q → ro s.heap.size q := fun _ h => h
  have hS : va_S (ro s.heap.size) s.heap s.heap [] := va_S.rf
  have hl := lv_entry ([.ref (a 142), .int v1, .int w, .int w2]) (n := 4) (Nat.le_of_ble_eq_true rfl)
  rw [lg_entry_eq]
  generalize (lg_sl ([.ref (a 142), .int v1, .int w, .int w2]) ++ List.replicate (4 - (lg_sl ([.ref (a 142), .int v1, .int w, .int w2])).length) Slot.unset).toArray = ls at hl ⊢
  have hl : lv_has ls 4 [(0, .ref (a 142)), (1, .int v1), (2, .int w), (3, .int w2)] := hl
  refine lv_iload_n hx hb dX9_isAct_0 rfl (lv_at hl 1 rfl) ?_
  refine lv_if_lt (tgt := 10) hx hb dX9_isAct_1 (by decide) (fun c1 => ?_) (fun c1 => ?_)
  · have f1 := (ti_lt (a := v1.toInt) (b := 0) rfl (by decide)).mp c1
    refine lv_iconst (v := 0) hx hb dX9_isAct_10 (by decide) ?_
    exact ro_zret hx hb hr hlocks hS rfl dX9_isAct_11 ⟨(show 0 ≤ (0 : Int32).toInt ∧ (0 : Int32).toInt ≤ 1 from by have h9 : (0 : Int32).toInt = 0 := (by decide); omega), (show Im ((0 : Int32).toInt = 1) (0 ≤ v1.toInt ∧ v1.toInt ≤ 12 ∧ (v1.toInt = 0 → 0 ≤ w.toInt ∧ w.toInt ≤ 9) ∧ (1 ≤ v1.toInt ∧ v1.toInt ≤ 10 → 0 ≤ w.toInt ∧ w.toInt < (i 111).toInt) ∧ (v1.toInt = 3 ∨ v1.toInt = 4 ∨ v1.toInt = 7 ∨ v1.toInt = 8 → 0 ≤ w2.toInt ∧ w2.toInt < (i 111).toInt)) from fun h9 => absurd h9 (by decide))⟩
  · have f1 := mt (ti_lt (a := v1.toInt) (b := 0) rfl (by decide)).mpr c1
    refine lv_iload_n hx hb dX9_isAct_4 rfl (lv_at hl 1 rfl) ?_
    refine lv_bipush (v := 12) hx hb dX9_isAct_5 (by decide) ?_
    refine lv_icmp_le (tgt := 12) hx hb dX9_isAct_7 (by decide) (fun c2 => ?_) (fun c2 => ?_)
    · have f2 := (ti_le (a := v1.toInt) (b := 12) rfl (by decide)).mp c2
      refine lv_iload_n hx hb dX9_isAct_12 rfl (lv_at hl 1 rfl) ?_
      refine lv_if_ne (tgt := 23) hx hb dX9_isAct_13 (by decide) (fun c3 => ?_) (fun c3 => ?_)
      · have f3 := mt (ti_eq (a := v1.toInt) (b := 0) rfl (by decide)).mpr c3
        refine lv_iload_n hx hb dX9_isAct_23 rfl (lv_at hl 1 rfl) ?_
        have hPc := hP.sub (ws' := []) [] rfl
        have hKc := hK.sub (tys' := []) [] rfl
        refine ro_calli (va_runS (As := [.int v1]) (rest := []) ⟨hx, hb, hml, hown, hts⟩ (c_X0_hasX l D s.heap.size v1) (va_cwS 1 hts gm_X9_isAct_X0_hasX_104 rfl rfl rfl (by decide +kernel) ⟨Nat.le_of_ble_eq_true rfl, Nat.le_of_ble_eq_true rfl⟩) (pA_S hKc hPc) rfl rfl hl.1 rfl (lv_room (Nat.le_of_ble_eq_true rfl)) dX9_isAct_24 ⟨Nat.le_of_ble_eq_true rfl, Nat.le_of_ble_eq_true rfl⟩) hS hA hP (fun r5 u5 H locs hw5 hP hS => ?_)
        have hw5 : r5 = if (v1.toInt < 11) then 1 else 0 := hw5
        refine lv_if_eq (tgt := 41) hx hb dX9_isAct_27 (by decide) (fun c6 => ?_) (fun c6 => ?_)
        · have f6 := fl_f hw5 c6
          refine lv_iload_n hx hb dX9_isAct_41 rfl (lv_at hl 1 rfl) ?_
          have hPc := hP.sub (ws' := []) [] rfl
          have hKc := hK.sub (tys' := []) [] rfl
          refine ro_calli (va_runS (As := [.int v1]) (rest := []) ⟨hx, hb, hml, hown, hts⟩ (c_X0_hasY l D H.size v1) (va_cwS 1 hts gm_X9_isAct_X0_hasY_111 rfl rfl rfl (by decide +kernel) ⟨Nat.le_of_ble_eq_true rfl, Nat.le_of_ble_eq_true rfl⟩) (pA_S hKc hPc) rfl rfl hl.1 rfl (lv_room (Nat.le_of_ble_eq_true rfl)) dX9_isAct_42 ⟨Nat.le_of_ble_eq_true rfl, Nat.le_of_ble_eq_true rfl⟩) hS hA hP (fun r8 u8 H locs hw8 hP hS => ?_)
          have hw8 : r8 = if (v1.toInt = 3 ∨ v1.toInt = 4 ∨ v1.toInt = 7 ∨ v1.toInt = 8) then 1 else 0 := hw8
          refine lv_if_eq (tgt := 59) hx hb dX9_isAct_45 (by decide) (fun c9 => ?_) (fun c9 => ?_)
          · have f9 := fl_f hw8 c9
            refine lv_iconst (v := 1) hx hb dX9_isAct_59 (by decide) ?_
            refine lv_goto (tgt := 64) hx hb dX9_isAct_60 (by decide) ?_
            exact ro_zret hx hb hr hlocks hS rfl dX9_isAct_64 ⟨(show 0 ≤ (1 : Int32).toInt ∧ (1 : Int32).toInt ≤ 1 from by have h9 : (1 : Int32).toInt = 1 := (by decide); omega), (show Im ((1 : Int32).toInt = 1) (0 ≤ v1.toInt ∧ v1.toInt ≤ 12 ∧ (v1.toInt = 0 → 0 ≤ w.toInt ∧ w.toInt ≤ 9) ∧ (1 ≤ v1.toInt ∧ v1.toInt ≤ 10 → 0 ≤ w.toInt ∧ w.toInt < (i 111).toInt) ∧ (v1.toInt = 3 ∨ v1.toInt = 4 ∨ v1.toInt = 7 ∨ v1.toInt = 8 → 0 ≤ w2.toInt ∧ w2.toInt < (i 111).toInt)) from fun _ => by omega)⟩
          · have f9 := fl_t hw8 c9
            refine lv_aload_n hx hb dX9_isAct_48 rfl (lv_at hl 0 rfl) ?_
            refine xgT_T_world hx hb hts (fun _ h => List.mem_cons_of_mem _ (List.mem_append_left _ (List.mem_append_right _ h))) hown hK hP (hts (.fieldLink RX9 21 "TalePlay$Tale" "world" "LTalePlay$World;") (by decide +kernel)) dX9_isAct_49 ?_
            refine lv_iload_n hx hb dX9_isAct_52 rfl (lv_at hl 3 rfl) ?_
            have rb111_i : 0 ≤ (i 111).toInt ∧ (i 111).toInt ≤ 30 := hI.1 111
            refine ro_calli (va_runV (As := [.int w2]) (rest := []) ⟨hx, hb, hml, hown, hts⟩ (x_X10_hasObject l D H.size .null a t i q c d w2 hI ) (cwV 1 hts gm_X9_isAct_X10_hasObject_108 rfl rfl rfl (by decide +kernel) ⟨Nat.le_of_ble_eq_true rfl, Nat.le_of_ble_eq_true rfl⟩) (yA_V hN (xZ_k hZ hS hA) (xkT_W hK) (xuT_W (sk := sk) hP) (ci := 10) (q0 := 0) rfl rfl) rfl rfl hl.1 rfl (lv_room (Nat.le_of_ble_eq_true rfl)) dX9_isAct_53 ⟨Nat.le_of_ble_eq_true rfl, Nat.le_of_ble_eq_true rfl⟩) hS hA hP (fun r10 u10 H locs hw10 hP hS => ?_)
            have hw10 : r10 = if (0 ≤ w2.toInt ∧ w2.toInt < (i 111).toInt) then 1 else 0 := hw10
            refine lv_if_eq (tgt := 63) hx hb dX9_isAct_56 (by decide) (fun c11 => ?_) (fun c11 => ?_)
            · have f11 := fl_f hw10 c11
              refine lv_iconst (v := 0) hx hb dX9_isAct_63 (by decide) ?_
              exact ro_zret hx hb hr hlocks hS rfl dX9_isAct_64 ⟨(show 0 ≤ (0 : Int32).toInt ∧ (0 : Int32).toInt ≤ 1 from by have h9 : (0 : Int32).toInt = 0 := (by decide); omega), (show Im ((0 : Int32).toInt = 1) (0 ≤ v1.toInt ∧ v1.toInt ≤ 12 ∧ (v1.toInt = 0 → 0 ≤ w.toInt ∧ w.toInt ≤ 9) ∧ (1 ≤ v1.toInt ∧ v1.toInt ≤ 10 → 0 ≤ w.toInt ∧ w.toInt < (i 111).toInt) ∧ (v1.toInt = 3 ∨ v1.toInt = 4 ∨ v1.toInt = 7 ∨ v1.toInt = 8 → 0 ≤ w2.toInt ∧ w2.toInt < (i 111).toInt)) from fun h9 => absurd h9 (by decide))⟩
            · have f11 := fl_t hw10 c11
              refine lv_iconst (v := 1) hx hb dX9_isAct_59 (by decide) ?_
              refine lv_goto (tgt := 64) hx hb dX9_isAct_60 (by decide) ?_
              exact ro_zret hx hb hr hlocks hS rfl dX9_isAct_64 ⟨(show 0 ≤ (1 : Int32).toInt ∧ (1 : Int32).toInt ≤ 1 from by have h9 : (1 : Int32).toInt = 1 := (by decide); omega), (show Im ((1 : Int32).toInt = 1) (0 ≤ v1.toInt ∧ v1.toInt ≤ 12 ∧ (v1.toInt = 0 → 0 ≤ w.toInt ∧ w.toInt ≤ 9) ∧ (1 ≤ v1.toInt ∧ v1.toInt ≤ 10 → 0 ≤ w.toInt ∧ w.toInt < (i 111).toInt) ∧ (v1.toInt = 3 ∨ v1.toInt = 4 ∨ v1.toInt = 7 ∨ v1.toInt = 8 → 0 ≤ w2.toInt ∧ w2.toInt < (i 111).toInt)) from fun _ => by omega)⟩
        · have f6 := fl_t hw5 c6
          refine lv_aload_n hx hb dX9_isAct_30 rfl (lv_at hl 0 rfl) ?_
          refine xgT_T_world hx hb hts (fun _ h => List.mem_cons_of_mem _ (List.mem_append_left _ (List.mem_append_right _ h))) hown hK hP (hts (.fieldLink RX9 21 "TalePlay$Tale" "world" "LTalePlay$World;") (by decide +kernel)) dX9_isAct_31 ?_
          refine lv_iload_n hx hb dX9_isAct_34 rfl (lv_at hl 2 rfl) ?_
          have rb111_i : 0 ≤ (i 111).toInt ∧ (i 111).toInt ≤ 30 := hI.1 111
          refine ro_calli (va_runV (As := [.int w]) (rest := []) ⟨hx, hb, hml, hown, hts⟩ (x_X10_hasObject l D H.size .null a t i q c d w hI ) (cwV 1 hts gm_X9_isAct_X10_hasObject_108 rfl rfl rfl (by decide +kernel) ⟨Nat.le_of_ble_eq_true rfl, Nat.le_of_ble_eq_true rfl⟩) (yA_V hN (xZ_k hZ hS hA) (xkT_W hK) (xuT_W (sk := sk) hP) (ci := 10) (q0 := 0) rfl rfl) rfl rfl hl.1 rfl (lv_room (Nat.le_of_ble_eq_true rfl)) dX9_isAct_35 ⟨Nat.le_of_ble_eq_true rfl, Nat.le_of_ble_eq_true rfl⟩) hS hA hP (fun r12 u12 H locs hw12 hP hS => ?_)
          have hw12 : r12 = if (0 ≤ w.toInt ∧ w.toInt < (i 111).toInt) then 1 else 0 := hw12
          refine lv_if_eq (tgt := 63) hx hb dX9_isAct_38 (by decide) (fun c13 => ?_) (fun c13 => ?_)
          · have f13 := fl_f hw12 c13
            refine lv_iconst (v := 0) hx hb dX9_isAct_63 (by decide) ?_
            exact ro_zret hx hb hr hlocks hS rfl dX9_isAct_64 ⟨(show 0 ≤ (0 : Int32).toInt ∧ (0 : Int32).toInt ≤ 1 from by have h9 : (0 : Int32).toInt = 0 := (by decide); omega), (show Im ((0 : Int32).toInt = 1) (0 ≤ v1.toInt ∧ v1.toInt ≤ 12 ∧ (v1.toInt = 0 → 0 ≤ w.toInt ∧ w.toInt ≤ 9) ∧ (1 ≤ v1.toInt ∧ v1.toInt ≤ 10 → 0 ≤ w.toInt ∧ w.toInt < (i 111).toInt) ∧ (v1.toInt = 3 ∨ v1.toInt = 4 ∨ v1.toInt = 7 ∨ v1.toInt = 8 → 0 ≤ w2.toInt ∧ w2.toInt < (i 111).toInt)) from fun h9 => absurd h9 (by decide))⟩
          · have f13 := fl_t hw12 c13
            refine lv_iload_n hx hb dX9_isAct_41 rfl (lv_at hl 1 rfl) ?_
            have hPc := hP.sub (ws' := []) [] rfl
            have hKc := hK.sub (tys' := []) [] rfl
            refine ro_calli (va_runS (As := [.int v1]) (rest := []) ⟨hx, hb, hml, hown, hts⟩ (c_X0_hasY l D H.size v1) (va_cwS 1 hts gm_X9_isAct_X0_hasY_111 rfl rfl rfl (by decide +kernel) ⟨Nat.le_of_ble_eq_true rfl, Nat.le_of_ble_eq_true rfl⟩) (pA_S hKc hPc) rfl rfl hl.1 rfl (lv_room (Nat.le_of_ble_eq_true rfl)) dX9_isAct_42 ⟨Nat.le_of_ble_eq_true rfl, Nat.le_of_ble_eq_true rfl⟩) hS hA hP (fun r15 u15 H locs hw15 hP hS => ?_)
            have hw15 : r15 = if (v1.toInt = 3 ∨ v1.toInt = 4 ∨ v1.toInt = 7 ∨ v1.toInt = 8) then 1 else 0 := hw15
            refine lv_if_eq (tgt := 59) hx hb dX9_isAct_45 (by decide) (fun c16 => ?_) (fun c16 => ?_)
            · have f16 := fl_f hw15 c16
              refine lv_iconst (v := 1) hx hb dX9_isAct_59 (by decide) ?_
              refine lv_goto (tgt := 64) hx hb dX9_isAct_60 (by decide) ?_
              exact ro_zret hx hb hr hlocks hS rfl dX9_isAct_64 ⟨(show 0 ≤ (1 : Int32).toInt ∧ (1 : Int32).toInt ≤ 1 from by have h9 : (1 : Int32).toInt = 1 := (by decide); omega), (show Im ((1 : Int32).toInt = 1) (0 ≤ v1.toInt ∧ v1.toInt ≤ 12 ∧ (v1.toInt = 0 → 0 ≤ w.toInt ∧ w.toInt ≤ 9) ∧ (1 ≤ v1.toInt ∧ v1.toInt ≤ 10 → 0 ≤ w.toInt ∧ w.toInt < (i 111).toInt) ∧ (v1.toInt = 3 ∨ v1.toInt = 4 ∨ v1.toInt = 7 ∨ v1.toInt = 8 → 0 ≤ w2.toInt ∧ w2.toInt < (i 111).toInt)) from fun _ => by omega)⟩
            · have f16 := fl_t hw15 c16
              refine lv_aload_n hx hb dX9_isAct_48 rfl (lv_at hl 0 rfl) ?_
              refine xgT_T_world hx hb hts (fun _ h => List.mem_cons_of_mem _ (List.mem_append_left _ (List.mem_append_right _ h))) hown hK hP (hts (.fieldLink RX9 21 "TalePlay$Tale" "world" "LTalePlay$World;") (by decide +kernel)) dX9_isAct_49 ?_
              refine lv_iload_n hx hb dX9_isAct_52 rfl (lv_at hl 3 rfl) ?_
              refine ro_calli (va_runV (As := [.int w2]) (rest := []) ⟨hx, hb, hml, hown, hts⟩ (x_X10_hasObject l D H.size .null a t i q c d w2 hI ) (cwV 1 hts gm_X9_isAct_X10_hasObject_108 rfl rfl rfl (by decide +kernel) ⟨Nat.le_of_ble_eq_true rfl, Nat.le_of_ble_eq_true rfl⟩) (yA_V hN (xZ_k hZ hS hA) (xkT_W hK) (xuT_W (sk := sk) hP) (ci := 10) (q0 := 0) rfl rfl) rfl rfl hl.1 rfl (lv_room (Nat.le_of_ble_eq_true rfl)) dX9_isAct_53 ⟨Nat.le_of_ble_eq_true rfl, Nat.le_of_ble_eq_true rfl⟩) hS hA hP (fun r17 u17 H locs hw17 hP hS => ?_)
              have hw17 : r17 = if (0 ≤ w2.toInt ∧ w2.toInt < (i 111).toInt) then 1 else 0 := hw17
              refine lv_if_eq (tgt := 63) hx hb dX9_isAct_56 (by decide) (fun c18 => ?_) (fun c18 => ?_)
              · have f18 := fl_f hw17 c18
                refine lv_iconst (v := 0) hx hb dX9_isAct_63 (by decide) ?_
                exact ro_zret hx hb hr hlocks hS rfl dX9_isAct_64 ⟨(show 0 ≤ (0 : Int32).toInt ∧ (0 : Int32).toInt ≤ 1 from by have h9 : (0 : Int32).toInt = 0 := (by decide); omega), (show Im ((0 : Int32).toInt = 1) (0 ≤ v1.toInt ∧ v1.toInt ≤ 12 ∧ (v1.toInt = 0 → 0 ≤ w.toInt ∧ w.toInt ≤ 9) ∧ (1 ≤ v1.toInt ∧ v1.toInt ≤ 10 → 0 ≤ w.toInt ∧ w.toInt < (i 111).toInt) ∧ (v1.toInt = 3 ∨ v1.toInt = 4 ∨ v1.toInt = 7 ∨ v1.toInt = 8 → 0 ≤ w2.toInt ∧ w2.toInt < (i 111).toInt)) from fun h9 => absurd h9 (by decide))⟩
              · have f18 := fl_t hw17 c18
                refine lv_iconst (v := 1) hx hb dX9_isAct_59 (by decide) ?_
                refine lv_goto (tgt := 64) hx hb dX9_isAct_60 (by decide) ?_
                exact ro_zret hx hb hr hlocks hS rfl dX9_isAct_64 ⟨(show 0 ≤ (1 : Int32).toInt ∧ (1 : Int32).toInt ≤ 1 from by have h9 : (1 : Int32).toInt = 1 := (by decide); omega), (show Im ((1 : Int32).toInt = 1) (0 ≤ v1.toInt ∧ v1.toInt ≤ 12 ∧ (v1.toInt = 0 → 0 ≤ w.toInt ∧ w.toInt ≤ 9) ∧ (1 ≤ v1.toInt ∧ v1.toInt ≤ 10 → 0 ≤ w.toInt ∧ w.toInt < (i 111).toInt) ∧ (v1.toInt = 3 ∨ v1.toInt = 4 ∨ v1.toInt = 7 ∨ v1.toInt = 8 → 0 ≤ w2.toInt ∧ w2.toInt < (i 111).toInt)) from fun _ => by omega)⟩
      · have f3 := (ti_eq (a := v1.toInt) (b := 0) rfl (by decide)).mp c3
        refine lv_iload_n hx hb dX9_isAct_16 rfl (lv_at hl 2 rfl) ?_
        refine lv_bipush (v := 10) hx hb dX9_isAct_17 (by decide) ?_
        have hNn19 := hN.2.2.2.2.2.1
        have hPc := hP.sub (ws' := []) [] rfl
        have hKc := hK.sub (tys' := []) [] rfl
        refine ro_calli (va_runSN (As := [.int w, .int 10]) (rest := []) ⟨hx, hb, hml, hown, hts⟩ (c_X11_isBelow l D s.heap.size w 10 w.toInt 10 rfl (by decide)) ⟨va_cnB 2 hts gm_X9_isAct_X11_isBelow_101 rfl rfl rfl hNn19 (hts (.initialized RX11) (by decide +kernel)) (by decide +kernel) ⟨Nat.le_of_ble_eq_true rfl, Nat.le_of_ble_eq_true rfl⟩, (hts (.static yX11_isBelow) (by decide +kernel)), trivial⟩ (pA_S hKc hPc) rfl rfl hl.1 rfl (lv_room (Nat.le_of_ble_eq_true rfl)) dX9_isAct_19 ⟨Nat.le_of_ble_eq_true rfl, Nat.le_of_ble_eq_true rfl⟩) hS hA hP (fun r20 u20 H locs hw20 hP hS => ?_)
        have hw20 : r20 = if (0 ≤ w.toInt ∧ w.toInt < 10) then 1 else 0 := hw20
        exact ro_zret hx hb hr hlocks hS (fl_n hw20) dX9_isAct_22 ⟨(show 0 ≤ r20.toInt ∧ r20.toInt ≤ 1 from fl_r hw20), (show Im (r20.toInt = 1) (0 ≤ v1.toInt ∧ v1.toInt ≤ 12 ∧ (v1.toInt = 0 → 0 ≤ w.toInt ∧ w.toInt ≤ 9) ∧ (1 ≤ v1.toInt ∧ v1.toInt ≤ 10 → 0 ≤ w.toInt ∧ w.toInt < (i 111).toInt) ∧ (v1.toInt = 3 ∨ v1.toInt = 4 ∨ v1.toInt = 7 ∨ v1.toInt = 8 → 0 ≤ w2.toInt ∧ w2.toInt < (i 111).toInt)) from fun h9 => by have h8 := fl_t hw20 (fun e9 => by rw [e9] at h9; exact absurd h9 (by decide)); omega)⟩
    · have f2 := mt (ti_le (a := v1.toInt) (b := 12) rfl (by decide)).mpr c2
      refine lv_iconst (v := 0) hx hb dX9_isAct_10 (by decide) ?_
      exact ro_zret hx hb hr hlocks hS rfl dX9_isAct_11 ⟨(show 0 ≤ (0 : Int32).toInt ∧ (0 : Int32).toInt ≤ 1 from by have h9 : (0 : Int32).toInt = 0 := (by decide); omega), (show Im ((0 : Int32).toInt = 1) (0 ≤ v1.toInt ∧ v1.toInt ≤ 12 ∧ (v1.toInt = 0 → 0 ≤ w.toInt ∧ w.toInt ≤ 9) ∧ (1 ≤ v1.toInt ∧ v1.toInt ≤ 10 → 0 ≤ w.toInt ∧ w.toInt < (i 111).toInt) ∧ (v1.toInt = 3 ∨ v1.toInt = 4 ∨ v1.toInt = 7 ∨ v1.toInt = 8 → 0 ≤ w2.toInt ∧ w2.toInt < (i 111).toInt)) from fun h9 => absurd h9 (by decide))⟩

def wm_X9_doIt : List Cond := .code yX9_doIt cX9_doIt 5 none :: (([.fieldLink RX9 52 "TalePlay$Tale" "acts" "LTalePlay$Acts;", .methodLink RX9 125 yX0_subjectOf, .instanceMethod yX0_subjectOf, .selects RX0 yX0_subjectOf yX0_subjectOf, .initialized RX0, .code yX0_subjectOf cX0_subjectOf 3 (some .int), .fieldLink RX0 38 "TalePlay$Acts" "player" "I", .fieldLink RX9 9 "TalePlay$Tale" "deeds" "[I", .fieldLink RX9 77 "TalePlay$Tale" "turns" "I", .methodLink RX9 104 yX0_hasX, .static yX0_hasX, .code yX0_hasX cX0_hasX 1 (some .boolean), .methodLink RX9 111 yX0_hasY, .static yX0_hasY, .code yX0_hasY cX0_hasY 1 (some .boolean), .code yX11_deedOf cX11_deedOf 3 (some .int), .initialized RX11, .static yX11_deedOf, .fieldLink RX9 15 "TalePlay$Tale" "subjects" "[I", .fieldLink RX9 18 "TalePlay$Tale" "formerCells" "[I", .fieldLink RX9 34 "TalePlay$Tale" "scene" "LTalePlay$Scene;", .fieldLink RX9 65 "TalePlay$Scene" "cells" "[I", .methodLink RX9 131 yX0_outcomeOf, .instanceMethod yX0_outcomeOf, .selects RX0 yX0_outcomeOf yX0_outcomeOf, .code yX0_outcomeOf cX0_outcomeOf 5 (some .int), .fieldLink RX0 33 "TalePlay$Acts" "scene" "LTalePlay$Scene;", .fieldLink RX0 149 "TalePlay$Scene" "cells" "[I", .methodLink RX0 152 yX0_subjectOf, .fieldLink RX0 19 "TalePlay$Acts" "roads" "LTalePlay$Roads;", .fieldLink RX0 95 "TalePlay$Roads" "leads" "[I", .methodLink RX0 83 yX6_holderOf, .instanceMethod yX6_holderOf, .selects RX6 yX6_holderOf yX6_holderOf, .initialized RX6, .code yX6_holderOf cX6_holderOf 3 (some .int), .fieldLink RX6 9 "TalePlay$Scene" "cells" "[I", .methodLink RX0 155 yX6_placed, .static yX6_placed, .code yX6_placed cX6_placed 3 (some .int), .methodLink RX0 80 yX6_formOf, .instanceMethod yX6_formOf, .selects RX6 yX6_formOf yX6_formOf, .code yX6_formOf cX6_formOf 3 (some .int), .methodLink RX0 158 yX6_flagged, .static yX6_flagged, .code yX6_flagged cX6_flagged 4 (some .int), .fieldLink RX0 9 "TalePlay$Acts" "world" "LTalePlay$World;", .methodLink RX0 86 yX10_sortOf, .instanceMethod yX10_sortOf, .selects RX10 yX10_sortOf yX10_sortOf, .initialized RX10, .code yX10_sortOf cX10_sortOf 2 (some .int), .fieldLink RX10 37 "TalePlay$World" "objects" "I", .fieldLink RX10 15 "TalePlay$World" "sorts" "[I", .fieldLink RX10 21 "TalePlay$World" "kindOf" "[I", .methodLink RX0 162 yX0_placedAs, .instanceMethod yX0_placedAs, .selects RX0 yX0_placedAs yX0_placedAs, .code yX0_placedAs cX0_placedAs 3 (some .int), .fieldLink RX9 43 "TalePlay$Tale" "sight" "LTalePlay$Sight;", .fieldLink RX9 56 "TalePlay$Tale" "player" "I", .methodLink RX9 80 yX8_look, .instanceMethod yX8_look, .selects RX8 yX8_look yX8_look, .initialized RX8, .code yX8_look cX8_look 6 none, .methodLink RX8 30 yX8_shellOf, .instanceMethod yX8_shellOf, .selects RX8 yX8_shellOf yX8_shellOf, .code yX8_shellOf cX8_shellOf 5 (some .int), .fieldLink RX8 26 "TalePlay$Sight" "scene" "LTalePlay$Scene;", .methodLink RX8 62 yX6_holderOf, .fieldLink RX8 18 "TalePlay$Sight" "world" "LTalePlay$World;", .methodLink RX8 34 yX10_sortOf, .methodLink RX8 65 yX8_isCover, .instanceMethod yX8_isCover, .selects RX8 yX8_isCover yX8_isCover, .code yX8_isCover cX8_isCover 3 (some .boolean), .methodLink RX8 40 yX6_has, .instanceMethod yX6_has, .selects RX6 yX6_has yX6_has, .code yX6_has cX6_has 3 (some .boolean), .fieldLink RX8 46 "TalePlay$Sight" "bright" "Z", .fieldLink RX8 50 "TalePlay$World" "objects" "I", .methodLink RX8 58 yX6_lies, .instanceMethod yX6_lies, .selects RX6 yX6_lies yX6_lies, .code yX6_lies cX6_lies 4 (some .boolean), .fieldLink RX8 9 "TalePlay$Sight" "seen" "[Z", .fieldLink RX8 15 "TalePlay$Sight" "reached" "[Z", .methodLink RX8 54 yX8_isInView, .instanceMethod yX8_isInView, .selects RX8 yX8_isInView yX8_isInView, .code yX8_isInView cX8_isInView 6 (some .boolean), .fieldLink RX8 22 "TalePlay$Sight" "roads" "LTalePlay$Roads;", .methodLink RX8 69 yX5_isSide, .instanceMethod yX5_isSide, .selects RX5 yX5_isSide yX5_isSide, .initialized RX5, .code yX5_isSide cX5_isSide 3 (some .boolean), .fieldLink RX5 24 "TalePlay$Roads" "firstSides" "[I", .fieldLink RX5 27 "TalePlay$Roads" "secondSides" "[I"] : List Cond) ++ wsX90 ++ wsX00 ++ wsX60 ++ wsX50 ++ wsX100 ++ wsX80)
set_option maxRecDepth 20000 in
theorem gm_X9_doIt_X0_subjectOf_TA_125 : GoodIn wm_X9_doIt (wsV RX9 125 RX0 yX0_subjectOf wm_X0_subjectOf_TA) := goodIn_app (goodIn_of _ (by decide +kernel)) (goodIn_r _ [6, 7, 115, 116, 117, 118, 119, 120, 121] rfl (by decide +kernel))
set_option maxRecDepth 20000 in
theorem gm_X9_doIt_X0_hasX_104 : GoodIn wm_X9_doIt (va_wsS RX9 104 yX0_hasX wm_X0_hasX) := goodIn_app (goodIn_of _ (by decide +kernel)) (goodIn_r _ [12] rfl (by decide +kernel))
set_option maxRecDepth 20000 in
theorem gm_X9_doIt_X0_hasY_111 : GoodIn wm_X9_doIt (va_wsS RX9 111 yX0_hasY wm_X0_hasY) := goodIn_app (goodIn_of _ (by decide +kernel)) (goodIn_r _ [15] rfl (by decide +kernel))
set_option maxRecDepth 20000 in
theorem gm_X9_doIt_X11_deedOf_128 : GoodIn wm_X9_doIt wm_X11_deedOf := goodIn_r _ [16] rfl (by decide +kernel)
set_option maxRecDepth 20000 in
theorem gm_X9_doIt_X0_outcomeOf_TA_131 : GoodIn wm_X9_doIt (wsV RX9 131 RX0 yX0_outcomeOf wm_X0_outcomeOf_TA) := goodIn_app (goodIn_of _ (by decide +kernel)) (goodIn_r _ [26, 27, 28, 29, 3, 4, 5, 6, 7, 30, 31, 32, 33, 34, 35, 36, 37, 38, 39, 40, 41, 42, 43, 44, 45, 46, 47, 48, 49, 50, 51, 52, 53, 54, 55, 56, 57, 58, 59, 60, 115, 116, 117, 118, 119, 120, 121, 122, 123, 124, 125, 126, 127, 128, 129, 130, 131, 132, 133, 134, 135, 136, 137, 138, 139, 140, 141] rfl (by decide +kernel))
set_option maxRecDepth 20000 in
theorem gm_X9_doIt_X8_look_TG_80 : GoodIn wm_X9_doIt (wsV RX9 80 RX8 yX8_look wm_X8_look_TG) := goodIn_app (goodIn_of _ (by decide +kernel)) (goodIn_r _ [67, 68, 69, 70, 66, 71, 72, 73, 33, 34, 35, 36, 37, 74, 75, 50, 51, 52, 53, 54, 55, 56, 76, 77, 78, 79, 80, 81, 82, 83, 84, 85, 86, 87, 88, 89, 90, 91, 92, 93, 94, 95, 96, 97, 98, 99, 100, 101, 102, 103, 142, 143, 144, 145, 146, 147, 122, 123, 135, 136, 137, 138, 139, 140, 141, 124, 125, 126, 127, 128, 129, 130, 131, 132, 133, 134] rfl (by decide +kernel))
set_option maxHeartbeats 4000000 in
set_option maxRecDepth 100000 in
theorem x_X9_doIt (l : Launch) (D : va_G) (sz : Nat) (sk : Value) (a : Nat → Nat) (t : Nat → ClassId) (i : Nat → Int32) (q : Int64) (c : Nat → Nat → Int32) (d : Nat → Nat → Int64) (v1 : Int32) (w : Int32) (w2 : Int32) (hI : xInv i c) (hv1 : 0 ≤ v1.toInt ∧ v1.toInt ≤ 12) (hx0 : v1.toInt = 0 → 0 ≤ w.toInt ∧ w.toInt ≤ 9) (hx1 : 1 ≤ v1.toInt ∧ v1.toInt ≤ 10 → 0 ≤ w.toInt ∧ w.toInt ≤ 29) (hy1 : v1.toInt = 3 ∨ v1.toInt = 4 ∨ v1.toInt = 7 ∨ v1.toInt = 8 → 0 ≤ w2.toInt ∧ w2.toInt ≤ 29) (hth : (i 146).toInt = 1) (htu : (i 148).toInt ≤ 99) (hag : Im (v1.toInt = 0) (AG (c 150) (c 129) (i 156) w)) (hal : Im (v1.toInt = 11) (AL (c 150) (i 156))) (hs_P : PJ (i 146) (i 147) (i 156) (i 148) (c 150) (c 144) (c 145)) : Met l yX9_doIt wm_X9_doIt ({ frames := 4, cells := 0, slots := 0, locals := 94 }) (va_Pc [.ref (a 142), .int v1, .int w, .int w2] (yB (a 186) D sz (xwT sk a t i q c d) (xtT t))) (va_Qv (fun (u : MS) => True ∧ xInv u.1 u.2.2.1 ∧ (∀ k, k ∉ ([148, 154] : List Nat) → u.1 k = i k) ∧ (∀ k, k ∉ ([143, 144, 145, 150, 152, 153] : List Nat) → u.2.2.1 k = c k) ∧ (PJ (u.1 146) (u.1 147) (u.1 156) (u.1 148) (u.2.2.1 150) (u.2.2.1 144) (u.2.2.1 145))) (oC D (va_A (xwT sk a t i q c d) sz) (fun u : MS => xwT sk a t u.1 u.2.1 u.2.2.1 u.2.2.2) (fun _ => [])) (va_A (xwT sk a t i q c d) sz)) 0 0 (va_A (xwT sk a t i q c d) sz) := by
  refine Met.ofW (cc := cX9_doIt) (maxL := 5) (ret := none) (by decide) rfl ?_
  intro p e s m args below meth cd s₁ B hml hv
  obtain ⟨rfl, ⟨hsz, hP, hK, hD0⟩, hN, hZ, hBW⟩ := hv
  have hx := B.exec
  have hb := B.bytes
  have hr := B.returns
  have hts := atoms_spec (ws := wm_X9_doIt) B.pre
  have hown : s.vm.findClass RX9 = some m.cls := findClass_of_methodNamed B.named
  have hlocks := B.notSynchronized
  subst hsz
  have hD := hD0.self (sz := s.heap.size)
  have hZ := xZ_A hZ hP hBW
  generalize hAe : va_A (xwT sk a t i q c d) s.heap.size = A at hD hZ ⊢
  have hA : ∀ q : Nat, s.heap.size ≤ q → A q := fun q h => by rw [← hAe]; exact Or.inr h
  have hS : va_S A s.heap s.heap [] := va_S.rf
  have hfi : ∀ k, k ∉ ([] : List Nat) → i k = i k := fun _ _ => rfl
  have hfc : ∀ k, k ∉ ([] : List Nat) → c k = c k := fun _ _ => rfl
  have hl := lv_entry ([.ref (a 142), .int v1, .int w, .int w2]) (n := 5) (Nat.le_of_ble_eq_true rfl)
  rw [lg_entry_eq]
  generalize (lg_sl ([.ref (a 142), .int v1, .int w, .int w2]) ++ List.replicate (5 - (lg_sl ([.ref (a 142), .int v1, .int w, .int w2])).length) Slot.unset).toArray = ls at hl ⊢
  have hl : lv_has ls 5 [(0, .ref (a 142)), (1, .int v1), (2, .int w), (3, .int w2)] := hl
  obtain ⟨hp1, hp2, hp3, hp4, hp5⟩ := hs_P hth
  have hp6 : (i 156).toInt = (i 147).toInt := by rw [hp3]
  have hp7 : ¬ (c 150 (i 156).toNatClampNeg).toInt % 256 = 255 := by rw [hp3]; exact hp4
  refine lv_aload_n hx hb dX9_doIt_0 rfl (lv_at hl 0 rfl) ?_
  refine xgT_T_acts hx hb hts (fun _ h => List.mem_cons_of_mem _ (List.mem_append_left _ (List.mem_append_left _ (List.mem_append_left _ (List.mem_append_left _ (List.mem_append_left _ (List.mem_append_right _ h))))))) hown hK hP (hts (.fieldLink RX9 52 "TalePlay$Tale" "acts" "LTalePlay$Acts;") (by decide +kernel)) dX9_doIt_1 ?_
  refine lv_iload_n hx hb dX9_doIt_4 rfl (lv_at hl 1 rfl) ?_
  refine lv_iload_n hx hb dX9_doIt_5 rfl (lv_at hl 2 rfl) ?_
  have rb156_i : (i 156).toInt = -9 ∨ (0 ≤ (i 156).toInt ∧ (i 156).toInt ≤ 29) := hI.1 156
  refine ro_calli (va_runV (As := [.int v1, .int w]) (rest := []) ⟨hx, hb, hml, hown, hts⟩ (x_X0_subjectOf_TA l D s.heap.size sk a t i q c d v1 w hI ) (cwV 2 hts gm_X9_doIt_X0_subjectOf_TA_125 rfl rfl rfl (by decide +kernel) ⟨Nat.le_of_ble_eq_true rfl, Nat.le_of_ble_eq_true rfl⟩) (yA_V hN (xZ_k hZ hS hA) hK hP (ci := 0) (q0 := 42) rfl rfl) rfl rfl hl.1 rfl (lv_room (Nat.le_of_ble_eq_true rfl)) dX9_doIt_6 ⟨Nat.le_of_ble_eq_true rfl, Nat.le_of_ble_eq_true rfl⟩) hS hA hP (fun r1 u1 H locs hw1 hP hS => ?_)
  have hw1 : ((r1.toInt = (i 156).toInt ∧ (v1.toInt = 0 ∨ 10 ≤ v1.toInt)) ∨ (r1.toInt = w.toInt ∧ ¬ (v1.toInt = 0 ∨ 10 ≤ v1.toInt))) := hw1
  refine lv_istore (lv' := [(4, .int r1), (0, .ref (a 142)), (1, .int v1), (2, .int w), (3, .int w2)]) hx hb dX9_doIt_9 hl (by decide) rfl (fun ls hl => ?_)
  refine lv_aload_n hx hb dX9_doIt_11 rfl (lv_at hl 1 rfl) ?_
  refine xgT_T_deeds hx hb hts (fun _ h => List.mem_cons_of_mem _ (List.mem_append_left _ (List.mem_append_left _ (List.mem_append_left _ (List.mem_append_left _ (List.mem_append_left _ (List.mem_append_right _ h))))))) hown hK hP (hts (.fieldLink RX9 9 "TalePlay$Tale" "deeds" "[I") (by decide +kernel)) dX9_doIt_12 ?_
  refine lv_aload_n hx hb dX9_doIt_15 rfl (lv_at hl 1 rfl) ?_
  refine xgT_T_turns (v := (i 148)) rfl hx hb hts (fun _ h => List.mem_cons_of_mem _ (List.mem_append_left _ (List.mem_append_left _ (List.mem_append_left _ (List.mem_append_left _ (List.mem_append_left _ (List.mem_append_right _ h))))))) hown hK hP (hts (.fieldLink RX9 77 "TalePlay$Tale" "turns" "I") (by decide +kernel)) dX9_doIt_16 ?_
  have rb148_i : 0 ≤ (i 148).toInt ∧ (i 148).toInt ≤ 100 := hI.1 148
  refine lv_iload_n hx hb dX9_doIt_19 rfl (lv_at hl 2 rfl) ?_
  refine lv_iload_n hx hb dX9_doIt_20 rfl (lv_at hl 2 rfl) ?_
  have hPc := hP.sub (ws' := []) [] rfl
  have hKc := hK.sub (tys' := []) [] rfl
  refine ro_calli (va_runS (As := [.int v1]) (rest := [.int v1, .int (i 148), .ref (a 143)]) ⟨hx, hb, hml, hown, hts⟩ (c_X0_hasX l D H.size v1) (va_cwS 1 hts gm_X9_doIt_X0_hasX_104 rfl rfl rfl (by decide +kernel) ⟨Nat.le_of_ble_eq_true rfl, Nat.le_of_ble_eq_true rfl⟩) (pA_S hKc hPc) rfl rfl hl.1 rfl (lv_room (Nat.le_of_ble_eq_true rfl)) dX9_doIt_21 ⟨Nat.le_of_ble_eq_true rfl, Nat.le_of_ble_eq_true rfl⟩) hS hA hP (fun r3 u3 H locs hw3 hP hS => ?_)
  have hw3 : r3 = if (v1.toInt < 11) then 1 else 0 := hw3
  have jn4 : ∀ (z4_0 : Int32), (z4_0.toInt = z4_0.toInt) → ∀ (H : Heap) (locs : List Loc) (ls : Array Slot), va_P D vwCl (xwT sk a t i q c d) H → va_D A (xwT sk a t i q c d) → va_S A s.heap H locs → lv_has ls 5 [(4, .int r1), (0, .ref (a 142)), (1, .int v1), (2, .int w), (3, .int w2)] → W p l e (headSpec wm_X9_doIt ({ frames := 4, cells := 0, slots := 0, locals := 94 })).room s m ([.ref (a 142), .int v1, .int w, .int w2] : List Value).toArray below meth cd H locs 0 0 (MQ below (va_Qv (fun (u : MS) => True ∧ xInv u.1 u.2.2.1 ∧ (∀ k, k ∉ ([148, 154] : List Nat) → u.1 k = i k) ∧ (∀ k, k ∉ ([143, 144, 145, 150, 152, 153] : List Nat) → u.2.2.1 k = c k) ∧ (PJ (u.1 146) (u.1 147) (u.1 156) (u.1 148) (u.2.2.1 150) (u.2.2.1 144) (u.2.2.1 145))) (oC D A (fun u : MS => xwT sk a t u.1 u.2.1 u.2.2.1 u.2.2.2) (fun _ => [])) A) ([.ref (a 142), .int v1, .int w, .int w2] : List Value).toArray s 0 0 A) (F0 m 32 ls [.int z4_0, .int v1, .int (i 148), .ref (a 143)]) := by
    intro z4_0 hs4_0 H locs ls hP hD hS hl
    refine lv_iload_n hx hb dX9_doIt_32 rfl (lv_at hl 2 rfl) ?_
    have hPc := hP.sub (ws' := []) [] rfl
    have hKc := hK.sub (tys' := []) [] rfl
    refine ro_calli (va_runS (As := [.int v1]) (rest := [.int z4_0, .int v1, .int (i 148), .ref (a 143)]) ⟨hx, hb, hml, hown, hts⟩ (c_X0_hasY l D H.size v1) (va_cwS 1 hts gm_X9_doIt_X0_hasY_111 rfl rfl rfl (by decide +kernel) ⟨Nat.le_of_ble_eq_true rfl, Nat.le_of_ble_eq_true rfl⟩) (pA_S hKc hPc) rfl rfl hl.1 rfl (lv_room (Nat.le_of_ble_eq_true rfl)) dX9_doIt_33 ⟨Nat.le_of_ble_eq_true rfl, Nat.le_of_ble_eq_true rfl⟩) hS hA hP (fun r6 u6 H locs hw6 hP hS => ?_)
    have hw6 : r6 = if (v1.toInt = 3 ∨ v1.toInt = 4 ∨ v1.toInt = 7 ∨ v1.toInt = 8) then 1 else 0 := hw6
    have jn7 : ∀ (z7_0 : Int32), (z7_0.toInt = z7_0.toInt) → ∀ (H : Heap) (locs : List Loc) (ls : Array Slot), va_P D vwCl (xwT sk a t i q c d) H → va_D A (xwT sk a t i q c d) → va_S A s.heap H locs → lv_has ls 5 [(4, .int r1), (0, .ref (a 142)), (1, .int v1), (2, .int w), (3, .int w2)] → W p l e (headSpec wm_X9_doIt ({ frames := 4, cells := 0, slots := 0, locals := 94 })).room s m ([.ref (a 142), .int v1, .int w, .int w2] : List Value).toArray below meth cd H locs 0 0 (MQ below (va_Qv (fun (u : MS) => True ∧ xInv u.1 u.2.2.1 ∧ (∀ k, k ∉ ([148, 154] : List Nat) → u.1 k = i k) ∧ (∀ k, k ∉ ([143, 144, 145, 150, 152, 153] : List Nat) → u.2.2.1 k = c k) ∧ (PJ (u.1 146) (u.1 147) (u.1 156) (u.1 148) (u.2.2.1 150) (u.2.2.1 144) (u.2.2.1 145))) (oC D A (fun u : MS => xwT sk a t u.1 u.2.1 u.2.2.1 u.2.2.2) (fun _ => [])) A) ([.ref (a 142), .int v1, .int w, .int w2] : List Value).toArray s 0 0 A) (F0 m 44 ls [.int z7_0, .int z4_0, .int v1, .int (i 148), .ref (a 143)]) := by
      intro z7_0 hs7_0 H locs ls hP hD hS hl
      have hNn8 := hN.2.2.2.2.2.2.1
      have hPc := hP.sub (ws' := []) [] rfl
      have hKc := hK.sub (tys' := []) [] rfl
      refine ro_calli (va_runSN (As := [.int v1, .int z4_0, .int z7_0]) (rest := [.int (i 148), .ref (a 143)]) ⟨hx, hb, hml, hown, hts⟩ (c_X11_deedOf l D H.size v1 z4_0 z7_0) ⟨va_cnB 3 hts gm_X9_doIt_X11_deedOf_128 rfl rfl rfl hNn8 (hts (.initialized RX11) (by decide +kernel)) (by decide +kernel) ⟨Nat.le_of_ble_eq_true rfl, Nat.le_of_ble_eq_true rfl⟩, (hts (.static yX11_deedOf) (by decide +kernel)), trivial⟩ (pA_S hKc hPc) rfl rfl hl.1 rfl (lv_room (Nat.le_of_ble_eq_true rfl)) dX9_doIt_44 ⟨Nat.le_of_ble_eq_true rfl, Nat.le_of_ble_eq_true rfl⟩) hS hA hP (fun r9 u9 H locs hw9 hP hS => ?_)
      refine xsT_143 hx hb hK hP hD hS (vp_in_iff.mpr (by have h9 : (i 148).toInt = (i 148).toInt := rfl; omega)) dX9_doIt_47 (fun H locs hP hD hS => ?_)
      have hI := xInv_c hI (k := 143) (j := ((i 148) : Int32).toNatClampNeg) (x := r9) (show True from trivial)
      have hfc : ∀ k, k ∉ ([143] : List Nat) → (updA c 143 ((i 148) : Int32).toNatClampNeg r9) k = c k := fr_cz hfc (by decide) (by decide)
      refine lv_aload_n hx hb dX9_doIt_48 rfl (lv_at hl 1 rfl) ?_
      refine xgT_T_subjects hx hb hts (fun _ h => List.mem_cons_of_mem _ (List.mem_append_left _ (List.mem_append_left _ (List.mem_append_left _ (List.mem_append_left _ (List.mem_append_left _ (List.mem_append_right _ h))))))) hown hK hP (hts (.fieldLink RX9 15 "TalePlay$Tale" "subjects" "[I") (by decide +kernel)) dX9_doIt_49 ?_
      refine lv_aload_n hx hb dX9_doIt_52 rfl (lv_at hl 1 rfl) ?_
      refine xgT_T_turns (v := (i 148)) rfl hx hb hts (fun _ h => List.mem_cons_of_mem _ (List.mem_append_left _ (List.mem_append_left _ (List.mem_append_left _ (List.mem_append_left _ (List.mem_append_left _ (List.mem_append_right _ h))))))) hown hK hP (hts (.fieldLink RX9 77 "TalePlay$Tale" "turns" "I") (by decide +kernel)) dX9_doIt_53 ?_
      refine lv_iload hx hb dX9_doIt_56 (lv_at hl 0 rfl) ?_
      refine xsT_144 hx hb hK hP hD hS (vp_in_iff.mpr (by have h9 : (i 148).toInt = (i 148).toInt := rfl; omega)) dX9_doIt_58 (fun H locs hP hD hS => ?_)
      have hI := xInv_c hI (k := 144) (j := ((i 148) : Int32).toNatClampNeg) (x := r1) (show 0 ≤ (r1 : Int32).toInt ∧ (r1 : Int32).toInt ≤ 29 from by omega)
      have hfc : ∀ k, k ∉ ([143, 144] : List Nat) → (updA (updA c 143 ((i 148) : Int32).toNatClampNeg r9) 144 ((i 148) : Int32).toNatClampNeg r1) k = c k := fr_cz hfc (by decide) (by decide)
      refine lv_aload_n hx hb dX9_doIt_59 rfl (lv_at hl 1 rfl) ?_
      refine xgT_T_formerCells hx hb hts (fun _ h => List.mem_cons_of_mem _ (List.mem_append_left _ (List.mem_append_left _ (List.mem_append_left _ (List.mem_append_left _ (List.mem_append_left _ (List.mem_append_right _ h))))))) hown hK hP (hts (.fieldLink RX9 18 "TalePlay$Tale" "formerCells" "[I") (by decide +kernel)) dX9_doIt_60 ?_
      refine lv_aload_n hx hb dX9_doIt_63 rfl (lv_at hl 1 rfl) ?_
      refine xgT_T_turns (v := (i 148)) rfl hx hb hts (fun _ h => List.mem_cons_of_mem _ (List.mem_append_left _ (List.mem_append_left _ (List.mem_append_left _ (List.mem_append_left _ (List.mem_append_left _ (List.mem_append_right _ h))))))) hown hK hP (hts (.fieldLink RX9 77 "TalePlay$Tale" "turns" "I") (by decide +kernel)) dX9_doIt_64 ?_
      refine lv_aload_n hx hb dX9_doIt_67 rfl (lv_at hl 1 rfl) ?_
      refine xgT_T_scene hx hb hts (fun _ h => List.mem_cons_of_mem _ (List.mem_append_left _ (List.mem_append_left _ (List.mem_append_left _ (List.mem_append_left _ (List.mem_append_left _ (List.mem_append_right _ h))))))) hown hK hP (hts (.fieldLink RX9 34 "TalePlay$Tale" "scene" "LTalePlay$Scene;") (by decide +kernel)) dX9_doIt_68 ?_
      refine xgT_TS_cells hx hb hts (fun _ h => List.mem_cons_of_mem _ (List.mem_append_left _ (List.mem_append_left _ (List.mem_append_left _ (List.mem_append_right _ h))))) hown hK hP (hts (.fieldLink RX9 65 "TalePlay$Scene" "cells" "[I") (by decide +kernel)) dX9_doIt_71 ?_
      refine lv_iload hx hb dX9_doIt_74 (lv_at hl 0 rfl) ?_
      refine xlT_150 hx hb hK hP (vp_in_iff.mpr (by have h9 : r1.toInt = r1.toInt := rfl; omega)) dX9_doIt_76 (fun x10 ex10 => ?_)
      have rx10 : 0 ≤ x10.toInt ∧ x10.toInt ≤ 16383 ∧ (x10.toInt % 256 = 255 ∨ (x10.toInt % 8 ≤ 4 ∧ x10.toInt / 8 % 32 ≤ 29)) := by rw [ex10]; exact hI.2 150 _
      refine xsT_145 hx hb hK hP hD hS (vp_in_iff.mpr (by have h9 : (i 148).toInt = (i 148).toInt := rfl; omega)) dX9_doIt_77 (fun H locs hP hD hS => ?_)
      have hI := xInv_c hI (k := 145) (j := ((i 148) : Int32).toNatClampNeg) (x := x10) (show 0 ≤ (x10 : Int32).toInt ∧ (x10 : Int32).toInt ≤ 16383 ∧ ((x10 : Int32).toInt % 256 = 255 ∨ ((x10 : Int32).toInt % 8 ≤ 4 ∧ (x10 : Int32).toInt / 8 % 32 ≤ 29)) from by omega)
      have hfc : ∀ k, k ∉ ([143, 144, 145] : List Nat) → (updA (updA (updA c 143 ((i 148) : Int32).toNatClampNeg r9) 144 ((i 148) : Int32).toNatClampNeg r1) 145 ((i 148) : Int32).toNatClampNeg x10) k = c k := fr_cz hfc (by decide) (by decide)
      refine lv_aload_n hx hb dX9_doIt_78 rfl (lv_at hl 1 rfl) ?_
      refine lv_dup hx hb dX9_doIt_79 rfl ?_
      refine xgT_T_turns (v := (i 148)) rfl hx hb hts (fun _ h => List.mem_cons_of_mem _ (List.mem_append_left _ (List.mem_append_left _ (List.mem_append_left _ (List.mem_append_left _ (List.mem_append_left _ (List.mem_append_right _ h))))))) hown hK hP (hts (.fieldLink RX9 77 "TalePlay$Tale" "turns" "I") (by decide +kernel)) dX9_doIt_80 ?_
      refine lv_iconst (v := 1) hx hb dX9_doIt_83 (by decide) ?_
      refine lv_iadd hx hb dX9_doIt_84 ?_
      refine lv_topi (fun x11 ex11 => ?_)
      have tx11 := ti_add (a := (i 148).toInt) (b := 1) ex11 rfl (by decide) (by omega) (by omega)
      refine xpT_T_turns hx hb hts (fun _ h => List.mem_cons_of_mem _ (List.mem_append_left _ (List.mem_append_left _ (List.mem_append_left _ (List.mem_append_left _ (List.mem_append_left _ (List.mem_append_right _ h))))))) hown hK hP hD hS (hts (.fieldLink RX9 77 "TalePlay$Tale" "turns" "I") (by decide +kernel)) rfl rfl dX9_doIt_85 (fun H locs hP hD hS => ?_)
      have hI := xInv_i hI (k := 148) (v := x11) (show 0 ≤ (x11 : Int32).toInt ∧ (x11 : Int32).toInt ≤ 100 from by have h9 : x11.toInt = ((i 148).toInt + 1) := tx11; omega)
      have hfi : ∀ k, k ∉ ([148] : List Nat) → (upd i 148 x11) k = i k := fr_iz hfi (by decide) (by decide)
      refine lv_aload_n hx hb dX9_doIt_88 rfl (lv_at hl 1 rfl) ?_
      refine xgT_T_scene hx hb hts (fun _ h => List.mem_cons_of_mem _ (List.mem_append_left _ (List.mem_append_left _ (List.mem_append_left _ (List.mem_append_left _ (List.mem_append_left _ (List.mem_append_right _ h))))))) hown hK hP (hts (.fieldLink RX9 34 "TalePlay$Tale" "scene" "LTalePlay$Scene;") (by decide +kernel)) dX9_doIt_89 ?_
      refine xgT_TS_cells hx hb hts (fun _ h => List.mem_cons_of_mem _ (List.mem_append_left _ (List.mem_append_left _ (List.mem_append_left _ (List.mem_append_right _ h))))) hown hK hP (hts (.fieldLink RX9 65 "TalePlay$Scene" "cells" "[I") (by decide +kernel)) dX9_doIt_92 ?_
      refine lv_iload hx hb dX9_doIt_95 (lv_at hl 0 rfl) ?_
      refine lv_aload_n hx hb dX9_doIt_97 rfl (lv_at hl 1 rfl) ?_
      refine xgT_T_acts hx hb hts (fun _ h => List.mem_cons_of_mem _ (List.mem_append_left _ (List.mem_append_left _ (List.mem_append_left _ (List.mem_append_left _ (List.mem_append_left _ (List.mem_append_right _ h))))))) hown hK hP (hts (.fieldLink RX9 52 "TalePlay$Tale" "acts" "LTalePlay$Acts;") (by decide +kernel)) dX9_doIt_98 ?_
      refine lv_iload_n hx hb dX9_doIt_101 rfl (lv_at hl 2 rfl) ?_
      refine lv_iload_n hx hb dX9_doIt_102 rfl (lv_at hl 3 rfl) ?_
      refine lv_iload_n hx hb dX9_doIt_103 rfl (lv_at hl 4 rfl) ?_
      refine ro_calli (va_runV (As := [.int v1, .int w, .int w2]) (rest := [.int r1, .ref (a 150)]) ⟨hx, hb, hml, hown, hts⟩ (x_X0_outcomeOf_TA l D H.size sk a t (upd i 148 x11) q (updA (updA (updA c 143 ((i 148) : Int32).toNatClampNeg r9) 144 ((i 148) : Int32).toNatClampNeg r1) 145 ((i 148) : Int32).toNatClampNeg x10) d v1 w w2 hI (show 0 ≤ v1.toInt ∧ v1.toInt ≤ 12 from by have h60 : x11.toInt = ((i 148).toInt + 1) := tx11; omega) (show v1.toInt = 0 → 0 ≤ w.toInt ∧ w.toInt ≤ 9 from by have h60 : x11.toInt = ((i 148).toInt + 1) := tx11; omega) (show 1 ≤ v1.toInt ∧ v1.toInt ≤ 10 → 0 ≤ w.toInt ∧ w.toInt ≤ 29 from by have h60 : x11.toInt = ((i 148).toInt + 1) := tx11; omega) (show v1.toInt = 3 ∨ v1.toInt = 4 ∨ v1.toInt = 7 ∨ v1.toInt = 8 → 0 ≤ w2.toInt ∧ w2.toInt ≤ 29 from by have h60 : x11.toInt = ((i 148).toInt + 1) := tx11; omega) (show 0 ≤ ((i 156) : Int32).toInt ∧ ((i 156) : Int32).toInt ≤ 29 from by have h60 : x11.toInt = ((i 148).toInt + 1) := tx11; omega) hag hal (fun _ => hp7)) (cwV 3 hts gm_X9_doIt_X0_outcomeOf_TA_131 rfl rfl rfl (by decide +kernel) ⟨Nat.le_of_ble_eq_true rfl, Nat.le_of_ble_eq_true rfl⟩) (yA_V hN (xZ_k hZ hS hA) hK hP (ci := 0) (q0 := 42) rfl rfl) rfl rfl hl.1 rfl (lv_room (Nat.le_of_ble_eq_true rfl)) dX9_doIt_104 ⟨Nat.le_of_ble_eq_true rfl, Nat.le_of_ble_eq_true rfl⟩) hS hA hP (fun r12 u12 H locs hw12 hP hS => ?_)
      have hw12 : ((0 ≤ r12.toInt ∧ r12.toInt ≤ 16383 ∧ (r12.toInt % 256 = 255 ∨ (r12.toInt % 8 ≤ 4 ∧ r12.toInt / 8 % 32 ≤ 29))) ∧ (Im (v1.toInt = 0 ∨ 10 ≤ v1.toInt) (Im (¬ ((updA (updA (updA c 143 ((i 148) : Int32).toNatClampNeg r9) 144 ((i 148) : Int32).toNatClampNeg r1) 145 ((i 148) : Int32).toNatClampNeg x10) 150 ((upd i 148 x11) 156).toNatClampNeg).toInt % 256 = 255) (¬ r12.toInt % 256 = 255))) ∧ (Im (¬ (v1.toInt = 0 ∨ 10 ≤ v1.toInt)) (Im (¬ ((updA (updA (updA c 143 ((i 148) : Int32).toNatClampNeg r9) 144 ((i 148) : Int32).toNatClampNeg r1) 145 ((i 148) : Int32).toNatClampNeg x10) 150 w.toNatClampNeg).toInt % 256 = 255) (¬ r12.toInt % 256 = 255)))) := hw12
      obtain ⟨hw12, hr12_0, hr12_1⟩ := hw12
      have hr12_0 : Im (v1.toInt = 0 ∨ 10 ≤ v1.toInt) (Im (¬ (c 150 (i 156).toNatClampNeg).toInt % 256 = 255) (¬ r12.toInt % 256 = 255)) := by have h9 := hr12_0; rw [show (updA (updA (updA c 143 ((i 148) : Int32).toNatClampNeg r9) 144 ((i 148) : Int32).toNatClampNeg r1) 145 ((i 148) : Int32).toNatClampNeg x10) 150 = c 150 from hfc 150 (by decide), show (upd i 148 x11) 156 = i 156 from hfi 156 (by decide)] at h9; exact h9
      have hr12_1 : Im (¬ (v1.toInt = 0 ∨ 10 ≤ v1.toInt)) (Im (¬ (c 150 w.toNatClampNeg).toInt % 256 = 255) (¬ r12.toInt % 256 = 255)) := by have h9 := hr12_1; rw [show (updA (updA (updA c 143 ((i 148) : Int32).toNatClampNeg r9) 144 ((i 148) : Int32).toNatClampNeg r1) 145 ((i 148) : Int32).toNatClampNeg x10) 150 = c 150 from hfc 150 (by decide)] at h9; exact h9
      refine xsT_150 hx hb hK hP hD hS (vp_in_iff.mpr (by have h9 : r1.toInt = r1.toInt := rfl; omega)) dX9_doIt_107 (fun H locs hP hD hS => ?_)
      have hI := xInv_c hI (k := 150) (j := (r1 : Int32).toNatClampNeg) (x := r12) (show 0 ≤ (r12 : Int32).toInt ∧ (r12 : Int32).toInt ≤ 16383 ∧ ((r12 : Int32).toInt % 256 = 255 ∨ ((r12 : Int32).toInt % 8 ≤ 4 ∧ (r12 : Int32).toInt / 8 % 32 ≤ 29)) from by omega)
      have hfc : ∀ k, k ∉ ([143, 144, 145, 150] : List Nat) → (updA (updA (updA (updA c 143 ((i 148) : Int32).toNatClampNeg r9) 144 ((i 148) : Int32).toNatClampNeg r1) 145 ((i 148) : Int32).toNatClampNeg x10) 150 (r1 : Int32).toNatClampNeg r12) k = c k := fr_cz hfc (by decide) (by decide)
      have hPJ : PJ ((i 146) : Int32) ((i 147) : Int32) ((i 156) : Int32) (x11 : Int32) ((updA (updA (updA (updA c 143 ((i 148) : Int32).toNatClampNeg r9) 144 ((i 148) : Int32).toNatClampNeg r1) 145 ((i 148) : Int32).toNatClampNeg x10) 150 (r1 : Int32).toNatClampNeg r12) 150) ((updA (updA (updA (updA c 143 ((i 148) : Int32).toNatClampNeg r9) 144 ((i 148) : Int32).toNatClampNeg r1) 145 ((i 148) : Int32).toNatClampNeg x10) 150 (r1 : Int32).toNatClampNeg r12) 144) ((updA (updA (updA (updA c 143 ((i 148) : Int32).toNatClampNeg r9) 144 ((i 148) : Int32).toNatClampNeg r1) 145 ((i 148) : Int32).toNatClampNeg x10) 150 (r1 : Int32).toNatClampNeg r12) 145) := PJ_do (tu := (i 148)) (sj := r1) (fm := x10) (ou := r12) hs_P hth (by omega) tx11 (by omega) ex10 (fun h9 => by by_cases h8 : v1.toInt = 0 ∨ 10 ≤ v1.toInt; (· exact hr12_0 h8 hp7); (· exact hr12_1 h8 (by rw [cl_e (x := w) (y := (i 147)) (by have h7 := congrArg Int32.toInt h9; omega)]; exact hp4)))
      refine lv_aload_n hx hb dX9_doIt_108 rfl (lv_at hl 1 rfl) ?_
      refine xgT_T_sight hx hb hts (fun _ h => List.mem_cons_of_mem _ (List.mem_append_left _ (List.mem_append_left _ (List.mem_append_left _ (List.mem_append_left _ (List.mem_append_left _ (List.mem_append_right _ h))))))) hown hK hP (hts (.fieldLink RX9 43 "TalePlay$Tale" "sight" "LTalePlay$Sight;") (by decide +kernel)) dX9_doIt_109 ?_
      refine lv_aload_n hx hb dX9_doIt_112 rfl (lv_at hl 1 rfl) ?_
      refine xgT_T_player (i := (upd i 148 x11)) (v := (i 147)) rfl hx hb hts (fun _ h => List.mem_cons_of_mem _ (List.mem_append_left _ (List.mem_append_left _ (List.mem_append_left _ (List.mem_append_left _ (List.mem_append_left _ (List.mem_append_right _ h))))))) hown hK hP (hts (.fieldLink RX9 56 "TalePlay$Tale" "player" "I") (by decide +kernel)) dX9_doIt_113 ?_
      have rb147_i : (i 147).toInt = -9 ∨ (0 ≤ (i 147).toInt ∧ (i 147).toInt ≤ 29) := hI.1 147
      refine al_callv (va_runV (As := [.int (i 147)]) (rest := []) ⟨hx, hb, hml, hown, hts⟩ (x_X8_look_TG l D H.size sk a t (upd i 148 x11) q (updA (updA (updA (updA c 143 ((i 148) : Int32).toNatClampNeg r9) 144 ((i 148) : Int32).toNatClampNeg r1) 145 ((i 148) : Int32).toNatClampNeg x10) 150 (r1 : Int32).toNatClampNeg r12) d (i 147) hI (show 0 ≤ (i 147).toInt ∧ (i 147).toInt ≤ 29 from by have h60 : x11.toInt = ((i 148).toInt + 1) := tx11; omega)) (cwV 1 hts gm_X9_doIt_X8_look_TG_80 rfl rfl rfl (by decide +kernel) ⟨Nat.le_of_ble_eq_true rfl, Nat.le_of_ble_eq_true rfl⟩) (yB_V hN (xZ_k hZ hS hA) (xZ_n hZ hD) hK hP hD (ci := 8) (q0 := 39) rfl rfl) rfl rfl hl.1 rfl (lv_room (Nat.le_of_ble_eq_true rfl)) dX9_doIt_116 ⟨Nat.le_of_ble_eq_true rfl, Nat.le_of_ble_eq_true rfl⟩) hS hA hP hD (fun u13 H locs hw13 hP hD hS => ?_)
      obtain ⟨i13, q13, c13, d13⟩ := u13
      have hw13 : True ∧ xInv i13 c13 ∧ (∀ k, k ∉ ([154] : List Nat) → i13 k = (upd i 148 x11) k) ∧ (∀ k, k ∉ ([152, 153] : List Nat) → c13 k = (updA (updA (updA (updA c 143 ((i 148) : Int32).toNatClampNeg r9) 144 ((i 148) : Int32).toNatClampNeg r1) 145 ((i 148) : Int32).toNatClampNeg x10) 150 (r1 : Int32).toNatClampNeg r12) k) := hw13
      obtain ⟨hw13, hI, hei13, hec13⟩ := hw13
      have hfi : ∀ k, k ∉ ([148, 154] : List Nat) → i13 k = i k := fr_z hfi hei13 (by decide) (by decide)
      have hfc : ∀ k, k ∉ ([143, 144, 145, 150, 152, 153] : List Nat) → c13 k = c k := fr_z hfc hec13 (by decide) (by decide)
      have hPJ : PJ ((i13 146) : Int32) ((i13 147) : Int32) ((i13 156) : Int32) ((i13 148) : Int32) (c13 150) (c13 144) (c13 145) := by rw [show c13 144 = (updA (updA (updA (updA c 143 ((i 148) : Int32).toNatClampNeg r9) 144 ((i 148) : Int32).toNatClampNeg r1) 145 ((i 148) : Int32).toNatClampNeg x10) 150 (r1 : Int32).toNatClampNeg r12) 144 from hec13 144 (by decide), show c13 145 = (updA (updA (updA (updA c 143 ((i 148) : Int32).toNatClampNeg r9) 144 ((i 148) : Int32).toNatClampNeg r1) 145 ((i 148) : Int32).toNatClampNeg x10) 150 (r1 : Int32).toNatClampNeg r12) 145 from hec13 145 (by decide), show c13 150 = (updA (updA (updA (updA c 143 ((i 148) : Int32).toNatClampNeg r9) 144 ((i 148) : Int32).toNatClampNeg r1) 145 ((i 148) : Int32).toNatClampNeg x10) 150 (r1 : Int32).toNatClampNeg r12) 150 from hec13 150 (by decide), show i13 146 = (upd i 148 x11) 146 from hei13 146 (by decide), show i13 147 = (upd i 148 x11) 147 from hei13 147 (by decide), show i13 148 = (upd i 148 x11) 148 from hei13 148 (by decide), show i13 156 = (upd i 148 x11) 156 from hei13 156 (by decide)]; exact hPJ
      exact rw_vret (i13, q13, c13, d13) hx hb hr hlocks hS (hK.sub (tys' := []) [] rfl) hP hD dX9_doIt_119 ⟨trivial, hI, fr_w hfi (by decide), fr_w hfc (by decide), (show PJ ((i13 146) : Int32) ((i13 147) : Int32) ((i13 156) : Int32) ((i13 148) : Int32) (c13 150) (c13 144) (c13 145) from hPJ)⟩
    refine lv_if_eq (tgt := 43) hx hb dX9_doIt_36 (by decide) (fun c14 => ?_) (fun c14 => ?_)
    · have f14 := fl_f hw6 c14
      refine lv_iconst (v := 0) hx hb dX9_doIt_43 (by decide) ?_
      exact jn7  (0 : Int32) (show (0 : Int32).toInt = (0 : Int32).toInt from by have h55 : (0 : Int32).toInt = 0 := (by decide); omega) _ _ _ hP hD hS (lv_sub hl [0, 1, 2, 3, 4] rfl)
    · have f14 := fl_t hw6 c14
      refine lv_iload_n hx hb dX9_doIt_39 rfl (lv_at hl 4 rfl) ?_
      refine lv_goto (tgt := 44) hx hb dX9_doIt_40 (by decide) ?_
      exact jn7  w2 (show w2.toInt = w2.toInt from by omega) _ _ _ hP hD hS (lv_sub hl [0, 1, 2, 3, 4] rfl)
  refine lv_if_eq (tgt := 31) hx hb dX9_doIt_24 (by decide) (fun c15 => ?_) (fun c15 => ?_)
  · have f15 := fl_f hw3 c15
    refine lv_iconst (v := 0) hx hb dX9_doIt_31 (by decide) ?_
    exact jn4  (0 : Int32) (show (0 : Int32).toInt = (0 : Int32).toInt from by have h55 : (0 : Int32).toInt = 0 := (by decide); omega) _ _ _ hP hD hS (lv_sub hl [0, 1, 2, 3, 4] rfl)
  · have f15 := fl_t hw3 c15
    refine lv_iload_n hx hb dX9_doIt_27 rfl (lv_at hl 3 rfl) ?_
    refine lv_goto (tgt := 32) hx hb dX9_doIt_28 (by decide) ?_
    exact jn4  w (show w.toInt = w.toInt from by omega) _ _ _ hP hD hS (lv_sub hl [0, 1, 2, 3, 4] rfl)

def wm_X9_play : List Cond := .code yX9_play cX9_play 5 (some .int) :: (([.fieldLink RX9 52 "TalePlay$Tale" "acts" "LTalePlay$Acts;", .methodLink RX9 114 yX0_reasonOfX, .instanceMethod yX0_reasonOfX, .selects RX0 yX0_reasonOfX yX0_reasonOfX, .initialized RX0, .code yX0_reasonOfX cX0_reasonOfX 3 (some .int), .methodLink RX0 42 yX0_reasonToGo, .instanceMethod yX0_reasonToGo, .selects RX0 yX0_reasonToGo yX0_reasonToGo, .code yX0_reasonToGo cX0_reasonToGo 4 (some .int), .methodLink RX0 91 yX0_isByRoom, .instanceMethod yX0_isByRoom, .selects RX0 yX0_isByRoom yX0_isByRoom, .code yX0_isByRoom cX0_isByRoom 1 (some .boolean), .fieldLink RX0 33 "TalePlay$Acts" "scene" "LTalePlay$Scene;", .fieldLink RX0 38 "TalePlay$Acts" "player" "I", .methodLink RX0 80 yX6_formOf, .instanceMethod yX6_formOf, .selects RX6 yX6_formOf yX6_formOf, .initialized RX6, .code yX6_formOf cX6_formOf 3 (some .int), .fieldLink RX6 9 "TalePlay$Scene" "cells" "[I", .fieldLink RX0 9 "TalePlay$Acts" "world" "LTalePlay$World;", .methodLink RX0 83 yX6_holderOf, .instanceMethod yX6_holderOf, .selects RX6 yX6_holderOf yX6_holderOf, .code yX6_holderOf cX6_holderOf 3 (some .int), .methodLink RX0 86 yX10_sortOf, .instanceMethod yX10_sortOf, .selects RX10 yX10_sortOf yX10_sortOf, .initialized RX10, .code yX10_sortOf cX10_sortOf 2 (some .int), .fieldLink RX10 37 "TalePlay$World" "objects" "I", .fieldLink RX10 15 "TalePlay$World" "sorts" "[I", .fieldLink RX10 21 "TalePlay$World" "kindOf" "[I", .fieldLink RX0 19 "TalePlay$Acts" "roads" "LTalePlay$Roads;", .fieldLink RX0 95 "TalePlay$Roads" "leads" "[I", .fieldLink RX0 101 "TalePlay$Roads" "doors" "[I", .methodLink RX0 104 yX6_has, .instanceMethod yX6_has, .selects RX6 yX6_has yX6_has, .code yX6_has cX6_has 3 (some .boolean), .methodLink RX0 46 yX0_reasonToTake, .instanceMethod yX0_reasonToTake, .selects RX0 yX0_reasonToTake yX0_reasonToTake, .code yX0_reasonToTake cX0_reasonToTake 3 (some .int), .fieldLink RX0 34 "TalePlay$Acts" "sight" "LTalePlay$Sight;", .fieldLink RX0 108 "TalePlay$Sight" "seen" "[Z", .methodLink RX0 112 yX6_isUp, .instanceMethod yX6_isUp, .selects RX6 yX6_isUp yX6_isUp, .code yX6_isUp cX6_isUp 5 (some .boolean), .methodLink RX6 25 yX6_holderOf, .methodLink RX0 49 yX0_isHeld, .instanceMethod yX0_isHeld, .selects RX0 yX0_isHeld yX0_isHeld, .code yX0_isHeld cX0_isHeld 2 (some .boolean), .methodLink RX0 74 yX6_lies, .instanceMethod yX6_lies, .selects RX6 yX6_lies yX6_lies, .code yX6_lies cX6_lies 4 (some .boolean), .methodLink RX0 115 yX10_isGoods, .instanceMethod yX10_isGoods, .selects RX10 yX10_isGoods yX10_isGoods, .code yX10_isGoods cX10_isGoods 2 (some .boolean), .methodLink RX10 44 yX10_isMovable, .instanceMethod yX10_isMovable, .selects RX10 yX10_isMovable yX10_isMovable, .code yX10_isMovable cX10_isMovable 3 (some .boolean), .methodLink RX10 40 yX10_sortOf, .fieldLink RX0 118 "TalePlay$Sight" "reached" "[Z", .methodLink RX0 121 yX0_isAnothers, .instanceMethod yX0_isAnothers, .selects RX0 yX0_isAnothers yX0_isAnothers, .code yX0_isAnothers cX0_isAnothers 4 (some .boolean), .fieldLink RX0 23 "TalePlay$Acts" "bulks" "LTalePlay$Bulks;", .code yX2_weighBy cX2_weighBy 6 (some .int), .fieldLink RX2 15 "TalePlay$Bulks" "world" "LTalePlay$World;", .methodLink RX2 42 yX10_sortOf, .methodLink RX2 45 yX2_noteBodies, .instanceMethod yX2_noteBodies, .selects RX2 yX2_noteBodies yX2_noteBodies, .initialized RX2, .code yX2_noteBodies cX2_noteBodies 2 none, .fieldLink RX2 60 "TalePlay$Bulks" "BODIES" "[I", .methodLink RX2 63 yX2_note, .instanceMethod yX2_note, .selects RX2 yX2_note yX2_note, .code yX2_note cX2_note 2 none, .fieldLink RX2 27 "TalePlay$Bulks" "tracing" "Z", .fieldLink RX2 49 "TalePlay$World" "sizeOf" "[I", .methodLink RX2 52 yX2_weighThose, .instanceMethod yX2_weighThose, .selects RX2 yX2_weighThose yX2_weighThose, .code yX2_weighThose cX2_weighThose 7 (some .int), .fieldLink RX2 31 "TalePlay$World" "objects" "I", .methodLink RX2 56 yX6_lies, .methodLink RX2 23 yX2_weighBy, .instanceMethod yX2_weighBy, .selects RX2 yX2_weighBy yX2_weighBy, .methodLink RX0 53 yX0_reasonOfShutter, .instanceMethod yX0_reasonOfShutter, .selects RX0 yX0_reasonOfShutter yX0_reasonOfShutter, .code yX0_reasonOfShutter cX0_reasonOfShutter 4 (some .int), .methodLink RX0 137 yX10_isShutter, .instanceMethod yX10_isShutter, .selects RX10 yX10_isShutter yX10_isShutter, .code yX10_isShutter cX10_isShutter 3 (some .boolean), .methodLink RX0 140 yX0_reasonOfLeaf, .static yX0_reasonOfLeaf, .code yX0_reasonOfLeaf cX0_reasonOfLeaf 3 (some .int), .methodLink RX0 57 yX0_reasonToWear, .instanceMethod yX0_reasonToWear, .selects RX0 yX0_reasonToWear yX0_reasonToWear, .code yX0_reasonToWear cX0_reasonToWear 2 (some .int), .methodLink RX0 60 yX0_reasonToEnter, .instanceMethod yX0_reasonToEnter, .selects RX0 yX0_reasonToEnter yX0_reasonToEnter, .code yX0_reasonToEnter cX0_reasonToEnter 3 (some .int), .methodLink RX0 63 yX0_reasonToLeave, .instanceMethod yX0_reasonToLeave, .selects RX0 yX0_reasonToLeave yX0_reasonToLeave, .code yX0_reasonToLeave cX0_reasonToLeave 3 (some .int), .methodLink RX9 121 yX9_doIt, .instanceMethod yX9_doIt, .selects RX9 yX9_doIt yX9_doIt, .initialized RX9, .code yX9_doIt cX9_doIt 5 none, .methodLink RX9 125 yX0_subjectOf, .instanceMethod yX0_subjectOf, .selects RX0 yX0_subjectOf yX0_subjectOf, .code yX0_subjectOf cX0_subjectOf 3 (some .int), .fieldLink RX9 9 "TalePlay$Tale" "deeds" "[I", .fieldLink RX9 77 "TalePlay$Tale" "turns" "I", .methodLink RX9 104 yX0_hasX, .static yX0_hasX, .code yX0_hasX cX0_hasX 1 (some .boolean), .methodLink RX9 111 yX0_hasY, .static yX0_hasY, .code yX0_hasY cX0_hasY 1 (some .boolean), .code yX11_deedOf cX11_deedOf 3 (some .int), .initialized RX11, .static yX11_deedOf, .fieldLink RX9 15 "TalePlay$Tale" "subjects" "[I", .fieldLink RX9 18 "TalePlay$Tale" "formerCells" "[I", .fieldLink RX9 34 "TalePlay$Tale" "scene" "LTalePlay$Scene;", .fieldLink RX9 65 "TalePlay$Scene" "cells" "[I", .methodLink RX9 131 yX0_outcomeOf, .instanceMethod yX0_outcomeOf, .selects RX0 yX0_outcomeOf yX0_outcomeOf, .code yX0_outcomeOf cX0_outcomeOf 5 (some .int), .fieldLink RX0 149 "TalePlay$Scene" "cells" "[I", .methodLink RX0 152 yX0_subjectOf, .methodLink RX0 155 yX6_placed, .static yX6_placed, .code yX6_placed cX6_placed 3 (some .int), .methodLink RX0 158 yX6_flagged, .static yX6_flagged, .code yX6_flagged cX6_flagged 4 (some .int), .methodLink RX0 162 yX0_placedAs, .instanceMethod yX0_placedAs, .selects RX0 yX0_placedAs yX0_placedAs, .code yX0_placedAs cX0_placedAs 3 (some .int), .fieldLink RX9 43 "TalePlay$Tale" "sight" "LTalePlay$Sight;", .fieldLink RX9 56 "TalePlay$Tale" "player" "I", .methodLink RX9 80 yX8_look, .instanceMethod yX8_look, .selects RX8 yX8_look yX8_look, .initialized RX8, .code yX8_look cX8_look 6 none, .methodLink RX8 30 yX8_shellOf, .instanceMethod yX8_shellOf, .selects RX8 yX8_shellOf yX8_shellOf, .code yX8_shellOf cX8_shellOf 5 (some .int), .fieldLink RX8 26 "TalePlay$Sight" "scene" "LTalePlay$Scene;", .methodLink RX8 62 yX6_holderOf, .fieldLink RX8 18 "TalePlay$Sight" "world" "LTalePlay$World;", .methodLink RX8 34 yX10_sortOf, .methodLink RX8 65 yX8_isCover, .instanceMethod yX8_isCover, .selects RX8 yX8_isCover yX8_isCover, .code yX8_isCover cX8_isCover 3 (some .boolean), .methodLink RX8 40 yX6_has, .fieldLink RX8 46 "TalePlay$Sight" "bright" "Z", .fieldLink RX8 50 "TalePlay$World" "objects" "I", .methodLink RX8 58 yX6_lies, .fieldLink RX8 9 "TalePlay$Sight" "seen" "[Z", .fieldLink RX8 15 "TalePlay$Sight" "reached" "[Z", .methodLink RX8 54 yX8_isInView, .instanceMethod yX8_isInView, .selects RX8 yX8_isInView yX8_isInView, .code yX8_isInView cX8_isInView 6 (some .boolean), .fieldLink RX8 22 "TalePlay$Sight" "roads" "LTalePlay$Roads;", .methodLink RX8 69 yX5_isSide, .instanceMethod yX5_isSide, .selects RX5 yX5_isSide yX5_isSide, .initialized RX5, .code yX5_isSide cX5_isSide 3 (some .boolean), .fieldLink RX5 24 "TalePlay$Roads" "firstSides" "[I", .fieldLink RX5 27 "TalePlay$Roads" "secondSides" "[I", .methodLink RX9 117 yX0_reasonOfY, .instanceMethod yX0_reasonOfY, .selects RX0 yX0_reasonOfY yX0_reasonOfY, .code yX0_reasonOfY cX0_reasonOfY 4 (some .int), .methodLink RX0 67 yX0_reasonToPut, .instanceMethod yX0_reasonToPut, .selects RX0 yX0_reasonToPut yX0_reasonToPut, .code yX0_reasonToPut cX0_reasonToPut 4 (some .int), .methodLink RX0 134 yX6_countOf, .instanceMethod yX6_countOf, .selects RX6 yX6_countOf yX6_countOf, .code yX6_countOf cX6_countOf 5 (some .int), .fieldLink RX6 15 "TalePlay$Scene" "world" "LTalePlay$World;", .fieldLink RX6 34 "TalePlay$World" "objects" "I", .methodLink RX6 38 yX6_lies, .methodLink RX0 71 yX0_reasonOfKey, .instanceMethod yX0_reasonOfKey, .selects RX0 yX0_reasonOfKey yX0_reasonOfKey, .code yX0_reasonOfKey cX0_reasonOfKey 3 (some .int), .fieldLink RX0 15 "TalePlay$Acts" "book" "LTalePlay$Book;", .methodLink RX0 144 yX1_keyOf, .instanceMethod yX1_keyOf, .selects RX1 yX1_keyOf yX1_keyOf, .initialized RX1, .code yX1_keyOf cX1_keyOf 3 (some .int), .fieldLink RX1 37 "TalePlay$Book" "keyBy" "[I", .fieldLink RX1 15 "TalePlay$Book" "as" "[I"] : List Cond) ++ wsX90 ++ wsX00 ++ wsX60 ++ wsX100 ++ wsX50 ++ wsX80 ++ wsX20 ++ wsX10)
set_option maxRecDepth 20000 in
theorem gm_X9_play_X0_reasonOfX_TA_114 : GoodIn wm_X9_play (wsV RX9 114 RX0 yX0_reasonOfX wm_X0_reasonOfX_TA) := goodIn_app (goodIn_of _ (by decide +kernel)) (goodIn_r _ [6, 7, 8, 9, 5, 10, 11, 12, 13, 14, 15, 16, 17, 18, 19, 20, 21, 22, 23, 24, 25, 26, 27, 28, 29, 30, 31, 32, 33, 34, 35, 36, 37, 38, 39, 40, 41, 42, 43, 44, 45, 46, 47, 48, 49, 50, 51, 52, 53, 54, 55, 56, 57, 58, 59, 60, 61, 62, 63, 64, 65, 66, 67, 68, 69, 70, 71, 72, 73, 74, 75, 76, 77, 78, 79, 80, 81, 82, 83, 84, 85, 86, 87, 88, 89, 90, 91, 92, 93, 94, 95, 96, 97, 98, 99, 100, 101, 102, 103, 104, 105, 106, 107, 108, 109, 110, 111, 112, 113, 114, 115, 116, 117, 118, 119, 120, 121, 122, 123, 239, 240, 241, 242, 243, 244, 245, 246, 247, 248, 249, 250, 251, 252, 253, 254, 255, 256, 257, 258, 259, 260, 261, 262, 263, 264, 265, 266, 267, 268, 269, 270, 271, 272, 273, 274, 275] rfl (by decide +kernel))
set_option maxRecDepth 20000 in
theorem gm_X9_play_X9_doIt_121 : GoodIn wm_X9_play (wsV RX9 121 RX9 yX9_doIt wm_X9_doIt) := goodIn_app (goodIn_of _ (by decide +kernel)) (goodIn_r _ [128, 1, 129, 130, 131, 5, 132, 16, 133, 134, 135, 136, 137, 138, 139, 140, 141, 142, 143, 144, 145, 146, 147, 148, 149, 150, 151, 15, 152, 153, 36, 37, 24, 25, 26, 20, 27, 22, 154, 155, 156, 17, 18, 19, 21, 157, 158, 159, 23, 28, 29, 30, 31, 32, 33, 34, 35, 160, 161, 162, 163, 164, 165, 166, 167, 168, 169, 170, 171, 172, 173, 174, 175, 176, 177, 178, 179, 180, 181, 182, 183, 40, 41, 42, 184, 185, 186, 59, 60, 61, 187, 188, 189, 190, 191, 192, 193, 194, 195, 196, 197, 198, 199, 200, 228, 229, 230, 231, 232, 233, 234, 235, 236, 237, 238, 239, 240, 241, 242, 243, 244, 245, 246, 247, 255, 256, 257, 258, 259, 260, 261, 262, 263, 264, 265, 248, 249, 250, 251, 252, 253, 254, 266, 267, 268, 269, 270, 271] rfl (by decide +kernel))
set_option maxRecDepth 20000 in
theorem gm_X9_play_X0_reasonOfY_TA_117 : GoodIn wm_X9_play (wsV RX9 117 RX0 yX0_reasonOfY wm_X0_reasonOfY_TA) := goodIn_app (goodIn_of _ (by decide +kernel)) (goodIn_r _ [204, 205, 206, 207, 5, 208, 47, 48, 23, 28, 29, 30, 31, 32, 33, 34, 35, 15, 49, 50, 51, 20, 52, 53, 25, 26, 27, 22, 71, 209, 210, 211, 212, 213, 214, 215, 59, 60, 61, 39, 40, 41, 42, 216, 217, 218, 219, 54, 55, 56, 57, 16, 58, 220, 221, 222, 223, 224, 225, 226, 227, 239, 240, 241, 242, 243, 244, 245, 266, 267, 268, 269, 270, 271, 248, 249, 250, 251, 252, 253, 254, 246, 247, 276, 277, 278, 279, 280, 281, 282, 283, 284, 285, 286, 287, 288, 289, 290] rfl (by decide +kernel))
set_option maxHeartbeats 4000000 in
set_option maxRecDepth 100000 in
theorem x_X9_play (l : Launch) (D : va_G) (sz : Nat) (sk : Value) (a : Nat → Nat) (t : Nat → ClassId) (i : Nat → Int32) (q : Int64) (c : Nat → Nat → Int32) (d : Nat → Nat → Int64) (v1 : Int32) (w : Int32) (w2 : Int32) (hI : xInv i c) (hv1 : 0 ≤ v1.toInt ∧ v1.toInt ≤ 12) (hx0 : v1.toInt = 0 → 0 ≤ w.toInt ∧ w.toInt ≤ 9) (hx1 : 1 ≤ v1.toInt ∧ v1.toInt ≤ 10 → 0 ≤ w.toInt ∧ w.toInt ≤ 29) (hy1 : v1.toInt = 3 ∨ v1.toInt = 4 ∨ v1.toInt = 7 ∨ v1.toInt = 8 → 0 ≤ w2.toInt ∧ w2.toInt ≤ 29) (hth : (i 146).toInt = 1) (htu : (i 148).toInt ≤ 99) (htr : (i 141).toInt = 0) (hs_P : PJ (i 146) (i 147) (i 156) (i 148) (c 150) (c 144) (c 145)) : Met l yX9_play wm_X9_play ({ frames := 71, cells := 0, slots := 0, locals := 1850 }) (va_Pc [.ref (a 142), .int v1, .int w, .int w2] (yB (a 186) D sz (xwT sk a t i q c d) (xtT t))) (va_Qi (fun (r : Int32) (u : MS) => True ∧ xInv u.1 u.2.2.1 ∧ (∀ k, k ∉ ([148, 154] : List Nat) → u.1 k = i k) ∧ (∀ k, k ∉ ([143, 144, 145, 150, 152, 153] : List Nat) → u.2.2.1 k = c k) ∧ (PJ (u.1 146) (u.1 147) (u.1 156) (u.1 148) (u.2.2.1 150) (u.2.2.1 144) (u.2.2.1 145))) (oC D (va_A (xwT sk a t i q c d) sz) (fun u : MS => xwT sk a t u.1 u.2.1 u.2.2.1 u.2.2.2) (fun _ => [])) (va_A (xwT sk a t i q c d) sz)) 0 0 (va_A (xwT sk a t i q c d) sz) := by
  refine Met.ofW (cc := cX9_play) (maxL := 5) (ret := (some .int)) (by decide) rfl ?_
  intro p e s m args below meth cd s₁ B hml hv
  obtain ⟨rfl, ⟨hsz, hP, hK, hD0⟩, hN, hZ, hBW⟩ := hv
  have hx := B.exec
  have hb := B.bytes
  have hr := B.returns
  have hts := atoms_spec (ws := wm_X9_play) B.pre
  have hown : s.vm.findClass RX9 = some m.cls := findClass_of_methodNamed B.named
  have hlocks := B.notSynchronized
  subst hsz
  have hD := hD0.self (sz := s.heap.size)
  have hZ := xZ_A hZ hP hBW
  generalize hAe : va_A (xwT sk a t i q c d) s.heap.size = A at hD hZ ⊢
  have hA : ∀ q : Nat, s.heap.size ≤ q → A q := fun q h => by rw [← hAe]; exact Or.inr h
  have hS : va_S A s.heap s.heap [] := va_S.rf
  have hfi : ∀ k, k ∉ ([] : List Nat) → i k = i k := fun _ _ => rfl
  have hfc : ∀ k, k ∉ ([] : List Nat) → c k = c k := fun _ _ => rfl
  have hl := lv_entry ([.ref (a 142), .int v1, .int w, .int w2]) (n := 5) (Nat.le_of_ble_eq_true rfl)
  rw [lg_entry_eq]
  generalize (lg_sl ([.ref (a 142), .int v1, .int w, .int w2]) ++ List.replicate (5 - (lg_sl ([.ref (a 142), .int v1, .int w, .int w2])).length) Slot.unset).toArray = ls at hl ⊢
  have hl : lv_has ls 5 [(0, .ref (a 142)), (1, .int v1), (2, .int w), (3, .int w2)] := hl
  obtain ⟨hp1, hp2, hp3, hp4, hp5⟩ := hs_P hth
  have hp6 : (i 156).toInt = (i 147).toInt := by rw [hp3]
  have hp7 : ¬ (c 150 (i 156).toNatClampNeg).toInt % 256 = 255 := by rw [hp3]; exact hp4
  refine lv_aload_n hx hb dX9_play_0 rfl (lv_at hl 0 rfl) ?_
  refine xgT_T_acts hx hb hts (fun _ h => List.mem_cons_of_mem _ (List.mem_append_left _ (List.mem_append_left _ (List.mem_append_left _ (List.mem_append_left _ (List.mem_append_left _ (List.mem_append_left _ (List.mem_append_left _ (List.mem_append_right _ h))))))))) hown hK hP (hts (.fieldLink RX9 52 "TalePlay$Tale" "acts" "LTalePlay$Acts;") (by decide +kernel)) dX9_play_1 ?_
  refine lv_iload_n hx hb dX9_play_4 rfl (lv_at hl 1 rfl) ?_
  refine lv_iload_n hx hb dX9_play_5 rfl (lv_at hl 2 rfl) ?_
  have rb141_i : 0 ≤ (i 141).toInt ∧ (i 141).toInt ≤ 1 := hI.1 141
  have rb156_i : (i 156).toInt = -9 ∨ (0 ≤ (i 156).toInt ∧ (i 156).toInt ≤ 29) := hI.1 156
  refine ro_calli (va_runV (As := [.int v1, .int w]) (rest := []) ⟨hx, hb, hml, hown, hts⟩ (x_X0_reasonOfX_TA l D s.heap.size sk a t i q c d v1 w hI (show v1.toInt = 0 → 0 ≤ w.toInt ∧ w.toInt ≤ 9 from by omega) (show 1 ≤ v1.toInt ∧ v1.toInt ≤ 10 → 0 ≤ w.toInt ∧ w.toInt ≤ 29 from by omega) (show 0 ≤ ((i 156) : Int32).toInt ∧ ((i 156) : Int32).toInt ≤ 29 from by omega) (show ((i 141) : Int32).toInt = 0 from by omega)) (cwV 2 hts gm_X9_play_X0_reasonOfX_TA_114 rfl rfl rfl (by decide +kernel) ⟨Nat.le_of_ble_eq_true rfl, Nat.le_of_ble_eq_true rfl⟩) (yA_V hN (xZ_k hZ hS hA) hK hP (ci := 0) (q0 := 42) rfl rfl) rfl rfl hl.1 rfl (lv_room (Nat.le_of_ble_eq_true rfl)) dX9_play_6 ⟨Nat.le_of_ble_eq_true rfl, Nat.le_of_ble_eq_true rfl⟩) hS hA hP (fun r1 u1 H locs hw1 hP hS => ?_)
  have hw1 : (True ∧ (Im (r1.toInt = 0) (Im (v1.toInt = 0) (AG (c 150) (c 129) (i 156) w))) ∧ (Im (r1.toInt = 0) (Im (v1.toInt = 11) (AL (c 150) (i 156))))) := hw1
  obtain ⟨hw1, hr1_0, hr1_1⟩ := hw1
  have hr1_0 : Im (r1.toInt = 0) (Im (v1.toInt = 0) (AG (c 150) (c 129) (i 156) w)) := hr1_0
  have hr1_1 : Im (r1.toInt = 0) (Im (v1.toInt = 11) (AL (c 150) (i 156))) := hr1_1
  refine lv_istore (lv' := [(4, .int r1), (0, .ref (a 142)), (1, .int v1), (2, .int w), (3, .int w2)]) hx hb dX9_play_9 hl (by decide) rfl (fun ls hl => ?_)
  refine lv_iload hx hb dX9_play_11 (lv_at hl 0 rfl) ?_
  refine lv_if_ne (tgt := 28) hx hb dX9_play_13 (by decide) (fun c2 => ?_) (fun c2 => ?_)
  · have f2 := mt (ti_eq (a := r1.toInt) (b := 0) rfl (by decide)).mpr c2
    refine lv_iload hx hb dX9_play_28 (lv_at hl 0 rfl) ?_
    refine lv_if_ne (tgt := 40) hx hb dX9_play_30 (by decide) (fun c3 => ?_) (fun c3 => ?_)
    · have f3 := mt (ti_eq (a := r1.toInt) (b := 0) rfl (by decide)).mpr c3
      refine lv_iload hx hb dX9_play_40 (lv_at hl 0 rfl) ?_
      exact rw_iret (i, q, c, d) hx hb hr hlocks hS (hK.sub (tys' := []) [] rfl) hP hD dX9_play_42 ⟨trivial, hI, fr_w hfi (by decide), fr_w hfc (by decide), (show PJ ((i 146) : Int32) ((i 147) : Int32) ((i 156) : Int32) ((i 148) : Int32) (c 150) (c 144) (c 145) from by show PJ ((i 146) : Int32) ((i 147) : Int32) ((i 156) : Int32) ((i 148) : Int32) (c 150) (c 144) (c 145); exact hs_P)⟩
    · have f3 := (ti_eq (a := r1.toInt) (b := 0) rfl (by decide)).mp c3
      refine lv_aload_n hx hb dX9_play_33 rfl (lv_at hl 1 rfl) ?_
      refine lv_iload_n hx hb dX9_play_34 rfl (lv_at hl 2 rfl) ?_
      refine lv_iload_n hx hb dX9_play_35 rfl (lv_at hl 3 rfl) ?_
      refine lv_iload_n hx hb dX9_play_36 rfl (lv_at hl 4 rfl) ?_
      have rb146_i : 0 ≤ (i 146).toInt ∧ (i 146).toInt ≤ 1 := hI.1 146
      have rb147_i : (i 147).toInt = -9 ∨ (0 ≤ (i 147).toInt ∧ (i 147).toInt ≤ 29) := hI.1 147
      have rb148_i : 0 ≤ (i 148).toInt ∧ (i 148).toInt ≤ 100 := hI.1 148
      refine al_callv (va_runV (As := [.int v1, .int w, .int w2]) (rest := []) ⟨hx, hb, hml, hown, hts⟩ (x_X9_doIt l D H.size sk a t i q c d v1 w w2 hI (show 0 ≤ v1.toInt ∧ v1.toInt ≤ 12 from by omega) (show v1.toInt = 0 → 0 ≤ w.toInt ∧ w.toInt ≤ 9 from by omega) (show 1 ≤ v1.toInt ∧ v1.toInt ≤ 10 → 0 ≤ w.toInt ∧ w.toInt ≤ 29 from by omega) (show v1.toInt = 3 ∨ v1.toInt = 4 ∨ v1.toInt = 7 ∨ v1.toInt = 8 → 0 ≤ w2.toInt ∧ w2.toInt ≤ 29 from by omega) (show ((i 146) : Int32).toInt = 1 from by omega) (show ((i 148) : Int32).toInt ≤ 99 from by omega) (hr1_0 (by omega)) (hr1_1 (by omega)) hs_P) (cwV 3 hts gm_X9_play_X9_doIt_121 rfl rfl rfl (by decide +kernel) ⟨Nat.le_of_ble_eq_true rfl, Nat.le_of_ble_eq_true rfl⟩) (yB_V hN (xZ_k hZ hS hA) (xZ_n hZ hD) hK hP hD (ci := 9) (q0 := 33) rfl rfl) rfl rfl hl.1 rfl (lv_room (Nat.le_of_ble_eq_true rfl)) dX9_play_37 ⟨Nat.le_of_ble_eq_true rfl, Nat.le_of_ble_eq_true rfl⟩) hS hA hP hD (fun u4 H locs hw4 hP hD hS => ?_)
      obtain ⟨i4, q4, c4, d4⟩ := u4
      have hw4 : True ∧ xInv i4 c4 ∧ (∀ k, k ∉ ([148, 154] : List Nat) → i4 k = i k) ∧ (∀ k, k ∉ ([143, 144, 145, 150, 152, 153] : List Nat) → c4 k = c k) ∧ (PJ (i4 146) (i4 147) (i4 156) (i4 148) (c4 150) (c4 144) (c4 145)) := hw4
      obtain ⟨hw4, hI, hei4, hec4, hxp4_0⟩ := hw4
      have hxp4_0 : PJ (i4 146) (i4 147) (i4 156) (i4 148) (c4 150) (c4 144) (c4 145) := hxp4_0
      have hfi : ∀ k, k ∉ ([148, 154] : List Nat) → i4 k = i k := fr_z hfi hei4 (by decide) (by decide)
      have hfc : ∀ k, k ∉ ([143, 144, 145, 150, 152, 153] : List Nat) → c4 k = c k := fr_z hfc hec4 (by decide) (by decide)
      have hPJ : PJ (i4 146) (i4 147) (i4 156) (i4 148) (c4 150) (c4 144) (c4 145) := hxp4_0
      refine lv_iload hx hb dX9_play_40 (lv_at hl 0 rfl) ?_
      exact rw_iret (i4, q4, c4, d4) hx hb hr hlocks hS (hK.sub (tys' := []) [] rfl) hP hD dX9_play_42 ⟨trivial, hI, fr_w hfi (by decide), fr_w hfc (by decide), (show PJ ((i4 146) : Int32) ((i4 147) : Int32) ((i4 156) : Int32) ((i4 148) : Int32) (c4 150) (c4 144) (c4 145) from hPJ)⟩
  · have f2 := (ti_eq (a := r1.toInt) (b := 0) rfl (by decide)).mp c2
    refine lv_aload_n hx hb dX9_play_16 rfl (lv_at hl 1 rfl) ?_
    refine xgT_T_acts hx hb hts (fun _ h => List.mem_cons_of_mem _ (List.mem_append_left _ (List.mem_append_left _ (List.mem_append_left _ (List.mem_append_left _ (List.mem_append_left _ (List.mem_append_left _ (List.mem_append_left _ (List.mem_append_right _ h))))))))) hown hK hP (hts (.fieldLink RX9 52 "TalePlay$Tale" "acts" "LTalePlay$Acts;") (by decide +kernel)) dX9_play_17 ?_
    refine lv_iload_n hx hb dX9_play_20 rfl (lv_at hl 2 rfl) ?_
    refine lv_iload_n hx hb dX9_play_21 rfl (lv_at hl 3 rfl) ?_
    refine lv_iload_n hx hb dX9_play_22 rfl (lv_at hl 4 rfl) ?_
    refine ro_calli (va_runV (As := [.int v1, .int w, .int w2]) (rest := []) ⟨hx, hb, hml, hown, hts⟩ (x_X0_reasonOfY_TA l D H.size sk a t i q c d v1 w w2 hI (show v1.toInt = 0 → 0 ≤ w.toInt ∧ w.toInt ≤ 9 from by omega) (show 1 ≤ v1.toInt ∧ v1.toInt ≤ 10 → 0 ≤ w.toInt ∧ w.toInt ≤ 29 from by omega) (show v1.toInt = 3 ∨ v1.toInt = 4 ∨ v1.toInt = 7 ∨ v1.toInt = 8 → 0 ≤ w2.toInt ∧ w2.toInt ≤ 29 from by omega)) (cwV 3 hts gm_X9_play_X0_reasonOfY_TA_117 rfl rfl rfl (by decide +kernel) ⟨Nat.le_of_ble_eq_true rfl, Nat.le_of_ble_eq_true rfl⟩) (yA_V hN (xZ_k hZ hS hA) hK hP (ci := 0) (q0 := 42) rfl rfl) rfl rfl hl.1 rfl (lv_room (Nat.le_of_ble_eq_true rfl)) dX9_play_23 ⟨Nat.le_of_ble_eq_true rfl, Nat.le_of_ble_eq_true rfl⟩) hS hA hP (fun r5 u5 H locs hw5 hP hS => ?_)
    refine lv_istore (lv' := [(4, .int r5), (0, .ref (a 142)), (1, .int v1), (2, .int w), (3, .int w2)]) hx hb dX9_play_26 hl (by decide) rfl (fun ls hl => ?_)
    refine lv_iload hx hb dX9_play_28 (lv_at hl 0 rfl) ?_
    refine lv_if_ne (tgt := 40) hx hb dX9_play_30 (by decide) (fun c6 => ?_) (fun c6 => ?_)
    · have f6 := mt (ti_eq (a := r5.toInt) (b := 0) rfl (by decide)).mpr c6
      refine lv_iload hx hb dX9_play_40 (lv_at hl 0 rfl) ?_
      exact rw_iret (i, q, c, d) hx hb hr hlocks hS (hK.sub (tys' := []) [] rfl) hP hD dX9_play_42 ⟨trivial, hI, fr_w hfi (by decide), fr_w hfc (by decide), (show PJ ((i 146) : Int32) ((i 147) : Int32) ((i 156) : Int32) ((i 148) : Int32) (c 150) (c 144) (c 145) from by show PJ ((i 146) : Int32) ((i 147) : Int32) ((i 156) : Int32) ((i 148) : Int32) (c 150) (c 144) (c 145); exact hs_P)⟩
    · have f6 := (ti_eq (a := r5.toInt) (b := 0) rfl (by decide)).mp c6
      refine lv_aload_n hx hb dX9_play_33 rfl (lv_at hl 1 rfl) ?_
      refine lv_iload_n hx hb dX9_play_34 rfl (lv_at hl 2 rfl) ?_
      refine lv_iload_n hx hb dX9_play_35 rfl (lv_at hl 3 rfl) ?_
      refine lv_iload_n hx hb dX9_play_36 rfl (lv_at hl 4 rfl) ?_
      have rb146_i : 0 ≤ (i 146).toInt ∧ (i 146).toInt ≤ 1 := hI.1 146
      have rb147_i : (i 147).toInt = -9 ∨ (0 ≤ (i 147).toInt ∧ (i 147).toInt ≤ 29) := hI.1 147
      have rb148_i : 0 ≤ (i 148).toInt ∧ (i 148).toInt ≤ 100 := hI.1 148
      refine al_callv (va_runV (As := [.int v1, .int w, .int w2]) (rest := []) ⟨hx, hb, hml, hown, hts⟩ (x_X9_doIt l D H.size sk a t i q c d v1 w w2 hI (show 0 ≤ v1.toInt ∧ v1.toInt ≤ 12 from by omega) (show v1.toInt = 0 → 0 ≤ w.toInt ∧ w.toInt ≤ 9 from by omega) (show 1 ≤ v1.toInt ∧ v1.toInt ≤ 10 → 0 ≤ w.toInt ∧ w.toInt ≤ 29 from by omega) (show v1.toInt = 3 ∨ v1.toInt = 4 ∨ v1.toInt = 7 ∨ v1.toInt = 8 → 0 ≤ w2.toInt ∧ w2.toInt ≤ 29 from by omega) (show ((i 146) : Int32).toInt = 1 from by omega) (show ((i 148) : Int32).toInt ≤ 99 from by omega) (hr1_0 (by omega)) (hr1_1 (by omega)) hs_P) (cwV 3 hts gm_X9_play_X9_doIt_121 rfl rfl rfl (by decide +kernel) ⟨Nat.le_of_ble_eq_true rfl, Nat.le_of_ble_eq_true rfl⟩) (yB_V hN (xZ_k hZ hS hA) (xZ_n hZ hD) hK hP hD (ci := 9) (q0 := 33) rfl rfl) rfl rfl hl.1 rfl (lv_room (Nat.le_of_ble_eq_true rfl)) dX9_play_37 ⟨Nat.le_of_ble_eq_true rfl, Nat.le_of_ble_eq_true rfl⟩) hS hA hP hD (fun u7 H locs hw7 hP hD hS => ?_)
      obtain ⟨i7, q7, c7, d7⟩ := u7
      have hw7 : True ∧ xInv i7 c7 ∧ (∀ k, k ∉ ([148, 154] : List Nat) → i7 k = i k) ∧ (∀ k, k ∉ ([143, 144, 145, 150, 152, 153] : List Nat) → c7 k = c k) ∧ (PJ (i7 146) (i7 147) (i7 156) (i7 148) (c7 150) (c7 144) (c7 145)) := hw7
      obtain ⟨hw7, hI, hei7, hec7, hxp7_0⟩ := hw7
      have hxp7_0 : PJ (i7 146) (i7 147) (i7 156) (i7 148) (c7 150) (c7 144) (c7 145) := hxp7_0
      have hfi : ∀ k, k ∉ ([148, 154] : List Nat) → i7 k = i k := fr_z hfi hei7 (by decide) (by decide)
      have hfc : ∀ k, k ∉ ([143, 144, 145, 150, 152, 153] : List Nat) → c7 k = c k := fr_z hfc hec7 (by decide) (by decide)
      have hPJ : PJ (i7 146) (i7 147) (i7 156) (i7 148) (c7 150) (c7 144) (c7 145) := hxp7_0
      refine lv_iload hx hb dX9_play_40 (lv_at hl 0 rfl) ?_
      exact rw_iret (i7, q7, c7, d7) hx hb hr hlocks hS (hK.sub (tys' := []) [] rfl) hP hD dX9_play_42 ⟨trivial, hI, fr_w hfi (by decide), fr_w hfc (by decide), (show PJ ((i7 146) : Int32) ((i7 147) : Int32) ((i7 156) : Int32) ((i7 148) : Int32) (c7 150) (c7 144) (c7 145) from hPJ)⟩

def wm_X9_undo : List Cond := .code yX9_undo cX9_undo 1 none :: (([.fieldLink RX9 77 "TalePlay$Tale" "turns" "I", .fieldLink RX9 34 "TalePlay$Tale" "scene" "LTalePlay$Scene;", .fieldLink RX9 65 "TalePlay$Scene" "cells" "[I", .fieldLink RX9 15 "TalePlay$Tale" "subjects" "[I", .fieldLink RX9 18 "TalePlay$Tale" "formerCells" "[I", .fieldLink RX9 43 "TalePlay$Tale" "sight" "LTalePlay$Sight;", .fieldLink RX9 56 "TalePlay$Tale" "player" "I", .methodLink RX9 80 yX8_look, .instanceMethod yX8_look, .selects RX8 yX8_look yX8_look, .initialized RX8, .code yX8_look cX8_look 6 none, .methodLink RX8 30 yX8_shellOf, .instanceMethod yX8_shellOf, .selects RX8 yX8_shellOf yX8_shellOf, .code yX8_shellOf cX8_shellOf 5 (some .int), .fieldLink RX8 26 "TalePlay$Sight" "scene" "LTalePlay$Scene;", .methodLink RX8 62 yX6_holderOf, .instanceMethod yX6_holderOf, .selects RX6 yX6_holderOf yX6_holderOf, .initialized RX6, .code yX6_holderOf cX6_holderOf 3 (some .int), .fieldLink RX6 9 "TalePlay$Scene" "cells" "[I", .fieldLink RX8 18 "TalePlay$Sight" "world" "LTalePlay$World;", .methodLink RX8 34 yX10_sortOf, .instanceMethod yX10_sortOf, .selects RX10 yX10_sortOf yX10_sortOf, .initialized RX10, .code yX10_sortOf cX10_sortOf 2 (some .int), .fieldLink RX10 37 "TalePlay$World" "objects" "I", .fieldLink RX10 15 "TalePlay$World" "sorts" "[I", .fieldLink RX10 21 "TalePlay$World" "kindOf" "[I", .methodLink RX8 65 yX8_isCover, .instanceMethod yX8_isCover, .selects RX8 yX8_isCover yX8_isCover, .code yX8_isCover cX8_isCover 3 (some .boolean), .methodLink RX8 40 yX6_has, .instanceMethod yX6_has, .selects RX6 yX6_has yX6_has, .code yX6_has cX6_has 3 (some .boolean), .fieldLink RX8 46 "TalePlay$Sight" "bright" "Z", .fieldLink RX8 50 "TalePlay$World" "objects" "I", .methodLink RX8 58 yX6_lies, .instanceMethod yX6_lies, .selects RX6 yX6_lies yX6_lies, .code yX6_lies cX6_lies 4 (some .boolean), .fieldLink RX8 9 "TalePlay$Sight" "seen" "[Z", .fieldLink RX8 15 "TalePlay$Sight" "reached" "[Z", .methodLink RX8 54 yX8_isInView, .instanceMethod yX8_isInView, .selects RX8 yX8_isInView yX8_isInView, .code yX8_isInView cX8_isInView 6 (some .boolean), .fieldLink RX8 22 "TalePlay$Sight" "roads" "LTalePlay$Roads;", .methodLink RX8 69 yX5_isSide, .instanceMethod yX5_isSide, .selects RX5 yX5_isSide yX5_isSide, .initialized RX5, .code yX5_isSide cX5_isSide 3 (some .boolean), .fieldLink RX5 24 "TalePlay$Roads" "firstSides" "[I", .fieldLink RX5 27 "TalePlay$Roads" "secondSides" "[I"] : List Cond) ++ wsX90 ++ wsX60 ++ wsX80 ++ wsX100 ++ wsX50)
set_option maxRecDepth 20000 in
theorem gm_X9_undo_X8_look_TG_80 : GoodIn wm_X9_undo (wsV RX9 80 RX8 yX8_look wm_X8_look_TG) := goodIn_app (goodIn_of _ (by decide +kernel)) (goodIn_r _ [12, 13, 14, 15, 11, 16, 17, 18, 19, 20, 21, 22, 23, 24, 25, 26, 27, 28, 29, 30, 31, 32, 33, 34, 35, 36, 37, 38, 39, 40, 41, 42, 43, 44, 45, 46, 47, 48, 49, 50, 51, 52, 53, 54, 55, 56, 57, 58, 59, 60, 74, 75, 76, 77, 78, 79, 72, 73, 80, 81, 82, 83, 84, 85, 86, 87, 88, 89, 90, 91, 92, 93, 94, 95, 96, 97] rfl (by decide +kernel))
set_option maxHeartbeats 4000000 in
set_option maxRecDepth 100000 in
theorem x_X9_undo (l : Launch) (D : va_G) (sz : Nat) (sk : Value) (a : Nat → Nat) (t : Nat → ClassId) (i : Nat → Int32) (q : Int64) (c : Nat → Nat → Int32) (d : Nat → Nat → Int64) (hI : xInv i c) (hth : (i 146).toInt = 1) (htu : 1 ≤ (i 148).toInt) (hs_P : PJ (i 146) (i 147) (i 156) (i 148) (c 150) (c 144) (c 145)) : Met l yX9_undo wm_X9_undo ({ frames := 4, cells := 0, slots := 0, locals := 94 }) (va_Pc [.ref (a 142)] (yB (a 186) D sz (xwT sk a t i q c d) (xtT t))) (va_Qv (fun (u : MS) => True ∧ xInv u.1 u.2.2.1 ∧ (∀ k, k ∉ ([148, 154] : List Nat) → u.1 k = i k) ∧ (∀ k, k ∉ ([150, 152, 153] : List Nat) → u.2.2.1 k = c k) ∧ (PJ (u.1 146) (u.1 147) (u.1 156) (u.1 148) (u.2.2.1 150) (u.2.2.1 144) (u.2.2.1 145))) (oC D (va_A (xwT sk a t i q c d) sz) (fun u : MS => xwT sk a t u.1 u.2.1 u.2.2.1 u.2.2.2) (fun _ => [])) (va_A (xwT sk a t i q c d) sz)) 0 0 (va_A (xwT sk a t i q c d) sz) := by
  refine Met.ofW (cc := cX9_undo) (maxL := 1) (ret := none) (by decide) rfl ?_
  intro p e s m args below meth cd s₁ B hml hv
  obtain ⟨rfl, ⟨hsz, hP, hK, hD0⟩, hN, hZ, hBW⟩ := hv
  have hx := B.exec
  have hb := B.bytes
  have hr := B.returns
  have hts := atoms_spec (ws := wm_X9_undo) B.pre
  have hown : s.vm.findClass RX9 = some m.cls := findClass_of_methodNamed B.named
  have hlocks := B.notSynchronized
  subst hsz
  have hD := hD0.self (sz := s.heap.size)
  have hZ := xZ_A hZ hP hBW
  generalize hAe : va_A (xwT sk a t i q c d) s.heap.size = A at hD hZ ⊢
  have hA : ∀ q : Nat, s.heap.size ≤ q → A q := fun q h => by rw [← hAe]; exact Or.inr h
  have hS : va_S A s.heap s.heap [] := va_S.rf
  have hfi : ∀ k, k ∉ ([] : List Nat) → i k = i k := fun _ _ => rfl
  have hfc : ∀ k, k ∉ ([] : List Nat) → c k = c k := fun _ _ => rfl
  have hl := lv_entry ([.ref (a 142)]) (n := 1) (Nat.le_of_ble_eq_true rfl)
  rw [lg_entry_eq]
  generalize (lg_sl ([.ref (a 142)]) ++ List.replicate (1 - (lg_sl ([.ref (a 142)])).length) Slot.unset).toArray = ls at hl ⊢
  have hl : lv_has ls 1 [(0, .ref (a 142))] := hl
  obtain ⟨hp1, hp2, hp3, hp4, hp5⟩ := hs_P hth
  have hp6 : (i 156).toInt = (i 147).toInt := by rw [hp3]
  have hp7 : ¬ (c 150 (i 156).toNatClampNeg).toInt % 256 = 255 := by rw [hp3]; exact hp4
  refine lv_aload_n hx hb dX9_undo_0 rfl (lv_at hl 0 rfl) ?_
  refine lv_dup hx hb dX9_undo_1 rfl ?_
  refine xgT_T_turns (v := (i 148)) rfl hx hb hts (fun _ h => List.mem_cons_of_mem _ (List.mem_append_left _ (List.mem_append_left _ (List.mem_append_left _ (List.mem_append_left _ (List.mem_append_right _ h)))))) hown hK hP (hts (.fieldLink RX9 77 "TalePlay$Tale" "turns" "I") (by decide +kernel)) dX9_undo_2 ?_
  have rb148_i : 0 ≤ (i 148).toInt ∧ (i 148).toInt ≤ 100 := hI.1 148
  refine lv_iconst (v := 1) hx hb dX9_undo_5 (by decide) ?_
  refine lv_isub hx hb dX9_undo_6 ?_
  refine lv_topi (fun x1 ex1 => ?_)
  have tx1 := ti_sub (a := (i 148).toInt) (b := 1) ex1 rfl (by decide) (by omega) (by omega)
  refine xpT_T_turns hx hb hts (fun _ h => List.mem_cons_of_mem _ (List.mem_append_left _ (List.mem_append_left _ (List.mem_append_left _ (List.mem_append_left _ (List.mem_append_right _ h)))))) hown hK hP hD hS (hts (.fieldLink RX9 77 "TalePlay$Tale" "turns" "I") (by decide +kernel)) rfl rfl dX9_undo_7 (fun H locs hP hD hS => ?_)
  have hI := xInv_i hI (k := 148) (v := x1) (show 0 ≤ (x1 : Int32).toInt ∧ (x1 : Int32).toInt ≤ 100 from by have h9 : x1.toInt = ((i 148).toInt - 1) := tx1; omega)
  have hfi : ∀ k, k ∉ ([148] : List Nat) → (upd i 148 x1) k = i k := fr_iz hfi (by decide) (by decide)
  refine lv_aload_n hx hb dX9_undo_10 rfl (lv_at hl 0 rfl) ?_
  refine xgT_T_scene hx hb hts (fun _ h => List.mem_cons_of_mem _ (List.mem_append_left _ (List.mem_append_left _ (List.mem_append_left _ (List.mem_append_left _ (List.mem_append_right _ h)))))) hown hK hP (hts (.fieldLink RX9 34 "TalePlay$Tale" "scene" "LTalePlay$Scene;") (by decide +kernel)) dX9_undo_11 ?_
  refine xgT_TS_cells hx hb hts (fun _ h => List.mem_cons_of_mem _ (List.mem_append_left _ (List.mem_append_left _ (List.mem_append_left _ (List.mem_append_right _ h))))) hown hK hP (hts (.fieldLink RX9 65 "TalePlay$Scene" "cells" "[I") (by decide +kernel)) dX9_undo_14 ?_
  refine lv_aload_n hx hb dX9_undo_17 rfl (lv_at hl 0 rfl) ?_
  refine xgT_T_subjects hx hb hts (fun _ h => List.mem_cons_of_mem _ (List.mem_append_left _ (List.mem_append_left _ (List.mem_append_left _ (List.mem_append_left _ (List.mem_append_right _ h)))))) hown hK hP (hts (.fieldLink RX9 15 "TalePlay$Tale" "subjects" "[I") (by decide +kernel)) dX9_undo_18 ?_
  refine lv_aload_n hx hb dX9_undo_21 rfl (lv_at hl 0 rfl) ?_
  refine xgT_T_turns (i := (upd i 148 x1)) (v := x1) rfl hx hb hts (fun _ h => List.mem_cons_of_mem _ (List.mem_append_left _ (List.mem_append_left _ (List.mem_append_left _ (List.mem_append_left _ (List.mem_append_right _ h)))))) hown hK hP (hts (.fieldLink RX9 77 "TalePlay$Tale" "turns" "I") (by decide +kernel)) dX9_undo_22 ?_
  refine xlT_144 hx hb hK hP (vp_in_iff.mpr (by have h9 : x1.toInt = ((i 148).toInt - 1) := tx1; omega)) dX9_undo_25 (fun x2 ex2 => ?_)
  have rx2 : 0 ≤ x2.toInt ∧ x2.toInt ≤ 29 := by rw [ex2]; exact hI.2 144 _
  refine lv_aload_n hx hb dX9_undo_26 rfl (lv_at hl 0 rfl) ?_
  refine xgT_T_formerCells hx hb hts (fun _ h => List.mem_cons_of_mem _ (List.mem_append_left _ (List.mem_append_left _ (List.mem_append_left _ (List.mem_append_left _ (List.mem_append_right _ h)))))) hown hK hP (hts (.fieldLink RX9 18 "TalePlay$Tale" "formerCells" "[I") (by decide +kernel)) dX9_undo_27 ?_
  refine lv_aload_n hx hb dX9_undo_30 rfl (lv_at hl 0 rfl) ?_
  refine xgT_T_turns (i := (upd i 148 x1)) (v := x1) rfl hx hb hts (fun _ h => List.mem_cons_of_mem _ (List.mem_append_left _ (List.mem_append_left _ (List.mem_append_left _ (List.mem_append_left _ (List.mem_append_right _ h)))))) hown hK hP (hts (.fieldLink RX9 77 "TalePlay$Tale" "turns" "I") (by decide +kernel)) dX9_undo_31 ?_
  refine xlT_145 hx hb hK hP (vp_in_iff.mpr (by have h9 : x1.toInt = ((i 148).toInt - 1) := tx1; omega)) dX9_undo_34 (fun x3 ex3 => ?_)
  have rx3 : 0 ≤ x3.toInt ∧ x3.toInt ≤ 16383 ∧ (x3.toInt % 256 = 255 ∨ (x3.toInt % 8 ≤ 4 ∧ x3.toInt / 8 % 32 ≤ 29)) := by rw [ex3]; exact hI.2 145 _
  refine xsT_150 hx hb hK hP hD hS (vp_in_iff.mpr (by have h9 : x2.toInt = x2.toInt := rfl; omega)) dX9_undo_35 (fun H locs hP hD hS => ?_)
  have hI := xInv_c hI (k := 150) (j := (x2 : Int32).toNatClampNeg) (x := x3) (show 0 ≤ (x3 : Int32).toInt ∧ (x3 : Int32).toInt ≤ 16383 ∧ ((x3 : Int32).toInt % 256 = 255 ∨ ((x3 : Int32).toInt % 8 ≤ 4 ∧ (x3 : Int32).toInt / 8 % 32 ≤ 29)) from by omega)
  have hfc : ∀ k, k ∉ ([150] : List Nat) → (updA c 150 (x2 : Int32).toNatClampNeg x3) k = c k := fr_cz hfc (by decide) (by decide)
  have hPJ : PJ ((i 146) : Int32) ((i 147) : Int32) ((i 156) : Int32) (x1 : Int32) ((updA c 150 (x2 : Int32).toNatClampNeg x3) 150) ((updA c 150 (x2 : Int32).toNatClampNeg x3) 144) ((updA c 150 (x2 : Int32).toNatClampNeg x3) 145) := PJ_un (tu := (i 148)) (tu2 := x1) (x := x2) (y := x3) hs_P (by omega) tx1 ex2 ex3 (by omega)
  refine lv_aload_n hx hb dX9_undo_36 rfl (lv_at hl 0 rfl) ?_
  refine xgT_T_sight hx hb hts (fun _ h => List.mem_cons_of_mem _ (List.mem_append_left _ (List.mem_append_left _ (List.mem_append_left _ (List.mem_append_left _ (List.mem_append_right _ h)))))) hown hK hP (hts (.fieldLink RX9 43 "TalePlay$Tale" "sight" "LTalePlay$Sight;") (by decide +kernel)) dX9_undo_37 ?_
  refine lv_aload_n hx hb dX9_undo_40 rfl (lv_at hl 0 rfl) ?_
  refine xgT_T_player (i := (upd i 148 x1)) (v := (i 147)) rfl hx hb hts (fun _ h => List.mem_cons_of_mem _ (List.mem_append_left _ (List.mem_append_left _ (List.mem_append_left _ (List.mem_append_left _ (List.mem_append_right _ h)))))) hown hK hP (hts (.fieldLink RX9 56 "TalePlay$Tale" "player" "I") (by decide +kernel)) dX9_undo_41 ?_
  have rb147_i : (i 147).toInt = -9 ∨ (0 ≤ (i 147).toInt ∧ (i 147).toInt ≤ 29) := hI.1 147
  refine al_callv (va_runV (As := [.int (i 147)]) (rest := []) ⟨hx, hb, hml, hown, hts⟩ (x_X8_look_TG l D H.size sk a t (upd i 148 x1) q (updA c 150 (x2 : Int32).toNatClampNeg x3) d (i 147) hI (show 0 ≤ (i 147).toInt ∧ (i 147).toInt ≤ 29 from by have h60 : x1.toInt = ((i 148).toInt - 1) := tx1; omega)) (cwV 1 hts gm_X9_undo_X8_look_TG_80 rfl rfl rfl (by decide +kernel) ⟨Nat.le_of_ble_eq_true rfl, Nat.le_of_ble_eq_true rfl⟩) (yB_V hN (xZ_k hZ hS hA) (xZ_n hZ hD) hK hP hD (ci := 8) (q0 := 39) rfl rfl) rfl rfl hl.1 rfl (lv_room (Nat.le_of_ble_eq_true rfl)) dX9_undo_44 ⟨Nat.le_of_ble_eq_true rfl, Nat.le_of_ble_eq_true rfl⟩) hS hA hP hD (fun u4 H locs hw4 hP hD hS => ?_)
  obtain ⟨i4, q4, c4, d4⟩ := u4
  have hw4 : True ∧ xInv i4 c4 ∧ (∀ k, k ∉ ([154] : List Nat) → i4 k = (upd i 148 x1) k) ∧ (∀ k, k ∉ ([152, 153] : List Nat) → c4 k = (updA c 150 (x2 : Int32).toNatClampNeg x3) k) := hw4
  obtain ⟨hw4, hI, hei4, hec4⟩ := hw4
  have hfi : ∀ k, k ∉ ([148, 154] : List Nat) → i4 k = i k := fr_z hfi hei4 (by decide) (by decide)
  have hfc : ∀ k, k ∉ ([150, 152, 153] : List Nat) → c4 k = c k := fr_z hfc hec4 (by decide) (by decide)
  have hPJ : PJ ((i4 146) : Int32) ((i4 147) : Int32) ((i4 156) : Int32) ((i4 148) : Int32) (c4 150) (c4 144) (c4 145) := by rw [show c4 144 = (updA c 150 (x2 : Int32).toNatClampNeg x3) 144 from hec4 144 (by decide), show c4 145 = (updA c 150 (x2 : Int32).toNatClampNeg x3) 145 from hec4 145 (by decide), show c4 150 = (updA c 150 (x2 : Int32).toNatClampNeg x3) 150 from hec4 150 (by decide), show i4 146 = (upd i 148 x1) 146 from hei4 146 (by decide), show i4 147 = (upd i 148 x1) 147 from hei4 147 (by decide), show i4 148 = (upd i 148 x1) 148 from hei4 148 (by decide), show i4 156 = (upd i 148 x1) 156 from hei4 156 (by decide)]; exact hPJ
  exact rw_vret (i4, q4, c4, d4) hx hb hr hlocks hS (hK.sub (tys' := []) [] rfl) hP hD dX9_undo_47 ⟨trivial, hI, fr_w hfi (by decide), fr_w hfc (by decide), (show PJ ((i4 146) : Int32) ((i4 147) : Int32) ((i4 156) : Int32) ((i4 148) : Int32) (c4 150) (c4 144) (c4 145) from hPJ)⟩

def wm_X9_tellOf : List Cond := .code yX9_tellOf cX9_tellOf 3 (some .int) :: (([.fieldLink RX9 34 "TalePlay$Tale" "scene" "LTalePlay$Scene;", .methodLink RX9 157 yX6_roomOf, .instanceMethod yX6_roomOf, .selects RX6 yX6_roomOf yX6_roomOf, .initialized RX6, .code yX6_roomOf cX6_roomOf 4 (some .int), .fieldLink RX6 15 "TalePlay$Scene" "world" "LTalePlay$World;", .methodLink RX6 29 yX10_sortOf, .instanceMethod yX10_sortOf, .selects RX10 yX10_sortOf yX10_sortOf, .initialized RX10, .code yX10_sortOf cX10_sortOf 2 (some .int), .fieldLink RX10 37 "TalePlay$World" "objects" "I", .fieldLink RX10 15 "TalePlay$World" "sorts" "[I", .fieldLink RX10 21 "TalePlay$World" "kindOf" "[I", .methodLink RX6 25 yX6_holderOf, .instanceMethod yX6_holderOf, .selects RX6 yX6_holderOf yX6_holderOf, .code yX6_holderOf cX6_holderOf 3 (some .int), .fieldLink RX6 9 "TalePlay$Scene" "cells" "[I", .methodLink RX9 134 yX6_formOf, .instanceMethod yX6_formOf, .selects RX6 yX6_formOf yX6_formOf, .code yX6_formOf cX6_formOf 3 (some .int), .methodLink RX9 137 yX6_holderOf, .fieldLink RX9 21 "TalePlay$Tale" "world" "LTalePlay$World;", .methodLink RX9 140 yX10_isShutter, .instanceMethod yX10_isShutter, .selects RX10 yX10_isShutter yX10_isShutter, .code yX10_isShutter cX10_isShutter 3 (some .boolean), .methodLink RX10 40 yX10_sortOf, .methodLink RX9 143 yX6_has, .instanceMethod yX6_has, .selects RX6 yX6_has yX6_has, .code yX6_has cX6_has 3 (some .boolean), .code yX11_oneIf cX11_oneIf 1 (some .int), .initialized RX11, .static yX11_oneIf, .fieldLink RX9 43 "TalePlay$Tale" "sight" "LTalePlay$Sight;", .fieldLink RX9 150 "TalePlay$Sight" "seen" "[Z", .fieldLink RX9 154 "TalePlay$Sight" "reached" "[Z"] : List Cond) ++ wsX90 ++ wsX60 ++ wsX100 ++ wsX80)
set_option maxRecDepth 20000 in
theorem gm_X9_tellOf_X6_roomOf_TS_157 : GoodIn wm_X9_tellOf (wsV RX9 157 RX6 yX6_roomOf wm_X6_roomOf_TS) := goodIn_app (goodIn_of _ (by decide +kernel)) (goodIn_r _ [6, 7, 8, 9, 10, 11, 12, 13, 14, 15, 16, 17, 18, 5, 19, 20, 53, 54, 55, 56, 57, 58, 59, 60, 61] rfl (by decide +kernel))
set_option maxRecDepth 20000 in
theorem gm_X9_tellOf_X6_formOf_TS_134 : GoodIn wm_X9_tellOf (wsV RX9 134 RX6 yX6_formOf wm_X6_formOf_TS) := goodIn_app (goodIn_of _ (by decide +kernel)) (goodIn_r _ [24, 20, 53, 54] rfl (by decide +kernel))
set_option maxRecDepth 20000 in
theorem gm_X9_tellOf_X6_holderOf_TS_137 : GoodIn wm_X9_tellOf (wsV RX9 137 RX6 yX6_holderOf wm_X6_holderOf_TS) := goodIn_app (goodIn_of _ (by decide +kernel)) (goodIn_r _ [19, 20, 53, 54] rfl (by decide +kernel))
set_option maxRecDepth 20000 in
theorem gm_X9_tellOf_X10_isShutter_140 : GoodIn wm_X9_tellOf (wsV RX9 140 RX10 yX10_isShutter wm_X10_isShutter) := goodIn_app (goodIn_of _ (by decide +kernel)) (goodIn_r _ [30, 31, 9, 10, 11, 12, 13, 14, 15, 55, 56, 57, 58, 59, 60, 61] rfl (by decide +kernel))
set_option maxRecDepth 20000 in
theorem gm_X9_tellOf_X6_has_TS_143 : GoodIn wm_X9_tellOf (wsV RX9 143 RX6 yX6_has wm_X6_has_TS) := goodIn_app (goodIn_of _ (by decide +kernel)) (goodIn_r _ [35, 20, 53, 54] rfl (by decide +kernel))
set_option maxRecDepth 20000 in
theorem gm_X9_tellOf_X11_oneIf_146 : GoodIn wm_X9_tellOf wm_X11_oneIf := goodIn_r _ [36] rfl (by decide +kernel)
set_option maxHeartbeats 4000000 in
set_option maxRecDepth 100000 in
theorem x_X9_tellOf (l : Launch) (D : va_G) (sz : Nat) (sk : Value) (a : Nat → Nat) (t : Nat → ClassId) (i : Nat → Int32) (q : Int64) (c : Nat → Nat → Int32) (d : Nat → Nat → Int64) (w : Int32) (s1 : Int32) (hI : xInv i c) (hw : 0 ≤ w.toInt ∧ w.toInt ≤ 29) : Met l yX9_tellOf wm_X9_tellOf ({ frames := 2, cells := 0, slots := 0, locals := 45 }) (va_Pc [.ref (a 142), .int w, .int s1] (yA (a 186) D sz (xwT sk a t i q c d) (xtT t))) (va_Qi (fun (r : Int32) (_ : Unit) => True) oA (ro sz)) 0 0 (ro sz) := by
  refine Met.ofW (cc := cX9_tellOf) (maxL := 3) (ret := (some .int)) (by decide) rfl ?_
  intro p e s m args below meth cd s₁ B hml hv
  obtain ⟨rfl, ⟨hsz, hP, hK⟩, hN, hZ⟩ := hv
  have hx := B.exec
  have hb := B.bytes
  have hr := B.returns
  have hts := atoms_spec (ws := wm_X9_tellOf) B.pre
  have hown : s.vm.findClass RX9 = some m.cls := findClass_of_methodNamed B.named
  have hlocks := B.notSynchronized
  subst hsz
  have hA : ∀ q : Nat, s.heap.size ≤ q → ro s.heap.size q := fun _ h => h
  have hS : va_S (ro s.heap.size) s.heap s.heap [] := va_S.rf
  have hl := lv_entry ([.ref (a 142), .int w, .int s1]) (n := 3) (Nat.le_of_ble_eq_true rfl)
  rw [lg_entry_eq]
  generalize (lg_sl ([.ref (a 142), .int w, .int s1]) ++ List.replicate (3 - (lg_sl ([.ref (a 142), .int w, .int s1])).length) Slot.unset).toArray = ls at hl ⊢
  have hl : lv_has ls 3 [(0, .ref (a 142)), (1, .int w), (2, .int s1)] := hl
  refine lv_iload_n hx hb dX9_tellOf_0 rfl (lv_at hl 2 rfl) ?_
  rcases (show (s1.toInt < 0 ∨ 5 < s1.toInt) ∨ s1.toInt = 0 ∨ s1.toInt = 1 ∨ s1.toInt = 2 ∨ s1.toInt = 3 ∨ s1.toInt = 4 ∨ s1.toInt = 5 by omega) with f1 | f1 | f1 | f1 | f1 | f1 | f1
  · refine lv_tableOut (tgt := 154) hx hb dX9_tellOf_1 f1 (by decide) ?_
    refine lv_aload_n hx hb dX9_tellOf_154 rfl (lv_at hl 0 rfl) ?_
    refine xgT_T_scene hx hb hts (fun _ h => List.mem_cons_of_mem _ (List.mem_append_left _ (List.mem_append_left _ (List.mem_append_left _ (List.mem_append_right _ h))))) hown hK hP (hts (.fieldLink RX9 34 "TalePlay$Tale" "scene" "LTalePlay$Scene;") (by decide +kernel)) dX9_tellOf_155 ?_
    refine lv_iload_n hx hb dX9_tellOf_158 rfl (lv_at hl 1 rfl) ?_
    refine ro_calli (va_runV (As := [.int w]) (rest := []) ⟨hx, hb, hml, hown, hts⟩ (x_X6_roomOf_TS l D s.heap.size .null a t i q c d w hI (show 0 ≤ w.toInt ∧ w.toInt ≤ 29 from by omega)) (cwV 1 hts gm_X9_tellOf_X6_roomOf_TS_157 rfl rfl rfl (by decide +kernel) ⟨Nat.le_of_ble_eq_true rfl, Nat.le_of_ble_eq_true rfl⟩) (yA_V hN (xZ_k hZ hS hA) (xkT_Q1 hK) (xuT_Q1 (sk := sk) hP) (ci := 6) (q0 := 0) rfl rfl) rfl rfl hl.1 rfl (lv_room (Nat.le_of_ble_eq_true rfl)) dX9_tellOf_159 ⟨Nat.le_of_ble_eq_true rfl, Nat.le_of_ble_eq_true rfl⟩) hS hA hP (fun r2 u2 H locs hw2 hP hS => ?_)
    have hw2 : (r2.toInt = -9 ∨ (0 ≤ r2.toInt ∧ r2.toInt ≤ 29)) := hw2
    exact ro_iret hx hb hr hlocks hS dX9_tellOf_162 trivial
  · refine lv_tableIn (off := 39) (tgt := 40) hx hb dX9_tellOf_1 (by omega) (by omega) (by rw [f1]; rfl) (by decide) ?_
    refine lv_aload_n hx hb dX9_tellOf_40 rfl (lv_at hl 0 rfl) ?_
    refine xgT_T_scene hx hb hts (fun _ h => List.mem_cons_of_mem _ (List.mem_append_left _ (List.mem_append_left _ (List.mem_append_left _ (List.mem_append_right _ h))))) hown hK hP (hts (.fieldLink RX9 34 "TalePlay$Tale" "scene" "LTalePlay$Scene;") (by decide +kernel)) dX9_tellOf_41 ?_
    refine lv_iload_n hx hb dX9_tellOf_44 rfl (lv_at hl 1 rfl) ?_
    refine ro_calli (va_runV (As := [.int w]) (rest := []) ⟨hx, hb, hml, hown, hts⟩ (x_X6_formOf_TS l D s.heap.size .null a t i q c d w hI (show 0 ≤ w.toInt ∧ w.toInt ≤ 29 from by omega)) (cwV 1 hts gm_X9_tellOf_X6_formOf_TS_134 rfl rfl rfl (by decide +kernel) ⟨Nat.le_of_ble_eq_true rfl, Nat.le_of_ble_eq_true rfl⟩) (yA_V hN (xZ_k hZ hS hA) (xkT_P1 hK) (xuT_P1 (sk := sk) hP) (ci := 6) (q0 := 0) rfl rfl) rfl rfl hl.1 rfl (lv_room (Nat.le_of_ble_eq_true rfl)) dX9_tellOf_45 ⟨Nat.le_of_ble_eq_true rfl, Nat.le_of_ble_eq_true rfl⟩) hS hA hP (fun r3 u3 H locs hw3 hP hS => ?_)
    have hw3 : ((r3.toInt = -9 ∧ (c 150 w.toNatClampNeg).toInt % 256 = 255) ∨ (0 ≤ r3.toInt ∧ r3.toInt ≤ 4 ∧ ¬ (c 150 w.toNatClampNeg).toInt % 256 = 255 ∧ r3.toInt = (c 150 w.toNatClampNeg).toInt % 8)) := hw3
    refine lv_goto (tgt := 162) hx hb dX9_tellOf_48 (by decide) ?_
    exact ro_iret hx hb hr hlocks hS dX9_tellOf_162 trivial
  · refine lv_tableIn (off := 50) (tgt := 51) hx hb dX9_tellOf_1 (by omega) (by omega) (by rw [f1]; rfl) (by decide) ?_
    refine lv_aload_n hx hb dX9_tellOf_51 rfl (lv_at hl 0 rfl) ?_
    refine xgT_T_scene hx hb hts (fun _ h => List.mem_cons_of_mem _ (List.mem_append_left _ (List.mem_append_left _ (List.mem_append_left _ (List.mem_append_right _ h))))) hown hK hP (hts (.fieldLink RX9 34 "TalePlay$Tale" "scene" "LTalePlay$Scene;") (by decide +kernel)) dX9_tellOf_52 ?_
    refine lv_iload_n hx hb dX9_tellOf_55 rfl (lv_at hl 1 rfl) ?_
    refine ro_calli (va_runV (As := [.int w]) (rest := []) ⟨hx, hb, hml, hown, hts⟩ (x_X6_holderOf_TS l D s.heap.size .null a t i q c d w hI (show 0 ≤ w.toInt ∧ w.toInt ≤ 29 from by omega)) (cwV 1 hts gm_X9_tellOf_X6_holderOf_TS_137 rfl rfl rfl (by decide +kernel) ⟨Nat.le_of_ble_eq_true rfl, Nat.le_of_ble_eq_true rfl⟩) (yA_V hN (xZ_k hZ hS hA) (xkT_P1 hK) (xuT_P1 (sk := sk) hP) (ci := 6) (q0 := 0) rfl rfl) rfl rfl hl.1 rfl (lv_room (Nat.le_of_ble_eq_true rfl)) dX9_tellOf_56 ⟨Nat.le_of_ble_eq_true rfl, Nat.le_of_ble_eq_true rfl⟩) hS hA hP (fun r4 u4 H locs hw4 hP hS => ?_)
    have hw4 : ((r4.toInt = -9 ∧ (c 150 w.toNatClampNeg).toInt % 256 = 255) ∨ (0 ≤ r4.toInt ∧ r4.toInt ≤ 29 ∧ ¬ (c 150 w.toNatClampNeg).toInt % 256 = 255 ∧ r4.toInt = (c 150 w.toNatClampNeg).toInt / 8 % 32)) := hw4
    refine lv_goto (tgt := 162) hx hb dX9_tellOf_59 (by decide) ?_
    exact ro_iret hx hb hr hlocks hS dX9_tellOf_162 trivial
  · refine lv_tableIn (off := 61) (tgt := 62) hx hb dX9_tellOf_1 (by omega) (by omega) (by rw [f1]; rfl) (by decide) ?_
    refine lv_aload_n hx hb dX9_tellOf_62 rfl (lv_at hl 0 rfl) ?_
    refine xgT_T_world hx hb hts (fun _ h => List.mem_cons_of_mem _ (List.mem_append_left _ (List.mem_append_left _ (List.mem_append_left _ (List.mem_append_right _ h))))) hown hK hP (hts (.fieldLink RX9 21 "TalePlay$Tale" "world" "LTalePlay$World;") (by decide +kernel)) dX9_tellOf_63 ?_
    refine lv_iload_n hx hb dX9_tellOf_66 rfl (lv_at hl 1 rfl) ?_
    refine ro_calli (va_runV (As := [.int w]) (rest := []) ⟨hx, hb, hml, hown, hts⟩ (x_X10_isShutter l D s.heap.size .null a t i q c d w hI ) (cwV 1 hts gm_X9_tellOf_X10_isShutter_140 rfl rfl rfl (by decide +kernel) ⟨Nat.le_of_ble_eq_true rfl, Nat.le_of_ble_eq_true rfl⟩) (yA_V hN (xZ_k hZ hS hA) (xkT_W hK) (xuT_W (sk := sk) hP) (ci := 10) (q0 := 0) rfl rfl) rfl rfl hl.1 rfl (lv_room (Nat.le_of_ble_eq_true rfl)) dX9_tellOf_67 ⟨Nat.le_of_ble_eq_true rfl, Nat.le_of_ble_eq_true rfl⟩) hS hA hP (fun r5 u5 H locs hw5 hP hS => ?_)
    have hw5 : (0 ≤ r5.toInt ∧ r5.toInt ≤ 1) := hw5
    refine lv_if_eq (tgt := 88) hx hb dX9_tellOf_70 (by decide) (fun c6 => ?_) (fun c6 => ?_)
    · have f6 := (ti_eq (a := r5.toInt) (b := 0) rfl (by decide)).mp c6
      refine lv_bipush (v := (-9)) hx hb dX9_tellOf_88 (by decide) ?_
      refine lv_goto (tgt := 162) hx hb dX9_tellOf_90 (by decide) ?_
      exact ro_iret hx hb hr hlocks hS dX9_tellOf_162 trivial
    · have f6 := mt (ti_eq (a := r5.toInt) (b := 0) rfl (by decide)).mpr c6
      refine lv_aload_n hx hb dX9_tellOf_73 rfl (lv_at hl 0 rfl) ?_
      refine xgT_T_scene hx hb hts (fun _ h => List.mem_cons_of_mem _ (List.mem_append_left _ (List.mem_append_left _ (List.mem_append_left _ (List.mem_append_right _ h))))) hown hK hP (hts (.fieldLink RX9 34 "TalePlay$Tale" "scene" "LTalePlay$Scene;") (by decide +kernel)) dX9_tellOf_74 ?_
      refine lv_iload_n hx hb dX9_tellOf_77 rfl (lv_at hl 1 rfl) ?_
      refine lv_iconst (v := 0) hx hb dX9_tellOf_78 (by decide) ?_
      refine ro_calli (va_runV (As := [.int w, .int 0]) (rest := []) ⟨hx, hb, hml, hown, hts⟩ (x_X6_has_TS l D H.size .null a t i q c d w 0 hI (show 0 ≤ w.toInt ∧ w.toInt ≤ 29 from by have h91 : (0 : Int32).toInt = 0 := (by decide); omega) (show 0 ≤ 0 ∧ 0 ≤ 5 from by have h91 : (0 : Int32).toInt = 0 := (by decide); omega)) (cwV 2 hts gm_X9_tellOf_X6_has_TS_143 rfl rfl rfl (by decide +kernel) ⟨Nat.le_of_ble_eq_true rfl, Nat.le_of_ble_eq_true rfl⟩) (yA_V hN (xZ_k hZ hS hA) (xkT_P1 hK) (xuT_P1 (sk := sk) hP) (ci := 6) (q0 := 0) rfl rfl) rfl rfl hl.1 rfl (lv_room (Nat.le_of_ble_eq_true rfl)) dX9_tellOf_79 ⟨Nat.le_of_ble_eq_true rfl, Nat.le_of_ble_eq_true rfl⟩) hS hA hP (fun r7 u7 H locs hw7 hP hS => ?_)
      have hw7 : (0 ≤ r7.toInt ∧ r7.toInt ≤ 1) := hw7
      have hNn8 := hN.2.2.2.2.2.2.2
      have hPc := hP.sub (ws' := []) [] rfl
      have hKc := hK.sub (tys' := []) [] rfl
      refine ro_calli (va_runSN (As := [.int r7]) (rest := []) ⟨hx, hb, hml, hown, hts⟩ (c_X11_oneIf l D H.size r7) ⟨va_cnB 1 hts gm_X9_tellOf_X11_oneIf_146 rfl rfl rfl hNn8 (hts (.initialized RX11) (by decide +kernel)) (by decide +kernel) ⟨Nat.le_of_ble_eq_true rfl, Nat.le_of_ble_eq_true rfl⟩, (hts (.static yX11_oneIf) (by decide +kernel)), trivial⟩ (pA_S hKc hPc) rfl rfl hl.1 rfl (lv_room (Nat.le_of_ble_eq_true rfl)) dX9_tellOf_82 ⟨Nat.le_of_ble_eq_true rfl, Nat.le_of_ble_eq_true rfl⟩) hS hA hP (fun r9 u9 H locs hw9 hP hS => ?_)
      refine lv_goto (tgt := 162) hx hb dX9_tellOf_85 (by decide) ?_
      exact ro_iret hx hb hr hlocks hS dX9_tellOf_162 trivial
  · refine lv_tableIn (off := 92) (tgt := 93) hx hb dX9_tellOf_1 (by omega) (by omega) (by rw [f1]; rfl) (by decide) ?_
    refine lv_aload_n hx hb dX9_tellOf_93 rfl (lv_at hl 0 rfl) ?_
    refine xgT_T_world hx hb hts (fun _ h => List.mem_cons_of_mem _ (List.mem_append_left _ (List.mem_append_left _ (List.mem_append_left _ (List.mem_append_right _ h))))) hown hK hP (hts (.fieldLink RX9 21 "TalePlay$Tale" "world" "LTalePlay$World;") (by decide +kernel)) dX9_tellOf_94 ?_
    refine lv_iload_n hx hb dX9_tellOf_97 rfl (lv_at hl 1 rfl) ?_
    refine ro_calli (va_runV (As := [.int w]) (rest := []) ⟨hx, hb, hml, hown, hts⟩ (x_X10_isShutter l D s.heap.size .null a t i q c d w hI ) (cwV 1 hts gm_X9_tellOf_X10_isShutter_140 rfl rfl rfl (by decide +kernel) ⟨Nat.le_of_ble_eq_true rfl, Nat.le_of_ble_eq_true rfl⟩) (yA_V hN (xZ_k hZ hS hA) (xkT_W hK) (xuT_W (sk := sk) hP) (ci := 10) (q0 := 0) rfl rfl) rfl rfl hl.1 rfl (lv_room (Nat.le_of_ble_eq_true rfl)) dX9_tellOf_98 ⟨Nat.le_of_ble_eq_true rfl, Nat.le_of_ble_eq_true rfl⟩) hS hA hP (fun r10 u10 H locs hw10 hP hS => ?_)
    have hw10 : (0 ≤ r10.toInt ∧ r10.toInt ≤ 1) := hw10
    refine lv_if_eq (tgt := 119) hx hb dX9_tellOf_101 (by decide) (fun c11 => ?_) (fun c11 => ?_)
    · have f11 := (ti_eq (a := r10.toInt) (b := 0) rfl (by decide)).mp c11
      refine lv_bipush (v := (-9)) hx hb dX9_tellOf_119 (by decide) ?_
      refine lv_goto (tgt := 162) hx hb dX9_tellOf_121 (by decide) ?_
      exact ro_iret hx hb hr hlocks hS dX9_tellOf_162 trivial
    · have f11 := mt (ti_eq (a := r10.toInt) (b := 0) rfl (by decide)).mpr c11
      refine lv_aload_n hx hb dX9_tellOf_104 rfl (lv_at hl 0 rfl) ?_
      refine xgT_T_scene hx hb hts (fun _ h => List.mem_cons_of_mem _ (List.mem_append_left _ (List.mem_append_left _ (List.mem_append_left _ (List.mem_append_right _ h))))) hown hK hP (hts (.fieldLink RX9 34 "TalePlay$Tale" "scene" "LTalePlay$Scene;") (by decide +kernel)) dX9_tellOf_105 ?_
      refine lv_iload_n hx hb dX9_tellOf_108 rfl (lv_at hl 1 rfl) ?_
      refine lv_iconst (v := 1) hx hb dX9_tellOf_109 (by decide) ?_
      refine ro_calli (va_runV (As := [.int w, .int 1]) (rest := []) ⟨hx, hb, hml, hown, hts⟩ (x_X6_has_TS l D H.size .null a t i q c d w 1 hI (show 0 ≤ w.toInt ∧ w.toInt ≤ 29 from by have h91 : (1 : Int32).toInt = 1 := (by decide); omega) (show 0 ≤ 1 ∧ 1 ≤ 5 from by have h91 : (1 : Int32).toInt = 1 := (by decide); omega)) (cwV 2 hts gm_X9_tellOf_X6_has_TS_143 rfl rfl rfl (by decide +kernel) ⟨Nat.le_of_ble_eq_true rfl, Nat.le_of_ble_eq_true rfl⟩) (yA_V hN (xZ_k hZ hS hA) (xkT_P1 hK) (xuT_P1 (sk := sk) hP) (ci := 6) (q0 := 0) rfl rfl) rfl rfl hl.1 rfl (lv_room (Nat.le_of_ble_eq_true rfl)) dX9_tellOf_110 ⟨Nat.le_of_ble_eq_true rfl, Nat.le_of_ble_eq_true rfl⟩) hS hA hP (fun r12 u12 H locs hw12 hP hS => ?_)
      have hw12 : (0 ≤ r12.toInt ∧ r12.toInt ≤ 1) := hw12
      have hNn13 := hN.2.2.2.2.2.2.2
      have hPc := hP.sub (ws' := []) [] rfl
      have hKc := hK.sub (tys' := []) [] rfl
      refine ro_calli (va_runSN (As := [.int r12]) (rest := []) ⟨hx, hb, hml, hown, hts⟩ (c_X11_oneIf l D H.size r12) ⟨va_cnB 1 hts gm_X9_tellOf_X11_oneIf_146 rfl rfl rfl hNn13 (hts (.initialized RX11) (by decide +kernel)) (by decide +kernel) ⟨Nat.le_of_ble_eq_true rfl, Nat.le_of_ble_eq_true rfl⟩, (hts (.static yX11_oneIf) (by decide +kernel)), trivial⟩ (pA_S hKc hPc) rfl rfl hl.1 rfl (lv_room (Nat.le_of_ble_eq_true rfl)) dX9_tellOf_113 ⟨Nat.le_of_ble_eq_true rfl, Nat.le_of_ble_eq_true rfl⟩) hS hA hP (fun r14 u14 H locs hw14 hP hS => ?_)
      refine lv_goto (tgt := 162) hx hb dX9_tellOf_116 (by decide) ?_
      exact ro_iret hx hb hr hlocks hS dX9_tellOf_162 trivial
  · refine lv_tableIn (off := 123) (tgt := 124) hx hb dX9_tellOf_1 (by omega) (by omega) (by rw [f1]; rfl) (by decide) ?_
    refine lv_aload_n hx hb dX9_tellOf_124 rfl (lv_at hl 0 rfl) ?_
    refine xgT_T_sight hx hb hts (fun _ h => List.mem_cons_of_mem _ (List.mem_append_left _ (List.mem_append_left _ (List.mem_append_left _ (List.mem_append_right _ h))))) hown hK hP (hts (.fieldLink RX9 43 "TalePlay$Tale" "sight" "LTalePlay$Sight;") (by decide +kernel)) dX9_tellOf_125 ?_
    refine xgT_TG_seen hx hb hts (fun _ h => List.mem_cons_of_mem _ (List.mem_append_right _ h)) hown hK hP (hts (.fieldLink RX9 150 "TalePlay$Sight" "seen" "[Z") (by decide +kernel)) dX9_tellOf_128 ?_
    refine lv_iload_n hx hb dX9_tellOf_131 rfl (lv_at hl 1 rfl) ?_
    refine xlT_152 hx hb hK hP (vp_in_iff.mpr (by have h9 : w.toInt = w.toInt := rfl; omega)) dX9_tellOf_132 (fun x15 ex15 => ?_)
    have rx15 : 0 ≤ x15.toInt ∧ x15.toInt ≤ 1 := by rw [ex15]; exact hI.2 152 _
    have hNn16 := hN.2.2.2.2.2.2.2
    have hPc := hP.sub (ws' := []) [] rfl
    have hKc := hK.sub (tys' := []) [] rfl
    refine ro_calli (va_runSN (As := [.int x15]) (rest := []) ⟨hx, hb, hml, hown, hts⟩ (c_X11_oneIf l D s.heap.size x15) ⟨va_cnB 1 hts gm_X9_tellOf_X11_oneIf_146 rfl rfl rfl hNn16 (hts (.initialized RX11) (by decide +kernel)) (by decide +kernel) ⟨Nat.le_of_ble_eq_true rfl, Nat.le_of_ble_eq_true rfl⟩, (hts (.static yX11_oneIf) (by decide +kernel)), trivial⟩ (pA_S hKc hPc) rfl rfl hl.1 rfl (lv_room (Nat.le_of_ble_eq_true rfl)) dX9_tellOf_133 ⟨Nat.le_of_ble_eq_true rfl, Nat.le_of_ble_eq_true rfl⟩) hS hA hP (fun r17 u17 H locs hw17 hP hS => ?_)
    refine lv_goto (tgt := 162) hx hb dX9_tellOf_136 (by decide) ?_
    exact ro_iret hx hb hr hlocks hS dX9_tellOf_162 trivial
  · refine lv_tableIn (off := 138) (tgt := 139) hx hb dX9_tellOf_1 (by omega) (by omega) (by rw [f1]; rfl) (by decide) ?_
    refine lv_aload_n hx hb dX9_tellOf_139 rfl (lv_at hl 0 rfl) ?_
    refine xgT_T_sight hx hb hts (fun _ h => List.mem_cons_of_mem _ (List.mem_append_left _ (List.mem_append_left _ (List.mem_append_left _ (List.mem_append_right _ h))))) hown hK hP (hts (.fieldLink RX9 43 "TalePlay$Tale" "sight" "LTalePlay$Sight;") (by decide +kernel)) dX9_tellOf_140 ?_
    refine xgT_TG_reached hx hb hts (fun _ h => List.mem_cons_of_mem _ (List.mem_append_right _ h)) hown hK hP (hts (.fieldLink RX9 154 "TalePlay$Sight" "reached" "[Z") (by decide +kernel)) dX9_tellOf_143 ?_
    refine lv_iload_n hx hb dX9_tellOf_146 rfl (lv_at hl 1 rfl) ?_
    refine xlT_153 hx hb hK hP (vp_in_iff.mpr (by have h9 : w.toInt = w.toInt := rfl; omega)) dX9_tellOf_147 (fun x18 ex18 => ?_)
    have rx18 : 0 ≤ x18.toInt ∧ x18.toInt ≤ 1 := by rw [ex18]; exact hI.2 153 _
    have hNn19 := hN.2.2.2.2.2.2.2
    have hPc := hP.sub (ws' := []) [] rfl
    have hKc := hK.sub (tys' := []) [] rfl
    refine ro_calli (va_runSN (As := [.int x18]) (rest := []) ⟨hx, hb, hml, hown, hts⟩ (c_X11_oneIf l D s.heap.size x18) ⟨va_cnB 1 hts gm_X9_tellOf_X11_oneIf_146 rfl rfl rfl hNn19 (hts (.initialized RX11) (by decide +kernel)) (by decide +kernel) ⟨Nat.le_of_ble_eq_true rfl, Nat.le_of_ble_eq_true rfl⟩, (hts (.static yX11_oneIf) (by decide +kernel)), trivial⟩ (pA_S hKc hPc) rfl rfl hl.1 rfl (lv_room (Nat.le_of_ble_eq_true rfl)) dX9_tellOf_148 ⟨Nat.le_of_ble_eq_true rfl, Nat.le_of_ble_eq_true rfl⟩) hS hA hP (fun r20 u20 H locs hw20 hP hS => ?_)
    refine lv_goto (tgt := 162) hx hb dX9_tellOf_151 (by decide) ?_
    exact ro_iret hx hb hr hlocks hS dX9_tellOf_162 trivial

