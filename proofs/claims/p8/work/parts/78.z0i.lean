def wm_X9_isAct_eT : List Cond := .code yX9_isAct cX9_isAct 4 (some .boolean) :: ((([.methodLink RX9 104 yX0_hasX, .static yX0_hasX, .initialized RX0, .code yX0_hasX cX0_hasX 1 (some .boolean), .methodLink RX9 111 yX0_hasY, .static yX0_hasY, .code yX0_hasY cX0_hasY 1 (some .boolean), .fieldLink RX9 21 "TalePlay$Tale" "world" "LTalePlay$World;", .methodLink RX9 108 yX10_hasObject, .instanceMethod yX10_hasObject, .selects RX10 yX10_hasObject yX10_hasObject, .initialized RX10, .code yX10_hasObject cX10_hasObject 2 (some .boolean), .fieldLink RX10 37 "TalePlay$World" "objects" "I", .code yX11_isBelow cX11_isBelow 2 (some .boolean), .initialized RX11] : List Cond) ++ ([.static yX11_isBelow] : List Cond)) ++ wsX90 ++ wsX100)
set_option maxRecDepth 20000 in
theorem gm_X9_isAct_eT_X0_hasX_104 : GoodIn wm_X9_isAct_eT (va_wsS RX9 104 yX0_hasX wm_X0_hasX) := goodIn_w (List.forall_mem_append.mpr ⟨List.forall_mem_cons.mpr ⟨List.mem_cons_of_mem _ (List.mem_append_left _ (List.mem_append_left _ (List.mem_append_left _ (List.mem_of_getElem? (i := 0) rfl)))), List.forall_mem_cons.mpr ⟨List.mem_cons_of_mem _ (List.mem_append_left _ (List.mem_append_left _ (List.mem_append_left _ (List.mem_of_getElem? (i := 1) rfl)))), List.forall_mem_cons.mpr ⟨List.mem_cons_of_mem _ (List.mem_append_left _ (List.mem_append_left _ (List.mem_append_left _ (List.mem_of_getElem? (i := 2) rfl)))), (fun _ h => absurd h List.not_mem_nil)⟩⟩⟩, List.forall_mem_cons.mpr ⟨List.mem_cons_of_mem _ (List.mem_append_left _ (List.mem_append_left _ (List.mem_append_left _ (List.mem_of_getElem? (i := 3) rfl)))), (fun _ h => absurd h List.not_mem_nil)⟩⟩) (by decide +kernel)
set_option maxRecDepth 20000 in
theorem gm_X9_isAct_eT_X0_hasY_111 : GoodIn wm_X9_isAct_eT (va_wsS RX9 111 yX0_hasY wm_X0_hasY) := goodIn_w (List.forall_mem_append.mpr ⟨List.forall_mem_cons.mpr ⟨List.mem_cons_of_mem _ (List.mem_append_left _ (List.mem_append_left _ (List.mem_append_left _ (List.mem_of_getElem? (i := 4) rfl)))), List.forall_mem_cons.mpr ⟨List.mem_cons_of_mem _ (List.mem_append_left _ (List.mem_append_left _ (List.mem_append_left _ (List.mem_of_getElem? (i := 5) rfl)))), List.forall_mem_cons.mpr ⟨List.mem_cons_of_mem _ (List.mem_append_left _ (List.mem_append_left _ (List.mem_append_left _ (List.mem_of_getElem? (i := 2) rfl)))), (fun _ h => absurd h List.not_mem_nil)⟩⟩⟩, List.forall_mem_cons.mpr ⟨List.mem_cons_of_mem _ (List.mem_append_left _ (List.mem_append_left _ (List.mem_append_left _ (List.mem_of_getElem? (i := 6) rfl)))), (fun _ h => absurd h List.not_mem_nil)⟩⟩) (by decide +kernel)
set_option maxRecDepth 20000 in
theorem gm_X9_isAct_eT_X10_hasObject_108 : GoodIn wm_X9_isAct_eT (wsV RX9 108 RX10 yX10_hasObject wm_X10_hasObject) := goodIn_w (List.forall_mem_append.mpr ⟨List.forall_mem_cons.mpr ⟨List.mem_cons_of_mem _ (List.mem_append_left _ (List.mem_append_left _ (List.mem_append_left _ (List.mem_of_getElem? (i := 8) rfl)))), List.forall_mem_cons.mpr ⟨List.mem_cons_of_mem _ (List.mem_append_left _ (List.mem_append_left _ (List.mem_append_left _ (List.mem_of_getElem? (i := 9) rfl)))), List.forall_mem_cons.mpr ⟨List.mem_cons_of_mem _ (List.mem_append_left _ (List.mem_append_left _ (List.mem_append_left _ (List.mem_of_getElem? (i := 10) rfl)))), List.forall_mem_cons.mpr ⟨List.mem_cons_of_mem _ (List.mem_append_left _ (List.mem_append_left _ (List.mem_append_left _ (List.mem_of_getElem? (i := 11) rfl)))), (fun _ h => absurd h List.not_mem_nil)⟩⟩⟩⟩, List.forall_mem_cons.mpr ⟨List.mem_cons_of_mem _ (List.mem_append_left _ (List.mem_append_left _ (List.mem_append_left _ (List.mem_of_getElem? (i := 12) rfl)))), List.forall_mem_append.mpr ⟨List.forall_mem_cons.mpr ⟨List.mem_cons_of_mem _ (List.mem_append_left _ (List.mem_append_left _ (List.mem_append_left _ (List.mem_of_getElem? (i := 13) rfl)))), (fun _ h => absurd h List.not_mem_nil)⟩, (fun _ h => List.mem_cons_of_mem _ (List.mem_append_right _ h))⟩⟩⟩) (by decide +kernel)
set_option maxRecDepth 20000 in
theorem gm_X9_isAct_eT_X11_isBelow_101 : GoodIn wm_X9_isAct_eT wm_X11_isBelow := goodIn_w (List.forall_mem_cons.mpr ⟨List.mem_cons_of_mem _ (List.mem_append_left _ (List.mem_append_left _ (List.mem_append_left _ (List.mem_of_getElem? (i := 14) rfl)))), (fun _ h => absurd h List.not_mem_nil)⟩) (by decide +kernel)
set_option maxHeartbeats 4000000 in
set_option maxRecDepth 100000 in
theorem x_X9_isAct_eT (l : Launch) (D : va_G) (sz : Nat) (sk : Value) (a : Nat → Nat) (t : Nat → ClassId) (i : Nat → Int32) (q : Int64) (c : Nat → Nat → Int32) (d : Nat → Nat → Int64) (v1 : Int32) (w : Int32) (w2 : Int32) (hI : xInv i c) : Met l yX9_isAct wm_X9_isAct_eT ({ frames := 1, cells := 0, slots := 0, locals := 21 }) (va_Pc [.ref (a 142), .int v1, .int w, .int w2] (yA (a 186) D sz (xwT sk a t i q c d) (xtT t))) (va_Qi (fun (r : Int32) (_ : Unit) => ((0 ≤ r.toInt ∧ r.toInt ≤ 1) ∧ (Sm r (IsA v1.toInt w.toInt w2.toInt (i 111).toInt)))) oA (ro sz)) 0 0 (ro sz) := by
  refine Met.ofW (cc := cX9_isAct) (maxL := 4) (ret := (some .boolean)) (by decide +kernel) rfl ?_
  intro p e s m args below meth cd s₁ B hml hv
  obtain ⟨rfl, ⟨hsz, hP, hK⟩, hN, hZ⟩ := hv
  have hx := B.exec
  have hb := B.bytes
  have hr := B.returns
  have hts := atoms_spec (ws := wm_X9_isAct_eT) B.pre
  have hown : s.vm.findClass RX9 = some m.cls := findClass_of_methodNamed B.named
  have hlocks := B.notSynchronized
  subst hsz
  have hA : ∀ q : Nat, s.heap.size ≤ q → ro s.heap.size q := fun _ h => h
  have hS : va_S (ro s.heap.size) s.heap s.heap [] := va_S.rf
  have hl := lv_entry ([.ref (a 142), .int v1, .int w, .int w2]) (n := 4) (Nat.le_of_ble_eq_true rfl)
  rw [lg_entry_eq]
  generalize (lg_sl ([.ref (a 142), .int v1, .int w, .int w2]) ++ List.replicate (4 - (lg_sl ([.ref (a 142), .int v1, .int w, .int w2])).length) Slot.unset).toArray = ls at hl ⊢
  have hl : lv_has ls 4 [(0, .ref (a 142)), (1, .int v1), (2, .int w), (3, .int w2)] := hl
  have rb111_i : 0 ≤ (i 111).toInt ∧ (i 111).toInt ≤ 30 := hI.1 111
  refine lv_iload_n hx hb dX9_isAct_0 rfl (lv_at hl 1 rfl) ?_
  refine lv_if_lt (tgt := 10) hx hb dX9_isAct_1 (by decide +kernel) (fun c1 => ?_) (fun c1 => ?_)
  · have f1 := (ti_lt (a := v1.toInt) (b := 0) rfl (by decide +kernel)).mp c1
    refine lv_iconst (v := 0) hx hb dX9_isAct_10 (by decide +kernel) ?_
    exact ro_zret hx hb hr hlocks hS rfl dX9_isAct_11 ⟨(show 0 ≤ (0 : Int32).toInt ∧ (0 : Int32).toInt ≤ 1 from by decide +kernel), (show Sm (0 : Int32) (IsA v1.toInt w.toInt w2.toInt (i 111).toInt) from sm_0 (by unfold IsA; omega))⟩
  · have f1 := mt (ti_lt (a := v1.toInt) (b := 0) rfl (by decide +kernel)).mpr c1
    refine lv_iload_n hx hb dX9_isAct_4 rfl (lv_at hl 1 rfl) ?_
    refine lv_bipush (v := 12) hx hb dX9_isAct_5 (by decide +kernel) ?_
    refine lv_icmp_le (tgt := 12) hx hb dX9_isAct_7 (by decide +kernel) (fun c2 => ?_) (fun c2 => ?_)
    · have f2 := (ti_le (a := v1.toInt) (b := 12) rfl (by decide +kernel)).mp c2
      refine lv_iload_n hx hb dX9_isAct_12 rfl (lv_at hl 1 rfl) ?_
      refine lv_if_ne (tgt := 23) hx hb dX9_isAct_13 (by decide +kernel) (fun c3 => ?_) (fun c3 => ?_)
      · have f3 := mt (ti_eq (a := v1.toInt) (b := 0) rfl (by decide +kernel)).mpr c3
        refine lv_iload_n hx hb dX9_isAct_23 rfl (lv_at hl 1 rfl) ?_
        have hPc := hP.sub (ws' := []) [] rfl
        have hKc := hK.sub (tys' := []) [] rfl
        refine ro_calli (va_runS (As := [.int v1]) (rest := []) ⟨hx, hb, hml, hown, hts⟩ (c_X0_hasX l D s.heap.size v1) (va_cwS 1 hts gm_X9_isAct_eT_X0_hasX_104 rfl rfl rfl (by decide +kernel) ⟨Nat.le_of_ble_eq_true rfl, Nat.le_of_ble_eq_true rfl⟩) (pA_S hKc hPc) rfl rfl hl.1 rfl (lv_room (Nat.le_of_ble_eq_true rfl)) dX9_isAct_24 ⟨Nat.le_of_ble_eq_true rfl, Nat.le_of_ble_eq_true rfl⟩) hS hA hP (fun r5 u5 H locs hw5 hP hS => ?_)
        have hw5 : r5 = if (v1.toInt < 11) then 1 else 0 := hw5
        refine lv_if_eq (tgt := 41) hx hb dX9_isAct_27 (by decide +kernel) (fun c6 => ?_) (fun c6 => ?_)
        · have f6 := fl_f hw5 c6
          refine lv_iload_n hx hb dX9_isAct_41 rfl (lv_at hl 1 rfl) ?_
          have hPc := hP.sub (ws' := []) [] rfl
          have hKc := hK.sub (tys' := []) [] rfl
          refine ro_calli (va_runS (As := [.int v1]) (rest := []) ⟨hx, hb, hml, hown, hts⟩ (c_X0_hasY l D H.size v1) (va_cwS 1 hts gm_X9_isAct_eT_X0_hasY_111 rfl rfl rfl (by decide +kernel) ⟨Nat.le_of_ble_eq_true rfl, Nat.le_of_ble_eq_true rfl⟩) (pA_S hKc hPc) rfl rfl hl.1 rfl (lv_room (Nat.le_of_ble_eq_true rfl)) dX9_isAct_42 ⟨Nat.le_of_ble_eq_true rfl, Nat.le_of_ble_eq_true rfl⟩) hS hA hP (fun r8 u8 H locs hw8 hP hS => ?_)
          have hw8 : r8 = if (v1.toInt = 3 ∨ v1.toInt = 4 ∨ v1.toInt = 7 ∨ v1.toInt = 8) then 1 else 0 := hw8
          refine lv_if_eq (tgt := 59) hx hb dX9_isAct_45 (by decide +kernel) (fun c9 => ?_) (fun c9 => ?_)
          · have f9 := fl_f hw8 c9
            refine lv_iconst (v := 1) hx hb dX9_isAct_59 (by decide +kernel) ?_
            refine lv_goto (tgt := 64) hx hb dX9_isAct_60 (by decide +kernel) ?_
            exact ro_zret hx hb hr hlocks hS rfl dX9_isAct_64 ⟨(show 0 ≤ (1 : Int32).toInt ∧ (1 : Int32).toInt ≤ 1 from by decide +kernel), (show Sm (1 : Int32) (IsA v1.toInt w.toInt w2.toInt (i 111).toInt) from sm_1 (by unfold IsA; omega))⟩
          · have f9 := fl_t hw8 c9
            refine lv_aload_n hx hb dX9_isAct_48 rfl (lv_at hl 0 rfl) ?_
            refine xgT_T_world hx hb hts (fun _ h => List.mem_cons_of_mem _ (List.mem_append_left _ (List.mem_append_right _ h))) hown hK hP (hts (.fieldLink RX9 21 "TalePlay$Tale" "world" "LTalePlay$World;") (List.mem_cons_of_mem _ (List.mem_append_left _ (List.mem_append_left _ (List.mem_append_left _ (List.mem_of_getElem? (i := 7) rfl)))))) dX9_isAct_49 ?_
            refine lv_iload_n hx hb dX9_isAct_52 rfl (lv_at hl 3 rfl) ?_
            refine ro_calli (va_runV (As := [.int w2]) (rest := []) ⟨hx, hb, hml, hown, hts⟩ (x_X10_hasObject l D H.size .null a t i q c d w2 hI ) (cwV 1 hts gm_X9_isAct_eT_X10_hasObject_108 rfl rfl rfl (by decide +kernel) ⟨Nat.le_of_ble_eq_true rfl, Nat.le_of_ble_eq_true rfl⟩) (yA_V hN (xZ_k hZ hS hA) (xkT_W hK) (xuT_W (sk := sk) hP) (ci := 10) (q0 := 0) rfl rfl) rfl rfl hl.1 rfl (lv_room (Nat.le_of_ble_eq_true rfl)) dX9_isAct_53 ⟨Nat.le_of_ble_eq_true rfl, Nat.le_of_ble_eq_true rfl⟩) hS hA hP (fun r10 u10 H locs hw10 hP hS => ?_)
            have hw10 : r10 = if (0 ≤ w2.toInt ∧ w2.toInt < (i 111).toInt) then 1 else 0 := hw10
            refine lv_if_eq (tgt := 63) hx hb dX9_isAct_56 (by decide +kernel) (fun c11 => ?_) (fun c11 => ?_)
            · have f11 := fl_f hw10 c11
              refine lv_iconst (v := 0) hx hb dX9_isAct_63 (by decide +kernel) ?_
              exact ro_zret hx hb hr hlocks hS rfl dX9_isAct_64 ⟨(show 0 ≤ (0 : Int32).toInt ∧ (0 : Int32).toInt ≤ 1 from by decide +kernel), (show Sm (0 : Int32) (IsA v1.toInt w.toInt w2.toInt (i 111).toInt) from sm_0 (by unfold IsA; omega))⟩
            · have f11 := fl_t hw10 c11
              refine lv_iconst (v := 1) hx hb dX9_isAct_59 (by decide +kernel) ?_
              refine lv_goto (tgt := 64) hx hb dX9_isAct_60 (by decide +kernel) ?_
              exact ro_zret hx hb hr hlocks hS rfl dX9_isAct_64 ⟨(show 0 ≤ (1 : Int32).toInt ∧ (1 : Int32).toInt ≤ 1 from by decide +kernel), (show Sm (1 : Int32) (IsA v1.toInt w.toInt w2.toInt (i 111).toInt) from sm_1 (by unfold IsA; omega))⟩
        · have f6 := fl_t hw5 c6
          refine lv_aload_n hx hb dX9_isAct_30 rfl (lv_at hl 0 rfl) ?_
          refine xgT_T_world hx hb hts (fun _ h => List.mem_cons_of_mem _ (List.mem_append_left _ (List.mem_append_right _ h))) hown hK hP (hts (.fieldLink RX9 21 "TalePlay$Tale" "world" "LTalePlay$World;") (List.mem_cons_of_mem _ (List.mem_append_left _ (List.mem_append_left _ (List.mem_append_left _ (List.mem_of_getElem? (i := 7) rfl)))))) dX9_isAct_31 ?_
          refine lv_iload_n hx hb dX9_isAct_34 rfl (lv_at hl 2 rfl) ?_
          refine ro_calli (va_runV (As := [.int w]) (rest := []) ⟨hx, hb, hml, hown, hts⟩ (x_X10_hasObject l D H.size .null a t i q c d w hI ) (cwV 1 hts gm_X9_isAct_eT_X10_hasObject_108 rfl rfl rfl (by decide +kernel) ⟨Nat.le_of_ble_eq_true rfl, Nat.le_of_ble_eq_true rfl⟩) (yA_V hN (xZ_k hZ hS hA) (xkT_W hK) (xuT_W (sk := sk) hP) (ci := 10) (q0 := 0) rfl rfl) rfl rfl hl.1 rfl (lv_room (Nat.le_of_ble_eq_true rfl)) dX9_isAct_35 ⟨Nat.le_of_ble_eq_true rfl, Nat.le_of_ble_eq_true rfl⟩) hS hA hP (fun r12 u12 H locs hw12 hP hS => ?_)
          have hw12 : r12 = if (0 ≤ w.toInt ∧ w.toInt < (i 111).toInt) then 1 else 0 := hw12
          refine lv_if_eq (tgt := 63) hx hb dX9_isAct_38 (by decide +kernel) (fun c13 => ?_) (fun c13 => ?_)
          · have f13 := fl_f hw12 c13
            refine lv_iconst (v := 0) hx hb dX9_isAct_63 (by decide +kernel) ?_
            exact ro_zret hx hb hr hlocks hS rfl dX9_isAct_64 ⟨(show 0 ≤ (0 : Int32).toInt ∧ (0 : Int32).toInt ≤ 1 from by decide +kernel), (show Sm (0 : Int32) (IsA v1.toInt w.toInt w2.toInt (i 111).toInt) from sm_0 (by unfold IsA; omega))⟩
          · have f13 := fl_t hw12 c13
            refine lv_iload_n hx hb dX9_isAct_41 rfl (lv_at hl 1 rfl) ?_
            have hPc := hP.sub (ws' := []) [] rfl
            have hKc := hK.sub (tys' := []) [] rfl
            refine ro_calli (va_runS (As := [.int v1]) (rest := []) ⟨hx, hb, hml, hown, hts⟩ (c_X0_hasY l D H.size v1) (va_cwS 1 hts gm_X9_isAct_eT_X0_hasY_111 rfl rfl rfl (by decide +kernel) ⟨Nat.le_of_ble_eq_true rfl, Nat.le_of_ble_eq_true rfl⟩) (pA_S hKc hPc) rfl rfl hl.1 rfl (lv_room (Nat.le_of_ble_eq_true rfl)) dX9_isAct_42 ⟨Nat.le_of_ble_eq_true rfl, Nat.le_of_ble_eq_true rfl⟩) hS hA hP (fun r15 u15 H locs hw15 hP hS => ?_)
            have hw15 : r15 = if (v1.toInt = 3 ∨ v1.toInt = 4 ∨ v1.toInt = 7 ∨ v1.toInt = 8) then 1 else 0 := hw15
            refine lv_if_eq (tgt := 59) hx hb dX9_isAct_45 (by decide +kernel) (fun c16 => ?_) (fun c16 => ?_)
            · have f16 := fl_f hw15 c16
              refine lv_iconst (v := 1) hx hb dX9_isAct_59 (by decide +kernel) ?_
              refine lv_goto (tgt := 64) hx hb dX9_isAct_60 (by decide +kernel) ?_
              exact ro_zret hx hb hr hlocks hS rfl dX9_isAct_64 ⟨(show 0 ≤ (1 : Int32).toInt ∧ (1 : Int32).toInt ≤ 1 from by decide +kernel), (show Sm (1 : Int32) (IsA v1.toInt w.toInt w2.toInt (i 111).toInt) from sm_1 (by unfold IsA; omega))⟩
            · have f16 := fl_t hw15 c16
              refine lv_aload_n hx hb dX9_isAct_48 rfl (lv_at hl 0 rfl) ?_
              refine xgT_T_world hx hb hts (fun _ h => List.mem_cons_of_mem _ (List.mem_append_left _ (List.mem_append_right _ h))) hown hK hP (hts (.fieldLink RX9 21 "TalePlay$Tale" "world" "LTalePlay$World;") (List.mem_cons_of_mem _ (List.mem_append_left _ (List.mem_append_left _ (List.mem_append_left _ (List.mem_of_getElem? (i := 7) rfl)))))) dX9_isAct_49 ?_
              refine lv_iload_n hx hb dX9_isAct_52 rfl (lv_at hl 3 rfl) ?_
              refine ro_calli (va_runV (As := [.int w2]) (rest := []) ⟨hx, hb, hml, hown, hts⟩ (x_X10_hasObject l D H.size .null a t i q c d w2 hI ) (cwV 1 hts gm_X9_isAct_eT_X10_hasObject_108 rfl rfl rfl (by decide +kernel) ⟨Nat.le_of_ble_eq_true rfl, Nat.le_of_ble_eq_true rfl⟩) (yA_V hN (xZ_k hZ hS hA) (xkT_W hK) (xuT_W (sk := sk) hP) (ci := 10) (q0 := 0) rfl rfl) rfl rfl hl.1 rfl (lv_room (Nat.le_of_ble_eq_true rfl)) dX9_isAct_53 ⟨Nat.le_of_ble_eq_true rfl, Nat.le_of_ble_eq_true rfl⟩) hS hA hP (fun r17 u17 H locs hw17 hP hS => ?_)
              have hw17 : r17 = if (0 ≤ w2.toInt ∧ w2.toInt < (i 111).toInt) then 1 else 0 := hw17
              refine lv_if_eq (tgt := 63) hx hb dX9_isAct_56 (by decide +kernel) (fun c18 => ?_) (fun c18 => ?_)
              · have f18 := fl_f hw17 c18
                refine lv_iconst (v := 0) hx hb dX9_isAct_63 (by decide +kernel) ?_
                exact ro_zret hx hb hr hlocks hS rfl dX9_isAct_64 ⟨(show 0 ≤ (0 : Int32).toInt ∧ (0 : Int32).toInt ≤ 1 from by decide +kernel), (show Sm (0 : Int32) (IsA v1.toInt w.toInt w2.toInt (i 111).toInt) from sm_0 (by unfold IsA; omega))⟩
              · have f18 := fl_t hw17 c18
                refine lv_iconst (v := 1) hx hb dX9_isAct_59 (by decide +kernel) ?_
                refine lv_goto (tgt := 64) hx hb dX9_isAct_60 (by decide +kernel) ?_
                exact ro_zret hx hb hr hlocks hS rfl dX9_isAct_64 ⟨(show 0 ≤ (1 : Int32).toInt ∧ (1 : Int32).toInt ≤ 1 from by decide +kernel), (show Sm (1 : Int32) (IsA v1.toInt w.toInt w2.toInt (i 111).toInt) from sm_1 (by unfold IsA; omega))⟩
      · have f3 := (ti_eq (a := v1.toInt) (b := 0) rfl (by decide +kernel)).mp c3
        refine lv_iload_n hx hb dX9_isAct_16 rfl (lv_at hl 2 rfl) ?_
        refine lv_bipush (v := 10) hx hb dX9_isAct_17 (by decide +kernel) ?_
        have hNn19 := hN.2.2.2.2.2.1
        have hPc := hP.sub (ws' := []) [] rfl
        have hKc := hK.sub (tys' := []) [] rfl
        refine ro_calli (va_runSN (As := [.int w, .int 10]) (rest := []) ⟨hx, hb, hml, hown, hts⟩ (c_X11_isBelow l D s.heap.size w 10 w.toInt 10 rfl (by decide +kernel)) ⟨va_cnB 2 hts gm_X9_isAct_eT_X11_isBelow_101 rfl rfl rfl hNn19 (hts (.initialized RX11) (List.mem_cons_of_mem _ (List.mem_append_left _ (List.mem_append_left _ (List.mem_append_left _ (List.mem_of_getElem? (i := 15) rfl)))))) (by decide +kernel) ⟨Nat.le_of_ble_eq_true rfl, Nat.le_of_ble_eq_true rfl⟩, (hts (.static yX11_isBelow) (List.mem_cons_of_mem _ (List.mem_append_left _ (List.mem_append_left _ (List.mem_append_right _ (List.mem_of_getElem? (i := 0) rfl)))))), trivial⟩ (pA_S hKc hPc) rfl rfl hl.1 rfl (lv_room (Nat.le_of_ble_eq_true rfl)) dX9_isAct_19 ⟨Nat.le_of_ble_eq_true rfl, Nat.le_of_ble_eq_true rfl⟩) hS hA hP (fun r20 u20 H locs hw20 hP hS => ?_)
        have hw20 : r20 = if (0 ≤ w.toInt ∧ w.toInt < 10) then 1 else 0 := hw20
        exact ro_zret hx hb hr hlocks hS (fl_n hw20) dX9_isAct_22 ⟨(show 0 ≤ r20.toInt ∧ r20.toInt ≤ 1 from fl_r hw20), (show Sm r20 (IsA v1.toInt w.toInt w2.toInt (i 111).toInt) from sm_fp hw20 (by unfold IsA; omega))⟩
    · have f2 := mt (ti_le (a := v1.toInt) (b := 12) rfl (by decide +kernel)).mpr c2
      refine lv_iconst (v := 0) hx hb dX9_isAct_10 (by decide +kernel) ?_
      exact ro_zret hx hb hr hlocks hS rfl dX9_isAct_11 ⟨(show 0 ≤ (0 : Int32).toInt ∧ (0 : Int32).toInt ≤ 1 from by decide +kernel), (show Sm (0 : Int32) (IsA v1.toInt w.toInt w2.toInt (i 111).toInt) from sm_0 (by unfold IsA; omega))⟩

