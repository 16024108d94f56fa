def wm_X11_seek_rE : List Cond := .code yX11_seek cX11_seek 4 (some .int) :: (([.fieldLink RX11 10 "TalePlay" "world" "LTalePlay$World;", .methodLink RX11 109 yX10_hasObject, .instanceMethod yX10_hasObject, .selects RX10 yX10_hasObject yX10_hasObject, .initialized RX10, .code yX10_hasObject cX10_hasObject 2 (some .boolean), .fieldLink RX10 37 "TalePlay$World" "objects" "I", .fieldLink RX11 46 "TalePlay" "tale" "LTalePlay$Tale;", .fieldLink RX11 257 "TalePlay$Tale" "there" "Z"] : List Cond) ++ wsX110 ++ wsX100 ++ wsX90)
set_option maxRecDepth 20000 in
theorem gm_X11_seek_rE_X10_hasObject_109 : GoodIn wm_X11_seek_rE (wsV RX11 109 RX10 yX10_hasObject wm_X10_hasObject) := goodIn_w (List.forall_mem_append.mpr ⟨List.forall_mem_cons.mpr ⟨List.mem_cons_of_mem _ (List.mem_append_left _ (List.mem_append_left _ (List.mem_append_left _ (List.mem_of_getElem? (i := 1) rfl)))), List.forall_mem_cons.mpr ⟨List.mem_cons_of_mem _ (List.mem_append_left _ (List.mem_append_left _ (List.mem_append_left _ (List.mem_of_getElem? (i := 2) rfl)))), List.forall_mem_cons.mpr ⟨List.mem_cons_of_mem _ (List.mem_append_left _ (List.mem_append_left _ (List.mem_append_left _ (List.mem_of_getElem? (i := 3) rfl)))), List.forall_mem_cons.mpr ⟨List.mem_cons_of_mem _ (List.mem_append_left _ (List.mem_append_left _ (List.mem_append_left _ (List.mem_of_getElem? (i := 4) rfl)))), (fun _ h => absurd h List.not_mem_nil)⟩⟩⟩⟩, List.forall_mem_cons.mpr ⟨List.mem_cons_of_mem _ (List.mem_append_left _ (List.mem_append_left _ (List.mem_append_left _ (List.mem_of_getElem? (i := 5) rfl)))), List.forall_mem_append.mpr ⟨List.forall_mem_cons.mpr ⟨List.mem_cons_of_mem _ (List.mem_append_left _ (List.mem_append_left _ (List.mem_append_left _ (List.mem_of_getElem? (i := 6) rfl)))), (fun _ h => absurd h List.not_mem_nil)⟩, (fun _ h => List.mem_cons_of_mem _ (List.mem_append_left _ (List.mem_append_right _ h)))⟩⟩⟩) (by decide +kernel)
set_option maxHeartbeats 4000000 in
set_option maxRecDepth 100000 in
theorem x_X11_seek_rE (l : Launch) (D : va_G) (sz : Nat) (a : Nat → Nat) (t : Nat → ClassId) (i : Nat → Int32) (q : Int64) (c : Nat → Nat → Int32) (d : Nat → Nat → Int64) (w1 : Int32) (w2 : Int32) (b1 : Int32) (hI : xInv i c) (hno : ¬ (0 ≤ w1.toInt ∧ w1.toInt < (i 111).toInt ∧ 0 ≤ w2.toInt ∧ w2.toInt < (i 111).toInt ∧ 0 ≤ b1.toInt ∧ b1.toInt ≤ 300 ∧ ¬ (i 146).toInt = 0)) : Met l yX11_seek wm_X11_seek_rE ({ frames := 1, cells := 0, slots := 0, locals := 21 }) (va_Pc [.ref (a 100), .int w1, .int w2, .int b1] (yA (a 186) D sz (xwT .null a t i q c d) (xtT t))) (va_Qi (fun (r : Int32) (_ : Unit) => (True ∧ (SkX (0 ≤ w1.toInt ∧ w1.toInt < (i 111).toInt ∧ 0 ≤ w2.toInt ∧ w2.toInt < (i 111).toInt ∧ 0 ≤ b1.toInt ∧ b1.toInt ≤ 300) ((i 146).toInt = 1) r.toInt True False))) oA (ro sz)) 0 0 (ro sz) := by
  refine Met.ofW (cc := cX11_seek) (maxL := 4) (ret := (some .int)) (by decide +kernel) rfl ?_
  intro p e s m args below meth cd s₁ B hml hv
  obtain ⟨rfl, ⟨hsz, hP, hK⟩, hN, hZ⟩ := hv
  have hx := B.exec
  have hb := B.bytes
  have hr := B.returns
  have hts := atoms_spec (ws := wm_X11_seek_rE) B.pre
  have hown : s.vm.findClass RX11 = some m.cls := findClass_of_methodNamed B.named
  have hlocks := B.notSynchronized
  subst hsz
  have hA : ∀ q : Nat, s.heap.size ≤ q → ro s.heap.size q := fun _ h => h
  have hS : va_S (ro s.heap.size) s.heap s.heap [] := va_S.rf
  have hl := lv_entry ([.ref (a 100), .int w1, .int w2, .int b1]) (n := 4) (Nat.le_of_ble_eq_true rfl)
  rw [lg_entry_eq]
  generalize (lg_sl ([.ref (a 100), .int w1, .int w2, .int b1]) ++ List.replicate (4 - (lg_sl ([.ref (a 100), .int w1, .int w2, .int b1])).length) Slot.unset).toArray = ls at hl ⊢
  have hl : lv_has ls 4 [(0, .ref (a 100)), (1, .int w1), (2, .int w2), (3, .int b1)] := hl
  have rb111_i : 0 ≤ (i 111).toInt ∧ (i 111).toInt ≤ 30 := hI.1 111
  have rb146_i : 0 ≤ (i 146).toInt ∧ (i 146).toInt ≤ 1 := hI.1 146
  refine lv_aload_n hx hb dX11_seek_0 rfl (lv_at hl 0 rfl) ?_
  refine xgT_X_world hx hb hts (fun _ h => List.mem_cons_of_mem _ (List.mem_append_left _ (List.mem_append_left _ (List.mem_append_right _ h)))) hown hK hP (hts (.fieldLink RX11 10 "TalePlay" "world" "LTalePlay$World;") (List.mem_cons_of_mem _ (List.mem_append_left _ (List.mem_append_left _ (List.mem_append_left _ (List.mem_of_getElem? (i := 0) rfl)))))) dX11_seek_1 ?_
  refine lv_iload_n hx hb dX11_seek_4 rfl (lv_at hl 1 rfl) ?_
  refine ro_calli (va_runV (As := [.int w1]) (rest := []) ⟨hx, hb, hml, hown, hts⟩ (x_X10_hasObject l D s.heap.size .null a t i q c d w1 hI ) (cwV 1 hts gm_X11_seek_rE_X10_hasObject_109 rfl rfl rfl (by decide +kernel) ⟨Nat.le_of_ble_eq_true rfl, Nat.le_of_ble_eq_true rfl⟩) (yA_V hN (xZ_k hZ hS hA) (xkT_W hK) (xuT_W (sk := .null) hP) (ci := 10) (q0 := 0) rfl rfl) rfl rfl hl.1 rfl (lv_room (Nat.le_of_ble_eq_true rfl)) dX11_seek_5 ⟨Nat.le_of_ble_eq_true rfl, Nat.le_of_ble_eq_true rfl⟩) hS hA hP (fun r1 u1 H locs hw1 hP hS => ?_)
  have hw1 : r1 = if (0 ≤ w1.toInt ∧ w1.toInt < (i 111).toInt) then 1 else 0 := hw1
  refine lv_if_eq (tgt := 33) hx hb dX11_seek_8 (by decide +kernel) (fun c2 => ?_) (fun c2 => ?_)
  · have f2 := fl_f hw1 c2
    refine lv_iconst (v := (-1)) hx hb dX11_seek_33 (by decide +kernel) ?_
    exact ro_iret hx hb hr hlocks hS dX11_seek_34 ⟨trivial, (show SkX (0 ≤ w1.toInt ∧ w1.toInt < (i 111).toInt ∧ 0 ≤ w2.toInt ∧ w2.toInt < (i 111).toInt ∧ 0 ≤ b1.toInt ∧ b1.toInt ≤ 300) ((i 146).toInt = 1) ((-1) : Int32).toInt True False from Or.inl ⟨by omega, by decide, trivial⟩)⟩
  · have f2 := fl_t hw1 c2
    refine lv_aload_n hx hb dX11_seek_11 rfl (lv_at hl 0 rfl) ?_
    refine xgT_X_world hx hb hts (fun _ h => List.mem_cons_of_mem _ (List.mem_append_left _ (List.mem_append_left _ (List.mem_append_right _ h)))) hown hK hP (hts (.fieldLink RX11 10 "TalePlay" "world" "LTalePlay$World;") (List.mem_cons_of_mem _ (List.mem_append_left _ (List.mem_append_left _ (List.mem_append_left _ (List.mem_of_getElem? (i := 0) rfl)))))) dX11_seek_12 ?_
    refine lv_iload_n hx hb dX11_seek_15 rfl (lv_at hl 2 rfl) ?_
    refine ro_calli (va_runV (As := [.int w2]) (rest := []) ⟨hx, hb, hml, hown, hts⟩ (x_X10_hasObject l D H.size .null a t i q c d w2 hI ) (cwV 1 hts gm_X11_seek_rE_X10_hasObject_109 rfl rfl rfl (by decide +kernel) ⟨Nat.le_of_ble_eq_true rfl, Nat.le_of_ble_eq_true rfl⟩) (yA_V hN (xZ_k hZ hS hA) (xkT_W hK) (xuT_W (sk := .null) hP) (ci := 10) (q0 := 0) rfl rfl) rfl rfl hl.1 rfl (lv_room (Nat.le_of_ble_eq_true rfl)) dX11_seek_16 ⟨Nat.le_of_ble_eq_true rfl, Nat.le_of_ble_eq_true rfl⟩) hS hA hP (fun r3 u3 H locs hw3 hP hS => ?_)
    have hw3 : r3 = if (0 ≤ w2.toInt ∧ w2.toInt < (i 111).toInt) then 1 else 0 := hw3
    refine lv_if_eq (tgt := 33) hx hb dX11_seek_19 (by decide +kernel) (fun c4 => ?_) (fun c4 => ?_)
    · have f4 := fl_f hw3 c4
      refine lv_iconst (v := (-1)) hx hb dX11_seek_33 (by decide +kernel) ?_
      exact ro_iret hx hb hr hlocks hS dX11_seek_34 ⟨trivial, (show SkX (0 ≤ w1.toInt ∧ w1.toInt < (i 111).toInt ∧ 0 ≤ w2.toInt ∧ w2.toInt < (i 111).toInt ∧ 0 ≤ b1.toInt ∧ b1.toInt ≤ 300) ((i 146).toInt = 1) ((-1) : Int32).toInt True False from Or.inl ⟨by omega, by decide, trivial⟩)⟩
    · have f4 := fl_t hw3 c4
      refine lv_iload_n hx hb dX11_seek_22 rfl (lv_at hl 3 rfl) ?_
      refine lv_if_lt (tgt := 33) hx hb dX11_seek_23 (by decide +kernel) (fun c5 => ?_) (fun c5 => ?_)
      · have f5 := (ti_lt (a := b1.toInt) (b := 0) rfl (by decide +kernel)).mp c5
        refine lv_iconst (v := (-1)) hx hb dX11_seek_33 (by decide +kernel) ?_
        exact ro_iret hx hb hr hlocks hS dX11_seek_34 ⟨trivial, (show SkX (0 ≤ w1.toInt ∧ w1.toInt < (i 111).toInt ∧ 0 ≤ w2.toInt ∧ w2.toInt < (i 111).toInt ∧ 0 ≤ b1.toInt ∧ b1.toInt ≤ 300) ((i 146).toInt = 1) ((-1) : Int32).toInt True False from Or.inl ⟨by omega, by decide, trivial⟩)⟩
      · have f5 := mt (ti_lt (a := b1.toInt) (b := 0) rfl (by decide +kernel)).mpr c5
        refine lv_iload_n hx hb dX11_seek_26 rfl (lv_at hl 3 rfl) ?_
        refine lv_sipush (v := 300) hx hb dX11_seek_27 (by decide +kernel) ?_
        refine lv_icmp_le (tgt := 35) hx hb dX11_seek_30 (by decide +kernel) (fun c6 => ?_) (fun c6 => ?_)
        · have f6 := (ti_le (a := b1.toInt) (b := 300) rfl (by decide +kernel)).mp c6
          refine lv_aload_n hx hb dX11_seek_35 rfl (lv_at hl 0 rfl) ?_
          refine xgT_X_tale hx hb hts (fun _ h => List.mem_cons_of_mem _ (List.mem_append_left _ (List.mem_append_left _ (List.mem_append_right _ h)))) hown hK hP (hts (.fieldLink RX11 46 "TalePlay" "tale" "LTalePlay$Tale;") (List.mem_cons_of_mem _ (List.mem_append_left _ (List.mem_append_left _ (List.mem_append_left _ (List.mem_of_getElem? (i := 7) rfl)))))) dX11_seek_36 ?_
          refine xgT_T_there (v := (i 146)) rfl hx hb hts (fun _ h => List.mem_cons_of_mem _ (List.mem_append_right _ h)) hown hK hP (hts (.fieldLink RX11 257 "TalePlay$Tale" "there" "Z") (List.mem_cons_of_mem _ (List.mem_append_left _ (List.mem_append_left _ (List.mem_append_left _ (List.mem_of_getElem? (i := 8) rfl)))))) dX11_seek_39 ?_
          refine lv_if_ne (tgt := 48) hx hb dX11_seek_42 (by decide +kernel) (fun c7 => ?_) (fun c7 => ?_)
          · have f7 := mt (ti_eq (a := (i 146).toInt) (b := 0) rfl (by decide +kernel)).mpr c7
            exfalso; omega
          · have f7 := (ti_eq (a := (i 146).toInt) (b := 0) rfl (by decide +kernel)).mp c7
            refine lv_bipush (v := (-5)) hx hb dX11_seek_45 (by decide +kernel) ?_
            exact ro_iret hx hb hr hlocks hS dX11_seek_47 ⟨trivial, (show SkX (0 ≤ w1.toInt ∧ w1.toInt < (i 111).toInt ∧ 0 ≤ w2.toInt ∧ w2.toInt < (i 111).toInt ∧ 0 ≤ b1.toInt ∧ b1.toInt ≤ 300) ((i 146).toInt = 1) ((-5) : Int32).toInt True False from Or.inr (Or.inl ⟨by omega, by omega, by decide, trivial⟩))⟩
        · have f6 := mt (ti_le (a := b1.toInt) (b := 300) rfl (by decide +kernel)).mpr c6
          refine lv_iconst (v := (-1)) hx hb dX11_seek_33 (by decide +kernel) ?_
          exact ro_iret hx hb hr hlocks hS dX11_seek_34 ⟨trivial, (show SkX (0 ≤ w1.toInt ∧ w1.toInt < (i 111).toInt ∧ 0 ≤ w2.toInt ∧ w2.toInt < (i 111).toInt ∧ 0 ≤ b1.toInt ∧ b1.toInt ≤ 300) ((i 146).toInt = 1) ((-1) : Int32).toInt True False from Or.inl ⟨by omega, by decide, trivial⟩)⟩

