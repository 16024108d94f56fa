def wm_X11_make_e : List Cond := .code yX11_make cX11_make 3 (some .int) :: ((([.fieldLink RX11 10 "TalePlay" "world" "LTalePlay$World;", .methodLink RX11 80 yX10_hasKind, .instanceMethod yX10_hasKind, .selects RX10 yX10_hasKind yX10_hasKind, .initialized RX10, .code yX10_hasKind cX10_hasKind 2 (some .boolean), .fieldLink RX10 33 "TalePlay$World" "kinds" "I", .fieldLink RX11 102 "TalePlay$World" "objects" "I", .fieldLink RX11 46 "TalePlay" "tale" "LTalePlay$Tale;", .methodLink RX11 95 yX9_end, .instanceMethod yX9_end, .selects RX9 yX9_end yX9_end, .initialized RX9, .code yX9_end cX9_end 1 none, .fieldLink RX9 72 "TalePlay$Tale" "there" "Z", .fieldLink RX9 77 "TalePlay$Tale" "turns" "I"] : List Cond) ++ ([.methodLink RX11 105 yX10_addObject, .instanceMethod yX10_addObject, .selects RX10 yX10_addObject yX10_addObject, .code yX10_addObject cX10_addObject 3 (some .int), .fieldLink RX10 21 "TalePlay$World" "kindOf" "[I", .fieldLink RX10 37 "TalePlay$World" "objects" "I", .fieldLink RX10 24 "TalePlay$World" "sizeOf" "[I"] : List Cond)) ++ wsX110 ++ wsX100 ++ wsX90)
set_option maxRecDepth 20000 in
theorem gm_X11_make_e_X10_hasKind_80 : GoodIn wm_X11_make_e (wsV RX11 80 RX10 yX10_hasKind wm_X10_hasKind) := goodIn_w (List.forall_mem_append.mpr ⟨List.forall_mem_cons.mpr ⟨List.mem_cons_of_mem _ (List.mem_append_left _ (List.mem_append_left _ (List.mem_append_left _ (List.mem_append_left _ (List.mem_of_getElem? (i := 1) rfl))))), List.forall_mem_cons.mpr ⟨List.mem_cons_of_mem _ (List.mem_append_left _ (List.mem_append_left _ (List.mem_append_left _ (List.mem_append_left _ (List.mem_of_getElem? (i := 2) rfl))))), List.forall_mem_cons.mpr ⟨List.mem_cons_of_mem _ (List.mem_append_left _ (List.mem_append_left _ (List.mem_append_left _ (List.mem_append_left _ (List.mem_of_getElem? (i := 3) rfl))))), List.forall_mem_cons.mpr ⟨List.mem_cons_of_mem _ (List.mem_append_left _ (List.mem_append_left _ (List.mem_append_left _ (List.mem_append_left _ (List.mem_of_getElem? (i := 4) rfl))))), (fun _ h => absurd h List.not_mem_nil)⟩⟩⟩⟩, List.forall_mem_cons.mpr ⟨List.mem_cons_of_mem _ (List.mem_append_left _ (List.mem_append_left _ (List.mem_append_left _ (List.mem_append_left _ (List.mem_of_getElem? (i := 5) rfl))))), List.forall_mem_append.mpr ⟨List.forall_mem_cons.mpr ⟨List.mem_cons_of_mem _ (List.mem_append_left _ (List.mem_append_left _ (List.mem_append_left _ (List.mem_append_left _ (List.mem_of_getElem? (i := 6) rfl))))), (fun _ h => absurd h List.not_mem_nil)⟩, (fun _ h => List.mem_cons_of_mem _ (List.mem_append_left _ (List.mem_append_right _ h)))⟩⟩⟩) (by decide +kernel)
set_option maxRecDepth 20000 in
theorem gm_X11_make_e_X9_end_95 : GoodIn wm_X11_make_e (wsV RX11 95 RX9 yX9_end wm_X9_end) := goodIn_w (List.forall_mem_append.mpr ⟨List.forall_mem_cons.mpr ⟨List.mem_cons_of_mem _ (List.mem_append_left _ (List.mem_append_left _ (List.mem_append_left _ (List.mem_append_left _ (List.mem_of_getElem? (i := 9) rfl))))), List.forall_mem_cons.mpr ⟨List.mem_cons_of_mem _ (List.mem_append_left _ (List.mem_append_left _ (List.mem_append_left _ (List.mem_append_left _ (List.mem_of_getElem? (i := 10) rfl))))), List.forall_mem_cons.mpr ⟨List.mem_cons_of_mem _ (List.mem_append_left _ (List.mem_append_left _ (List.mem_append_left _ (List.mem_append_left _ (List.mem_of_getElem? (i := 11) rfl))))), List.forall_mem_cons.mpr ⟨List.mem_cons_of_mem _ (List.mem_append_left _ (List.mem_append_left _ (List.mem_append_left _ (List.mem_append_left _ (List.mem_of_getElem? (i := 12) rfl))))), (fun _ h => absurd h List.not_mem_nil)⟩⟩⟩⟩, List.forall_mem_cons.mpr ⟨List.mem_cons_of_mem _ (List.mem_append_left _ (List.mem_append_left _ (List.mem_append_left _ (List.mem_append_left _ (List.mem_of_getElem? (i := 13) rfl))))), List.forall_mem_append.mpr ⟨List.forall_mem_cons.mpr ⟨List.mem_cons_of_mem _ (List.mem_append_left _ (List.mem_append_left _ (List.mem_append_left _ (List.mem_append_left _ (List.mem_of_getElem? (i := 14) rfl))))), List.forall_mem_cons.mpr ⟨List.mem_cons_of_mem _ (List.mem_append_left _ (List.mem_append_left _ (List.mem_append_left _ (List.mem_append_left _ (List.mem_of_getElem? (i := 15) rfl))))), (fun _ h => absurd h List.not_mem_nil)⟩⟩, (fun _ h => List.mem_cons_of_mem _ (List.mem_append_right _ h))⟩⟩⟩) (by decide +kernel)
set_option maxRecDepth 20000 in
theorem gm_X11_make_e_X10_addObject_e_105 : GoodIn wm_X11_make_e (wsV RX11 105 RX10 yX10_addObject wm_X10_addObject_e) := goodIn_w (List.forall_mem_append.mpr ⟨List.forall_mem_cons.mpr ⟨List.mem_cons_of_mem _ (List.mem_append_left _ (List.mem_append_left _ (List.mem_append_left _ (List.mem_append_right _ (List.mem_of_getElem? (i := 0) rfl))))), List.forall_mem_cons.mpr ⟨List.mem_cons_of_mem _ (List.mem_append_left _ (List.mem_append_left _ (List.mem_append_left _ (List.mem_append_right _ (List.mem_of_getElem? (i := 1) rfl))))), List.forall_mem_cons.mpr ⟨List.mem_cons_of_mem _ (List.mem_append_left _ (List.mem_append_left _ (List.mem_append_left _ (List.mem_append_right _ (List.mem_of_getElem? (i := 2) rfl))))), List.forall_mem_cons.mpr ⟨List.mem_cons_of_mem _ (List.mem_append_left _ (List.mem_append_left _ (List.mem_append_left _ (List.mem_append_left _ (List.mem_of_getElem? (i := 4) rfl))))), (fun _ h => absurd h List.not_mem_nil)⟩⟩⟩⟩, List.forall_mem_cons.mpr ⟨List.mem_cons_of_mem _ (List.mem_append_left _ (List.mem_append_left _ (List.mem_append_left _ (List.mem_append_right _ (List.mem_of_getElem? (i := 3) rfl))))), List.forall_mem_append.mpr ⟨List.forall_mem_cons.mpr ⟨List.mem_cons_of_mem _ (List.mem_append_left _ (List.mem_append_left _ (List.mem_append_left _ (List.mem_append_right _ (List.mem_of_getElem? (i := 4) rfl))))), List.forall_mem_cons.mpr ⟨List.mem_cons_of_mem _ (List.mem_append_left _ (List.mem_append_left _ (List.mem_append_left _ (List.mem_append_right _ (List.mem_of_getElem? (i := 5) rfl))))), List.forall_mem_cons.mpr ⟨List.mem_cons_of_mem _ (List.mem_append_left _ (List.mem_append_left _ (List.mem_append_left _ (List.mem_append_right _ (List.mem_of_getElem? (i := 6) rfl))))), (fun _ h => absurd h List.not_mem_nil)⟩⟩⟩, (fun _ h => List.mem_cons_of_mem _ (List.mem_append_left _ (List.mem_append_right _ h)))⟩⟩⟩) (by decide +kernel)
set_option maxHeartbeats 4000000 in
set_option maxRecDepth 100000 in
theorem x_X11_make_e (l : Launch) (D : va_G) (sz : Nat) (sk : Value) (a : Nat → Nat) (t : Nat → ClassId) (i : Nat → Int32) (q : Int64) (c : Nat → Nat → Int32) (d : Nat → Nat → Int64) (k1 : Int32) (s1 : Int32) (hI : xInv i c) : Met l yX11_make wm_X11_make_e ({ frames := 1, cells := 0, slots := 0, locals := 22 }) (va_Pc [.ref (a 100), .int k1, .int s1] (yB (a 186) D sz (xwT sk a t i q c d) (xtT t))) (va_Qi (fun (r : Int32) (u : MS) => True ∧ xInv u.1 u.2.2.1 ∧ (∀ k, k ∉ ([111, 146, 148] : List Nat) → u.1 k = i k) ∧ (∀ k, k ∉ ([108, 109] : List Nat) → u.2.2.1 k = c k) ∧ (xEn (i 146) (i 148) (u.1 146) (u.1 148)) ∧ ((¬ (0 ≤ k1.toInt ∧ k1.toInt < (i 110).toInt ∧ 0 ≤ s1.toInt ∧ s1.toInt ≤ 99) ∧ r.toInt = -1 ∧ (u.1 111).toInt = (i 111).toInt) ∨ (0 ≤ k1.toInt ∧ k1.toInt < (i 110).toInt ∧ 0 ≤ s1.toInt ∧ s1.toInt ≤ 99 ∧ 30 ≤ (i 111).toInt ∧ r.toInt = -2 ∧ (u.1 111).toInt = (i 111).toInt) ∨ (0 ≤ k1.toInt ∧ k1.toInt < (i 110).toInt ∧ 0 ≤ s1.toInt ∧ s1.toInt ≤ 99 ∧ (i 111).toInt ≤ 29 ∧ r.toInt = (i 111).toInt ∧ (u.1 111).toInt = (i 111).toInt + 1)) ∧ (OU (c 108) (u.2.2.1 108) k1 s1 (i 110) (i 111)) ∧ (EnW (0 ≤ k1.toInt ∧ k1.toInt < (i 110).toInt ∧ 0 ≤ s1.toInt ∧ s1.toInt ≤ 99 ∧ (i 111).toInt ≤ 29) (i 146) (i 148) (u.1 146) (u.1 148)) ∧ (SzU (c 109) (u.2.2.1 109) k1 s1 (i 110) (i 111))) (oC D (va_A (xwT sk a t i q c d) sz) (fun u : MS => xwT sk a t u.1 u.2.1 u.2.2.1 u.2.2.2) (fun _ => [])) (va_A (xwT sk a t i q c d) sz)) 0 0 (va_A (xwT sk a t i q c d) sz) := by
  refine Met.ofW (cc := cX11_make) (maxL := 3) (ret := (some .int)) (by decide +kernel) rfl ?_
  intro p e s m args below meth cd s₁ B hml hv
  obtain ⟨rfl, ⟨hsz, hP, hK, hD0⟩, hN, hZ, hBW⟩ := hv
  have hx := B.exec
  have hb := B.bytes
  have hr := B.returns
  have hts := atoms_spec (ws := wm_X11_make_e) B.pre
  have hown : s.vm.findClass RX11 = some m.cls := findClass_of_methodNamed B.named
  have hlocks := B.notSynchronized
  subst hsz
  have hD := hD0.self (sz := s.heap.size)
  have hZ := xZ_A hZ hP hBW
  generalize hAe : va_A (xwT sk a t i q c d) s.heap.size = A at hD hZ ⊢
  have hA : ∀ q : Nat, s.heap.size ≤ q → A q := fun q h => by rw [← hAe]; exact Or.inr h
  have hS : va_S A s.heap s.heap [] := va_S.rf
  have hfi : ∀ k, k ∉ ([] : List Nat) → i k = i k := fun _ _ => rfl
  have hfc : ∀ k, k ∉ ([] : List Nat) → c k = c k := fun _ _ => rfl
  have hl := lv_entry ([.ref (a 100), .int k1, .int s1]) (n := 3) (Nat.le_of_ble_eq_true rfl)
  rw [lg_entry_eq]
  generalize (lg_sl ([.ref (a 100), .int k1, .int s1]) ++ List.replicate (3 - (lg_sl ([.ref (a 100), .int k1, .int s1])).length) Slot.unset).toArray = ls at hl ⊢
  have hl : lv_has ls 3 [(0, .ref (a 100)), (1, .int k1), (2, .int s1)] := hl
  have rb110_i : 6 ≤ (i 110).toInt ∧ (i 110).toInt ≤ 24 := hI.1 110
  have rb111_i : 0 ≤ (i 111).toInt ∧ (i 111).toInt ≤ 30 := hI.1 111
  refine lv_aload_n hx hb dX11_make_0 rfl (lv_at hl 0 rfl) ?_
  refine xgT_X_world hx hb hts (fun _ h => List.mem_cons_of_mem _ (List.mem_append_left _ (List.mem_append_left _ (List.mem_append_right _ h)))) hown hK hP (hts (.fieldLink RX11 10 "TalePlay" "world" "LTalePlay$World;") (List.mem_cons_of_mem _ (List.mem_append_left _ (List.mem_append_left _ (List.mem_append_left _ (List.mem_append_left _ (List.mem_of_getElem? (i := 0) rfl))))))) dX11_make_1 ?_
  refine lv_iload_n hx hb dX11_make_4 rfl (lv_at hl 1 rfl) ?_
  refine ro_calli (va_runV (As := [.int k1]) (rest := []) ⟨hx, hb, hml, hown, hts⟩ (x_X10_hasKind l D s.heap.size .null a t i q c d k1 hI ) (cwV 1 hts gm_X11_make_e_X10_hasKind_80 rfl rfl rfl (by decide +kernel) ⟨Nat.le_of_ble_eq_true rfl, Nat.le_of_ble_eq_true rfl⟩) (yA_V hN (xZ_k hZ hS hA) (xkT_W hK) (xuT_W (sk := sk) hP) (ci := 10) (q0 := 0) rfl rfl) rfl rfl hl.1 rfl (lv_room (Nat.le_of_ble_eq_true rfl)) dX11_make_5 ⟨Nat.le_of_ble_eq_true rfl, Nat.le_of_ble_eq_true rfl⟩) hS hA hP (fun r1 u1 H locs hw1 hP hS => ?_)
  have hw1 : r1 = if (0 ≤ k1.toInt ∧ k1.toInt < (i 110).toInt) then 1 else 0 := hw1
  refine lv_if_eq (tgt := 21) hx hb dX11_make_8 (by decide +kernel) (fun c2 => ?_) (fun c2 => ?_)
  · have f2 := fl_f hw1 c2
    refine lv_iconst (v := (-1)) hx hb dX11_make_21 (by decide +kernel) ?_
    exact rw_iret (i, q, c, d) hx hb hr hlocks hS (hK.sub (tys' := []) [] rfl) hP hD dX11_make_22 ⟨trivial, hI, fr_w hfi (by decide +kernel), fr_w hfc (by decide +kernel), (show xEn (i 146) (i 148) ((i 146) : Int32) ((i 148) : Int32) from Or.inr ⟨rfl, rfl⟩), (show (¬ (0 ≤ k1.toInt ∧ k1.toInt < (i 110).toInt ∧ 0 ≤ s1.toInt ∧ s1.toInt ≤ 99) ∧ ((-1) : Int32).toInt = -1 ∧ ((i 111) : Int32).toInt = (i 111).toInt) ∨ (0 ≤ k1.toInt ∧ k1.toInt < (i 110).toInt ∧ 0 ≤ s1.toInt ∧ s1.toInt ≤ 99 ∧ 30 ≤ (i 111).toInt ∧ ((-1) : Int32).toInt = -2 ∧ ((i 111) : Int32).toInt = (i 111).toInt) ∨ (0 ≤ k1.toInt ∧ k1.toInt < (i 110).toInt ∧ 0 ≤ s1.toInt ∧ s1.toInt ≤ 99 ∧ (i 111).toInt ≤ 29 ∧ ((-1) : Int32).toInt = (i 111).toInt ∧ ((i 111) : Int32).toInt = (i 111).toInt + 1) from by have h53 : ((-1) : Int32).toInt = -1 := (by decide +kernel); omega), (show OU (c 108) (c 108) k1 s1 (i 110) (i 111) from Or.inl ⟨by omega, rfl⟩), (show EnW (0 ≤ k1.toInt ∧ k1.toInt < (i 110).toInt ∧ 0 ≤ s1.toInt ∧ s1.toInt ≤ 99 ∧ (i 111).toInt ≤ 29) (i 146) (i 148) ((i 146) : Int32) ((i 148) : Int32) from Or.inl ⟨by omega, rfl, rfl⟩), (show SzU (c 109) (c 109) k1 s1 (i 110) (i 111) from Or.inl ⟨by omega, rfl⟩)⟩
  · have f2 := fl_t hw1 c2
    refine lv_iload_n hx hb dX11_make_11 rfl (lv_at hl 2 rfl) ?_
    refine lv_if_lt (tgt := 21) hx hb dX11_make_12 (by decide +kernel) (fun c3 => ?_) (fun c3 => ?_)
    · have f3 := (ti_lt (a := s1.toInt) (b := 0) rfl (by decide +kernel)).mp c3
      refine lv_iconst (v := (-1)) hx hb dX11_make_21 (by decide +kernel) ?_
      exact rw_iret (i, q, c, d) hx hb hr hlocks hS (hK.sub (tys' := []) [] rfl) hP hD dX11_make_22 ⟨trivial, hI, fr_w hfi (by decide +kernel), fr_w hfc (by decide +kernel), (show xEn (i 146) (i 148) ((i 146) : Int32) ((i 148) : Int32) from Or.inr ⟨rfl, rfl⟩), (show (¬ (0 ≤ k1.toInt ∧ k1.toInt < (i 110).toInt ∧ 0 ≤ s1.toInt ∧ s1.toInt ≤ 99) ∧ ((-1) : Int32).toInt = -1 ∧ ((i 111) : Int32).toInt = (i 111).toInt) ∨ (0 ≤ k1.toInt ∧ k1.toInt < (i 110).toInt ∧ 0 ≤ s1.toInt ∧ s1.toInt ≤ 99 ∧ 30 ≤ (i 111).toInt ∧ ((-1) : Int32).toInt = -2 ∧ ((i 111) : Int32).toInt = (i 111).toInt) ∨ (0 ≤ k1.toInt ∧ k1.toInt < (i 110).toInt ∧ 0 ≤ s1.toInt ∧ s1.toInt ≤ 99 ∧ (i 111).toInt ≤ 29 ∧ ((-1) : Int32).toInt = (i 111).toInt ∧ ((i 111) : Int32).toInt = (i 111).toInt + 1) from by have h53 : ((-1) : Int32).toInt = -1 := (by decide +kernel); omega), (show OU (c 108) (c 108) k1 s1 (i 110) (i 111) from Or.inl ⟨by omega, rfl⟩), (show EnW (0 ≤ k1.toInt ∧ k1.toInt < (i 110).toInt ∧ 0 ≤ s1.toInt ∧ s1.toInt ≤ 99 ∧ (i 111).toInt ≤ 29) (i 146) (i 148) ((i 146) : Int32) ((i 148) : Int32) from Or.inl ⟨by omega, rfl, rfl⟩), (show SzU (c 109) (c 109) k1 s1 (i 110) (i 111) from Or.inl ⟨by omega, rfl⟩)⟩
    · have f3 := mt (ti_lt (a := s1.toInt) (b := 0) rfl (by decide +kernel)).mpr c3
      refine lv_iload_n hx hb dX11_make_15 rfl (lv_at hl 2 rfl) ?_
      refine lv_bipush (v := 99) hx hb dX11_make_16 (by decide +kernel) ?_
      refine lv_icmp_le (tgt := 23) hx hb dX11_make_18 (by decide +kernel) (fun c4 => ?_) (fun c4 => ?_)
      · have f4 := (ti_le (a := s1.toInt) (b := 99) rfl (by decide +kernel)).mp c4
        refine lv_aload_n hx hb dX11_make_23 rfl (lv_at hl 0 rfl) ?_
        refine xgT_X_world hx hb hts (fun _ h => List.mem_cons_of_mem _ (List.mem_append_left _ (List.mem_append_left _ (List.mem_append_right _ h)))) hown hK hP (hts (.fieldLink RX11 10 "TalePlay" "world" "LTalePlay$World;") (List.mem_cons_of_mem _ (List.mem_append_left _ (List.mem_append_left _ (List.mem_append_left _ (List.mem_append_left _ (List.mem_of_getElem? (i := 0) rfl))))))) dX11_make_24 ?_
        refine xgT_W_objects (v := (i 111)) rfl hx hb hts (fun _ h => List.mem_cons_of_mem _ (List.mem_append_left _ (List.mem_append_right _ h))) hown hK hP (hts (.fieldLink RX11 102 "TalePlay$World" "objects" "I") (List.mem_cons_of_mem _ (List.mem_append_left _ (List.mem_append_left _ (List.mem_append_left _ (List.mem_append_left _ (List.mem_of_getElem? (i := 7) rfl))))))) dX11_make_27 ?_
        refine lv_bipush (v := 30) hx hb dX11_make_30 (by decide +kernel) ?_
        refine lv_icmp_lt (tgt := 38) hx hb dX11_make_32 (by decide +kernel) (fun c5 => ?_) (fun c5 => ?_)
        · have f5 := (ti_lt (a := (i 111).toInt) (b := 30) rfl (by decide +kernel)).mp c5
          refine lv_aload_n hx hb dX11_make_38 rfl (lv_at hl 0 rfl) ?_
          refine xgT_X_tale hx hb hts (fun _ h => List.mem_cons_of_mem _ (List.mem_append_left _ (List.mem_append_left _ (List.mem_append_right _ h)))) hown hK hP (hts (.fieldLink RX11 46 "TalePlay" "tale" "LTalePlay$Tale;") (List.mem_cons_of_mem _ (List.mem_append_left _ (List.mem_append_left _ (List.mem_append_left _ (List.mem_append_left _ (List.mem_of_getElem? (i := 8) rfl))))))) dX11_make_39 ?_
          refine al_callv (va_runV (As := []) (rest := []) ⟨hx, hb, hml, hown, hts⟩ (x_X9_end l D H.size sk a t i q c d  hI ) (cwV 0 hts gm_X11_make_e_X9_end_95 rfl rfl rfl (by decide +kernel) ⟨Nat.le_of_ble_eq_true rfl, Nat.le_of_ble_eq_true rfl⟩) (yB_V hN (xZ_k hZ hS hA) (xZ_n hZ hD) hK hP hD (ci := 9) (q0 := 33) rfl rfl) rfl rfl hl.1 rfl (lv_room (Nat.le_of_ble_eq_true rfl)) dX11_make_42 ⟨Nat.le_of_ble_eq_true rfl, Nat.le_of_ble_eq_true rfl⟩) hS hA hP hD (fun u6 H locs hw6 hP hD hS => ?_)
          obtain ⟨i6, q6, c6, d6⟩ := u6
          have hw6 : True ∧ xInv i6 c6 ∧ (∀ k, k ∉ ([146, 148] : List Nat) → i6 k = i k) ∧ (∀ k, k ∉ ([] : List Nat) → c6 k = c k) ∧ ((i6 146).toInt = 0) ∧ ((i6 148).toInt = 0) := hw6
          obtain ⟨hw6, hI, hei6, hec6, hxp6_0, hxp6_1⟩ := hw6
          have hxp6_0 : (i6 146).toInt = 0 := hxp6_0
          have hxp6_1 : (i6 148).toInt = 0 := hxp6_1
          have hfi : ∀ k, k ∉ ([146, 148] : List Nat) → i6 k = i k := fr_z hfi hei6 (by decide +kernel) (by decide +kernel)
          have hfc : ∀ k, k ∉ ([] : List Nat) → c6 k = c k := fr_z hfc hec6 (by decide +kernel) (by decide +kernel)
          have hen : (i6 146).toInt = 0 := hxp6_0
          have hent : (i6 148).toInt = 0 := hxp6_1
          refine lv_aload_n hx hb dX11_make_45 rfl (lv_at hl 0 rfl) ?_
          refine xgT_X_world hx hb hts (fun _ h => List.mem_cons_of_mem _ (List.mem_append_left _ (List.mem_append_left _ (List.mem_append_right _ h)))) hown hK hP (hts (.fieldLink RX11 10 "TalePlay" "world" "LTalePlay$World;") (List.mem_cons_of_mem _ (List.mem_append_left _ (List.mem_append_left _ (List.mem_append_left _ (List.mem_append_left _ (List.mem_of_getElem? (i := 0) rfl))))))) dX11_make_46 ?_
          refine lv_iload_n hx hb dX11_make_49 rfl (lv_at hl 1 rfl) ?_
          refine lv_iload_n hx hb dX11_make_50 rfl (lv_at hl 2 rfl) ?_
          have rb111_i6 : 0 ≤ (i6 111).toInt ∧ (i6 111).toInt ≤ 30 := hI.1 111
          have re111_i6 : (i6 111).toInt = (i 111).toInt := congrArg Int32.toInt (hfi 111 (by decide +kernel))
          refine al_calli (va_runV (As := [.int k1, .int s1]) (rest := []) ⟨hx, hb, hml, hown, hts⟩ (x_X10_addObject_e l D H.size sk a t i6 q6 c6 d6 k1 s1 hI (show 0 ≤ k1.toInt ∧ k1.toInt ≤ 23 from by omega) (show 0 ≤ s1.toInt ∧ s1.toInt ≤ 99 from by omega) (show ((i6 111) : Int32).toInt ≤ 29 from by omega)) (cwV 2 hts gm_X11_make_e_X10_addObject_e_105 rfl rfl rfl (by decide +kernel) ⟨Nat.le_of_ble_eq_true rfl, Nat.le_of_ble_eq_true rfl⟩) (yB_V hN (xZ_k hZ hS hA) (xZ_n hZ hD) hK hP hD (ci := 10) (q0 := 2) rfl rfl) rfl rfl hl.1 rfl (lv_room (Nat.le_of_ble_eq_true rfl)) dX11_make_51 ⟨Nat.le_of_ble_eq_true rfl, Nat.le_of_ble_eq_true rfl⟩) hS hA hP hD (fun r7 u7 H locs hw7 hP hD hS => ?_)
          obtain ⟨i7, q7, c7, d7⟩ := u7
          have hw7 : (r7.toInt = (i6 111).toInt) ∧ xInv i7 c7 ∧ (∀ k, k ∉ ([111] : List Nat) → i7 k = i6 k) ∧ (∀ k, k ∉ ([108, 109] : List Nat) → c7 k = c6 k) ∧ ((i7 111).toInt = (i6 111).toInt + 1) ∧ ((c7 108) = upd (c6 108) (i6 111).toNatClampNeg k1) ∧ ((c7 109) = upd (c6 109) (i6 111).toNatClampNeg s1) := hw7
          obtain ⟨hw7, hI, hei7, hec7, hxp7_0, hxp7_1, hxp7_2⟩ := hw7
          have hxp7_0 : (i7 111).toInt = (i 111).toInt + 1 := by have h9 := hxp7_0; rw [show i6 111 = i 111 from hfi 111 (by decide +kernel)] at h9; exact h9
          have hxp7_1 : (c7 108) = upd (c 108) (i 111).toNatClampNeg k1 := by have h9 := hxp7_1; rw [show c6 108 = c 108 from hfc 108 (by decide +kernel), show i6 111 = i 111 from hfi 111 (by decide +kernel)] at h9; exact h9
          have hxp7_2 : (c7 109) = upd (c 109) (i 111).toNatClampNeg s1 := by have h9 := hxp7_2; rw [show c6 109 = c 109 from hfc 109 (by decide +kernel), show i6 111 = i 111 from hfi 111 (by decide +kernel)] at h9; exact h9
          have hfi : ∀ k, k ∉ ([111, 146, 148] : List Nat) → i7 k = i k := fr_z hfi hei7 (by decide +kernel) (by decide +kernel)
          have hfc : ∀ k, k ∉ ([108, 109] : List Nat) → c7 k = c k := fr_z hfc hec7 (by decide +kernel) (by decide +kernel)
          have hen : ((i7 146) : Int32).toInt = 0 := by rw [show i7 146 = i6 146 from hei7 146 (by decide +kernel)]; exact hen
          have hent : ((i7 148) : Int32).toInt = 0 := by rw [show i7 148 = i6 148 from hei7 148 (by decide +kernel)]; exact hent
          exact rw_iret (i7, q7, c7, d7) hx hb hr hlocks hS (hK.sub (tys' := []) [] rfl) hP hD dX11_make_54 ⟨trivial, hI, fr_w hfi (by decide +kernel), fr_w hfc (by decide +kernel), (show xEn (i 146) (i 148) ((i7 146) : Int32) ((i7 148) : Int32) from Or.inl hen), (show (¬ (0 ≤ k1.toInt ∧ k1.toInt < (i 110).toInt ∧ 0 ≤ s1.toInt ∧ s1.toInt ≤ 99) ∧ (r7 : Int32).toInt = -1 ∧ ((i7 111) : Int32).toInt = (i 111).toInt) ∨ (0 ≤ k1.toInt ∧ k1.toInt < (i 110).toInt ∧ 0 ≤ s1.toInt ∧ s1.toInt ≤ 99 ∧ 30 ≤ (i 111).toInt ∧ (r7 : Int32).toInt = -2 ∧ ((i7 111) : Int32).toInt = (i 111).toInt) ∨ (0 ≤ k1.toInt ∧ k1.toInt < (i 110).toInt ∧ 0 ≤ s1.toInt ∧ s1.toInt ≤ 99 ∧ (i 111).toInt ≤ 29 ∧ (r7 : Int32).toInt = (i 111).toInt ∧ ((i7 111) : Int32).toInt = (i 111).toInt + 1) from by omega), (show OU (c 108) (c7 108) k1 s1 (i 110) (i 111) from Or.inr ⟨by omega, by omega, by omega, by omega, by omega, hxp7_1⟩), (show EnW (0 ≤ k1.toInt ∧ k1.toInt < (i 110).toInt ∧ 0 ≤ s1.toInt ∧ s1.toInt ≤ 99 ∧ (i 111).toInt ≤ 29) (i 146) (i 148) ((i7 146) : Int32) ((i7 148) : Int32) from Or.inr ⟨by omega, hen, hent⟩), (show SzU (c 109) (c7 109) k1 s1 (i 110) (i 111) from Or.inr ⟨by omega, by omega, by omega, by omega, by omega, hxp7_2⟩)⟩
        · have f5 := mt (ti_lt (a := (i 111).toInt) (b := 30) rfl (by decide +kernel)).mpr c5
          refine lv_bipush (v := (-2)) hx hb dX11_make_35 (by decide +kernel) ?_
          exact rw_iret (i, q, c, d) hx hb hr hlocks hS (hK.sub (tys' := []) [] rfl) hP hD dX11_make_37 ⟨trivial, hI, fr_w hfi (by decide +kernel), fr_w hfc (by decide +kernel), (show xEn (i 146) (i 148) ((i 146) : Int32) ((i 148) : Int32) from Or.inr ⟨rfl, rfl⟩), (show (¬ (0 ≤ k1.toInt ∧ k1.toInt < (i 110).toInt ∧ 0 ≤ s1.toInt ∧ s1.toInt ≤ 99) ∧ ((-2) : Int32).toInt = -1 ∧ ((i 111) : Int32).toInt = (i 111).toInt) ∨ (0 ≤ k1.toInt ∧ k1.toInt < (i 110).toInt ∧ 0 ≤ s1.toInt ∧ s1.toInt ≤ 99 ∧ 30 ≤ (i 111).toInt ∧ ((-2) : Int32).toInt = -2 ∧ ((i 111) : Int32).toInt = (i 111).toInt) ∨ (0 ≤ k1.toInt ∧ k1.toInt < (i 110).toInt ∧ 0 ≤ s1.toInt ∧ s1.toInt ≤ 99 ∧ (i 111).toInt ≤ 29 ∧ ((-2) : Int32).toInt = (i 111).toInt ∧ ((i 111) : Int32).toInt = (i 111).toInt + 1) from by have h53 : ((-2) : Int32).toInt = -2 := (by decide +kernel); omega), (show OU (c 108) (c 108) k1 s1 (i 110) (i 111) from Or.inl ⟨by omega, rfl⟩), (show EnW (0 ≤ k1.toInt ∧ k1.toInt < (i 110).toInt ∧ 0 ≤ s1.toInt ∧ s1.toInt ≤ 99 ∧ (i 111).toInt ≤ 29) (i 146) (i 148) ((i 146) : Int32) ((i 148) : Int32) from Or.inl ⟨by omega, rfl, rfl⟩), (show SzU (c 109) (c 109) k1 s1 (i 110) (i 111) from Or.inl ⟨by omega, rfl⟩)⟩
      · have f4 := mt (ti_le (a := s1.toInt) (b := 99) rfl (by decide +kernel)).mpr c4
        refine lv_iconst (v := (-1)) hx hb dX11_make_21 (by decide +kernel) ?_
        exact rw_iret (i, q, c, d) hx hb hr hlocks hS (hK.sub (tys' := []) [] rfl) hP hD dX11_make_22 ⟨trivial, hI, fr_w hfi (by decide +kernel), fr_w hfc (by decide +kernel), (show xEn (i 146) (i 148) ((i 146) : Int32) ((i 148) : Int32) from Or.inr ⟨rfl, rfl⟩), (show (¬ (0 ≤ k1.toInt ∧ k1.toInt < (i 110).toInt ∧ 0 ≤ s1.toInt ∧ s1.toInt ≤ 99) ∧ ((-1) : Int32).toInt = -1 ∧ ((i 111) : Int32).toInt = (i 111).toInt) ∨ (0 ≤ k1.toInt ∧ k1.toInt < (i 110).toInt ∧ 0 ≤ s1.toInt ∧ s1.toInt ≤ 99 ∧ 30 ≤ (i 111).toInt ∧ ((-1) : Int32).toInt = -2 ∧ ((i 111) : Int32).toInt = (i 111).toInt) ∨ (0 ≤ k1.toInt ∧ k1.toInt < (i 110).toInt ∧ 0 ≤ s1.toInt ∧ s1.toInt ≤ 99 ∧ (i 111).toInt ≤ 29 ∧ ((-1) : Int32).toInt = (i 111).toInt ∧ ((i 111) : Int32).toInt = (i 111).toInt + 1) from by have h53 : ((-1) : Int32).toInt = -1 := (by decide +kernel); omega), (show OU (c 108) (c 108) k1 s1 (i 110) (i 111) from Or.inl ⟨by omega, rfl⟩), (show EnW (0 ≤ k1.toInt ∧ k1.toInt < (i 110).toInt ∧ 0 ≤ s1.toInt ∧ s1.toInt ≤ 99 ∧ (i 111).toInt ≤ 29) (i 146) (i 148) ((i 146) : Int32) ((i 148) : Int32) from Or.inl ⟨by omega, rfl, rfl⟩), (show SzU (c 109) (c 109) k1 s1 (i 110) (i 111) from Or.inl ⟨by omega, rfl⟩)⟩

set_option maxHeartbeats 4000000 in
set_option maxRecDepth 100000 in
theorem s_X12_make_e (l : Launch) (D : va_G) (sz : Nat) (o : Nat) (a : Nat → Nat) (t : Nat → ClassId) (i : Nat → Int32) (q : Int64) (c : Nat → Nat → Int32) (d : Nat → Nat → Int64) (k1 : Int32) (s1 : Int32) (hI : mInv i c) (hs_S : SJ (c 3) (c 6) (c 9) (c 10) (c 11) (c 13) (i 2).toInt (i 5).toInt (i 8).toInt) (hs_J : TJ (c 3) (c 6) (c 23) (c 24) (c 29) (c 30) (i 5).toInt (i 22).toInt (i 27).toInt) : Met l yX12_make wm_X12_make ({ frames := 1, cells := 0, slots := 0, locals := 25 }) (va_Pc [.ref o, .int k1, .int s1] (pB D sz (mW o a t i q c d) (mT t))) (va_Qi (fun (r : Int32) (u : MS) => True ∧ mInv u.1 u.2.2.1 ∧ (∀ k, k ∉ ([5, 22, 27] : List Nat) → u.1 k = i k) ∧ (∀ k, k ∉ ([6, 7] : List Nat) → u.2.2.1 k = c k) ∧ (SJ (u.2.2.1 3) (u.2.2.1 6) (u.2.2.1 9) (u.2.2.1 10) (u.2.2.1 11) (u.2.2.1 13) (u.1 2).toInt (u.1 5).toInt (u.1 8).toInt) ∧ (TJ (u.2.2.1 3) (u.2.2.1 6) (u.2.2.1 23) (u.2.2.1 24) (u.2.2.1 29) (u.2.2.1 30) (u.1 5).toInt (u.1 22).toInt (u.1 27).toInt) ∧ ((¬ (0 ≤ k1.toInt ∧ k1.toInt < (i 2).toInt ∧ 0 ≤ s1.toInt ∧ s1.toInt ≤ 99) ∧ r.toInt = -1 ∧ (u.1 5).toInt = (i 5).toInt) ∨ (0 ≤ k1.toInt ∧ k1.toInt < (i 2).toInt ∧ 0 ≤ s1.toInt ∧ s1.toInt ≤ 99 ∧ 30 ≤ (i 5).toInt ∧ r.toInt = -2 ∧ (u.1 5).toInt = (i 5).toInt) ∨ (0 ≤ k1.toInt ∧ k1.toInt < (i 2).toInt ∧ 0 ≤ s1.toInt ∧ s1.toInt ≤ 99 ∧ (i 5).toInt ≤ 29 ∧ r.toInt = (i 5).toInt ∧ (u.1 5).toInt = (i 5).toInt + 1)) ∧ (OU (c 6) (u.2.2.1 6) k1 s1 (i 2) (i 5)) ∧ (EnM (0 ≤ k1.toInt ∧ k1.toInt < (i 2).toInt ∧ 0 ≤ s1.toInt ∧ s1.toInt ≤ 99 ∧ (i 5).toInt ≤ 29) (i 22) (i 27) (u.1 22) (u.1 27)) ∧ (SzU (c 7) (u.2.2.1 7) k1 s1 (i 2) (i 5))) (oC D (va_A (mW o a t i q c d) sz) (fun u : MS => mW o a t u.1 u.2.1 u.2.2.1 u.2.2.2) (fun _ => [])) (va_A (mW o a t i q c d) sz)) 0 0 (va_A (mW o a t i q c d) sz) := by
  refine Met.ofW (cc := cX12_make) (maxL := 3) (ret := (some .int)) (by decide +kernel) rfl ?_
  intro p e s m args below meth cd s₁ B hml hv
  obtain ⟨rfl, hsz, hP, hK, hD0⟩ := hv
  have hx := B.exec
  have hb := B.bytes
  have hr := B.returns
  have hts := atoms_spec (ws := wm_X12_make) B.pre
  have hown : s.vm.findClass RX12 = some m.cls := findClass_of_methodNamed B.named
  have hlocks := B.notSynchronized
  subst hsz
  have hD := hD0.self (sz := s.heap.size)
  generalize hAe : va_A (mW o a t i q c d) s.heap.size = A at hD ⊢
  have hA : ∀ q : Nat, s.heap.size ≤ q → A q := fun q h => by rw [← hAe]; exact Or.inr h
  have hS : va_S A s.heap s.heap [] := va_S.rf
  have hfi : ∀ k, k ∉ ([] : List Nat) → i k = i k := fun _ _ => rfl
  have hfc : ∀ k, k ∉ ([] : List Nat) → c k = c k := fun _ _ => rfl
  have hl := lv_entry ([.ref o, .int k1, .int s1]) (n := 3) (Nat.le_of_ble_eq_true rfl)
  rw [lg_entry_eq]
  generalize (lg_sl ([.ref o, .int k1, .int s1]) ++ List.replicate (3 - (lg_sl ([.ref o, .int k1, .int s1])).length) Slot.unset).toArray = ls at hl ⊢
  have hl : lv_has ls 3 [(0, .ref o), (1, .int k1), (2, .int s1)] := hl
  have hI0 := hI
  have rb2_i : 6 ≤ (i 2).toInt ∧ (i 2).toInt ≤ 24 := hI.1 2
  have rb5_i : 0 ≤ (i 5).toInt ∧ (i 5).toInt ≤ 30 := hI.1 5
  refine lv_iload_n hx hb dX12_make_0 rfl (lv_at hl 1 rfl) ?_
  refine lv_i2l (v := k1.toInt64) hx hb dX12_make_1 rfl ?_
  refine lv_lconst (v := 0) hx hb dX12_make_2 (by decide +kernel) ?_
  refine lv_aload_n hx hb dX12_make_3 rfl (lv_at hl 0 rfl) ?_
  refine mget_2 (v := (i 2)) rfl hx hb hts (fun _ h => List.mem_cons_of_mem _ (List.mem_append_right _ h)) hown hK hP (hts (.fieldLink RX12 151 "TalePlayModel" "kinds" "I") (List.mem_cons_of_mem _ (List.mem_append_left _ (List.mem_of_getElem? (i := 0) rfl)))) dX12_make_4 ?_
  refine lv_iconst (v := 1) hx hb dX12_make_7 (by decide +kernel) ?_
  refine lv_isub hx hb dX12_make_8 ?_
  refine lv_topi (fun x1 ex1 => ?_)
  have tx1 := ti_sub (a := (i 2).toInt) (b := 1) ex1 rfl (by decide +kernel) (by omega) (by omega)
  refine lv_i2l (v := x1.toInt64) hx hb dX12_make_9 rfl ?_
  have hPc := hP.sub (ws' := []) [] rfl
  have hKc := hK.sub (tys' := []) [] rfl
  refine ro_calli (va_runS (As := [.long k1.toInt64, .long 0, .long x1.toInt64]) (rest := []) ⟨hx, hb, hml, hown, hts⟩ (c_X12_in l D s.heap.size k1.toInt64 0 x1.toInt64 k1.toInt 0 ((i 2).toInt - 1) ((Int32.toInt_toInt64 k1).trans rfl) (by decide +kernel) ((Int32.toInt_toInt64 x1).trans tx1)) (va_cwS 3 hts gm_X12_make_X12_in rfl rfl rfl (by decide +kernel) ⟨Nat.le_of_ble_eq_true rfl, Nat.le_of_ble_eq_true rfl⟩) (pA_S hKc hPc) rfl rfl hl.1 rfl (lv_room (Nat.le_of_ble_eq_true rfl)) dX12_make_10 ⟨Nat.le_of_ble_eq_true rfl, Nat.le_of_ble_eq_true rfl⟩) hS hA hP (fun r2 u2 H locs hw2 hP hS => ?_)
  have hw2 : r2 = if (0 ≤ k1.toInt ∧ k1.toInt ≤ ((i 2).toInt - 1)) then 1 else 0 := hw2
  refine lv_if_eq (tgt := 28) hx hb dX12_make_13 (by decide +kernel) (fun c3 => ?_) (fun c3 => ?_)
  · have f3 := fl_f hw2 c3
    refine lv_iconst (v := (-1)) hx hb dX12_make_28 (by decide +kernel) ?_
    exact rw_iret (i, q, c, d) hx hb hr hlocks hS (hK.sub (tys' := []) [] rfl) hP hD dX12_make_29 ⟨trivial, hI, fr_w hfi (by decide +kernel), fr_w hfc (by decide +kernel), (show SJ (c 3) (c 6) (c 9) (c 10) (c 11) (c 13) ((i 2) : Int32).toInt ((i 5) : Int32).toInt ((i 8) : Int32).toInt from hs_S), (show TJ (c 3) (c 6) (c 23) (c 24) (c 29) (c 30) ((i 5) : Int32).toInt ((i 22) : Int32).toInt ((i 27) : Int32).toInt from hs_J), (show (¬ (0 ≤ k1.toInt ∧ k1.toInt < (i 2).toInt ∧ 0 ≤ s1.toInt ∧ s1.toInt ≤ 99) ∧ ((-1) : Int32).toInt = -1 ∧ ((i 5) : Int32).toInt = (i 5).toInt) ∨ (0 ≤ k1.toInt ∧ k1.toInt < (i 2).toInt ∧ 0 ≤ s1.toInt ∧ s1.toInt ≤ 99 ∧ 30 ≤ (i 5).toInt ∧ ((-1) : Int32).toInt = -2 ∧ ((i 5) : Int32).toInt = (i 5).toInt) ∨ (0 ≤ k1.toInt ∧ k1.toInt < (i 2).toInt ∧ 0 ≤ s1.toInt ∧ s1.toInt ≤ 99 ∧ (i 5).toInt ≤ 29 ∧ ((-1) : Int32).toInt = (i 5).toInt ∧ ((i 5) : Int32).toInt = (i 5).toInt + 1) from by have h53 : ((-1) : Int32).toInt = -1 := (by decide +kernel); omega), (show OU (c 6) (c 6) k1 s1 (i 2) (i 5) from Or.inl ⟨by omega, rfl⟩), (show EnM (0 ≤ k1.toInt ∧ k1.toInt < (i 2).toInt ∧ 0 ≤ s1.toInt ∧ s1.toInt ≤ 99 ∧ (i 5).toInt ≤ 29) (i 22) (i 27) ((i 22) : Int32) ((i 27) : Int32) from Or.inl ⟨by omega, rfl, rfl⟩), (show SzU (c 7) (c 7) k1 s1 (i 2) (i 5) from Or.inl ⟨by omega, rfl⟩)⟩
  · have f3 := fl_t hw2 c3
    refine lv_iload_n hx hb dX12_make_16 rfl (lv_at hl 2 rfl) ?_
    refine lv_i2l (v := s1.toInt64) hx hb dX12_make_17 rfl ?_
    refine lv_lconst (v := 0) hx hb dX12_make_18 (by decide +kernel) ?_
    refine lv_ldc2 (v := 99) hx hb hown (hts (.constantLong RX12 175 (99)) (List.mem_cons_of_mem _ (List.mem_append_left _ (List.mem_of_getElem? (i := 5) rfl)))) dX12_make_19 ?_
    have hPc := hP.sub (ws' := []) [] rfl
    have hKc := hK.sub (tys' := []) [] rfl
    refine ro_calli (va_runS (As := [.long s1.toInt64, .long 0, .long 99]) (rest := []) ⟨hx, hb, hml, hown, hts⟩ (c_X12_in l D H.size s1.toInt64 0 99 s1.toInt 0 99 ((Int32.toInt_toInt64 s1).trans rfl) (by decide +kernel) (by decide +kernel)) (va_cwS 3 hts gm_X12_make_X12_in rfl rfl rfl (by decide +kernel) ⟨Nat.le_of_ble_eq_true rfl, Nat.le_of_ble_eq_true rfl⟩) (pA_S hKc hPc) rfl rfl hl.1 rfl (lv_room (Nat.le_of_ble_eq_true rfl)) dX12_make_22 ⟨Nat.le_of_ble_eq_true rfl, Nat.le_of_ble_eq_true rfl⟩) hS hA hP (fun r4 u4 H locs hw4 hP hS => ?_)
    have hw4 : r4 = if (0 ≤ s1.toInt ∧ s1.toInt ≤ 99) then 1 else 0 := hw4
    refine lv_if_ne (tgt := 30) hx hb dX12_make_25 (by decide +kernel) (fun c5 => ?_) (fun c5 => ?_)
    · have f5 := fl_t hw4 c5
      refine lv_aload_n hx hb dX12_make_30 rfl (lv_at hl 0 rfl) ?_
      refine mget_5 (v := (i 5)) rfl hx hb hts (fun _ h => List.mem_cons_of_mem _ (List.mem_append_right _ h)) hown hK hP (hts (.fieldLink RX12 177 "TalePlayModel" "objects" "I") (List.mem_cons_of_mem _ (List.mem_append_left _ (List.mem_of_getElem? (i := 6) rfl)))) dX12_make_31 ?_
      refine lv_bipush (v := 30) hx hb dX12_make_34 (by decide +kernel) ?_
      refine lv_icmp_ne (tgt := 42) hx hb dX12_make_36 (by decide +kernel) (fun c6 => ?_) (fun c6 => ?_)
      · have f6 := mt (ti_eq (a := (i 5).toInt) (b := 30) rfl (by decide +kernel)).mpr c6
        refine lv_aload_n hx hb dX12_make_42 rfl (lv_at hl 0 rfl) ?_
        refine mget_6 hx hb hts (fun _ h => List.mem_cons_of_mem _ (List.mem_append_right _ h)) hown hK hP (hts (.fieldLink RX12 19 "TalePlayModel" "kindOf" "[I") (List.mem_cons_of_mem _ (List.mem_append_left _ (List.mem_of_getElem? (i := 7) rfl)))) dX12_make_43 ?_
        refine lv_aload_n hx hb dX12_make_46 rfl (lv_at hl 0 rfl) ?_
        refine mget_5 (v := (i 5)) rfl hx hb hts (fun _ h => List.mem_cons_of_mem _ (List.mem_append_right _ h)) hown hK hP (hts (.fieldLink RX12 177 "TalePlayModel" "objects" "I") (List.mem_cons_of_mem _ (List.mem_append_left _ (List.mem_of_getElem? (i := 6) rfl)))) dX12_make_47 ?_
        refine lv_iload_n hx hb dX12_make_50 rfl (lv_at hl 1 rfl) ?_
        refine mst_6 hx hb hK hP hD hS (vp_in_iff.mpr (by have h9 : (i 5).toInt = (i 5).toInt := rfl; omega)) dX12_make_51 (fun H locs hP hD hS => ?_)
        have hI := mInv_c hI (k := 6) (j := ((i 5) : Int32).toNatClampNeg) (x := k1) (show 0 ≤ (k1 : Int32).toInt ∧ (k1 : Int32).toInt ≤ 23 from by omega)
        have hfc : ∀ k, k ∉ ([6] : List Nat) → (updA c 6 ((i 5) : Int32).toNatClampNeg k1) k = c k := fr_cz hfc (by decide +kernel) (by decide +kernel)
        refine lv_aload_n hx hb dX12_make_52 rfl (lv_at hl 0 rfl) ?_
        refine mget_7 hx hb hts (fun _ h => List.mem_cons_of_mem _ (List.mem_append_right _ h)) hown hK hP (hts (.fieldLink RX12 22 "TalePlayModel" "sizeOf" "[I") (List.mem_cons_of_mem _ (List.mem_append_left _ (List.mem_of_getElem? (i := 8) rfl)))) dX12_make_53 ?_
        refine lv_aload_n hx hb dX12_make_56 rfl (lv_at hl 0 rfl) ?_
        refine mget_5 (v := (i 5)) rfl hx hb hts (fun _ h => List.mem_cons_of_mem _ (List.mem_append_right _ h)) hown hK hP (hts (.fieldLink RX12 177 "TalePlayModel" "objects" "I") (List.mem_cons_of_mem _ (List.mem_append_left _ (List.mem_of_getElem? (i := 6) rfl)))) dX12_make_57 ?_
        refine lv_iload_n hx hb dX12_make_60 rfl (lv_at hl 2 rfl) ?_
        refine mst_7 hx hb hK hP hD hS (vp_in_iff.mpr (by have h9 : (i 5).toInt = (i 5).toInt := rfl; omega)) dX12_make_61 (fun H locs hP hD hS => ?_)
        have hI := mInv_c hI (k := 7) (j := ((i 5) : Int32).toNatClampNeg) (x := s1) (show 0 ≤ (s1 : Int32).toInt ∧ (s1 : Int32).toInt ≤ 99 from by omega)
        have hfc : ∀ k, k ∉ ([6, 7] : List Nat) → (updA (updA c 6 ((i 5) : Int32).toNatClampNeg k1) 7 ((i 5) : Int32).toNatClampNeg s1) k = c k := fr_cz hfc (by decide +kernel) (by decide +kernel)
        refine lv_aload_n hx hb dX12_make_62 rfl (lv_at hl 0 rfl) ?_
        refine lv_dup hx hb dX12_make_63 rfl ?_
        refine mget_5 (v := (i 5)) rfl hx hb hts (fun _ h => List.mem_cons_of_mem _ (List.mem_append_right _ h)) hown hK hP (hts (.fieldLink RX12 177 "TalePlayModel" "objects" "I") (List.mem_cons_of_mem _ (List.mem_append_left _ (List.mem_of_getElem? (i := 6) rfl)))) dX12_make_64 ?_
        refine lv_iconst (v := 1) hx hb dX12_make_67 (by decide +kernel) ?_
        refine lv_iadd hx hb dX12_make_68 ?_
        refine lv_topi (fun x7 ex7 => ?_)
        have tx7 := ti_add (a := (i 5).toInt) (b := 1) ex7 rfl (by decide +kernel) (by omega) (by omega)
        refine mput_5 hx hb hts (fun _ h => List.mem_cons_of_mem _ (List.mem_append_right _ h)) hown hK hP hD hS (hts (.fieldLink RX12 177 "TalePlayModel" "objects" "I") (List.mem_cons_of_mem _ (List.mem_append_left _ (List.mem_of_getElem? (i := 6) rfl)))) rfl rfl dX12_make_69 (fun H locs hP hD hS => ?_)
        have hI := mInv_i hI (k := 5) (v := x7) (show 0 ≤ (x7 : Int32).toInt ∧ (x7 : Int32).toInt ≤ 30 from by have h9 : x7.toInt = ((i 5).toInt + 1) := tx7; omega)
        have hfi : ∀ k, k ∉ ([5] : List Nat) → (upd i 5 x7) k = i k := fr_iz hfi (by decide +kernel) (by decide +kernel)
        refine lv_aload_n hx hb dX12_make_72 rfl (lv_at hl 0 rfl) ?_
        refine al_callv (va_runV (As := []) (rest := []) ⟨hx, hb, hml, hown, hts⟩ (s_X12_endTale l D H.size o a t (upd i 5 x7) q (updA (updA c 6 ((i 5) : Int32).toNatClampNeg k1) 7 ((i 5) : Int32).toNatClampNeg s1) d  hI ) (cwV 0 hts gm_X12_make_X12_endTale rfl rfl rfl (by decide +kernel) ⟨Nat.le_of_ble_eq_true rfl, Nat.le_of_ble_eq_true rfl⟩) (pB_V hK hP hD (ci := 12) (q0 := 0) rfl rfl) rfl rfl hl.1 rfl (lv_room (Nat.le_of_ble_eq_true rfl)) dX12_make_73 ⟨Nat.le_of_ble_eq_true rfl, Nat.le_of_ble_eq_true rfl⟩) hS hA hP hD (fun u8 H locs hw8 hP hD hS => ?_)
        obtain ⟨i8, q8, c8, d8⟩ := u8
        have hw8 : True ∧ mInv i8 c8 ∧ (∀ k, k ∉ ([22, 27] : List Nat) → i8 k = (upd i 5 x7) k) ∧ (∀ k, k ∉ ([] : List Nat) → c8 k = (updA (updA c 6 ((i 5) : Int32).toNatClampNeg k1) 7 ((i 5) : Int32).toNatClampNeg s1) k) ∧ ((i8 22).toInt = -9) ∧ ((i8 27).toInt = 0) := hw8
        obtain ⟨hw8, hI, hei8, hec8, hxp8_0, hxp8_1⟩ := hw8
        have hxp8_0 : (i8 22).toInt = -9 := hxp8_0
        have hxp8_1 : (i8 27).toInt = 0 := hxp8_1
        have hfi : ∀ k, k ∉ ([5, 22, 27] : List Nat) → i8 k = i k := fr_z hfi hei8 (by decide +kernel) (by decide +kernel)
        have hfc : ∀ k, k ∉ ([6, 7] : List Nat) → c8 k = c k := fr_z hfc hec8 (by decide +kernel) (by decide +kernel)
        have hP : va_P D vwCl (mW o a t i8 q8 c8 d8) H := hP
        have hD : va_D A (mW o a t i8 q8 c8 d8) := hD
        have hob9 : (i8 5).toInt = (i 5).toInt + 1 := by rw [show i8 5 = (upd i 5 x7) 5 from hei8 5 (by decide +kernel)]; exact tx7
        refine lv_aload_n hx hb dX12_make_76 rfl (lv_at hl 0 rfl) ?_
        refine mget_5 (v := (i8 5)) rfl hx hb hts (fun _ h => List.mem_cons_of_mem _ (List.mem_append_right _ h)) hown hK hP (hts (.fieldLink RX12 177 "TalePlayModel" "objects" "I") (List.mem_cons_of_mem _ (List.mem_append_left _ (List.mem_of_getElem? (i := 6) rfl)))) dX12_make_77 ?_
        have rb5_i8 : 0 ≤ (i8 5).toInt ∧ (i8 5).toInt ≤ 30 := hI.1 5
        refine lv_iconst (v := 1) hx hb dX12_make_80 (by decide +kernel) ?_
        refine lv_isub hx hb dX12_make_81 ?_
        refine lv_topi (fun x9 ex9 => ?_)
        have tx9 := ti_sub (a := (i8 5).toInt) (b := 1) ex9 rfl (by decide +kernel) (by omega) (by omega)
        exact rw_iret (i8, q8, c8, d8) hx hb hr hlocks hS (hK.sub (tys' := []) [] rfl) hP hD dX12_make_82 ⟨trivial, hI, fr_w hfi (by decide +kernel), fr_w hfc (by decide +kernel), (show SJ (c8 3) (c8 6) (c8 9) (c8 10) (c8 11) (c8 13) ((i8 2) : Int32).toInt ((i8 5) : Int32).toInt ((i8 8) : Int32).toInt from by rw [show c8 3 = (updA (updA c 6 ((i 5) : Int32).toNatClampNeg k1) 7 ((i 5) : Int32).toNatClampNeg s1) 3 from hec8 3 (by decide +kernel), show c8 6 = (updA (updA c 6 ((i 5) : Int32).toNatClampNeg k1) 7 ((i 5) : Int32).toNatClampNeg s1) 6 from hec8 6 (by decide +kernel), show c8 9 = (updA (updA c 6 ((i 5) : Int32).toNatClampNeg k1) 7 ((i 5) : Int32).toNatClampNeg s1) 9 from hec8 9 (by decide +kernel), show c8 10 = (updA (updA c 6 ((i 5) : Int32).toNatClampNeg k1) 7 ((i 5) : Int32).toNatClampNeg s1) 10 from hec8 10 (by decide +kernel), show c8 11 = (updA (updA c 6 ((i 5) : Int32).toNatClampNeg k1) 7 ((i 5) : Int32).toNatClampNeg s1) 11 from hec8 11 (by decide +kernel), show c8 13 = (updA (updA c 6 ((i 5) : Int32).toNatClampNeg k1) 7 ((i 5) : Int32).toNatClampNeg s1) 13 from hec8 13 (by decide +kernel), show i8 2 = (upd i 5 x7) 2 from hei8 2 (by decide +kernel), show i8 5 = (upd i 5 x7) 5 from hei8 5 (by decide +kernel), show i8 8 = (upd i 5 x7) 8 from hei8 8 (by decide +kernel)]; show SJ (c 3) (upd (c 6) ((i 5) : Int32).toNatClampNeg k1) (c 9) (c 10) (c 11) (c 13) (i 2).toInt x7.toInt (i 8).toInt; rw [tx7]; exact SJ_make (N := (i 5).toInt) hs_S (by omega) (by omega) (mI_le hI0) (fun o => (mI_mi hI0 o).1)), (show TJ (c8 3) (c8 6) (c8 23) (c8 24) (c8 29) (c8 30) ((i8 5) : Int32).toInt ((i8 22) : Int32).toInt ((i8 27) : Int32).toInt from TJ_no hxp8_0), (show (¬ (0 ≤ k1.toInt ∧ k1.toInt < (i 2).toInt ∧ 0 ≤ s1.toInt ∧ s1.toInt ≤ 99) ∧ (x9 : Int32).toInt = -1 ∧ ((i8 5) : Int32).toInt = (i 5).toInt) ∨ (0 ≤ k1.toInt ∧ k1.toInt < (i 2).toInt ∧ 0 ≤ s1.toInt ∧ s1.toInt ≤ 99 ∧ 30 ≤ (i 5).toInt ∧ (x9 : Int32).toInt = -2 ∧ ((i8 5) : Int32).toInt = (i 5).toInt) ∨ (0 ≤ k1.toInt ∧ k1.toInt < (i 2).toInt ∧ 0 ≤ s1.toInt ∧ s1.toInt ≤ 99 ∧ (i 5).toInt ≤ 29 ∧ (x9 : Int32).toInt = (i 5).toInt ∧ ((i8 5) : Int32).toInt = (i 5).toInt + 1) from by have h53 : x9.toInt = ((i8 5).toInt - 1) := tx9; omega), (show OU (c 6) (c8 6) k1 s1 (i 2) (i 5) from Or.inr ⟨by omega, by omega, by omega, by omega, by omega, by rw [show c8 6 = (updA (updA c 6 ((i 5) : Int32).toNatClampNeg k1) 7 ((i 5) : Int32).toNatClampNeg s1) 6 from hec8 6 (by decide +kernel)]; rfl⟩), (show EnM (0 ≤ k1.toInt ∧ k1.toInt < (i 2).toInt ∧ 0 ≤ s1.toInt ∧ s1.toInt ≤ 99 ∧ (i 5).toInt ≤ 29) (i 22) (i 27) ((i8 22) : Int32) ((i8 27) : Int32) from Or.inr ⟨by omega, hxp8_0, hxp8_1⟩), (show SzU (c 7) (c8 7) k1 s1 (i 2) (i 5) from Or.inr ⟨by omega, by omega, by omega, by omega, by omega, by rw [show c8 7 = (updA (updA c 6 ((i 5) : Int32).toNatClampNeg k1) 7 ((i 5) : Int32).toNatClampNeg s1) 7 from hec8 7 (by decide +kernel)]; rfl⟩)⟩
      · have f6 := (ti_eq (a := (i 5).toInt) (b := 30) rfl (by decide +kernel)).mp c6
        refine lv_bipush (v := (-2)) hx hb dX12_make_39 (by decide +kernel) ?_
        exact rw_iret (i, q, c, d) hx hb hr hlocks hS (hK.sub (tys' := []) [] rfl) hP hD dX12_make_41 ⟨trivial, hI, fr_w hfi (by decide +kernel), fr_w hfc (by decide +kernel), (show SJ (c 3) (c 6) (c 9) (c 10) (c 11) (c 13) ((i 2) : Int32).toInt ((i 5) : Int32).toInt ((i 8) : Int32).toInt from hs_S), (show TJ (c 3) (c 6) (c 23) (c 24) (c 29) (c 30) ((i 5) : Int32).toInt ((i 22) : Int32).toInt ((i 27) : Int32).toInt from hs_J), (show (¬ (0 ≤ k1.toInt ∧ k1.toInt < (i 2).toInt ∧ 0 ≤ s1.toInt ∧ s1.toInt ≤ 99) ∧ ((-2) : Int32).toInt = -1 ∧ ((i 5) : Int32).toInt = (i 5).toInt) ∨ (0 ≤ k1.toInt ∧ k1.toInt < (i 2).toInt ∧ 0 ≤ s1.toInt ∧ s1.toInt ≤ 99 ∧ 30 ≤ (i 5).toInt ∧ ((-2) : Int32).toInt = -2 ∧ ((i 5) : Int32).toInt = (i 5).toInt) ∨ (0 ≤ k1.toInt ∧ k1.toInt < (i 2).toInt ∧ 0 ≤ s1.toInt ∧ s1.toInt ≤ 99 ∧ (i 5).toInt ≤ 29 ∧ ((-2) : Int32).toInt = (i 5).toInt ∧ ((i 5) : Int32).toInt = (i 5).toInt + 1) from by have h53 : ((-2) : Int32).toInt = -2 := (by decide +kernel); omega), (show OU (c 6) (c 6) k1 s1 (i 2) (i 5) from Or.inl ⟨by omega, rfl⟩), (show EnM (0 ≤ k1.toInt ∧ k1.toInt < (i 2).toInt ∧ 0 ≤ s1.toInt ∧ s1.toInt ≤ 99 ∧ (i 5).toInt ≤ 29) (i 22) (i 27) ((i 22) : Int32) ((i 27) : Int32) from Or.inl ⟨by omega, rfl, rfl⟩), (show SzU (c 7) (c 7) k1 s1 (i 2) (i 5) from Or.inl ⟨by omega, rfl⟩)⟩
    · have f5 := fl_f hw4 c5
      refine lv_iconst (v := (-1)) hx hb dX12_make_28 (by decide +kernel) ?_
      exact rw_iret (i, q, c, d) hx hb hr hlocks hS (hK.sub (tys' := []) [] rfl) hP hD dX12_make_29 ⟨trivial, hI, fr_w hfi (by decide +kernel), fr_w hfc (by decide +kernel), (show SJ (c 3) (c 6) (c 9) (c 10) (c 11) (c 13) ((i 2) : Int32).toInt ((i 5) : Int32).toInt ((i 8) : Int32).toInt from hs_S), (show TJ (c 3) (c 6) (c 23) (c 24) (c 29) (c 30) ((i 5) : Int32).toInt ((i 22) : Int32).toInt ((i 27) : Int32).toInt from hs_J), (show (¬ (0 ≤ k1.toInt ∧ k1.toInt < (i 2).toInt ∧ 0 ≤ s1.toInt ∧ s1.toInt ≤ 99) ∧ ((-1) : Int32).toInt = -1 ∧ ((i 5) : Int32).toInt = (i 5).toInt) ∨ (0 ≤ k1.toInt ∧ k1.toInt < (i 2).toInt ∧ 0 ≤ s1.toInt ∧ s1.toInt ≤ 99 ∧ 30 ≤ (i 5).toInt ∧ ((-1) : Int32).toInt = -2 ∧ ((i 5) : Int32).toInt = (i 5).toInt) ∨ (0 ≤ k1.toInt ∧ k1.toInt < (i 2).toInt ∧ 0 ≤ s1.toInt ∧ s1.toInt ≤ 99 ∧ (i 5).toInt ≤ 29 ∧ ((-1) : Int32).toInt = (i 5).toInt ∧ ((i 5) : Int32).toInt = (i 5).toInt + 1) from by have h53 : ((-1) : Int32).toInt = -1 := (by decide +kernel); omega), (show OU (c 6) (c 6) k1 s1 (i 2) (i 5) from Or.inl ⟨by omega, rfl⟩), (show EnM (0 ≤ k1.toInt ∧ k1.toInt < (i 2).toInt ∧ 0 ≤ s1.toInt ∧ s1.toInt ≤ 99 ∧ (i 5).toInt ≤ 29) (i 22) (i 27) ((i 22) : Int32) ((i 27) : Int32) from Or.inl ⟨by omega, rfl, rfl⟩), (show SzU (c 7) (c 7) k1 s1 (i 2) (i 5) from Or.inl ⟨by omega, rfl⟩)⟩

def wm_X3_open_e : List Cond := .code yX3_open cX3_open 3 (some .int) :: (([.fieldLink RX3 9 "TalePlay$Casts" "sorts" "[I", .fieldLink RX3 27 "TalePlay$Casts" "made" "I", .fieldLink RX3 15 "TalePlay$Casts" "lengths" "[I"] : List Cond) ++ wsX30)
set_option maxHeartbeats 4000000 in
set_option maxRecDepth 100000 in
theorem x_X3_open_e (l : Launch) (D : va_G) (sz : Nat) (sk : Value) (a : Nat → Nat) (t : Nat → ClassId) (i : Nat → Int32) (q : Int64) (c : Nat → Nat → Int32) (d : Nat → Nat → Int64) (s1 : Int32) (n1 : Int32) (hI : xInv i c) (hs1 : 1 ≤ s1.toInt ∧ s1.toInt ≤ 5) (hn1 : 0 ≤ n1.toInt ∧ n1.toInt ≤ 12) (hm : (i 165).toInt ≤ 9) : Met l yX3_open wm_X3_open_e ({ frames := 0, cells := 0, slots := 0, locals := 0 }) (va_Pc [.ref (a 161), .int s1, .int n1] (yB (a 186) D sz (xwT sk a t i q c d) (xtT t))) (va_Qi (fun (r : Int32) (u : MS) => (r.toInt = (i 165).toInt) ∧ xInv u.1 u.2.2.1 ∧ (∀ k, k ∉ ([165] : List Nat) → u.1 k = i k) ∧ (∀ k, k ∉ ([162, 163] : List Nat) → u.2.2.1 k = c k) ∧ ((u.1 165).toInt = (i 165).toInt + 1)) (oC D (va_A (xwT sk a t i q c d) sz) (fun u : MS => xwT sk a t u.1 u.2.1 u.2.2.1 u.2.2.2) (fun _ => [])) (va_A (xwT sk a t i q c d) sz)) 0 0 (va_A (xwT sk a t i q c d) sz) := by
  refine Met.ofW (cc := cX3_open) (maxL := 3) (ret := (some .int)) (by decide +kernel) rfl ?_
  intro p e s m args below meth cd s₁ B hml hv
  obtain ⟨rfl, ⟨hsz, hP, hK, hD0⟩, hN, hZ, hBW⟩ := hv
  have hx := B.exec
  have hb := B.bytes
  have hr := B.returns
  have hts := atoms_spec (ws := wm_X3_open_e) B.pre
  have hown : s.vm.findClass RX3 = some m.cls := findClass_of_methodNamed B.named
  have hlocks := B.notSynchronized
  subst hsz
  have hD := hD0.self (sz := s.heap.size)
  have hZ := xZ_A hZ hP hBW
  generalize hAe : va_A (xwT sk a t i q c d) s.heap.size = A at hD hZ ⊢
  have hA : ∀ q : Nat, s.heap.size ≤ q → A q := fun q h => by rw [← hAe]; exact Or.inr h
  have hS : va_S A s.heap s.heap [] := va_S.rf
  have hfi : ∀ k, k ∉ ([] : List Nat) → i k = i k := fun _ _ => rfl
  have hfc : ∀ k, k ∉ ([] : List Nat) → c k = c k := fun _ _ => rfl
  have hl := lv_entry ([.ref (a 161), .int s1, .int n1]) (n := 3) (Nat.le_of_ble_eq_true rfl)
  rw [lg_entry_eq]
  generalize (lg_sl ([.ref (a 161), .int s1, .int n1]) ++ List.replicate (3 - (lg_sl ([.ref (a 161), .int s1, .int n1])).length) Slot.unset).toArray = ls at hl ⊢
  have hl : lv_has ls 3 [(0, .ref (a 161)), (1, .int s1), (2, .int n1)] := hl
  refine lv_aload_n hx hb dX3_open_0 rfl (lv_at hl 0 rfl) ?_
  refine xgT_C_sorts hx hb hts (fun _ h => List.mem_cons_of_mem _ (List.mem_append_right _ h)) hown hK hP (hts (.fieldLink RX3 9 "TalePlay$Casts" "sorts" "[I") (List.mem_cons_of_mem _ (List.mem_append_left _ (List.mem_of_getElem? (i := 0) rfl)))) dX3_open_1 ?_
  refine lv_aload_n hx hb dX3_open_4 rfl (lv_at hl 0 rfl) ?_
  refine xgT_C_made (v := (i 165)) rfl hx hb hts (fun _ h => List.mem_cons_of_mem _ (List.mem_append_right _ h)) hown hK hP (hts (.fieldLink RX3 27 "TalePlay$Casts" "made" "I") (List.mem_cons_of_mem _ (List.mem_append_left _ (List.mem_of_getElem? (i := 1) rfl)))) dX3_open_5 ?_
  have rb165_i : 0 ≤ (i 165).toInt ∧ (i 165).toInt ≤ 10 := hI.1 165
  refine lv_iload_n hx hb dX3_open_8 rfl (lv_at hl 1 rfl) ?_
  refine xsT_162 hx hb hK hP hD hS (vp_in_iff.mpr (by have h9 : (i 165).toInt = (i 165).toInt := rfl; omega)) dX3_open_9 (fun H locs hP hD hS => ?_)
  have hI := xInv_c hI (k := 162) (j := ((i 165) : Int32).toNatClampNeg) (x := s1) (show 0 ≤ (s1 : Int32).toInt ∧ (s1 : Int32).toInt ≤ 5 from by omega)
  have hfc : ∀ k, k ∉ ([162] : List Nat) → (updA c 162 ((i 165) : Int32).toNatClampNeg s1) k = c k := fr_cz hfc (by decide +kernel) (by decide +kernel)
  refine lv_aload_n hx hb dX3_open_10 rfl (lv_at hl 0 rfl) ?_
  refine xgT_C_lengths hx hb hts (fun _ h => List.mem_cons_of_mem _ (List.mem_append_right _ h)) hown hK hP (hts (.fieldLink RX3 15 "TalePlay$Casts" "lengths" "[I") (List.mem_cons_of_mem _ (List.mem_append_left _ (List.mem_of_getElem? (i := 2) rfl)))) dX3_open_11 ?_
  refine lv_aload_n hx hb dX3_open_14 rfl (lv_at hl 0 rfl) ?_
  refine xgT_C_made (v := (i 165)) rfl hx hb hts (fun _ h => List.mem_cons_of_mem _ (List.mem_append_right _ h)) hown hK hP (hts (.fieldLink RX3 27 "TalePlay$Casts" "made" "I") (List.mem_cons_of_mem _ (List.mem_append_left _ (List.mem_of_getElem? (i := 1) rfl)))) dX3_open_15 ?_
  refine lv_iload_n hx hb dX3_open_18 rfl (lv_at hl 2 rfl) ?_
  refine xsT_163 hx hb hK hP hD hS (vp_in_iff.mpr (by have h9 : (i 165).toInt = (i 165).toInt := rfl; omega)) dX3_open_19 (fun H locs hP hD hS => ?_)
  have hI := xInv_c hI (k := 163) (j := ((i 165) : Int32).toNatClampNeg) (x := n1) (show 0 ≤ (n1 : Int32).toInt ∧ (n1 : Int32).toInt ≤ 12 from by omega)
  have hfc : ∀ k, k ∉ ([162, 163] : List Nat) → (updA (updA c 162 ((i 165) : Int32).toNatClampNeg s1) 163 ((i 165) : Int32).toNatClampNeg n1) k = c k := fr_cz hfc (by decide +kernel) (by decide +kernel)
  refine lv_aload_n hx hb dX3_open_20 rfl (lv_at hl 0 rfl) ?_
  refine lv_dup hx hb dX3_open_21 rfl ?_
  refine xgT_C_made (v := (i 165)) rfl hx hb hts (fun _ h => List.mem_cons_of_mem _ (List.mem_append_right _ h)) hown hK hP (hts (.fieldLink RX3 27 "TalePlay$Casts" "made" "I") (List.mem_cons_of_mem _ (List.mem_append_left _ (List.mem_of_getElem? (i := 1) rfl)))) dX3_open_22 ?_
  refine lv_dup_x1 hx hb dX3_open_25 rfl rfl ?_
  refine lv_iconst (v := 1) hx hb dX3_open_26 (by decide +kernel) ?_
  refine lv_iadd hx hb dX3_open_27 ?_
  refine lv_topi (fun x1 ex1 => ?_)
  have tx1 := ti_add (a := (i 165).toInt) (b := 1) ex1 rfl (by decide +kernel) (by omega) (by omega)
  refine xpT_C_made hx hb hts (fun _ h => List.mem_cons_of_mem _ (List.mem_append_right _ h)) hown hK hP hD hS (hts (.fieldLink RX3 27 "TalePlay$Casts" "made" "I") (List.mem_cons_of_mem _ (List.mem_append_left _ (List.mem_of_getElem? (i := 1) rfl)))) rfl rfl dX3_open_28 (fun H locs hP hD hS => ?_)
  have hI := xInv_i hI (k := 165) (v := x1) (show 0 ≤ (x1 : Int32).toInt ∧ (x1 : Int32).toInt ≤ 10 from by have h9 : x1.toInt = ((i 165).toInt + 1) := tx1; omega)
  have hfi : ∀ k, k ∉ ([165] : List Nat) → (upd i 165 x1) k = i k := fr_iz hfi (by decide +kernel) (by decide +kernel)
  exact rw_iret ((upd i 165 x1), q, (updA (updA c 162 ((i 165) : Int32).toNatClampNeg s1) 163 ((i 165) : Int32).toNatClampNeg n1), d) hx hb hr hlocks hS (hK.sub (tys' := []) [] rfl) hP hD dX3_open_31 ⟨(show (i 165).toInt = (i 165).toInt from by omega), hI, fr_w hfi (by decide +kernel), fr_w hfc (by decide +kernel), (show (x1 : Int32).toInt = (i 165).toInt + 1 from by have h50 : x1.toInt = ((i 165).toInt + 1) := tx1; omega)⟩

def wm_X11_cast_e : List Cond := .code yX11_cast cX11_cast 3 (some .int) :: ((([.fieldLink RX11 60 "TalePlay" "casts" "LTalePlay$Casts;", .fieldLink RX11 334 "TalePlay$Casts" "made" "I", .methodLink RX11 337 yX3_open, .instanceMethod yX3_open, .selects RX3 yX3_open yX3_open, .initialized RX3, .code yX3_open cX3_open 3 (some .int), .fieldLink RX3 9 "TalePlay$Casts" "sorts" "[I", .fieldLink RX3 27 "TalePlay$Casts" "made" "I", .fieldLink RX3 15 "TalePlay$Casts" "lengths" "[I", .methodLink RX11 128 yX11_answerFinding, .instanceMethod yX11_answerFinding, .selects RX11 yX11_answerFinding yX11_answerFinding, .initialized RX11, .code yX11_answerFinding cX11_answerFinding 2 (some .int), .fieldLink RX11 72 "TalePlay" "latestFinding" "I"] : List Cond) ++ ([.fieldLink RX11 68 "TalePlay" "findingCounts" "[I"] : List Cond)) ++ wsX110 ++ wsX30)
set_option maxRecDepth 20000 in
theorem gm_X11_cast_e_X3_open_e_337 : GoodIn wm_X11_cast_e (wsV RX11 337 RX3 yX3_open wm_X3_open_e) := goodIn_w (List.forall_mem_append.mpr ⟨List.forall_mem_cons.mpr ⟨List.mem_cons_of_mem _ (List.mem_append_left _ (List.mem_append_left _ (List.mem_append_left _ (List.mem_of_getElem? (i := 2) rfl)))), List.forall_mem_cons.mpr ⟨List.mem_cons_of_mem _ (List.mem_append_left _ (List.mem_append_left _ (List.mem_append_left _ (List.mem_of_getElem? (i := 3) rfl)))), List.forall_mem_cons.mpr ⟨List.mem_cons_of_mem _ (List.mem_append_left _ (List.mem_append_left _ (List.mem_append_left _ (List.mem_of_getElem? (i := 4) rfl)))), List.forall_mem_cons.mpr ⟨List.mem_cons_of_mem _ (List.mem_append_left _ (List.mem_append_left _ (List.mem_append_left _ (List.mem_of_getElem? (i := 5) rfl)))), (fun _ h => absurd h List.not_mem_nil)⟩⟩⟩⟩, List.forall_mem_cons.mpr ⟨List.mem_cons_of_mem _ (List.mem_append_left _ (List.mem_append_left _ (List.mem_append_left _ (List.mem_of_getElem? (i := 6) rfl)))), List.forall_mem_append.mpr ⟨List.forall_mem_cons.mpr ⟨List.mem_cons_of_mem _ (List.mem_append_left _ (List.mem_append_left _ (List.mem_append_left _ (List.mem_of_getElem? (i := 7) rfl)))), List.forall_mem_cons.mpr ⟨List.mem_cons_of_mem _ (List.mem_append_left _ (List.mem_append_left _ (List.mem_append_left _ (List.mem_of_getElem? (i := 8) rfl)))), List.forall_mem_cons.mpr ⟨List.mem_cons_of_mem _ (List.mem_append_left _ (List.mem_append_left _ (List.mem_append_left _ (List.mem_of_getElem? (i := 9) rfl)))), (fun _ h => absurd h List.not_mem_nil)⟩⟩⟩, (fun _ h => List.mem_cons_of_mem _ (List.mem_append_right _ h))⟩⟩⟩) (by decide +kernel)
set_option maxRecDepth 20000 in
theorem gm_X11_cast_e_X11_answerFinding_128 : GoodIn wm_X11_cast_e (wsV RX11 128 RX11 yX11_answerFinding wm_X11_answerFinding) := goodIn_w (List.forall_mem_append.mpr ⟨List.forall_mem_cons.mpr ⟨List.mem_cons_of_mem _ (List.mem_append_left _ (List.mem_append_left _ (List.mem_append_left _ (List.mem_of_getElem? (i := 10) rfl)))), List.forall_mem_cons.mpr ⟨List.mem_cons_of_mem _ (List.mem_append_left _ (List.mem_append_left _ (List.mem_append_left _ (List.mem_of_getElem? (i := 11) rfl)))), List.forall_mem_cons.mpr ⟨List.mem_cons_of_mem _ (List.mem_append_left _ (List.mem_append_left _ (List.mem_append_left _ (List.mem_of_getElem? (i := 12) rfl)))), List.forall_mem_cons.mpr ⟨List.mem_cons_of_mem _ (List.mem_append_left _ (List.mem_append_left _ (List.mem_append_left _ (List.mem_of_getElem? (i := 13) rfl)))), (fun _ h => absurd h List.not_mem_nil)⟩⟩⟩⟩, List.forall_mem_cons.mpr ⟨List.mem_cons_of_mem _ (List.mem_append_left _ (List.mem_append_left _ (List.mem_append_left _ (List.mem_of_getElem? (i := 14) rfl)))), List.forall_mem_append.mpr ⟨List.forall_mem_cons.mpr ⟨List.mem_cons_of_mem _ (List.mem_append_left _ (List.mem_append_left _ (List.mem_append_left _ (List.mem_of_getElem? (i := 15) rfl)))), List.forall_mem_cons.mpr ⟨List.mem_cons_of_mem _ (List.mem_append_left _ (List.mem_append_left _ (List.mem_append_right _ (List.mem_of_getElem? (i := 0) rfl)))), (fun _ h => absurd h List.not_mem_nil)⟩⟩, (fun _ h => List.mem_cons_of_mem _ (List.mem_append_left _ (List.mem_append_right _ h)))⟩⟩⟩) (by decide +kernel)
set_option maxHeartbeats 4000000 in
set_option maxRecDepth 100000 in
theorem x_X11_cast_e (l : Launch) (D : va_G) (sz : Nat) (sk : Value) (a : Nat → Nat) (t : Nat → ClassId) (i : Nat → Int32) (q : Int64) (c : Nat → Nat → Int32) (d : Nat → Nat → Int64) (s1 : Int32) (n1 : Int32) (hI : xInv i c) : Met l yX11_cast wm_X11_cast_e ({ frames := 1, cells := 0, slots := 0, locals := 22 }) (va_Pc [.ref (a 100), .int s1, .int n1] (yB (a 186) D sz (xwT sk a t i q c d) (xtT t))) (va_Qi (fun (r : Int32) (u : MS) => True ∧ xInv u.1 u.2.2.1 ∧ (∀ k, k ∉ ([102, 165] : List Nat) → u.1 k = i k) ∧ (∀ k, k ∉ ([101, 162, 163] : List Nat) → u.2.2.1 k = c k) ∧ ((¬ (1 ≤ s1.toInt ∧ s1.toInt ≤ 5 ∧ n1.toInt ≤ 12) ∧ r.toInt = -1 ∧ (u.1 165).toInt = (i 165).toInt) ∨ (1 ≤ s1.toInt ∧ s1.toInt ≤ 5 ∧ n1.toInt ≤ 12 ∧ 10 ≤ (i 165).toInt ∧ r.toInt = -2 ∧ (u.1 165).toInt = (i 165).toInt) ∨ (1 ≤ s1.toInt ∧ s1.toInt ≤ 5 ∧ n1.toInt ≤ 12 ∧ (i 165).toInt ≤ 9 ∧ n1.toInt < 0 ∧ r.toInt = -3 ∧ (u.1 165).toInt = (i 165).toInt) ∨ (1 ≤ s1.toInt ∧ s1.toInt ≤ 5 ∧ n1.toInt ≤ 12 ∧ (i 165).toInt ≤ 9 ∧ 0 ≤ n1.toInt ∧ r.toInt = (i 165).toInt ∧ (u.1 165).toInt = (i 165).toInt + 1))) (oC D (va_A (xwT sk a t i q c d) sz) (fun u : MS => xwT sk a t u.1 u.2.1 u.2.2.1 u.2.2.2) (fun _ => [])) (va_A (xwT sk a t i q c d) sz)) 0 0 (va_A (xwT sk a t i q c d) sz) := by
  refine Met.ofW (cc := cX11_cast) (maxL := 3) (ret := (some .int)) (by decide +kernel) rfl ?_
  intro p e s m args below meth cd s₁ B hml hv
  obtain ⟨rfl, ⟨hsz, hP, hK, hD0⟩, hN, hZ, hBW⟩ := hv
  have hx := B.exec
  have hb := B.bytes
  have hr := B.returns
  have hts := atoms_spec (ws := wm_X11_cast_e) B.pre
  have hown : s.vm.findClass RX11 = some m.cls := findClass_of_methodNamed B.named
  have hlocks := B.notSynchronized
  subst hsz
  have hD := hD0.self (sz := s.heap.size)
  have hZ := xZ_A hZ hP hBW
  generalize hAe : va_A (xwT sk a t i q c d) s.heap.size = A at hD hZ ⊢
  have hA : ∀ q : Nat, s.heap.size ≤ q → A q := fun q h => by rw [← hAe]; exact Or.inr h
  have hS : va_S A s.heap s.heap [] := va_S.rf
  have hfi : ∀ k, k ∉ ([] : List Nat) → i k = i k := fun _ _ => rfl
  have hfc : ∀ k, k ∉ ([] : List Nat) → c k = c k := fun _ _ => rfl
  have hl := lv_entry ([.ref (a 100), .int s1, .int n1]) (n := 3) (Nat.le_of_ble_eq_true rfl)
  rw [lg_entry_eq]
  generalize (lg_sl ([.ref (a 100), .int s1, .int n1]) ++ List.replicate (3 - (lg_sl ([.ref (a 100), .int s1, .int n1])).length) Slot.unset).toArray = ls at hl ⊢
  have hl : lv_has ls 3 [(0, .ref (a 100)), (1, .int s1), (2, .int n1)] := hl
  have rb165_i : 0 ≤ (i 165).toInt ∧ (i 165).toInt ≤ 10 := hI.1 165
  refine lv_iload_n hx hb dX11_cast_0 rfl (lv_at hl 1 rfl) ?_
  refine lv_iconst (v := 1) hx hb dX11_cast_1 (by decide +kernel) ?_
  refine lv_icmp_lt (tgt := 16) hx hb dX11_cast_2 (by decide +kernel) (fun c1 => ?_) (fun c1 => ?_)
  · have f1 := (ti_lt (a := s1.toInt) (b := 1) rfl (by decide +kernel)).mp c1
    refine lv_iconst (v := (-1)) hx hb dX11_cast_16 (by decide +kernel) ?_
    exact rw_iret (i, q, c, d) hx hb hr hlocks hS (hK.sub (tys' := []) [] rfl) hP hD dX11_cast_17 ⟨trivial, hI, fr_w hfi (by decide +kernel), fr_w hfc (by decide +kernel), (show (¬ (1 ≤ s1.toInt ∧ s1.toInt ≤ 5 ∧ n1.toInt ≤ 12) ∧ ((-1) : Int32).toInt = -1 ∧ ((i 165) : Int32).toInt = (i 165).toInt) ∨ (1 ≤ s1.toInt ∧ s1.toInt ≤ 5 ∧ n1.toInt ≤ 12 ∧ 10 ≤ (i 165).toInt ∧ ((-1) : Int32).toInt = -2 ∧ ((i 165) : Int32).toInt = (i 165).toInt) ∨ (1 ≤ s1.toInt ∧ s1.toInt ≤ 5 ∧ n1.toInt ≤ 12 ∧ (i 165).toInt ≤ 9 ∧ n1.toInt < 0 ∧ ((-1) : Int32).toInt = -3 ∧ ((i 165) : Int32).toInt = (i 165).toInt) ∨ (1 ≤ s1.toInt ∧ s1.toInt ≤ 5 ∧ n1.toInt ≤ 12 ∧ (i 165).toInt ≤ 9 ∧ 0 ≤ n1.toInt ∧ ((-1) : Int32).toInt = (i 165).toInt ∧ ((i 165) : Int32).toInt = (i 165).toInt + 1) from by have h54 : ((-1) : Int32).toInt = -1 := (by decide +kernel); omega)⟩
  · have f1 := mt (ti_lt (a := s1.toInt) (b := 1) rfl (by decide +kernel)).mpr c1
    refine lv_iload_n hx hb dX11_cast_5 rfl (lv_at hl 1 rfl) ?_
    refine lv_iconst (v := 5) hx hb dX11_cast_6 (by decide +kernel) ?_
    refine lv_icmp_gt (tgt := 16) hx hb dX11_cast_7 (by decide +kernel) (fun c2 => ?_) (fun c2 => ?_)
    · have f2 := (ti_lt (a := 5) (b := s1.toInt) (by decide +kernel) rfl).mp c2
      refine lv_iconst (v := (-1)) hx hb dX11_cast_16 (by decide +kernel) ?_
      exact rw_iret (i, q, c, d) hx hb hr hlocks hS (hK.sub (tys' := []) [] rfl) hP hD dX11_cast_17 ⟨trivial, hI, fr_w hfi (by decide +kernel), fr_w hfc (by decide +kernel), (show (¬ (1 ≤ s1.toInt ∧ s1.toInt ≤ 5 ∧ n1.toInt ≤ 12) ∧ ((-1) : Int32).toInt = -1 ∧ ((i 165) : Int32).toInt = (i 165).toInt) ∨ (1 ≤ s1.toInt ∧ s1.toInt ≤ 5 ∧ n1.toInt ≤ 12 ∧ 10 ≤ (i 165).toInt ∧ ((-1) : Int32).toInt = -2 ∧ ((i 165) : Int32).toInt = (i 165).toInt) ∨ (1 ≤ s1.toInt ∧ s1.toInt ≤ 5 ∧ n1.toInt ≤ 12 ∧ (i 165).toInt ≤ 9 ∧ n1.toInt < 0 ∧ ((-1) : Int32).toInt = -3 ∧ ((i 165) : Int32).toInt = (i 165).toInt) ∨ (1 ≤ s1.toInt ∧ s1.toInt ≤ 5 ∧ n1.toInt ≤ 12 ∧ (i 165).toInt ≤ 9 ∧ 0 ≤ n1.toInt ∧ ((-1) : Int32).toInt = (i 165).toInt ∧ ((i 165) : Int32).toInt = (i 165).toInt + 1) from by have h54 : ((-1) : Int32).toInt = -1 := (by decide +kernel); omega)⟩
    · have f2 := mt (ti_lt (a := 5) (b := s1.toInt) (by decide +kernel) rfl).mpr c2
      refine lv_iload_n hx hb dX11_cast_10 rfl (lv_at hl 2 rfl) ?_
      refine lv_bipush (v := 12) hx hb dX11_cast_11 (by decide +kernel) ?_
      refine lv_icmp_le (tgt := 18) hx hb dX11_cast_13 (by decide +kernel) (fun c3 => ?_) (fun c3 => ?_)
      · have f3 := (ti_le (a := n1.toInt) (b := 12) rfl (by decide +kernel)).mp c3
        refine lv_aload_n hx hb dX11_cast_18 rfl (lv_at hl 0 rfl) ?_
        refine xgT_X_casts hx hb hts (fun _ h => List.mem_cons_of_mem _ (List.mem_append_left _ (List.mem_append_right _ h))) hown hK hP (hts (.fieldLink RX11 60 "TalePlay" "casts" "LTalePlay$Casts;") (List.mem_cons_of_mem _ (List.mem_append_left _ (List.mem_append_left _ (List.mem_append_left _ (List.mem_of_getElem? (i := 0) rfl)))))) dX11_cast_19 ?_
        refine xgT_C_made (v := (i 165)) rfl hx hb hts (fun _ h => List.mem_cons_of_mem _ (List.mem_append_right _ h)) hown hK hP (hts (.fieldLink RX11 334 "TalePlay$Casts" "made" "I") (List.mem_cons_of_mem _ (List.mem_append_left _ (List.mem_append_left _ (List.mem_append_left _ (List.mem_of_getElem? (i := 1) rfl)))))) dX11_cast_22 ?_
        refine lv_bipush (v := 10) hx hb dX11_cast_25 (by decide +kernel) ?_
        refine lv_icmp_lt (tgt := 33) hx hb dX11_cast_27 (by decide +kernel) (fun c4 => ?_) (fun c4 => ?_)
        · have f4 := (ti_lt (a := (i 165).toInt) (b := 10) rfl (by decide +kernel)).mp c4
          refine lv_iload_n hx hb dX11_cast_33 rfl (lv_at hl 2 rfl) ?_
          refine lv_if_ge (tgt := 43) hx hb dX11_cast_34 (by decide +kernel) (fun c5 => ?_) (fun c5 => ?_)
          · have f5 := (ti_le (a := 0) (b := n1.toInt) (by decide +kernel) rfl).mp c5
            refine lv_aload_n hx hb dX11_cast_43 rfl (lv_at hl 0 rfl) ?_
            refine xgT_X_casts hx hb hts (fun _ h => List.mem_cons_of_mem _ (List.mem_append_left _ (List.mem_append_right _ h))) hown hK hP (hts (.fieldLink RX11 60 "TalePlay" "casts" "LTalePlay$Casts;") (List.mem_cons_of_mem _ (List.mem_append_left _ (List.mem_append_left _ (List.mem_append_left _ (List.mem_of_getElem? (i := 0) rfl)))))) dX11_cast_44 ?_
            refine lv_iload_n hx hb dX11_cast_47 rfl (lv_at hl 1 rfl) ?_
            refine lv_iload_n hx hb dX11_cast_48 rfl (lv_at hl 2 rfl) ?_
            refine al_calli (va_runV (As := [.int s1, .int n1]) (rest := []) ⟨hx, hb, hml, hown, hts⟩ (x_X3_open_e l D s.heap.size sk a t i q c d s1 n1 hI (show 1 ≤ s1.toInt ∧ s1.toInt ≤ 5 from by omega) (show 0 ≤ n1.toInt ∧ n1.toInt ≤ 12 from by omega) (show ((i 165) : Int32).toInt ≤ 9 from by omega)) (cwV 2 hts gm_X11_cast_e_X3_open_e_337 rfl rfl rfl (by decide +kernel) ⟨Nat.le_of_ble_eq_true rfl, Nat.le_of_ble_eq_true rfl⟩) (yB_V hN (xZ_k hZ hS hA) (xZ_n hZ hD) hK hP hD (ci := 3) (q0 := 47) rfl rfl) rfl rfl hl.1 rfl (lv_room (Nat.le_of_ble_eq_true rfl)) dX11_cast_49 ⟨Nat.le_of_ble_eq_true rfl, Nat.le_of_ble_eq_true rfl⟩) hS hA hP hD (fun r6 u6 H locs hw6 hP hD hS => ?_)
            obtain ⟨i6, q6, c6, d6⟩ := u6
            have hw6 : (r6.toInt = (i 165).toInt) ∧ xInv i6 c6 ∧ (∀ k, k ∉ ([165] : List Nat) → i6 k = i k) ∧ (∀ k, k ∉ ([162, 163] : List Nat) → c6 k = c k) ∧ ((i6 165).toInt = (i 165).toInt + 1) := hw6
            obtain ⟨hw6, hI, hei6, hec6, hxp6_0⟩ := hw6
            have hxp6_0 : (i6 165).toInt = (i 165).toInt + 1 := hxp6_0
            have hfi : ∀ k, k ∉ ([165] : List Nat) → i6 k = i k := fr_z hfi hei6 (by decide +kernel) (by decide +kernel)
            have hfc : ∀ k, k ∉ ([162, 163] : List Nat) → c6 k = c k := fr_z hfc hec6 (by decide +kernel) (by decide +kernel)
            exact rw_iret (i6, q6, c6, d6) hx hb hr hlocks hS (hK.sub (tys' := []) [] rfl) hP hD dX11_cast_52 ⟨trivial, hI, fr_w hfi (by decide +kernel), fr_w hfc (by decide +kernel), (show (¬ (1 ≤ s1.toInt ∧ s1.toInt ≤ 5 ∧ n1.toInt ≤ 12) ∧ (r6 : Int32).toInt = -1 ∧ ((i6 165) : Int32).toInt = (i 165).toInt) ∨ (1 ≤ s1.toInt ∧ s1.toInt ≤ 5 ∧ n1.toInt ≤ 12 ∧ 10 ≤ (i 165).toInt ∧ (r6 : Int32).toInt = -2 ∧ ((i6 165) : Int32).toInt = (i 165).toInt) ∨ (1 ≤ s1.toInt ∧ s1.toInt ≤ 5 ∧ n1.toInt ≤ 12 ∧ (i 165).toInt ≤ 9 ∧ n1.toInt < 0 ∧ (r6 : Int32).toInt = -3 ∧ ((i6 165) : Int32).toInt = (i 165).toInt) ∨ (1 ≤ s1.toInt ∧ s1.toInt ≤ 5 ∧ n1.toInt ≤ 12 ∧ (i 165).toInt ≤ 9 ∧ 0 ≤ n1.toInt ∧ (r6 : Int32).toInt = (i 165).toInt ∧ ((i6 165) : Int32).toInt = (i 165).toInt + 1) from by omega)⟩
          · have f5 := mt (ti_le (a := 0) (b := n1.toInt) (by decide +kernel) rfl).mpr c5
            refine lv_aload_n hx hb dX11_cast_37 rfl (lv_at hl 0 rfl) ?_
            refine lv_iconst (v := 5) hx hb dX11_cast_38 (by decide +kernel) ?_
            refine al_calli (va_runV (As := [.int 5]) (rest := []) ⟨hx, hb, hml, hown, hts⟩ (x_X11_answerFinding l D s.heap.size sk a t i q c d 5 hI (show 1 ≤ 5 ∧ 5 ≤ 6 from by have h90 : (5 : Int32).toInt = 5 := (by decide +kernel); omega)) (cwV 1 hts gm_X11_cast_e_X11_answerFinding_128 rfl rfl rfl (by decide +kernel) ⟨Nat.le_of_ble_eq_true rfl, Nat.le_of_ble_eq_true rfl⟩) (yB_V hN (xZ_k hZ hS hA) (xZ_n hZ hD) hK hP hD (ci := 11) (q0 := 0) rfl rfl) rfl rfl hl.1 rfl (lv_room (Nat.le_of_ble_eq_true rfl)) dX11_cast_39 ⟨Nat.le_of_ble_eq_true rfl, Nat.le_of_ble_eq_true rfl⟩) hS hA hP hD (fun r7 u7 H locs hw7 hP hD hS => ?_)
            obtain ⟨i7, q7, c7, d7⟩ := u7
            have hw7 : r7 = (-3) ∧ xInv i7 c7 ∧ (∀ k, k ∉ ([102] : List Nat) → i7 k = i k) ∧ (∀ k, k ∉ ([101] : List Nat) → c7 k = c k) := hw7
            obtain ⟨hw7, hI, hei7, hec7⟩ := hw7
            have hfi : ∀ k, k ∉ ([102] : List Nat) → i7 k = i k := fr_z hfi hei7 (by decide +kernel) (by decide +kernel)
            have hfc : ∀ k, k ∉ ([101] : List Nat) → c7 k = c k := fr_z hfc hec7 (by decide +kernel) (by decide +kernel)
            have hw7 : r7 = (-3) := hw7
            subst hw7
            have hmd9 : (i7 165).toInt = (i 165).toInt := by rw [show i7 165 = i 165 from hfi 165 (by decide +kernel)]
            exact rw_iret (i7, q7, c7, d7) hx hb hr hlocks hS (hK.sub (tys' := []) [] rfl) hP hD dX11_cast_42 ⟨trivial, hI, fr_w hfi (by decide +kernel), fr_w hfc (by decide +kernel), (show (¬ (1 ≤ s1.toInt ∧ s1.toInt ≤ 5 ∧ n1.toInt ≤ 12) ∧ ((-3) : Int32).toInt = -1 ∧ ((i7 165) : Int32).toInt = (i 165).toInt) ∨ (1 ≤ s1.toInt ∧ s1.toInt ≤ 5 ∧ n1.toInt ≤ 12 ∧ 10 ≤ (i 165).toInt ∧ ((-3) : Int32).toInt = -2 ∧ ((i7 165) : Int32).toInt = (i 165).toInt) ∨ (1 ≤ s1.toInt ∧ s1.toInt ≤ 5 ∧ n1.toInt ≤ 12 ∧ (i 165).toInt ≤ 9 ∧ n1.toInt < 0 ∧ ((-3) : Int32).toInt = -3 ∧ ((i7 165) : Int32).toInt = (i 165).toInt) ∨ (1 ≤ s1.toInt ∧ s1.toInt ≤ 5 ∧ n1.toInt ≤ 12 ∧ (i 165).toInt ≤ 9 ∧ 0 ≤ n1.toInt ∧ ((-3) : Int32).toInt = (i 165).toInt ∧ ((i7 165) : Int32).toInt = (i 165).toInt + 1) from by have h54 : ((-3) : Int32).toInt = -3 := (by decide +kernel); omega)⟩
        · have f4 := mt (ti_lt (a := (i 165).toInt) (b := 10) rfl (by decide +kernel)).mpr c4
          refine lv_bipush (v := (-2)) hx hb dX11_cast_30 (by decide +kernel) ?_
          exact rw_iret (i, q, c, d) hx hb hr hlocks hS (hK.sub (tys' := []) [] rfl) hP hD dX11_cast_32 ⟨trivial, hI, fr_w hfi (by decide +kernel), fr_w hfc (by decide +kernel), (show (¬ (1 ≤ s1.toInt ∧ s1.toInt ≤ 5 ∧ n1.toInt ≤ 12) ∧ ((-2) : Int32).toInt = -1 ∧ ((i 165) : Int32).toInt = (i 165).toInt) ∨ (1 ≤ s1.toInt ∧ s1.toInt ≤ 5 ∧ n1.toInt ≤ 12 ∧ 10 ≤ (i 165).toInt ∧ ((-2) : Int32).toInt = -2 ∧ ((i 165) : Int32).toInt = (i 165).toInt) ∨ (1 ≤ s1.toInt ∧ s1.toInt ≤ 5 ∧ n1.toInt ≤ 12 ∧ (i 165).toInt ≤ 9 ∧ n1.toInt < 0 ∧ ((-2) : Int32).toInt = -3 ∧ ((i 165) : Int32).toInt = (i 165).toInt) ∨ (1 ≤ s1.toInt ∧ s1.toInt ≤ 5 ∧ n1.toInt ≤ 12 ∧ (i 165).toInt ≤ 9 ∧ 0 ≤ n1.toInt ∧ ((-2) : Int32).toInt = (i 165).toInt ∧ ((i 165) : Int32).toInt = (i 165).toInt + 1) from by have h54 : ((-2) : Int32).toInt = -2 := (by decide +kernel); omega)⟩
      · have f3 := mt (ti_le (a := n1.toInt) (b := 12) rfl (by decide +kernel)).mpr c3
        refine lv_iconst (v := (-1)) hx hb dX11_cast_16 (by decide +kernel) ?_
        exact rw_iret (i, q, c, d) hx hb hr hlocks hS (hK.sub (tys' := []) [] rfl) hP hD dX11_cast_17 ⟨trivial, hI, fr_w hfi (by decide +kernel), fr_w hfc (by decide +kernel), (show (¬ (1 ≤ s1.toInt ∧ s1.toInt ≤ 5 ∧ n1.toInt ≤ 12) ∧ ((-1) : Int32).toInt = -1 ∧ ((i 165) : Int32).toInt = (i 165).toInt) ∨ (1 ≤ s1.toInt ∧ s1.toInt ≤ 5 ∧ n1.toInt ≤ 12 ∧ 10 ≤ (i 165).toInt ∧ ((-1) : Int32).toInt = -2 ∧ ((i 165) : Int32).toInt = (i 165).toInt) ∨ (1 ≤ s1.toInt ∧ s1.toInt ≤ 5 ∧ n1.toInt ≤ 12 ∧ (i 165).toInt ≤ 9 ∧ n1.toInt < 0 ∧ ((-1) : Int32).toInt = -3 ∧ ((i 165) : Int32).toInt = (i 165).toInt) ∨ (1 ≤ s1.toInt ∧ s1.toInt ≤ 5 ∧ n1.toInt ≤ 12 ∧ (i 165).toInt ≤ 9 ∧ 0 ≤ n1.toInt ∧ ((-1) : Int32).toInt = (i 165).toInt ∧ ((i 165) : Int32).toInt = (i 165).toInt + 1) from by have h54 : ((-1) : Int32).toInt = -1 := (by decide +kernel); omega)⟩

