def wm_X10_addKind_e : List Cond := .code yX10_addKind cX10_addKind 2 (some .int) :: (([.fieldLink RX10 9 "TalePlay$World" "parents" "[I", .fieldLink RX10 33 "TalePlay$World" "kinds" "I", .fieldLink RX10 15 "TalePlay$World" "sorts" "[I"] : List Cond) ++ wsX100)
set_option maxHeartbeats 4000000 in
set_option maxRecDepth 100000 in
theorem x_X10_addKind_e (l : Launch) (D : va_G) (sz : Nat) (sk : Value) (a : Nat → Nat) (t : Nat → ClassId) (i : Nat → Int32) (q : Int64) (c : Nat → Nat → Int32) (d : Nat → Nat → Int64) (k1 : Int32) (hI : xInv i c) (hk1 : 0 ≤ k1.toInt ∧ k1.toInt ≤ 23) (hkn : (i 110).toInt ≤ 23) : Met l yX10_addKind wm_X10_addKind_e ({ frames := 0, cells := 0, slots := 0, locals := 0 }) (va_Pc [.ref (a 104), .int k1] (yB (a 186) D sz (xwT sk a t i q c d) (xtT t))) (va_Qi (fun (r : Int32) (u : MS) => (r.toInt = (i 110).toInt) ∧ xInv u.1 u.2.2.1 ∧ (∀ k, k ∉ ([110] : List Nat) → u.1 k = i k) ∧ (∀ k, k ∉ ([105, 106] : List Nat) → u.2.2.1 k = c k) ∧ ((u.1 110).toInt = (i 110).toInt + 1)) (oC D (va_A (xwT sk a t i q c d) sz) (fun u : MS => xwT sk a t u.1 u.2.1 u.2.2.1 u.2.2.2) (fun _ => [])) (va_A (xwT sk a t i q c d) sz)) 0 0 (va_A (xwT sk a t i q c d) sz) := by
  refine Met.ofW (cc := cX10_addKind) (maxL := 2) (ret := (some .int)) (by decide) rfl ?_
  intro p e s m args below meth cd s₁ B hml hv
  obtain ⟨rfl, ⟨hsz, hP, hK, hD0⟩, hN, hZ, hBW⟩ := hv
  have hx := B.exec
  have hb := B.bytes
  have hr := B.returns
  have hts := atoms_spec (ws := wm_X10_addKind_e) B.pre
  have hown : s.vm.findClass RX10 = some m.cls := findClass_of_methodNamed B.named
  have hlocks := B.notSynchronized
  subst hsz
  have hD := hD0.self (sz := s.heap.size)
  have hZ := xZ_A hZ hP hBW
  generalize hAe : va_A (xwT sk a t i q c d) s.heap.size = A at hD hZ ⊢
  have hA : ∀ q : Nat, s.heap.size ≤ q → A q := fun q h => by rw [← hAe]; exact Or.inr h
  have hS : va_S A s.heap s.heap [] := va_S.rf
  have hfi : ∀ k, k ∉ ([] : List Nat) → i k = i k := fun _ _ => rfl
  have hfc : ∀ k, k ∉ ([] : List Nat) → c k = c k := fun _ _ => rfl
  have hl := lv_entry ([.ref (a 104), .int k1]) (n := 2) (Nat.le_of_ble_eq_true rfl)
  rw [lg_entry_eq]
  generalize (lg_sl ([.ref (a 104), .int k1]) ++ List.replicate (2 - (lg_sl ([.ref (a 104), .int k1])).length) Slot.unset).toArray = ls at hl ⊢
  have hl : lv_has ls 2 [(0, .ref (a 104)), (1, .int k1)] := hl
  refine lv_aload_n hx hb dX10_addKind_0 rfl (lv_at hl 0 rfl) ?_
  refine xgT_W_parents hx hb hts (fun _ h => List.mem_cons_of_mem _ (List.mem_append_right _ h)) hown hK hP (hts (.fieldLink RX10 9 "TalePlay$World" "parents" "[I") (by decide +kernel)) dX10_addKind_1 ?_
  refine lv_aload_n hx hb dX10_addKind_4 rfl (lv_at hl 0 rfl) ?_
  refine xgT_W_kinds (v := (i 110)) rfl hx hb hts (fun _ h => List.mem_cons_of_mem _ (List.mem_append_right _ h)) hown hK hP (hts (.fieldLink RX10 33 "TalePlay$World" "kinds" "I") (by decide +kernel)) dX10_addKind_5 ?_
  have rb110_i : 6 ≤ (i 110).toInt ∧ (i 110).toInt ≤ 24 := hI.1 110
  refine lv_iload_n hx hb dX10_addKind_8 rfl (lv_at hl 1 rfl) ?_
  refine xsT_105 hx hb hK hP hD hS (vp_in_iff.mpr (by have h9 : (i 110).toInt = (i 110).toInt := rfl; omega)) dX10_addKind_9 (fun H locs hP hD hS => ?_)
  have hI := xInv_c hI (k := 105) (j := ((i 110) : Int32).toNatClampNeg) (x := k1) (show (k1 : Int32).toInt = -9 ∨ (0 ≤ (k1 : Int32).toInt ∧ (k1 : Int32).toInt ≤ 23) from by omega)
  have hfc : ∀ k, k ∉ ([105] : List Nat) → (updA c 105 ((i 110) : Int32).toNatClampNeg k1) k = c k := fr_cz hfc (by decide) (by decide)
  refine lv_aload_n hx hb dX10_addKind_10 rfl (lv_at hl 0 rfl) ?_
  refine xgT_W_sorts hx hb hts (fun _ h => List.mem_cons_of_mem _ (List.mem_append_right _ h)) hown hK hP (hts (.fieldLink RX10 15 "TalePlay$World" "sorts" "[I") (by decide +kernel)) dX10_addKind_11 ?_
  refine lv_aload_n hx hb dX10_addKind_14 rfl (lv_at hl 0 rfl) ?_
  refine xgT_W_kinds (v := (i 110)) rfl hx hb hts (fun _ h => List.mem_cons_of_mem _ (List.mem_append_right _ h)) hown hK hP (hts (.fieldLink RX10 33 "TalePlay$World" "kinds" "I") (by decide +kernel)) dX10_addKind_15 ?_
  refine lv_aload_n hx hb dX10_addKind_18 rfl (lv_at hl 0 rfl) ?_
  refine xgT_W_sorts hx hb hts (fun _ h => List.mem_cons_of_mem _ (List.mem_append_right _ h)) hown hK hP (hts (.fieldLink RX10 15 "TalePlay$World" "sorts" "[I") (by decide +kernel)) dX10_addKind_19 ?_
  refine lv_iload_n hx hb dX10_addKind_22 rfl (lv_at hl 1 rfl) ?_
  refine xlT_106 hx hb hK hP (vp_in_iff.mpr (by have h9 : k1.toInt = k1.toInt := rfl; omega)) dX10_addKind_23 (fun x1 ex1 => ?_)
  have rx1 : 0 ≤ x1.toInt ∧ x1.toInt ≤ 5 := by rw [ex1]; exact hI.2 106 _
  refine xsT_106 hx hb hK hP hD hS (vp_in_iff.mpr (by have h9 : (i 110).toInt = (i 110).toInt := rfl; omega)) dX10_addKind_24 (fun H locs hP hD hS => ?_)
  have hI := xInv_c hI (k := 106) (j := ((i 110) : Int32).toNatClampNeg) (x := x1) (show 0 ≤ (x1 : Int32).toInt ∧ (x1 : Int32).toInt ≤ 5 from by omega)
  have hfc : ∀ k, k ∉ ([105, 106] : List Nat) → (updA (updA c 105 ((i 110) : Int32).toNatClampNeg k1) 106 ((i 110) : Int32).toNatClampNeg x1) k = c k := fr_cz hfc (by decide) (by decide)
  refine lv_aload_n hx hb dX10_addKind_25 rfl (lv_at hl 0 rfl) ?_
  refine lv_dup hx hb dX10_addKind_26 rfl ?_
  refine xgT_W_kinds (v := (i 110)) rfl hx hb hts (fun _ h => List.mem_cons_of_mem _ (List.mem_append_right _ h)) hown hK hP (hts (.fieldLink RX10 33 "TalePlay$World" "kinds" "I") (by decide +kernel)) dX10_addKind_27 ?_
  refine lv_dup_x1 hx hb dX10_addKind_30 rfl rfl ?_
  refine lv_iconst (v := 1) hx hb dX10_addKind_31 (by decide) ?_
  refine lv_iadd hx hb dX10_addKind_32 ?_
  refine lv_topi (fun x2 ex2 => ?_)
  have tx2 := ti_add (a := (i 110).toInt) (b := 1) ex2 rfl (by decide) (by omega) (by omega)
  refine xpT_W_kinds hx hb hts (fun _ h => List.mem_cons_of_mem _ (List.mem_append_right _ h)) hown hK hP hD hS (hts (.fieldLink RX10 33 "TalePlay$World" "kinds" "I") (by decide +kernel)) rfl rfl dX10_addKind_33 (fun H locs hP hD hS => ?_)
  have hI := xInv_i hI (k := 110) (v := x2) (show 6 ≤ (x2 : Int32).toInt ∧ (x2 : Int32).toInt ≤ 24 from by have h9 : x2.toInt = ((i 110).toInt + 1) := tx2; omega)
  have hfi : ∀ k, k ∉ ([110] : List Nat) → (upd i 110 x2) k = i k := fr_iz hfi (by decide) (by decide)
  exact rw_iret ((upd i 110 x2), q, (updA (updA c 105 ((i 110) : Int32).toNatClampNeg k1) 106 ((i 110) : Int32).toNatClampNeg x1), d) hx hb hr hlocks hS (hK.sub (tys' := []) [] rfl) hP hD dX10_addKind_36 ⟨(show (i 110).toInt = (i 110).toInt from by omega), hI, fr_w hfi (by decide), fr_w hfc (by decide), (show (x2 : Int32).toInt = (i 110).toInt + 1 from by have h50 : x2.toInt = ((i 110).toInt + 1) := tx2; omega)⟩

def wm_X11_kind_e : List Cond := .code yX11_kind cX11_kind 2 (some .int) :: (([.fieldLink RX11 10 "TalePlay" "world" "LTalePlay$World;", .methodLink RX11 80 yX10_hasKind, .instanceMethod yX10_hasKind, .selects RX10 yX10_hasKind yX10_hasKind, .initialized RX10, .code yX10_hasKind cX10_hasKind 2 (some .boolean), .fieldLink RX10 33 "TalePlay$World" "kinds" "I", .fieldLink RX11 84 "TalePlay$World" "kinds" "I", .methodLink RX11 87 yX10_addKind, .instanceMethod yX10_addKind, .selects RX10 yX10_addKind yX10_addKind, .code yX10_addKind cX10_addKind 2 (some .int), .fieldLink RX10 9 "TalePlay$World" "parents" "[I", .fieldLink RX10 15 "TalePlay$World" "sorts" "[I"] : List Cond) ++ wsX110 ++ wsX100)
set_option maxRecDepth 20000 in
theorem gm_X11_kind_e_X10_hasKind_80 : GoodIn wm_X11_kind_e (wsV RX11 80 RX10 yX10_hasKind wm_X10_hasKind) := goodIn_app (goodIn_of _ (by decide +kernel)) (goodIn_r _ [6, 7, 26, 27, 28, 29, 30, 31, 32] rfl (by decide +kernel))
set_option maxRecDepth 20000 in
theorem gm_X11_kind_e_X10_addKind_e_87 : GoodIn wm_X11_kind_e (wsV RX11 87 RX10 yX10_addKind wm_X10_addKind_e) := goodIn_app (goodIn_of _ (by decide +kernel)) (goodIn_r _ [12, 13, 7, 14, 26, 27, 28, 29, 30, 31, 32] rfl (by decide +kernel))
set_option maxHeartbeats 4000000 in
set_option maxRecDepth 100000 in
theorem x_X11_kind_e (l : Launch) (D : va_G) (sz : Nat) (sk : Value) (a : Nat → Nat) (t : Nat → ClassId) (i : Nat → Int32) (q : Int64) (c : Nat → Nat → Int32) (d : Nat → Nat → Int64) (k1 : Int32) (hI : xInv i c) : Met l yX11_kind wm_X11_kind_e ({ frames := 1, cells := 0, slots := 0, locals := 21 }) (va_Pc [.ref (a 100), .int k1] (yB (a 186) D sz (xwT sk a t i q c d) (xtT t))) (va_Qi (fun (r : Int32) (u : MS) => True ∧ xInv u.1 u.2.2.1 ∧ (∀ k, k ∉ ([110] : List Nat) → u.1 k = i k) ∧ (∀ k, k ∉ ([105, 106] : List Nat) → u.2.2.1 k = c k) ∧ ((¬ (0 ≤ k1.toInt ∧ k1.toInt < (i 110).toInt) ∧ r.toInt = -1 ∧ (u.1 110).toInt = (i 110).toInt) ∨ (0 ≤ k1.toInt ∧ k1.toInt < (i 110).toInt ∧ 24 ≤ (i 110).toInt ∧ r.toInt = -2 ∧ (u.1 110).toInt = (i 110).toInt) ∨ (0 ≤ k1.toInt ∧ k1.toInt < (i 110).toInt ∧ (i 110).toInt ≤ 23 ∧ r.toInt = (i 110).toInt ∧ (u.1 110).toInt = (i 110).toInt + 1))) (oC D (va_A (xwT sk a t i q c d) sz) (fun u : MS => xwT sk a t u.1 u.2.1 u.2.2.1 u.2.2.2) (fun _ => [])) (va_A (xwT sk a t i q c d) sz)) 0 0 (va_A (xwT sk a t i q c d) sz) := by
  refine Met.ofW (cc := cX11_kind) (maxL := 2) (ret := (some .int)) (by decide) rfl ?_
  intro p e s m args below meth cd s₁ B hml hv
  obtain ⟨rfl, ⟨hsz, hP, hK, hD0⟩, hN, hZ, hBW⟩ := hv
  have hx := B.exec
  have hb := B.bytes
  have hr := B.returns
  have hts := atoms_spec (ws := wm_X11_kind_e) B.pre
  have hown : s.vm.findClass RX11 = some m.cls := findClass_of_methodNamed B.named
  have hlocks := B.notSynchronized
  subst hsz
  have hD := hD0.self (sz := s.heap.size)
  have hZ := xZ_A hZ hP hBW
  generalize hAe : va_A (xwT sk a t i q c d) s.heap.size = A at hD hZ ⊢
  have hA : ∀ q : Nat, s.heap.size ≤ q → A q := fun q h => by rw [← hAe]; exact Or.inr h
  have hS : va_S A s.heap s.heap [] := va_S.rf
  have hfi : ∀ k, k ∉ ([] : List Nat) → i k = i k := fun _ _ => rfl
  have hfc : ∀ k, k ∉ ([] : List Nat) → c k = c k := fun _ _ => rfl
  have hl := lv_entry ([.ref (a 100), .int k1]) (n := 2) (Nat.le_of_ble_eq_true rfl)
  rw [lg_entry_eq]
  generalize (lg_sl ([.ref (a 100), .int k1]) ++ List.replicate (2 - (lg_sl ([.ref (a 100), .int k1])).length) Slot.unset).toArray = ls at hl ⊢
  have hl : lv_has ls 2 [(0, .ref (a 100)), (1, .int k1)] := hl
  have rb110_i : 6 ≤ (i 110).toInt ∧ (i 110).toInt ≤ 24 := hI.1 110
  refine lv_aload_n hx hb dX11_kind_0 rfl (lv_at hl 0 rfl) ?_
  refine xgT_X_world hx hb hts (fun _ h => List.mem_cons_of_mem _ (List.mem_append_left _ (List.mem_append_right _ h))) hown hK hP (hts (.fieldLink RX11 10 "TalePlay" "world" "LTalePlay$World;") (by decide +kernel)) dX11_kind_1 ?_
  refine lv_iload_n hx hb dX11_kind_4 rfl (lv_at hl 1 rfl) ?_
  refine ro_calli (va_runV (As := [.int k1]) (rest := []) ⟨hx, hb, hml, hown, hts⟩ (x_X10_hasKind l D s.heap.size .null a t i q c d k1 hI ) (cwV 1 hts gm_X11_kind_e_X10_hasKind_80 rfl rfl rfl (by decide +kernel) ⟨Nat.le_of_ble_eq_true rfl, Nat.le_of_ble_eq_true rfl⟩) (yA_V hN (xZ_k hZ hS hA) (xkT_W hK) (xuT_W (sk := sk) hP) (ci := 10) (q0 := 0) rfl rfl) rfl rfl hl.1 rfl (lv_room (Nat.le_of_ble_eq_true rfl)) dX11_kind_5 ⟨Nat.le_of_ble_eq_true rfl, Nat.le_of_ble_eq_true rfl⟩) hS hA hP (fun r1 u1 H locs hw1 hP hS => ?_)
  have hw1 : r1 = if (0 ≤ k1.toInt ∧ k1.toInt < (i 110).toInt) then 1 else 0 := hw1
  refine lv_if_ne (tgt := 13) hx hb dX11_kind_8 (by decide) (fun c2 => ?_) (fun c2 => ?_)
  · have f2 := fl_t hw1 c2
    refine lv_aload_n hx hb dX11_kind_13 rfl (lv_at hl 0 rfl) ?_
    refine xgT_X_world hx hb hts (fun _ h => List.mem_cons_of_mem _ (List.mem_append_left _ (List.mem_append_right _ h))) hown hK hP (hts (.fieldLink RX11 10 "TalePlay" "world" "LTalePlay$World;") (by decide +kernel)) dX11_kind_14 ?_
    refine xgT_W_kinds (v := (i 110)) rfl hx hb hts (fun _ h => List.mem_cons_of_mem _ (List.mem_append_right _ h)) hown hK hP (hts (.fieldLink RX11 84 "TalePlay$World" "kinds" "I") (by decide +kernel)) dX11_kind_17 ?_
    refine lv_bipush (v := 24) hx hb dX11_kind_20 (by decide) ?_
    refine lv_icmp_lt (tgt := 28) hx hb dX11_kind_22 (by decide) (fun c3 => ?_) (fun c3 => ?_)
    · have f3 := (ti_lt (a := (i 110).toInt) (b := 24) rfl (by decide)).mp c3
      refine lv_aload_n hx hb dX11_kind_28 rfl (lv_at hl 0 rfl) ?_
      refine xgT_X_world hx hb hts (fun _ h => List.mem_cons_of_mem _ (List.mem_append_left _ (List.mem_append_right _ h))) hown hK hP (hts (.fieldLink RX11 10 "TalePlay" "world" "LTalePlay$World;") (by decide +kernel)) dX11_kind_29 ?_
      refine lv_iload_n hx hb dX11_kind_32 rfl (lv_at hl 1 rfl) ?_
      refine al_calli (va_runV (As := [.int k1]) (rest := []) ⟨hx, hb, hml, hown, hts⟩ (x_X10_addKind_e l D H.size sk a t i q c d k1 hI (show 0 ≤ k1.toInt ∧ k1.toInt ≤ 23 from by omega) (show ((i 110) : Int32).toInt ≤ 23 from by omega)) (cwV 1 hts gm_X11_kind_e_X10_addKind_e_87 rfl rfl rfl (by decide +kernel) ⟨Nat.le_of_ble_eq_true rfl, Nat.le_of_ble_eq_true rfl⟩) (yB_V hN (xZ_k hZ hS hA) (xZ_n hZ hD) hK hP hD (ci := 10) (q0 := 2) rfl rfl) rfl rfl hl.1 rfl (lv_room (Nat.le_of_ble_eq_true rfl)) dX11_kind_33 ⟨Nat.le_of_ble_eq_true rfl, Nat.le_of_ble_eq_true rfl⟩) hS hA hP hD (fun r4 u4 H locs hw4 hP hD hS => ?_)
      obtain ⟨i4, q4, c4, d4⟩ := u4
      have hw4 : (r4.toInt = (i 110).toInt) ∧ xInv i4 c4 ∧ (∀ k, k ∉ ([110] : List Nat) → i4 k = i k) ∧ (∀ k, k ∉ ([105, 106] : List Nat) → c4 k = c k) ∧ ((i4 110).toInt = (i 110).toInt + 1) := hw4
      obtain ⟨hw4, hI, hei4, hec4, hxp4_0⟩ := hw4
      have hxp4_0 : (i4 110).toInt = (i 110).toInt + 1 := hxp4_0
      have hfi : ∀ k, k ∉ ([110] : List Nat) → i4 k = i k := fr_z hfi hei4 (by decide) (by decide)
      have hfc : ∀ k, k ∉ ([105, 106] : List Nat) → c4 k = c k := fr_z hfc hec4 (by decide) (by decide)
      exact rw_iret (i4, q4, c4, d4) hx hb hr hlocks hS (hK.sub (tys' := []) [] rfl) hP hD dX11_kind_36 ⟨trivial, hI, fr_w hfi (by decide), fr_w hfc (by decide), (show (¬ (0 ≤ k1.toInt ∧ k1.toInt < (i 110).toInt) ∧ (r4 : Int32).toInt = -1 ∧ ((i4 110) : Int32).toInt = (i 110).toInt) ∨ (0 ≤ k1.toInt ∧ k1.toInt < (i 110).toInt ∧ 24 ≤ (i 110).toInt ∧ (r4 : Int32).toInt = -2 ∧ ((i4 110) : Int32).toInt = (i 110).toInt) ∨ (0 ≤ k1.toInt ∧ k1.toInt < (i 110).toInt ∧ (i 110).toInt ≤ 23 ∧ (r4 : Int32).toInt = (i 110).toInt ∧ ((i4 110) : Int32).toInt = (i 110).toInt + 1) from by omega)⟩
    · have f3 := mt (ti_lt (a := (i 110).toInt) (b := 24) rfl (by decide)).mpr c3
      refine lv_bipush (v := (-2)) hx hb dX11_kind_25 (by decide) ?_
      exact rw_iret (i, q, c, d) hx hb hr hlocks hS (hK.sub (tys' := []) [] rfl) hP hD dX11_kind_27 ⟨trivial, hI, fr_w hfi (by decide), fr_w hfc (by decide), (show (¬ (0 ≤ k1.toInt ∧ k1.toInt < (i 110).toInt) ∧ ((-2) : Int32).toInt = -1 ∧ ((i 110) : Int32).toInt = (i 110).toInt) ∨ (0 ≤ k1.toInt ∧ k1.toInt < (i 110).toInt ∧ 24 ≤ (i 110).toInt ∧ ((-2) : Int32).toInt = -2 ∧ ((i 110) : Int32).toInt = (i 110).toInt) ∨ (0 ≤ k1.toInt ∧ k1.toInt < (i 110).toInt ∧ (i 110).toInt ≤ 23 ∧ ((-2) : Int32).toInt = (i 110).toInt ∧ ((i 110) : Int32).toInt = (i 110).toInt + 1) from by have h53 : ((-2) : Int32).toInt = -2 := (by decide); omega)⟩
  · have f2 := fl_f hw1 c2
    refine lv_iconst (v := (-1)) hx hb dX11_kind_11 (by decide) ?_
    exact rw_iret (i, q, c, d) hx hb hr hlocks hS (hK.sub (tys' := []) [] rfl) hP hD dX11_kind_12 ⟨trivial, hI, fr_w hfi (by decide), fr_w hfc (by decide), (show (¬ (0 ≤ k1.toInt ∧ k1.toInt < (i 110).toInt) ∧ ((-1) : Int32).toInt = -1 ∧ ((i 110) : Int32).toInt = (i 110).toInt) ∨ (0 ≤ k1.toInt ∧ k1.toInt < (i 110).toInt ∧ 24 ≤ (i 110).toInt ∧ ((-1) : Int32).toInt = -2 ∧ ((i 110) : Int32).toInt = (i 110).toInt) ∨ (0 ≤ k1.toInt ∧ k1.toInt < (i 110).toInt ∧ (i 110).toInt ≤ 23 ∧ ((-1) : Int32).toInt = (i 110).toInt ∧ ((i 110) : Int32).toInt = (i 110).toInt + 1) from by have h53 : ((-1) : Int32).toInt = -1 := (by decide); omega)⟩

set_option maxHeartbeats 4000000 in
set_option maxRecDepth 100000 in
theorem s_X12_kind_e (l : Launch) (D : va_G) (sz : Nat) (o : Nat) (a : Nat → Nat) (t : Nat → ClassId) (i : Nat → Int32) (q : Int64) (c : Nat → Nat → Int32) (d : Nat → Nat → Int64) (p1 : Int32) (hI : mInv i c) (hs_S : SJ (c 3) (c 6) (c 9) (c 10) (c 11) (c 13) (i 2).toInt (i 5).toInt (i 8).toInt) (hs_J : TJ (c 3) (c 6) (c 23) (c 24) (c 29) (c 30) (i 5).toInt (i 22).toInt (i 27).toInt) : Met l yX12_kind wm_X12_kind ({ frames := 1, cells := 0, slots := 0, locals := 25 }) (va_Pc [.ref o, .int p1] (pB D sz (mW o a t i q c d) (mT t))) (va_Qi (fun (r : Int32) (u : MS) => True ∧ mInv u.1 u.2.2.1 ∧ (∀ k, k ∉ ([2] : List Nat) → u.1 k = i k) ∧ (∀ k, k ∉ ([3] : List Nat) → u.2.2.1 k = c k) ∧ (SJ (u.2.2.1 3) (u.2.2.1 6) (u.2.2.1 9) (u.2.2.1 10) (u.2.2.1 11) (u.2.2.1 13) (u.1 2).toInt (u.1 5).toInt (u.1 8).toInt) ∧ (TJ (u.2.2.1 3) (u.2.2.1 6) (u.2.2.1 23) (u.2.2.1 24) (u.2.2.1 29) (u.2.2.1 30) (u.1 5).toInt (u.1 22).toInt (u.1 27).toInt) ∧ ((¬ (0 ≤ p1.toInt ∧ p1.toInt < (i 2).toInt) ∧ r.toInt = -1 ∧ (u.1 2).toInt = (i 2).toInt) ∨ (0 ≤ p1.toInt ∧ p1.toInt < (i 2).toInt ∧ 24 ≤ (i 2).toInt ∧ r.toInt = -2 ∧ (u.1 2).toInt = (i 2).toInt) ∨ (0 ≤ p1.toInt ∧ p1.toInt < (i 2).toInt ∧ (i 2).toInt ≤ 23 ∧ r.toInt = (i 2).toInt ∧ (u.1 2).toInt = (i 2).toInt + 1))) (oC D (va_A (mW o a t i q c d) sz) (fun u : MS => mW o a t u.1 u.2.1 u.2.2.1 u.2.2.2) (fun _ => [])) (va_A (mW o a t i q c d) sz)) 0 0 (va_A (mW o a t i q c d) sz) := by
  refine Met.ofW (cc := cX12_kind) (maxL := 2) (ret := (some .int)) (by decide) rfl ?_
  intro p e s m args below meth cd s₁ B hml hv
  obtain ⟨rfl, hsz, hP, hK, hD0⟩ := hv
  have hx := B.exec
  have hb := B.bytes
  have hr := B.returns
  have hts := atoms_spec (ws := wm_X12_kind) B.pre
  have hown : s.vm.findClass RX12 = some m.cls := findClass_of_methodNamed B.named
  have hlocks := B.notSynchronized
  subst hsz
  have hD := hD0.self (sz := s.heap.size)
  generalize hAe : va_A (mW o a t i q c d) s.heap.size = A at hD ⊢
  have hA : ∀ q : Nat, s.heap.size ≤ q → A q := fun q h => by rw [← hAe]; exact Or.inr h
  have hS : va_S A s.heap s.heap [] := va_S.rf
  have hfi : ∀ k, k ∉ ([] : List Nat) → i k = i k := fun _ _ => rfl
  have hfc : ∀ k, k ∉ ([] : List Nat) → c k = c k := fun _ _ => rfl
  have hl := lv_entry ([.ref o, .int p1]) (n := 2) (Nat.le_of_ble_eq_true rfl)
  rw [lg_entry_eq]
  generalize (lg_sl ([.ref o, .int p1]) ++ List.replicate (2 - (lg_sl ([.ref o, .int p1])).length) Slot.unset).toArray = ls at hl ⊢
  have hl : lv_has ls 2 [(0, .ref o), (1, .int p1)] := hl
  have hI0 := hI
  have rb2_i : 6 ≤ (i 2).toInt ∧ (i 2).toInt ≤ 24 := hI.1 2
  refine lv_iload_n hx hb dX12_kind_0 rfl (lv_at hl 1 rfl) ?_
  refine lv_i2l (v := p1.toInt64) hx hb dX12_kind_1 rfl ?_
  refine lv_lconst (v := 0) hx hb dX12_kind_2 (by decide) ?_
  refine lv_aload_n hx hb dX12_kind_3 rfl (lv_at hl 0 rfl) ?_
  refine mget_2 (v := (i 2)) rfl hx hb hts (fun _ h => List.mem_cons_of_mem _ (List.mem_append_right _ h)) hown hK hP (hts (.fieldLink RX12 151 "TalePlayModel" "kinds" "I") (by decide +kernel)) dX12_kind_4 ?_
  refine lv_iconst (v := 1) hx hb dX12_kind_7 (by decide) ?_
  refine lv_isub hx hb dX12_kind_8 ?_
  refine lv_topi (fun x1 ex1 => ?_)
  have tx1 := ti_sub (a := (i 2).toInt) (b := 1) ex1 rfl (by decide) (by omega) (by omega)
  refine lv_i2l (v := x1.toInt64) hx hb dX12_kind_9 rfl ?_
  have hPc := hP.sub (ws' := []) [] rfl
  have hKc := hK.sub (tys' := []) [] rfl
  refine ro_calli (va_runS (As := [.long p1.toInt64, .long 0, .long x1.toInt64]) (rest := []) ⟨hx, hb, hml, hown, hts⟩ (c_X12_in l D s.heap.size p1.toInt64 0 x1.toInt64 p1.toInt 0 ((i 2).toInt - 1) ((Int32.toInt_toInt64 p1).trans rfl) (by decide) ((Int32.toInt_toInt64 x1).trans tx1)) (va_cwS 3 hts gm_X12_kind_X12_in rfl rfl rfl (by decide +kernel) ⟨Nat.le_of_ble_eq_true rfl, Nat.le_of_ble_eq_true rfl⟩) (pA_S hKc hPc) rfl rfl hl.1 rfl (lv_room (Nat.le_of_ble_eq_true rfl)) dX12_kind_10 ⟨Nat.le_of_ble_eq_true rfl, Nat.le_of_ble_eq_true rfl⟩) hS hA hP (fun r2 u2 H locs hw2 hP hS => ?_)
  have hw2 : r2 = if (0 ≤ p1.toInt ∧ p1.toInt ≤ ((i 2).toInt - 1)) then 1 else 0 := hw2
  refine lv_if_ne (tgt := 18) hx hb dX12_kind_13 (by decide) (fun c3 => ?_) (fun c3 => ?_)
  · have f3 := fl_t hw2 c3
    refine lv_aload_n hx hb dX12_kind_18 rfl (lv_at hl 0 rfl) ?_
    refine mget_2 (v := (i 2)) rfl hx hb hts (fun _ h => List.mem_cons_of_mem _ (List.mem_append_right _ h)) hown hK hP (hts (.fieldLink RX12 151 "TalePlayModel" "kinds" "I") (by decide +kernel)) dX12_kind_19 ?_
    refine lv_bipush (v := 24) hx hb dX12_kind_22 (by decide) ?_
    refine lv_icmp_ne (tgt := 30) hx hb dX12_kind_24 (by decide) (fun c4 => ?_) (fun c4 => ?_)
    · have f4 := mt (ti_eq (a := (i 2).toInt) (b := 24) rfl (by decide)).mpr c4
      refine lv_aload_n hx hb dX12_kind_30 rfl (lv_at hl 0 rfl) ?_
      refine mget_3 hx hb hts (fun _ h => List.mem_cons_of_mem _ (List.mem_append_right _ h)) hown hK hP (hts (.fieldLink RX12 13 "TalePlayModel" "parentOf" "[I") (by decide +kernel)) dX12_kind_31 ?_
      refine lv_aload_n hx hb dX12_kind_34 rfl (lv_at hl 0 rfl) ?_
      refine mget_2 (v := (i 2)) rfl hx hb hts (fun _ h => List.mem_cons_of_mem _ (List.mem_append_right _ h)) hown hK hP (hts (.fieldLink RX12 151 "TalePlayModel" "kinds" "I") (by decide +kernel)) dX12_kind_35 ?_
      refine lv_iload_n hx hb dX12_kind_38 rfl (lv_at hl 1 rfl) ?_
      have rc5 : ((((i 2) : Int32).toNatClampNeg : Nat) : Int) = ((i 2) : Int32).toInt := cl_nn (by have h9 : (i 2).toInt = (i 2).toInt := rfl; omega)
      refine mst_3 hx hb hK hP hD hS (vp_in_iff.mpr (by have h9 : (i 2).toInt = (i 2).toInt := rfl; omega)) dX12_kind_39 (fun H locs hP hD hS => ?_)
      have hI := mInv_c hI (k := 3) (j := ((i 2) : Int32).toNatClampNeg) (x := p1) (show (((((i 2) : Int32).toNatClampNeg : Nat) : Int) ≤ 1 ∧ (p1 : Int32).toInt = -9) ∨ (2 ≤ ((((i 2) : Int32).toNatClampNeg : Nat) : Int) ∧ ((((i 2) : Int32).toNatClampNeg : Nat) : Int) ≤ 5 ∧ (p1 : Int32).toInt = 1) ∨ (6 ≤ ((((i 2) : Int32).toNatClampNeg : Nat) : Int) ∧ 0 ≤ (p1 : Int32).toInt ∧ (p1 : Int32).toInt ≤ 23 ∧ (p1 : Int32).toInt < ((((i 2) : Int32).toNatClampNeg : Nat) : Int)) from by omega)
      have hfc : ∀ k, k ∉ ([3] : List Nat) → (updA c 3 ((i 2) : Int32).toNatClampNeg p1) k = c k := fr_cz hfc (by decide) (by decide)
      refine lv_aload_n hx hb dX12_kind_40 rfl (lv_at hl 0 rfl) ?_
      refine lv_dup hx hb dX12_kind_41 rfl ?_
      refine mget_2 (v := (i 2)) rfl hx hb hts (fun _ h => List.mem_cons_of_mem _ (List.mem_append_right _ h)) hown hK hP (hts (.fieldLink RX12 151 "TalePlayModel" "kinds" "I") (by decide +kernel)) dX12_kind_42 ?_
      refine lv_iconst (v := 1) hx hb dX12_kind_45 (by decide) ?_
      refine lv_iadd hx hb dX12_kind_46 ?_
      refine lv_topi (fun x6 ex6 => ?_)
      have tx6 := ti_add (a := (i 2).toInt) (b := 1) ex6 rfl (by decide) (by omega) (by omega)
      refine mput_2 hx hb hts (fun _ h => List.mem_cons_of_mem _ (List.mem_append_right _ h)) hown hK hP hD hS (hts (.fieldLink RX12 151 "TalePlayModel" "kinds" "I") (by decide +kernel)) rfl rfl dX12_kind_47 (fun H locs hP hD hS => ?_)
      have hI := mInv_i hI (k := 2) (v := x6) (show 6 ≤ (x6 : Int32).toInt ∧ (x6 : Int32).toInt ≤ 24 from by have h9 : x6.toInt = ((i 2).toInt + 1) := tx6; omega)
      have hfi : ∀ k, k ∉ ([2] : List Nat) → (upd i 2 x6) k = i k := fr_iz hfi (by decide) (by decide)
      refine lv_aload_n hx hb dX12_kind_50 rfl (lv_at hl 0 rfl) ?_
      refine mget_2 (i := (upd i 2 x6)) (v := x6) rfl hx hb hts (fun _ h => List.mem_cons_of_mem _ (List.mem_append_right _ h)) hown hK hP (hts (.fieldLink RX12 151 "TalePlayModel" "kinds" "I") (by decide +kernel)) dX12_kind_51 ?_
      refine lv_iconst (v := 1) hx hb dX12_kind_54 (by decide) ?_
      refine lv_isub hx hb dX12_kind_55 ?_
      refine lv_topi (fun x7 ex7 => ?_)
      have tx7 := ti_sub (a := ((i 2).toInt + 1)) (b := 1) ex7 tx6 (by decide) (by omega) (by omega)
      exact rw_iret ((upd i 2 x6), q, (updA c 3 ((i 2) : Int32).toNatClampNeg p1), d) hx hb hr hlocks hS (hK.sub (tys' := []) [] rfl) hP hD dX12_kind_56 ⟨trivial, hI, fr_w hfi (by decide), fr_w hfc (by decide), (show SJ ((updA c 3 ((i 2) : Int32).toNatClampNeg p1) 3) ((updA c 3 ((i 2) : Int32).toNatClampNeg p1) 6) ((updA c 3 ((i 2) : Int32).toNatClampNeg p1) 9) ((updA c 3 ((i 2) : Int32).toNatClampNeg p1) 10) ((updA c 3 ((i 2) : Int32).toNatClampNeg p1) 11) ((updA c 3 ((i 2) : Int32).toNatClampNeg p1) 13) (x6 : Int32).toInt ((i 5) : Int32).toInt ((i 8) : Int32).toInt from by show SJ (upd (c 3) ((i 2) : Int32).toNatClampNeg p1) (c 6) (c 9) (c 10) (c 11) (c 13) x6.toInt (i 5).toInt (i 8).toInt; rw [tx6]; exact SJ_kind (kn := (i 2).toInt) hs_S (fun j _ => mI_pa hI0 j) (by omega) (mI_ko hI0) (mI_le hI0) (fun o => (mI_mi hI0 o).1)), (show TJ ((updA c 3 ((i 2) : Int32).toNatClampNeg p1) 3) ((updA c 3 ((i 2) : Int32).toNatClampNeg p1) 6) ((updA c 3 ((i 2) : Int32).toNatClampNeg p1) 23) ((updA c 3 ((i 2) : Int32).toNatClampNeg p1) 24) ((updA c 3 ((i 2) : Int32).toNatClampNeg p1) 29) ((updA c 3 ((i 2) : Int32).toNatClampNeg p1) 30) ((i 5) : Int32).toInt ((i 22) : Int32).toInt ((i 27) : Int32).toInt from by show TJ (upd (c 3) ((i 2) : Int32).toNatClampNeg p1) (c 6) (c 23) (c 24) (c 29) (c 30) (i 5).toInt (i 22).toInt (i 27).toInt; exact TJ_kind (kn := (i 2).toInt) hs_J hs_S.1 (fun j _ => mI_pa hI0 j) (by omega) (mI_ko hI0)), (show (¬ (0 ≤ p1.toInt ∧ p1.toInt < (i 2).toInt) ∧ (x7 : Int32).toInt = -1 ∧ (x6 : Int32).toInt = (i 2).toInt) ∨ (0 ≤ p1.toInt ∧ p1.toInt < (i 2).toInt ∧ 24 ≤ (i 2).toInt ∧ (x7 : Int32).toInt = -2 ∧ (x6 : Int32).toInt = (i 2).toInt) ∨ (0 ≤ p1.toInt ∧ p1.toInt < (i 2).toInt ∧ (i 2).toInt ≤ 23 ∧ (x7 : Int32).toInt = (i 2).toInt ∧ (x6 : Int32).toInt = (i 2).toInt + 1) from by have h50 : x6.toInt = ((i 2).toInt + 1) := tx6; have h51 : x6.toInt = ((i 2).toInt + 1) := tx6; have h52 : x6.toInt = ((i 2).toInt + 1) := tx6; have h53 : x7.toInt = (((i 2).toInt + 1) - 1) := tx7; omega)⟩
    · have f4 := (ti_eq (a := (i 2).toInt) (b := 24) rfl (by decide)).mp c4
      refine lv_bipush (v := (-2)) hx hb dX12_kind_27 (by decide) ?_
      exact rw_iret (i, q, c, d) hx hb hr hlocks hS (hK.sub (tys' := []) [] rfl) hP hD dX12_kind_29 ⟨trivial, hI, fr_w hfi (by decide), fr_w hfc (by decide), (show SJ (c 3) (c 6) (c 9) (c 10) (c 11) (c 13) ((i 2) : Int32).toInt ((i 5) : Int32).toInt ((i 8) : Int32).toInt from hs_S), (show TJ (c 3) (c 6) (c 23) (c 24) (c 29) (c 30) ((i 5) : Int32).toInt ((i 22) : Int32).toInt ((i 27) : Int32).toInt from hs_J), (show (¬ (0 ≤ p1.toInt ∧ p1.toInt < (i 2).toInt) ∧ ((-2) : Int32).toInt = -1 ∧ ((i 2) : Int32).toInt = (i 2).toInt) ∨ (0 ≤ p1.toInt ∧ p1.toInt < (i 2).toInt ∧ 24 ≤ (i 2).toInt ∧ ((-2) : Int32).toInt = -2 ∧ ((i 2) : Int32).toInt = (i 2).toInt) ∨ (0 ≤ p1.toInt ∧ p1.toInt < (i 2).toInt ∧ (i 2).toInt ≤ 23 ∧ ((-2) : Int32).toInt = (i 2).toInt ∧ ((i 2) : Int32).toInt = (i 2).toInt + 1) from by have h53 : ((-2) : Int32).toInt = -2 := (by decide); omega)⟩
  · have f3 := fl_f hw2 c3
    refine lv_iconst (v := (-1)) hx hb dX12_kind_16 (by decide) ?_
    exact rw_iret (i, q, c, d) hx hb hr hlocks hS (hK.sub (tys' := []) [] rfl) hP hD dX12_kind_17 ⟨trivial, hI, fr_w hfi (by decide), fr_w hfc (by decide), (show SJ (c 3) (c 6) (c 9) (c 10) (c 11) (c 13) ((i 2) : Int32).toInt ((i 5) : Int32).toInt ((i 8) : Int32).toInt from hs_S), (show TJ (c 3) (c 6) (c 23) (c 24) (c 29) (c 30) ((i 5) : Int32).toInt ((i 22) : Int32).toInt ((i 27) : Int32).toInt from hs_J), (show (¬ (0 ≤ p1.toInt ∧ p1.toInt < (i 2).toInt) ∧ ((-1) : Int32).toInt = -1 ∧ ((i 2) : Int32).toInt = (i 2).toInt) ∨ (0 ≤ p1.toInt ∧ p1.toInt < (i 2).toInt ∧ 24 ≤ (i 2).toInt ∧ ((-1) : Int32).toInt = -2 ∧ ((i 2) : Int32).toInt = (i 2).toInt) ∨ (0 ≤ p1.toInt ∧ p1.toInt < (i 2).toInt ∧ (i 2).toInt ≤ 23 ∧ ((-1) : Int32).toInt = (i 2).toInt ∧ ((i 2) : Int32).toInt = (i 2).toInt + 1) from by have h53 : ((-1) : Int32).toInt = -1 := (by decide); omega)⟩

