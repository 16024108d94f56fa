def wm_X11_light_eLX : List Cond := .code yX11_light cX11_light 1 (some .int) :: (([.fieldLink RX11 46 "TalePlay" "tale" "LTalePlay$Tale;", .fieldLink RX11 257 "TalePlay$Tale" "there" "Z", .fieldLink RX11 274 "TalePlay$Tale" "sight" "LTalePlay$Sight;", .fieldLink RX11 278 "TalePlay$Sight" "bright" "Z", .methodLink RX11 118 yX11_oneIf, .static yX11_oneIf, .initialized RX11, .code yX11_oneIf cX11_oneIf 1 (some .int)] : List Cond) ++ wsX110 ++ wsX90 ++ wsX80)
set_option maxRecDepth 20000 in
theorem gm_X11_light_eLX_X11_oneIf_118 : GoodIn wm_X11_light_eLX (va_wsS RX11 118 yX11_oneIf wm_X11_oneIf) := goodIn_w (List.forall_mem_append.mpr ⟨List.forall_mem_cons.mpr ⟨List.mem_cons_of_mem _ (List.mem_append_left _ (List.mem_append_left _ (List.mem_append_left _ (List.mem_of_getElem? (i := 4) rfl)))), List.forall_mem_cons.mpr ⟨List.mem_cons_of_mem _ (List.mem_append_left _ (List.mem_append_left _ (List.mem_append_left _ (List.mem_of_getElem? (i := 5) rfl)))), List.forall_mem_cons.mpr ⟨List.mem_cons_of_mem _ (List.mem_append_left _ (List.mem_append_left _ (List.mem_append_left _ (List.mem_of_getElem? (i := 6) rfl)))), (fun _ h => absurd h List.not_mem_nil)⟩⟩⟩, List.forall_mem_cons.mpr ⟨List.mem_cons_of_mem _ (List.mem_append_left _ (List.mem_append_left _ (List.mem_append_left _ (List.mem_of_getElem? (i := 7) rfl)))), (fun _ h => absurd h List.not_mem_nil)⟩⟩) (by decide +kernel)
set_option maxHeartbeats 4000000 in
set_option maxRecDepth 100000 in
theorem x_X11_light_eLX (l : Launch) (D : va_G) (sz : Nat) (sk : Value) (a : Nat → Nat) (t : Nat → ClassId) (i : Nat → Int32) (q : Int64) (c : Nat → Nat → Int32) (d : Nat → Nat → Int64) (hI : xInv i c) : Met l yX11_light wm_X11_light_eLX ({ frames := 1, cells := 0, slots := 0, locals := 20 }) (va_Pc [.ref (a 100)] (yA (a 186) D sz (xwT sk a t i q c d) (xtT t))) (va_Qi (fun (r : Int32) (_ : Unit) => (True ∧ ((¬ (i 146).toInt = 1 ∧ r.toInt = -5) ∨ ((i 146).toInt = 1 ∧ r.toInt = (i 154).toInt)))) oA (ro sz)) 0 0 (ro sz) := by
  refine Met.ofW (cc := cX11_light) (maxL := 1) (ret := (some .int)) (by decide +kernel) rfl ?_
  intro p e s m args below meth cd s₁ B hml hv
  obtain ⟨rfl, ⟨hsz, hP, hK⟩, hN, hZ⟩ := hv
  have hx := B.exec
  have hb := B.bytes
  have hr := B.returns
  have hts := atoms_spec (ws := wm_X11_light_eLX) B.pre
  have hown : s.vm.findClass RX11 = some m.cls := findClass_of_methodNamed B.named
  have hlocks := B.notSynchronized
  subst hsz
  have hA : ∀ q : Nat, s.heap.size ≤ q → ro s.heap.size q := fun _ h => h
  have hS : va_S (ro s.heap.size) s.heap s.heap [] := va_S.rf
  have hl := lv_entry ([.ref (a 100)]) (n := 1) (Nat.le_of_ble_eq_true rfl)
  rw [lg_entry_eq]
  generalize (lg_sl ([.ref (a 100)]) ++ List.replicate (1 - (lg_sl ([.ref (a 100)])).length) Slot.unset).toArray = ls at hl ⊢
  have hl : lv_has ls 1 [(0, .ref (a 100))] := hl
  have rb146_i : 0 ≤ (i 146).toInt ∧ (i 146).toInt ≤ 1 := hI.1 146
  have rb154_i : 0 ≤ (i 154).toInt ∧ (i 154).toInt ≤ 1 := hI.1 154
  refine lv_aload_n hx hb dX11_light_0 rfl (lv_at hl 0 rfl) ?_
  refine xgT_X_tale hx hb hts (fun _ h => List.mem_cons_of_mem _ (List.mem_append_left _ (List.mem_append_left _ (List.mem_append_right _ h)))) hown hK hP (hts (.fieldLink RX11 46 "TalePlay" "tale" "LTalePlay$Tale;") (List.mem_cons_of_mem _ (List.mem_append_left _ (List.mem_append_left _ (List.mem_append_left _ (List.mem_of_getElem? (i := 0) rfl)))))) dX11_light_1 ?_
  refine xgT_T_there (v := (i 146)) rfl hx hb hts (fun _ h => List.mem_cons_of_mem _ (List.mem_append_left _ (List.mem_append_right _ h))) hown hK hP (hts (.fieldLink RX11 257 "TalePlay$Tale" "there" "Z") (List.mem_cons_of_mem _ (List.mem_append_left _ (List.mem_append_left _ (List.mem_append_left _ (List.mem_of_getElem? (i := 1) rfl)))))) dX11_light_4 ?_
  refine lv_if_ne (tgt := 13) hx hb dX11_light_7 (by decide +kernel) (fun c1 => ?_) (fun c1 => ?_)
  · have f1 := mt (ti_eq (a := (i 146).toInt) (b := 0) rfl (by decide +kernel)).mpr c1
    refine lv_aload_n hx hb dX11_light_13 rfl (lv_at hl 0 rfl) ?_
    refine xgT_X_tale hx hb hts (fun _ h => List.mem_cons_of_mem _ (List.mem_append_left _ (List.mem_append_left _ (List.mem_append_right _ h)))) hown hK hP (hts (.fieldLink RX11 46 "TalePlay" "tale" "LTalePlay$Tale;") (List.mem_cons_of_mem _ (List.mem_append_left _ (List.mem_append_left _ (List.mem_append_left _ (List.mem_of_getElem? (i := 0) rfl)))))) dX11_light_14 ?_
    refine xgT_T_sight hx hb hts (fun _ h => List.mem_cons_of_mem _ (List.mem_append_left _ (List.mem_append_right _ h))) hown hK hP (hts (.fieldLink RX11 274 "TalePlay$Tale" "sight" "LTalePlay$Sight;") (List.mem_cons_of_mem _ (List.mem_append_left _ (List.mem_append_left _ (List.mem_append_left _ (List.mem_of_getElem? (i := 2) rfl)))))) dX11_light_17 ?_
    refine xgT_TG_bright (v := (i 154)) rfl hx hb hts (fun _ h => List.mem_cons_of_mem _ (List.mem_append_right _ h)) hown hK hP (hts (.fieldLink RX11 278 "TalePlay$Sight" "bright" "Z") (List.mem_cons_of_mem _ (List.mem_append_left _ (List.mem_append_left _ (List.mem_append_left _ (List.mem_of_getElem? (i := 3) rfl)))))) dX11_light_20 ?_
    have hPc := hP.sub (ws' := []) [] rfl
    have hKc := hK.sub (tys' := []) [] rfl
    refine ro_calli (va_runS (As := [.int (i 154)]) (rest := []) ⟨hx, hb, hml, hown, hts⟩ (c_X11_oneIf_e l D s.heap.size (i 154)) (va_cwS 1 hts gm_X11_light_eLX_X11_oneIf_118 rfl rfl rfl (by decide +kernel) ⟨Nat.le_of_ble_eq_true rfl, Nat.le_of_ble_eq_true rfl⟩) (pA_S hKc hPc) rfl rfl hl.1 rfl (lv_room (Nat.le_of_ble_eq_true rfl)) dX11_light_23 ⟨Nat.le_of_ble_eq_true rfl, Nat.le_of_ble_eq_true rfl⟩) hS hA hP (fun r3 u3 H locs hw3 hP hS => ?_)
    have hw3 : r3 = if (¬ (i 154).toInt = 0) then 1 else 0 := hw3
    exact ro_iret hx hb hr hlocks hS dX11_light_26 ⟨trivial, (show (¬ (i 146).toInt = 1 ∧ r3.toInt = -5) ∨ ((i 146).toInt = 1 ∧ r3.toInt = (i 154).toInt) from Or.inr ⟨by omega, fl_e hw3 (by omega)⟩)⟩
  · have f1 := (ti_eq (a := (i 146).toInt) (b := 0) rfl (by decide +kernel)).mp c1
    refine lv_bipush (v := (-5)) hx hb dX11_light_10 (by decide +kernel) ?_
    exact ro_iret hx hb hr hlocks hS dX11_light_12 ⟨trivial, (show (¬ (i 146).toInt = 1 ∧ ((-5) : Int32).toInt = -5) ∨ ((i 146).toInt = 1 ∧ ((-5) : Int32).toInt = (i 154).toInt) from Or.inl ⟨by omega, by decide⟩)⟩

set_option maxHeartbeats 4000000 in
set_option maxRecDepth 100000 in
theorem s_X12_light_t (l : Launch) (D : va_G) (sz : Nat) (o : Nat) (a : Nat → Nat) (t : Nat → ClassId) (i : Nat → Int32) (q : Int64) (c : Nat → Nat → Int32) (d : Nat → Nat → Int64) (hI : mInv i c) (hs_S : SJ (c 3) (c 6) (c 9) (c 10) (c 11) (c 13) (i 2).toInt (i 5).toInt (i 8).toInt) (hs_J : TJ (c 3) (c 6) (c 23) (c 24) (c 29) (c 30) (i 5).toInt (i 22).toInt (i 27).toInt) : Met l yX12_light wm_X12_light ({ frames := 3, cells := 0, slots := 0, locals := 69 }) (va_Pc [.ref o] (pB D sz (mW o a t i q c d) (mT t))) (va_Qi (fun (r : Int32) (u : MS) => True ∧ mInv u.1 u.2.2.1 ∧ (∀ k, k ∉ ([40, 41, 42] : List Nat) → u.1 k = i k) ∧ (∀ k, k ∉ ([43, 44, 45, 46, 47, 48, 49] : List Nat) → u.2.2.1 k = c k) ∧ (((i 22).toInt = -9 ∧ r.toInt = -5) ∨ (¬ (i 22).toInt = -9 ∧ (LkK (c 3) (c 6) (i 5).toInt (u.2.2.1 45) (u.2.2.1 46) (u.2.2.1 47) (u.2.2.1 48) (u.2.2.1 49) (fun x : Int => SgM (c 9) (c 10) (c 11) (c 12) (c 13) (i 8).toInt x 2 (sfV (c 3) (c 6) (c 4) (kS (c 3) (c 6) x) 2 x) 1) (fun x : Int => SgM (c 9) (c 10) (c 11) (c 12) (c 13) (i 8).toInt x 5 (sfV (c 3) (c 6) (c 4) (kS (c 3) (c 6) x) 5 x) 1) (i 5).toInt) ∧ (LkR (zM (c 3) (c 6) (i 5).toInt) (nF (i 5).toInt (c 23) (c 24)) (fMn (i 5).toInt (c 23)) (bM (c 25)) (bM (u.2.2.1 46)) (bM (u.2.2.1 45)) (sdM (zM (c 3) (c 6) (i 5).toInt) (c 9) (c 10) (c 11) (c 13) (i 8).toInt) (i 22).toInt (i 5).toInt (u.2.2.1 43) (u.2.2.1 44) (u.1 42)) ∧ r.toInt = (u.1 42).toInt))) (oC D (va_A (mW o a t i q c d) sz) (fun u : MS => mW o a t u.1 u.2.1 u.2.2.1 u.2.2.2) (fun _ => [])) (va_A (mW o a t i q c d) sz)) 0 0 (va_A (mW o a t i q c d) sz) := by
  refine Met.ofW (cc := cX12_light) (maxL := 1) (ret := (some .int)) (by decide +kernel) rfl ?_
  intro p e s m args below meth cd s₁ B hml hv
  obtain ⟨rfl, hsz, hP, hK, hD0⟩ := hv
  have hx := B.exec
  have hb := B.bytes
  have hr := B.returns
  have hts := atoms_spec (ws := wm_X12_light) B.pre
  have hown : s.vm.findClass RX12 = some m.cls := findClass_of_methodNamed B.named
  have hlocks := B.notSynchronized
  subst hsz
  have hD := hD0.self (sz := s.heap.size)
  generalize hAe : va_A (mW o a t i q c d) s.heap.size = A at hD ⊢
  have hA : ∀ q : Nat, s.heap.size ≤ q → A q := fun q h => by rw [← hAe]; exact Or.inr h
  have hS : va_S A s.heap s.heap [] := va_S.rf
  have hfi : ∀ k, k ∉ ([] : List Nat) → i k = i k := fun _ _ => rfl
  have hfc : ∀ k, k ∉ ([] : List Nat) → c k = c k := fun _ _ => rfl
  have hl := lv_entry ([.ref o]) (n := 1) (Nat.le_of_ble_eq_true rfl)
  rw [lg_entry_eq]
  generalize (lg_sl ([.ref o]) ++ List.replicate (1 - (lg_sl ([.ref o])).length) Slot.unset).toArray = ls at hl ⊢
  have hl : lv_has ls 1 [(0, .ref o)] := hl
  have rb22_i : (i 22).toInt = -9 ∨ (0 ≤ (i 22).toInt ∧ (i 22).toInt ≤ 29) := hI.1 22
  refine lv_aload_n hx hb dX12_light_0 rfl (lv_at hl 0 rfl) ?_
  refine mget_22 (v := (i 22)) rfl hx hb hts (fun _ h => List.mem_cons_of_mem _ (List.mem_append_right _ h)) hown hK hP (hts (.fieldLink RX12 155 "TalePlayModel" "player" "I") (List.mem_cons_of_mem _ (List.mem_append_left _ (List.mem_append_left _ (List.mem_of_getElem? (i := 0) rfl))))) dX12_light_1 ?_
  refine lv_bipush (v := (-9)) hx hb dX12_light_4 (by decide +kernel) ?_
  refine lv_icmp_ne (tgt := 12) hx hb dX12_light_6 (by decide +kernel) (fun c1 => ?_) (fun c1 => ?_)
  · have f1 := mt (ti_eq (a := (i 22).toInt) (b := (-9)) rfl (by decide +kernel)).mpr c1
    have hs_T : TI (i 5).toInt (fun z => Kd (c 3) (c 6) z 0) (i 22).toInt (c 23) (c 24) := (hs_J (by omega)).2.1
    have hs_P : Kd (c 3) (c 6) (i 22).toInt 5 := (hs_J (by omega)).1
    have hs_G : Acy (gF (c 9) (c 10) (c 11) (c 13) (c 23) (c 24) (i 8).toInt (i 5).toInt (i 22).toInt) := gF_acy hs_S hs_J
    refine lv_aload_n hx hb dX12_light_12 rfl (lv_at hl 0 rfl) ?_
    have rb5_i : 0 ≤ (i 5).toInt ∧ (i 5).toInt ≤ 30 := hI.1 5
    have rb8_i : 0 ≤ (i 8).toInt ∧ (i 8).toInt ≤ 200 := hI.1 8
    refine al_callv (va_runV (As := []) (rest := []) ⟨hx, hb, hml, hown, hts⟩ (s_X12_lookAtKinds_t l D s.heap.size o a t i q c d  hI ) (cwV 0 hts gm_X12_light_X12_lookAtKinds rfl rfl rfl (by decide +kernel) ⟨Nat.le_of_ble_eq_true rfl, Nat.le_of_ble_eq_true rfl⟩) (pB_V hK hP hD (ci := 12) (q0 := 0) rfl rfl) rfl rfl hl.1 rfl (lv_room (Nat.le_of_ble_eq_true rfl)) dX12_light_13 ⟨Nat.le_of_ble_eq_true rfl, Nat.le_of_ble_eq_true rfl⟩) hS hA hP hD (fun u2 H locs hw2 hP hD hS => ?_)
    obtain ⟨i2, q2, c2, d2⟩ := u2
    have hw2 : True ∧ mInv i2 c2 ∧ (∀ k, k ∉ ([] : List Nat) → i2 k = i k) ∧ (∀ k, k ∉ ([45, 46, 47, 48, 49] : List Nat) → c2 k = c k) ∧ (Cc (c 3) (c 6) (c2 47) (c2 48) (c2 49) (i 5).toInt) ∧ (LkK (c 3) (c 6) (i 5).toInt (c2 45) (c2 46) (c2 47) (c2 48) (c2 49) (fun x : Int => SgM (c 9) (c 10) (c 11) (c 12) (c 13) (i 8).toInt x 2 (sfV (c 3) (c 6) (c 4) (kS (c 3) (c 6) x) 2 x) 1) (fun x : Int => SgM (c 9) (c 10) (c 11) (c 12) (c 13) (i 8).toInt x 5 (sfV (c 3) (c 6) (c 4) (kS (c 3) (c 6) x) 5 x) 1) (i 5).toInt) := hw2
    obtain ⟨hw2, hI, hei2, hec2, hxp2_0, hxp2_1⟩ := hw2
    have hxp2_0 : Cc (c 3) (c 6) (c2 47) (c2 48) (c2 49) (i 5).toInt := hxp2_0
    have hxp2_1 : LkK (c 3) (c 6) (i 5).toInt (c2 45) (c2 46) (c2 47) (c2 48) (c2 49) (fun x : Int => SgM (c 9) (c 10) (c 11) (c 12) (c 13) (i 8).toInt x 2 (sfV (c 3) (c 6) (c 4) (kS (c 3) (c 6) x) 2 x) 1) (fun x : Int => SgM (c 9) (c 10) (c 11) (c 12) (c 13) (i 8).toInt x 5 (sfV (c 3) (c 6) (c 4) (kS (c 3) (c 6) x) 5 x) 1) (i 5).toInt := hxp2_1
    have hfi : ∀ k, k ∉ ([] : List Nat) → i2 k = i k := fr_z hfi hei2 (by decide +kernel) (by decide +kernel)
    have hfc : ∀ k, k ∉ ([45, 46, 47, 48, 49] : List Nat) → c2 k = c k := fr_z hfc hec2 (by decide +kernel) (by decide +kernel)
    have hP : va_P D vwCl (mW o a t i2 q2 c2 d2) H := hP
    have hD : va_D A (mW o a t i2 q2 c2 d2) := hD
    have hs_C := hxp2_0
    have hLt : LkK (c 3) (c 6) (i 5).toInt (c2 45) (c2 46) (c2 47) (c2 48) (c2 49) (fun x : Int => SgM (c 9) (c 10) (c 11) (c 12) (c 13) (i 8).toInt x 2 (sfV (c 3) (c 6) (c 4) (kS (c 3) (c 6) x) 2 x) 1) (fun x : Int => SgM (c 9) (c 10) (c 11) (c 12) (c 13) (i 8).toInt x 5 (sfV (c 3) (c 6) (c 4) (kS (c 3) (c 6) x) 5 x) 1) (i 5).toInt := hxp2_1
    have hs_E : CcE (c 3) (c 6) (c2 47) (c2 48) (c2 49) (i 5).toInt := CcE_of hLt
    refine lv_aload_n hx hb dX12_light_16 rfl (lv_at hl 0 rfl) ?_
    have rb5_i2 : 0 ≤ (i2 5).toInt ∧ (i2 5).toInt ≤ 30 := hI.1 5
    have re5_i2 : (i2 5).toInt = (i 5).toInt := congrArg Int32.toInt (hfi 5 (by decide +kernel))
    have rb8_i2 : 0 ≤ (i2 8).toInt ∧ (i2 8).toInt ≤ 200 := hI.1 8
    have re8_i2 : (i2 8).toInt = (i 8).toInt := congrArg Int32.toInt (hfi 8 (by decide +kernel))
    have rb22_i2 : (i2 22).toInt = -9 ∨ (0 ≤ (i2 22).toInt ∧ (i2 22).toInt ≤ 29) := hI.1 22
    have re22_i2 : (i2 22).toInt = (i 22).toInt := congrArg Int32.toInt (hfi 22 (by decide +kernel))
    refine al_callv (va_runV (As := []) (rest := []) ⟨hx, hb, hml, hown, hts⟩ (s_X12_lookAround_t l D H.size o a t i2 q2 c2 d2  hI (by rw [show c2 3 = c 3 from hfc 3 (by decide +kernel), show c2 6 = c 6 from hfc 6 (by decide +kernel), show c2 23 = c 23 from hfc 23 (by decide +kernel), show c2 24 = c 24 from hfc 24 (by decide +kernel), show i2 5 = i 5 from hfi 5 (by decide +kernel), show i2 22 = i 22 from hfi 22 (by decide +kernel)]; exact hs_T) (by rw [show c2 3 = c 3 from hfc 3 (by decide +kernel), show c2 6 = c 6 from hfc 6 (by decide +kernel), show i2 5 = i 5 from hfi 5 (by decide +kernel)]; exact hs_C) (by rw [show c2 3 = c 3 from hfc 3 (by decide +kernel), show c2 6 = c 6 from hfc 6 (by decide +kernel), show i2 5 = i 5 from hfi 5 (by decide +kernel)]; exact hs_E)) (cwV 0 hts gm_X12_light_X12_lookAround rfl rfl rfl (by decide +kernel) ⟨Nat.le_of_ble_eq_true rfl, Nat.le_of_ble_eq_true rfl⟩) (pB_V hK hP hD (ci := 12) (q0 := 0) rfl rfl) rfl rfl hl.1 rfl (lv_room (Nat.le_of_ble_eq_true rfl)) dX12_light_17 ⟨Nat.le_of_ble_eq_true rfl, Nat.le_of_ble_eq_true rfl⟩) hS hA hP hD (fun u3 H locs hw3 hP hD hS => ?_)
    obtain ⟨i3, q3, c3, d3⟩ := u3
    have hw3 : True ∧ mInv i3 c3 ∧ (∀ k, k ∉ ([40, 41, 42] : List Nat) → i3 k = i2 k) ∧ (∀ k, k ∉ ([43, 44] : List Nat) → c3 k = c2 k) ∧ (RQ (c3 44) (c2 49) (nF (i2 5).toInt (c2 23) (c2 24)) (i2 22).toInt (i2 5).toInt) ∧ (LkR (zM (c2 3) (c2 6) (i2 5).toInt) (nF (i2 5).toInt (c2 23) (c2 24)) (fMn (i2 5).toInt (c2 23)) (bM (c2 25)) (bM (c2 46)) (bM (c2 45)) (sdM (zM (c2 3) (c2 6) (i2 5).toInt) (c2 9) (c2 10) (c2 11) (c2 13) (i2 8).toInt) (i2 22).toInt (i2 5).toInt (c3 43) (c3 44) (i3 42)) := hw3
    obtain ⟨hw3, hI, hei3, hec3, hxp3_0, hxp3_1⟩ := hw3
    have hxp3_0 : RQ (c3 44) (c2 49) (nF (i 5).toInt (c 23) (c 24)) (i 22).toInt (i 5).toInt := by have h9 := hxp3_0; rw [show c2 23 = c 23 from hfc 23 (by decide +kernel), show c2 24 = c 24 from hfc 24 (by decide +kernel), show i2 5 = i 5 from hfi 5 (by decide +kernel), show i2 22 = i 22 from hfi 22 (by decide +kernel)] at h9; exact h9
    have hxp3_1 : LkR (zM (c 3) (c 6) (i 5).toInt) (nF (i 5).toInt (c 23) (c 24)) (fMn (i 5).toInt (c 23)) (bM (c 25)) (bM (c2 46)) (bM (c2 45)) (sdM (zM (c 3) (c 6) (i 5).toInt) (c 9) (c 10) (c 11) (c 13) (i 8).toInt) (i 22).toInt (i 5).toInt (c3 43) (c3 44) (i3 42) := by have h9 := hxp3_1; rw [show c2 3 = c 3 from hfc 3 (by decide +kernel), show c2 6 = c 6 from hfc 6 (by decide +kernel), show c2 9 = c 9 from hfc 9 (by decide +kernel), show c2 10 = c 10 from hfc 10 (by decide +kernel), show c2 11 = c 11 from hfc 11 (by decide +kernel), show c2 13 = c 13 from hfc 13 (by decide +kernel), show c2 23 = c 23 from hfc 23 (by decide +kernel), show c2 24 = c 24 from hfc 24 (by decide +kernel), show c2 25 = c 25 from hfc 25 (by decide +kernel), show i2 5 = i 5 from hfi 5 (by decide +kernel), show i2 8 = i 8 from hfi 8 (by decide +kernel), show i2 22 = i 22 from hfi 22 (by decide +kernel)] at h9; exact h9
    have hfi : ∀ k, k ∉ ([40, 41, 42] : List Nat) → i3 k = i k := fr_z hfi hei3 (by decide +kernel) (by decide +kernel)
    have hfc : ∀ k, k ∉ ([43, 44, 45, 46, 47, 48, 49] : List Nat) → c3 k = c k := fr_z hfc hec3 (by decide +kernel) (by decide +kernel)
    have hP : va_P D vwCl (mW o a t i3 q3 c3 d3) H := hP
    have hD : va_D A (mW o a t i3 q3 c3 d3) := hD
    have hs_C : Cc (c 3) (c 6) (c3 47) (c3 48) (c3 49) (i 5).toInt := by rw [show c3 47 = c2 47 from hec3 47 (by decide +kernel), show c3 48 = c2 48 from hec3 48 (by decide +kernel), show c3 49 = c2 49 from hec3 49 (by decide +kernel)]; exact hs_C
    have hLt : LkK (c 3) (c 6) (i 5).toInt (c3 45) (c3 46) (c3 47) (c3 48) (c3 49) (fun x : Int => SgM (c 9) (c 10) (c 11) (c 12) (c 13) (i 8).toInt x 2 (sfV (c 3) (c 6) (c 4) (kS (c 3) (c 6) x) 2 x) 1) (fun x : Int => SgM (c 9) (c 10) (c 11) (c 12) (c 13) (i 8).toInt x 5 (sfV (c 3) (c 6) (c 4) (kS (c 3) (c 6) x) 5 x) 1) (i 5).toInt := by rw [show c3 45 = c2 45 from hec3 45 (by decide +kernel), show c3 46 = c2 46 from hec3 46 (by decide +kernel), show c3 47 = c2 47 from hec3 47 (by decide +kernel), show c3 48 = c2 48 from hec3 48 (by decide +kernel), show c3 49 = c2 49 from hec3 49 (by decide +kernel)]; exact hLt
    have hs_E : CcE (c 3) (c 6) (c3 47) (c3 48) (c3 49) (i 5).toInt := by rw [show c3 47 = c2 47 from hec3 47 (by decide +kernel), show c3 48 = c2 48 from hec3 48 (by decide +kernel), show c3 49 = c2 49 from hec3 49 (by decide +kernel)]; exact hs_E
    have hLk : LkR (zM (c 3) (c 6) (i 5).toInt) (nF (i 5).toInt (c 23) (c 24)) (fMn (i 5).toInt (c 23)) (bM (c 25)) (bM (c3 46)) (bM (c3 45)) (sdM (zM (c 3) (c 6) (i 5).toInt) (c 9) (c 10) (c 11) (c 13) (i 8).toInt) (i 22).toInt (i 5).toInt (c3 43) (c3 44) ((i3 42) : Int32) := by rw [show c3 45 = c2 45 from hec3 45 (by decide +kernel), show c3 46 = c2 46 from hec3 46 (by decide +kernel)]; exact hxp3_1
    refine lv_aload_n hx hb dX12_light_20 rfl (lv_at hl 0 rfl) ?_
    refine mget_42 (v := (i3 42)) rfl hx hb hts (fun _ h => List.mem_cons_of_mem _ (List.mem_append_right _ h)) hown hK hP (hts (.fieldLink RX12 341 "TalePlayModel" "isLight" "Z") (List.mem_cons_of_mem _ (List.mem_append_left _ (List.mem_append_right _ (List.mem_append_right _ (List.mem_append_right _ (List.mem_of_getElem? (i := 1) rfl))))))) dX12_light_21 ?_
    have rb42_i3 : 0 ≤ (i3 42).toInt ∧ (i3 42).toInt ≤ 1 := hI.1 42
    refine lv_if_eq (tgt := 31) hx hb dX12_light_24 (by decide +kernel) (fun c4 => ?_) (fun c4 => ?_)
    · have f4 := (ti_eq (a := (i3 42).toInt) (b := 0) rfl (by decide +kernel)).mp c4
      refine lv_iconst (v := 0) hx hb dX12_light_31 (by decide +kernel) ?_
      exact rw_iret (i3, q3, c3, d3) hx hb hr hlocks hS (hK.sub (tys' := []) [] rfl) hP hD dX12_light_32 ⟨trivial, hI, fr_w hfi (by decide +kernel), fr_w hfc (by decide +kernel), (show ((i 22).toInt = -9 ∧ (0 : Int32).toInt = -5) ∨ (¬ (i 22).toInt = -9 ∧ (LkK (c 3) (c 6) (i 5).toInt (c3 45) (c3 46) (c3 47) (c3 48) (c3 49) (fun x : Int => SgM (c 9) (c 10) (c 11) (c 12) (c 13) (i 8).toInt x 2 (sfV (c 3) (c 6) (c 4) (kS (c 3) (c 6) x) 2 x) 1) (fun x : Int => SgM (c 9) (c 10) (c 11) (c 12) (c 13) (i 8).toInt x 5 (sfV (c 3) (c 6) (c 4) (kS (c 3) (c 6) x) 5 x) 1) (i 5).toInt) ∧ (LkR (zM (c 3) (c 6) (i 5).toInt) (nF (i 5).toInt (c 23) (c 24)) (fMn (i 5).toInt (c 23)) (bM (c 25)) (bM (c3 46)) (bM (c3 45)) (sdM (zM (c 3) (c 6) (i 5).toInt) (c 9) (c 10) (c 11) (c 13) (i 8).toInt) (i 22).toInt (i 5).toInt (c3 43) (c3 44) ((i3 42) : Int32)) ∧ (0 : Int32).toInt = ((i3 42) : Int32).toInt) from Or.inr ⟨by omega, hLt, hLk, by have h9 : (0 : Int32).toInt = 0 := (by decide +kernel); omega⟩)⟩
    · have f4 := mt (ti_eq (a := (i3 42).toInt) (b := 0) rfl (by decide +kernel)).mpr c4
      refine lv_iconst (v := 1) hx hb dX12_light_27 (by decide +kernel) ?_
      refine lv_goto (tgt := 32) hx hb dX12_light_28 (by decide +kernel) ?_
      exact rw_iret (i3, q3, c3, d3) hx hb hr hlocks hS (hK.sub (tys' := []) [] rfl) hP hD dX12_light_32 ⟨trivial, hI, fr_w hfi (by decide +kernel), fr_w hfc (by decide +kernel), (show ((i 22).toInt = -9 ∧ (1 : Int32).toInt = -5) ∨ (¬ (i 22).toInt = -9 ∧ (LkK (c 3) (c 6) (i 5).toInt (c3 45) (c3 46) (c3 47) (c3 48) (c3 49) (fun x : Int => SgM (c 9) (c 10) (c 11) (c 12) (c 13) (i 8).toInt x 2 (sfV (c 3) (c 6) (c 4) (kS (c 3) (c 6) x) 2 x) 1) (fun x : Int => SgM (c 9) (c 10) (c 11) (c 12) (c 13) (i 8).toInt x 5 (sfV (c 3) (c 6) (c 4) (kS (c 3) (c 6) x) 5 x) 1) (i 5).toInt) ∧ (LkR (zM (c 3) (c 6) (i 5).toInt) (nF (i 5).toInt (c 23) (c 24)) (fMn (i 5).toInt (c 23)) (bM (c 25)) (bM (c3 46)) (bM (c3 45)) (sdM (zM (c 3) (c 6) (i 5).toInt) (c 9) (c 10) (c 11) (c 13) (i 8).toInt) (i 22).toInt (i 5).toInt (c3 43) (c3 44) ((i3 42) : Int32)) ∧ (1 : Int32).toInt = ((i3 42) : Int32).toInt) from Or.inr ⟨by omega, hLt, hLk, by have h9 : (1 : Int32).toInt = 1 := (by decide +kernel); omega⟩)⟩
  · have f1 := (ti_eq (a := (i 22).toInt) (b := (-9)) rfl (by decide +kernel)).mp c1
    refine lv_bipush (v := (-5)) hx hb dX12_light_9 (by decide +kernel) ?_
    exact rw_iret (i, q, c, d) hx hb hr hlocks hS (hK.sub (tys' := []) [] rfl) hP hD dX12_light_11 ⟨trivial, hI, fr_w hfi (by decide +kernel), fr_w hfc (by decide +kernel), (show ((i 22).toInt = -9 ∧ ((-5) : Int32).toInt = -5) ∨ (¬ (i 22).toInt = -9 ∧ (LkK (c 3) (c 6) (i 5).toInt (c 45) (c 46) (c 47) (c 48) (c 49) (fun x : Int => SgM (c 9) (c 10) (c 11) (c 12) (c 13) (i 8).toInt x 2 (sfV (c 3) (c 6) (c 4) (kS (c 3) (c 6) x) 2 x) 1) (fun x : Int => SgM (c 9) (c 10) (c 11) (c 12) (c 13) (i 8).toInt x 5 (sfV (c 3) (c 6) (c 4) (kS (c 3) (c 6) x) 5 x) 1) (i 5).toInt) ∧ (LkR (zM (c 3) (c 6) (i 5).toInt) (nF (i 5).toInt (c 23) (c 24)) (fMn (i 5).toInt (c 23)) (bM (c 25)) (bM (c 46)) (bM (c 45)) (sdM (zM (c 3) (c 6) (i 5).toInt) (c 9) (c 10) (c 11) (c 13) (i 8).toInt) (i 22).toInt (i 5).toInt (c 43) (c 44) ((i 42) : Int32)) ∧ ((-5) : Int32).toInt = ((i 42) : Int32).toInt) from Or.inl ⟨by omega, by decide⟩)⟩

