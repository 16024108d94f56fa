def wm_X11_sentence_e : List Cond := .code yX11_sentence cX11_sentence 3 (some .int) :: ((([.fieldLink RX11 21 "TalePlay" "book" "LTalePlay$Book;", .fieldLink RX11 168 "TalePlay$Book" "total" "I", .methodLink RX11 91 yX11_isBelow, .static yX11_isBelow, .initialized RX11, .code yX11_isBelow cX11_isBelow 2 (some .boolean), .methodLink RX11 200 yX1_part, .instanceMethod yX1_part, .selects RX1 yX1_part yX1_part, .initialized RX1, .code yX1_part cX1_part 3 (some .int), .fieldLink RX1 24 "TalePlay$Book" "said" "[Z", .code yX11_oneIf cX11_oneIf 1 (some .int), .static yX11_oneIf, .fieldLink RX1 9 "TalePlay$Book" "forms" "[I", .fieldLink RX1 15 "TalePlay$Book" "as" "[I"] : List Cond) ++ ([.fieldLink RX1 18 "TalePlay$Book" "bs" "[I", .fieldLink RX1 21 "TalePlay$Book" "cs" "[I"] : List Cond)) ++ wsX110 ++ wsX10)
set_option maxRecDepth 20000 in
theorem gm_X11_sentence_e_X11_isBelow_91 : GoodIn wm_X11_sentence_e (va_wsS RX11 91 yX11_isBelow wm_X11_isBelow) := goodIn_w (List.forall_mem_append.mpr ⟨List.forall_mem_cons.mpr ⟨List.mem_cons_of_mem _ (List.mem_append_left _ (List.mem_append_left _ (List.mem_append_left _ (List.mem_of_getElem? (i := 2) rfl)))), List.forall_mem_cons.mpr ⟨List.mem_cons_of_mem _ (List.mem_append_left _ (List.mem_append_left _ (List.mem_append_left _ (List.mem_of_getElem? (i := 3) rfl)))), List.forall_mem_cons.mpr ⟨List.mem_cons_of_mem _ (List.mem_append_left _ (List.mem_append_left _ (List.mem_append_left _ (List.mem_of_getElem? (i := 4) rfl)))), (fun _ h => absurd h List.not_mem_nil)⟩⟩⟩, List.forall_mem_cons.mpr ⟨List.mem_cons_of_mem _ (List.mem_append_left _ (List.mem_append_left _ (List.mem_append_left _ (List.mem_of_getElem? (i := 5) rfl)))), (fun _ h => absurd h List.not_mem_nil)⟩⟩) (by decide +kernel)
set_option maxRecDepth 20000 in
theorem gm_X11_sentence_e_X1_part_e_200 : GoodIn wm_X11_sentence_e (wsV RX11 200 RX1 yX1_part wm_X1_part_e) := goodIn_w (List.forall_mem_append.mpr ⟨List.forall_mem_cons.mpr ⟨List.mem_cons_of_mem _ (List.mem_append_left _ (List.mem_append_left _ (List.mem_append_left _ (List.mem_of_getElem? (i := 6) rfl)))), List.forall_mem_cons.mpr ⟨List.mem_cons_of_mem _ (List.mem_append_left _ (List.mem_append_left _ (List.mem_append_left _ (List.mem_of_getElem? (i := 7) rfl)))), List.forall_mem_cons.mpr ⟨List.mem_cons_of_mem _ (List.mem_append_left _ (List.mem_append_left _ (List.mem_append_left _ (List.mem_of_getElem? (i := 8) rfl)))), List.forall_mem_cons.mpr ⟨List.mem_cons_of_mem _ (List.mem_append_left _ (List.mem_append_left _ (List.mem_append_left _ (List.mem_of_getElem? (i := 9) rfl)))), (fun _ h => absurd h List.not_mem_nil)⟩⟩⟩⟩, List.forall_mem_cons.mpr ⟨List.mem_cons_of_mem _ (List.mem_append_left _ (List.mem_append_left _ (List.mem_append_left _ (List.mem_of_getElem? (i := 10) rfl)))), List.forall_mem_append.mpr ⟨List.forall_mem_cons.mpr ⟨List.mem_cons_of_mem _ (List.mem_append_left _ (List.mem_append_left _ (List.mem_append_left _ (List.mem_of_getElem? (i := 11) rfl)))), List.forall_mem_cons.mpr ⟨List.mem_cons_of_mem _ (List.mem_append_left _ (List.mem_append_left _ (List.mem_append_left _ (List.mem_of_getElem? (i := 12) rfl)))), List.forall_mem_cons.mpr ⟨List.mem_cons_of_mem _ (List.mem_append_left _ (List.mem_append_left _ (List.mem_append_left _ (List.mem_of_getElem? (i := 4) rfl)))), List.forall_mem_cons.mpr ⟨List.mem_cons_of_mem _ (List.mem_append_left _ (List.mem_append_left _ (List.mem_append_left _ (List.mem_of_getElem? (i := 13) rfl)))), List.forall_mem_cons.mpr ⟨List.mem_cons_of_mem _ (List.mem_append_left _ (List.mem_append_left _ (List.mem_append_left _ (List.mem_of_getElem? (i := 14) rfl)))), List.forall_mem_cons.mpr ⟨List.mem_cons_of_mem _ (List.mem_append_left _ (List.mem_append_left _ (List.mem_append_left _ (List.mem_of_getElem? (i := 15) rfl)))), List.forall_mem_cons.mpr ⟨List.mem_cons_of_mem _ (List.mem_append_left _ (List.mem_append_left _ (List.mem_append_right _ (List.mem_of_getElem? (i := 0) rfl)))), List.forall_mem_cons.mpr ⟨List.mem_cons_of_mem _ (List.mem_append_left _ (List.mem_append_left _ (List.mem_append_right _ (List.mem_of_getElem? (i := 1) rfl)))), (fun _ h => absurd h List.not_mem_nil)⟩⟩⟩⟩⟩⟩⟩⟩, (fun _ h => List.mem_cons_of_mem _ (List.mem_append_right _ h))⟩⟩⟩) (by decide +kernel)
set_option maxHeartbeats 4000000 in
set_option maxRecDepth 100000 in
theorem x_X11_sentence_e (l : Launch) (D : va_G) (sz : Nat) (sk : Value) (a : Nat → Nat) (t : Nat → ClassId) (i : Nat → Int32) (q : Int64) (c : Nat → Nat → Int32) (d : Nat → Nat → Int64) (s1 : Int32) (w : Int32) (hI : xInv i c) : Met l yX11_sentence wm_X11_sentence_e ({ frames := 2, cells := 0, slots := 0, locals := 42 }) (va_Pc [.ref (a 100), .int s1, .int w] (yA (a 186) D sz (xwT sk a t i q c d) (xtT t))) (va_Qi (fun (r : Int32) (_ : Unit) => (True ∧ (SeR (c 113) (c 114) (c 115) (c 116) (c 117) (i 124).toInt s1.toInt w.toInt r.toInt))) oA (ro sz)) 0 0 (ro sz) := by
  refine Met.ofW (cc := cX11_sentence) (maxL := 3) (ret := (some .int)) (by decide +kernel) rfl ?_
  intro p e s m args below meth cd s₁ B hml hv
  obtain ⟨rfl, ⟨hsz, hP, hK⟩, hN, hZ⟩ := hv
  have hx := B.exec
  have hb := B.bytes
  have hr := B.returns
  have hts := atoms_spec (ws := wm_X11_sentence_e) B.pre
  have hown : s.vm.findClass RX11 = some m.cls := findClass_of_methodNamed B.named
  have hlocks := B.notSynchronized
  subst hsz
  have hA : ∀ q : Nat, s.heap.size ≤ q → ro s.heap.size q := fun _ h => h
  have hS : va_S (ro s.heap.size) s.heap s.heap [] := va_S.rf
  have hl := lv_entry ([.ref (a 100), .int s1, .int w]) (n := 3) (Nat.le_of_ble_eq_true rfl)
  rw [lg_entry_eq]
  generalize (lg_sl ([.ref (a 100), .int s1, .int w]) ++ List.replicate (3 - (lg_sl ([.ref (a 100), .int s1, .int w])).length) Slot.unset).toArray = ls at hl ⊢
  have hl : lv_has ls 3 [(0, .ref (a 100)), (1, .int s1), (2, .int w)] := hl
  have rb124_i : 0 ≤ (i 124).toInt ∧ (i 124).toInt ≤ 200 := hI.1 124
  refine lv_iload_n hx hb dX11_sentence_0 rfl (lv_at hl 1 rfl) ?_
  refine lv_aload_n hx hb dX11_sentence_1 rfl (lv_at hl 0 rfl) ?_
  refine xgT_X_book hx hb hts (fun _ h => List.mem_cons_of_mem _ (List.mem_append_left _ (List.mem_append_right _ h))) hown hK hP (hts (.fieldLink RX11 21 "TalePlay" "book" "LTalePlay$Book;") (List.mem_cons_of_mem _ (List.mem_append_left _ (List.mem_append_left _ (List.mem_append_left _ (List.mem_of_getElem? (i := 0) rfl)))))) dX11_sentence_2 ?_
  refine xgT_B_total (v := (i 124)) rfl hx hb hts (fun _ h => List.mem_cons_of_mem _ (List.mem_append_right _ h)) hown hK hP (hts (.fieldLink RX11 168 "TalePlay$Book" "total" "I") (List.mem_cons_of_mem _ (List.mem_append_left _ (List.mem_append_left _ (List.mem_append_left _ (List.mem_of_getElem? (i := 1) rfl)))))) dX11_sentence_5 ?_
  have hPc := hP.sub (ws' := []) [] rfl
  have hKc := hK.sub (tys' := []) [] rfl
  refine ro_calli (va_runS (As := [.int s1, .int (i 124)]) (rest := []) ⟨hx, hb, hml, hown, hts⟩ (c_X11_isBelow l D s.heap.size s1 (i 124) s1.toInt ((i 124).toInt) rfl rfl) (va_cwS 2 hts gm_X11_sentence_e_X11_isBelow_91 rfl rfl rfl (by decide +kernel) ⟨Nat.le_of_ble_eq_true rfl, Nat.le_of_ble_eq_true rfl⟩) (pA_S hKc hPc) rfl rfl hl.1 rfl (lv_room (Nat.le_of_ble_eq_true rfl)) dX11_sentence_8 ⟨Nat.le_of_ble_eq_true rfl, Nat.le_of_ble_eq_true rfl⟩) hS hA hP (fun r2 u2 H locs hw2 hP hS => ?_)
  have hw2 : r2 = if (0 ≤ s1.toInt ∧ s1.toInt < ((i 124).toInt)) then 1 else 0 := hw2
  refine lv_if_eq (tgt := 22) hx hb dX11_sentence_11 (by decide +kernel) (fun c3 => ?_) (fun c3 => ?_)
  · have f3 := fl_f hw2 c3
    refine lv_iconst (v := (-1)) hx hb dX11_sentence_22 (by decide +kernel) ?_
    exact ro_iret hx hb hr hlocks hS dX11_sentence_23 ⟨trivial, (show SeR (c 113) (c 114) (c 115) (c 116) (c 117) (i 124).toInt s1.toInt w.toInt ((-1) : Int32).toInt from Or.inl ⟨by omega, by decide⟩)⟩
  · have f3 := fl_t hw2 c3
    refine lv_iload_n hx hb dX11_sentence_14 rfl (lv_at hl 2 rfl) ?_
    refine lv_iconst (v := 5) hx hb dX11_sentence_15 (by decide +kernel) ?_
    have hPc := hP.sub (ws' := []) [] rfl
    have hKc := hK.sub (tys' := []) [] rfl
    refine ro_calli (va_runS (As := [.int w, .int 5]) (rest := []) ⟨hx, hb, hml, hown, hts⟩ (c_X11_isBelow l D H.size w 5 w.toInt 5 rfl (by decide +kernel)) (va_cwS 2 hts gm_X11_sentence_e_X11_isBelow_91 rfl rfl rfl (by decide +kernel) ⟨Nat.le_of_ble_eq_true rfl, Nat.le_of_ble_eq_true rfl⟩) (pA_S hKc hPc) rfl rfl hl.1 rfl (lv_room (Nat.le_of_ble_eq_true rfl)) dX11_sentence_16 ⟨Nat.le_of_ble_eq_true rfl, Nat.le_of_ble_eq_true rfl⟩) hS hA hP (fun r5 u5 H locs hw5 hP hS => ?_)
    have hw5 : r5 = if (0 ≤ w.toInt ∧ w.toInt < 5) then 1 else 0 := hw5
    refine lv_if_ne (tgt := 24) hx hb dX11_sentence_19 (by decide +kernel) (fun c6 => ?_) (fun c6 => ?_)
    · have f6 := fl_t hw5 c6
      refine lv_aload_n hx hb dX11_sentence_24 rfl (lv_at hl 0 rfl) ?_
      refine xgT_X_book hx hb hts (fun _ h => List.mem_cons_of_mem _ (List.mem_append_left _ (List.mem_append_right _ h))) hown hK hP (hts (.fieldLink RX11 21 "TalePlay" "book" "LTalePlay$Book;") (List.mem_cons_of_mem _ (List.mem_append_left _ (List.mem_append_left _ (List.mem_append_left _ (List.mem_of_getElem? (i := 0) rfl)))))) dX11_sentence_25 ?_
      refine lv_iload_n hx hb dX11_sentence_28 rfl (lv_at hl 1 rfl) ?_
      refine lv_iload_n hx hb dX11_sentence_29 rfl (lv_at hl 2 rfl) ?_
      refine ro_calli (va_runV (As := [.int s1, .int w]) (rest := []) ⟨hx, hb, hml, hown, hts⟩ (x_X1_part_e l D H.size .null a t i q c d s1 w hI (show 0 ≤ s1.toInt ∧ s1.toInt ≤ 199 from by omega)) (cwV 2 hts gm_X11_sentence_e_X1_part_e_200 rfl rfl rfl (by decide +kernel) ⟨Nat.le_of_ble_eq_true rfl, Nat.le_of_ble_eq_true rfl⟩) (yA_V hN (xZ_k hZ hS hA) (xkT_B hK) (xuT_B (sk := sk) hP) (ci := 1) (q0 := 6) rfl rfl) rfl rfl hl.1 rfl (lv_room (Nat.le_of_ble_eq_true rfl)) dX11_sentence_30 ⟨Nat.le_of_ble_eq_true rfl, Nat.le_of_ble_eq_true rfl⟩) hS hA hP (fun r7 u7 H locs hw7 hP hS => ?_)
      have hw7 : (True ∧ (PaR (c 113) (c 114) (c 115) (c 116) (c 117) s1.toNatClampNeg w.toInt r7.toInt)) := hw7
      obtain ⟨hw7, hr7_0⟩ := hw7
      have hr7_0 : PaR (c 113) (c 114) (c 115) (c 116) (c 117) s1.toNatClampNeg w.toInt r7.toInt := hr7_0
      exact ro_iret hx hb hr hlocks hS dX11_sentence_33 ⟨trivial, (show SeR (c 113) (c 114) (c 115) (c 116) (c 117) (i 124).toInt s1.toInt w.toInt r7.toInt from Or.inr ⟨by omega, hr7_0⟩)⟩
    · have f6 := fl_f hw5 c6
      refine lv_iconst (v := (-1)) hx hb dX11_sentence_22 (by decide +kernel) ?_
      exact ro_iret hx hb hr hlocks hS dX11_sentence_23 ⟨trivial, (show SeR (c 113) (c 114) (c 115) (c 116) (c 117) (i 124).toInt s1.toInt w.toInt ((-1) : Int32).toInt from Or.inl ⟨by omega, by decide⟩)⟩

set_option maxHeartbeats 4000000 in
set_option maxRecDepth 100000 in
theorem s_X12_sentence_e (l : Launch) (D : va_G) (sz : Nat) (o : Nat) (a : Nat → Nat) (t : Nat → ClassId) (i : Nat → Int32) (q : Int64) (c : Nat → Nat → Int32) (d : Nat → Nat → Int64) (s1 : Int32) (w : Int32) (hI : mInv i c) : Met l yX12_sentence wm_X12_sentence ({ frames := 1, cells := 0, slots := 0, locals := 25 }) (va_Pc [.ref o, .int s1, .int w] (pA D sz (mW o a t i q c d) (mT t))) (va_Qi (fun (r : Int32) (_ : Unit) => (True ∧ (SeR (c 9) (c 10) (c 11) (c 12) (c 13) (i 8).toInt s1.toInt w.toInt r.toInt))) oA (ro sz)) 0 0 (ro sz) := by
  refine Met.ofW (cc := cX12_sentence) (maxL := 3) (ret := (some .int)) (by decide +kernel) rfl ?_
  intro p e s m args below meth cd s₁ B hml hv
  obtain ⟨rfl, hsz, hP, hK⟩ := hv
  have hx := B.exec
  have hb := B.bytes
  have hr := B.returns
  have hts := atoms_spec (ws := wm_X12_sentence) B.pre
  have hown : s.vm.findClass RX12 = some m.cls := findClass_of_methodNamed B.named
  have hlocks := B.notSynchronized
  subst hsz
  have hA : ∀ q : Nat, s.heap.size ≤ q → ro s.heap.size q := fun _ h => h
  have hS : va_S (ro s.heap.size) s.heap s.heap [] := va_S.rf
  have hl := lv_entry ([.ref o, .int s1, .int w]) (n := 3) (Nat.le_of_ble_eq_true rfl)
  rw [lg_entry_eq]
  generalize (lg_sl ([.ref o, .int s1, .int w]) ++ List.replicate (3 - (lg_sl ([.ref o, .int s1, .int w])).length) Slot.unset).toArray = ls at hl ⊢
  have hl : lv_has ls 3 [(0, .ref o), (1, .int s1), (2, .int w)] := hl
  have rb8_i : 0 ≤ (i 8).toInt ∧ (i 8).toInt ≤ 200 := hI.1 8
  refine lv_iload_n hx hb dX12_sentence_0 rfl (lv_at hl 1 rfl) ?_
  refine lv_i2l (v := s1.toInt64) hx hb dX12_sentence_1 rfl ?_
  refine lv_lconst (v := 0) hx hb dX12_sentence_2 (by decide +kernel) ?_
  refine lv_aload_n hx hb dX12_sentence_3 rfl (lv_at hl 0 rfl) ?_
  refine mget_8 (v := (i 8)) rfl hx hb hts (fun _ h => List.mem_cons_of_mem _ (List.mem_append_right _ h)) hown hK hP (hts (.fieldLink RX12 202 "TalePlayModel" "sentences" "I") (List.mem_cons_of_mem _ (List.mem_append_left _ (List.mem_of_getElem? (i := 0) rfl)))) dX12_sentence_4 ?_
  refine lv_iconst (v := 1) hx hb dX12_sentence_7 (by decide +kernel) ?_
  refine lv_isub hx hb dX12_sentence_8 ?_
  refine lv_topi (fun x1 ex1 => ?_)
  have tx1 := ti_sub (a := (i 8).toInt) (b := 1) ex1 rfl (by decide +kernel) (by omega) (by omega)
  refine lv_i2l (v := x1.toInt64) hx hb dX12_sentence_9 rfl ?_
  have hPc := hP.sub (ws' := []) [] rfl
  have hKc := hK.sub (tys' := []) [] rfl
  refine ro_calli (va_runS (As := [.long s1.toInt64, .long 0, .long x1.toInt64]) (rest := []) ⟨hx, hb, hml, hown, hts⟩ (c_X12_in l D s.heap.size s1.toInt64 0 x1.toInt64 s1.toInt 0 ((i 8).toInt - 1) ((Int32.toInt_toInt64 s1).trans rfl) (by decide +kernel) ((Int32.toInt_toInt64 x1).trans tx1)) (va_cwS 3 hts gm_X12_sentence_X12_in rfl rfl rfl (by decide +kernel) ⟨Nat.le_of_ble_eq_true rfl, Nat.le_of_ble_eq_true rfl⟩) (pA_S hKc hPc) rfl rfl hl.1 rfl (lv_room (Nat.le_of_ble_eq_true rfl)) dX12_sentence_10 ⟨Nat.le_of_ble_eq_true rfl, Nat.le_of_ble_eq_true rfl⟩) hS hA hP (fun r2 u2 H locs hw2 hP hS => ?_)
  have hw2 : r2 = if (0 ≤ s1.toInt ∧ s1.toInt ≤ ((i 8).toInt - 1)) then 1 else 0 := hw2
  refine lv_if_eq (tgt := 28) hx hb dX12_sentence_13 (by decide +kernel) (fun c3 => ?_) (fun c3 => ?_)
  · have f3 := fl_f hw2 c3
    refine lv_iconst (v := (-1)) hx hb dX12_sentence_28 (by decide +kernel) ?_
    exact ro_iret hx hb hr hlocks hS dX12_sentence_29 ⟨trivial, (show SeR (c 9) (c 10) (c 11) (c 12) (c 13) (i 8).toInt s1.toInt w.toInt ((-1) : Int32).toInt from Or.inl ⟨by omega, by decide⟩)⟩
  · have f3 := fl_t hw2 c3
    refine lv_iload_n hx hb dX12_sentence_16 rfl (lv_at hl 2 rfl) ?_
    refine lv_i2l (v := w.toInt64) hx hb dX12_sentence_17 rfl ?_
    refine lv_lconst (v := 0) hx hb dX12_sentence_18 (by decide +kernel) ?_
    refine lv_ldc2 (v := 4) hx hb hown (hts (.constantLong RX12 252 (4)) (List.mem_cons_of_mem _ (List.mem_append_left _ (List.mem_of_getElem? (i := 5) rfl)))) dX12_sentence_19 ?_
    have hPc := hP.sub (ws' := []) [] rfl
    have hKc := hK.sub (tys' := []) [] rfl
    refine ro_calli (va_runS (As := [.long w.toInt64, .long 0, .long 4]) (rest := []) ⟨hx, hb, hml, hown, hts⟩ (c_X12_in l D H.size w.toInt64 0 4 w.toInt 0 4 ((Int32.toInt_toInt64 w).trans rfl) (by decide +kernel) (by decide +kernel)) (va_cwS 3 hts gm_X12_sentence_X12_in rfl rfl rfl (by decide +kernel) ⟨Nat.le_of_ble_eq_true rfl, Nat.le_of_ble_eq_true rfl⟩) (pA_S hKc hPc) rfl rfl hl.1 rfl (lv_room (Nat.le_of_ble_eq_true rfl)) dX12_sentence_22 ⟨Nat.le_of_ble_eq_true rfl, Nat.le_of_ble_eq_true rfl⟩) hS hA hP (fun r4 u4 H locs hw4 hP hS => ?_)
    have hw4 : r4 = if (0 ≤ w.toInt ∧ w.toInt ≤ 4) then 1 else 0 := hw4
    refine lv_if_ne (tgt := 30) hx hb dX12_sentence_25 (by decide +kernel) (fun c5 => ?_) (fun c5 => ?_)
    · have f5 := fl_t hw4 c5
      refine lv_iload_n hx hb dX12_sentence_30 rfl (lv_at hl 2 rfl) ?_
      refine lv_if_ne (tgt := 43) hx hb dX12_sentence_31 (by decide +kernel) (fun c6 => ?_) (fun c6 => ?_)
      · have f6 := mt (ti_eq (a := w.toInt) (b := 0) rfl (by decide +kernel)).mpr c6
        refine lv_iload_n hx hb dX12_sentence_43 rfl (lv_at hl 2 rfl) ?_
        refine lv_iconst (v := 1) hx hb dX12_sentence_44 (by decide +kernel) ?_
        refine lv_icmp_ne (tgt := 57) hx hb dX12_sentence_45 (by decide +kernel) (fun c7 => ?_) (fun c7 => ?_)
        · have f7 := mt (ti_eq (a := w.toInt) (b := 1) rfl (by decide +kernel)).mpr c7
          refine lv_iload_n hx hb dX12_sentence_57 rfl (lv_at hl 2 rfl) ?_
          refine lv_iconst (v := 2) hx hb dX12_sentence_58 (by decide +kernel) ?_
          refine lv_icmp_ne (tgt := 71) hx hb dX12_sentence_59 (by decide +kernel) (fun c8 => ?_) (fun c8 => ?_)
          · have f8 := mt (ti_eq (a := w.toInt) (b := 2) rfl (by decide +kernel)).mpr c8
            refine lv_iload_n hx hb dX12_sentence_71 rfl (lv_at hl 2 rfl) ?_
            refine lv_iconst (v := 3) hx hb dX12_sentence_72 (by decide +kernel) ?_
            refine lv_icmp_ne (tgt := 85) hx hb dX12_sentence_73 (by decide +kernel) (fun c9 => ?_) (fun c9 => ?_)
            · have f9 := mt (ti_eq (a := w.toInt) (b := 3) rfl (by decide +kernel)).mpr c9
              refine lv_aload_n hx hb dX12_sentence_85 rfl (lv_at hl 0 rfl) ?_
              refine mget_13 hx hb hts (fun _ h => List.mem_cons_of_mem _ (List.mem_append_right _ h)) hown hK hP (hts (.fieldLink RX12 37 "TalePlayModel" "isSaid" "[Z") (List.mem_cons_of_mem _ (List.mem_append_left _ (List.mem_of_getElem? (i := 6) rfl)))) dX12_sentence_86 ?_
              refine lv_iload_n hx hb dX12_sentence_89 rfl (lv_at hl 1 rfl) ?_
              refine mld_13 hx hb hK hP (vp_in_iff.mpr (by have h9 : s1.toInt = s1.toInt := rfl; omega)) dX12_sentence_90 (fun x10 ex10 => ?_)
              have rx10 : 0 ≤ x10.toInt ∧ x10.toInt ≤ 1 := by rw [ex10]; exact hI.2 13 _
              have gx10 : (c 13 (s1 : Int32).toNatClampNeg).toInt = x10.toInt := by rw [ex10]
              refine lv_if_eq (tgt := 98) hx hb dX12_sentence_91 (by decide +kernel) (fun c11 => ?_) (fun c11 => ?_)
              · have f11 := (ti_eq (a := x10.toInt) (b := 0) rfl (by decide +kernel)).mp c11
                refine lv_iconst (v := 0) hx hb dX12_sentence_98 (by decide +kernel) ?_
                exact ro_iret hx hb hr hlocks hS dX12_sentence_99 ⟨trivial, (show SeR (c 9) (c 10) (c 11) (c 12) (c 13) (i 8).toInt s1.toInt w.toInt (0 : Int32).toInt from Or.inr ⟨by omega, by rw [show s1.toInt.toNat = s1.toNatClampNeg from rfl]; unfold PaR; have h9 : (0 : Int32).toInt = 0 := (by decide +kernel); omega⟩)⟩
              · have f11 := mt (ti_eq (a := x10.toInt) (b := 0) rfl (by decide +kernel)).mpr c11
                refine lv_iconst (v := 1) hx hb dX12_sentence_94 (by decide +kernel) ?_
                refine lv_goto (tgt := 99) hx hb dX12_sentence_95 (by decide +kernel) ?_
                exact ro_iret hx hb hr hlocks hS dX12_sentence_99 ⟨trivial, (show SeR (c 9) (c 10) (c 11) (c 12) (c 13) (i 8).toInt s1.toInt w.toInt (1 : Int32).toInt from Or.inr ⟨by omega, by rw [show s1.toInt.toNat = s1.toNatClampNeg from rfl]; unfold PaR; have h9 : (1 : Int32).toInt = 1 := (by decide +kernel); omega⟩)⟩
            · have f9 := (ti_eq (a := w.toInt) (b := 3) rfl (by decide +kernel)).mp c9
              refine lv_aload_n hx hb dX12_sentence_76 rfl (lv_at hl 0 rfl) ?_
              refine mget_12 hx hb hts (fun _ h => List.mem_cons_of_mem _ (List.mem_append_right _ h)) hown hK hP (hts (.fieldLink RX12 34 "TalePlayModel" "right" "[I") (List.mem_cons_of_mem _ (List.mem_append_left _ (List.mem_of_getElem? (i := 7) rfl)))) dX12_sentence_77 ?_
              refine lv_iload_n hx hb dX12_sentence_80 rfl (lv_at hl 1 rfl) ?_
              refine mld_12 hx hb hK hP (vp_in_iff.mpr (by have h9 : s1.toInt = s1.toInt := rfl; omega)) dX12_sentence_81 (fun x12 ex12 => ?_)
              have rx12 : 0 ≤ x12.toInt ∧ x12.toInt ≤ 9 := by rw [ex12]; exact hI.2 12 _
              have gx12 : (c 12 (s1 : Int32).toNatClampNeg).toInt = x12.toInt := by rw [ex12]
              refine lv_goto (tgt := 99) hx hb dX12_sentence_82 (by decide +kernel) ?_
              exact ro_iret hx hb hr hlocks hS dX12_sentence_99 ⟨trivial, (show SeR (c 9) (c 10) (c 11) (c 12) (c 13) (i 8).toInt s1.toInt w.toInt x12.toInt from Or.inr ⟨by omega, by rw [show s1.toInt.toNat = s1.toNatClampNeg from rfl]; unfold PaR; omega⟩)⟩
          · have f8 := (ti_eq (a := w.toInt) (b := 2) rfl (by decide +kernel)).mp c8
            refine lv_aload_n hx hb dX12_sentence_62 rfl (lv_at hl 0 rfl) ?_
            refine mget_11 hx hb hts (fun _ h => List.mem_cons_of_mem _ (List.mem_append_right _ h)) hown hK hP (hts (.fieldLink RX12 31 "TalePlayModel" "middle" "[I") (List.mem_cons_of_mem _ (List.mem_append_left _ (List.mem_of_getElem? (i := 8) rfl)))) dX12_sentence_63 ?_
            refine lv_iload_n hx hb dX12_sentence_66 rfl (lv_at hl 1 rfl) ?_
            refine mld_11 hx hb hK hP (vp_in_iff.mpr (by have h9 : s1.toInt = s1.toInt := rfl; omega)) dX12_sentence_67 (fun x13 ex13 => ?_)
            have rx13 : 0 ≤ x13.toInt ∧ x13.toInt ≤ 29 := by rw [ex13]; exact hI.2 11 _
            have gx13 : (c 11 (s1 : Int32).toNatClampNeg).toInt = x13.toInt := by rw [ex13]
            refine lv_goto (tgt := 99) hx hb dX12_sentence_68 (by decide +kernel) ?_
            exact ro_iret hx hb hr hlocks hS dX12_sentence_99 ⟨trivial, (show SeR (c 9) (c 10) (c 11) (c 12) (c 13) (i 8).toInt s1.toInt w.toInt x13.toInt from Or.inr ⟨by omega, by rw [show s1.toInt.toNat = s1.toNatClampNeg from rfl]; unfold PaR; omega⟩)⟩
        · have f7 := (ti_eq (a := w.toInt) (b := 1) rfl (by decide +kernel)).mp c7
          refine lv_aload_n hx hb dX12_sentence_48 rfl (lv_at hl 0 rfl) ?_
          refine mget_10 hx hb hts (fun _ h => List.mem_cons_of_mem _ (List.mem_append_right _ h)) hown hK hP (hts (.fieldLink RX12 28 "TalePlayModel" "left" "[I") (List.mem_cons_of_mem _ (List.mem_append_left _ (List.mem_of_getElem? (i := 9) rfl)))) dX12_sentence_49 ?_
          refine lv_iload_n hx hb dX12_sentence_52 rfl (lv_at hl 1 rfl) ?_
          refine mld_10 hx hb hK hP (vp_in_iff.mpr (by have h9 : s1.toInt = s1.toInt := rfl; omega)) dX12_sentence_53 (fun x14 ex14 => ?_)
          have rx14 : 0 ≤ x14.toInt ∧ x14.toInt ≤ 29 := by rw [ex14]; exact hI.2 10 _
          have gx14 : (c 10 (s1 : Int32).toNatClampNeg).toInt = x14.toInt := by rw [ex14]
          refine lv_goto (tgt := 99) hx hb dX12_sentence_54 (by decide +kernel) ?_
          exact ro_iret hx hb hr hlocks hS dX12_sentence_99 ⟨trivial, (show SeR (c 9) (c 10) (c 11) (c 12) (c 13) (i 8).toInt s1.toInt w.toInt x14.toInt from Or.inr ⟨by omega, by rw [show s1.toInt.toNat = s1.toNatClampNeg from rfl]; unfold PaR; omega⟩)⟩
      · have f6 := (ti_eq (a := w.toInt) (b := 0) rfl (by decide +kernel)).mp c6
        refine lv_aload_n hx hb dX12_sentence_34 rfl (lv_at hl 0 rfl) ?_
        refine mget_9 hx hb hts (fun _ h => List.mem_cons_of_mem _ (List.mem_append_right _ h)) hown hK hP (hts (.fieldLink RX12 25 "TalePlayModel" "form" "[I") (List.mem_cons_of_mem _ (List.mem_append_left _ (List.mem_of_getElem? (i := 10) rfl)))) dX12_sentence_35 ?_
        refine lv_iload_n hx hb dX12_sentence_38 rfl (lv_at hl 1 rfl) ?_
        refine mld_9 hx hb hK hP (vp_in_iff.mpr (by have h9 : s1.toInt = s1.toInt := rfl; omega)) dX12_sentence_39 (fun x15 ex15 => ?_)
        have rx15 : 0 ≤ x15.toInt ∧ x15.toInt ≤ 7 := by rw [ex15]; exact hI.2 9 _
        have gx15 : (c 9 (s1 : Int32).toNatClampNeg).toInt = x15.toInt := by rw [ex15]
        refine lv_goto (tgt := 99) hx hb dX12_sentence_40 (by decide +kernel) ?_
        exact ro_iret hx hb hr hlocks hS dX12_sentence_99 ⟨trivial, (show SeR (c 9) (c 10) (c 11) (c 12) (c 13) (i 8).toInt s1.toInt w.toInt x15.toInt from Or.inr ⟨by omega, by rw [show s1.toInt.toNat = s1.toNatClampNeg from rfl]; unfold PaR; omega⟩)⟩
    · have f5 := fl_f hw4 c5
      refine lv_iconst (v := (-1)) hx hb dX12_sentence_28 (by decide +kernel) ?_
      exact ro_iret hx hb hr hlocks hS dX12_sentence_29 ⟨trivial, (show SeR (c 9) (c 10) (c 11) (c 12) (c 13) (i 8).toInt s1.toInt w.toInt ((-1) : Int32).toInt from Or.inl ⟨by omega, by decide⟩)⟩

