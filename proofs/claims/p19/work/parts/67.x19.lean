def wm_X11_copy : List Cond := .code yX11_copy cX11_copy 7 (some .int) :: ((([.fieldLink RX11 10 "TalePlay" "world" "LTalePlay$World;", .methodLink RX11 109 yX10_hasObject, .instanceMethod yX10_hasObject, .selects RX10 yX10_hasObject yX10_hasObject, .initialized RX10, .code yX10_hasObject cX10_hasObject 2 (some .boolean), .fieldLink RX10 37 "TalePlay$World" "objects" "I", .methodLink RX11 91 yX11_isBelow, .static yX11_isBelow, .initialized RX11, .code yX11_isBelow cX11_isBelow 2 (some .boolean), .fieldLink RX11 53 "TalePlay" "lines" "LTalePlay$Lines;", .methodLink RX11 319 yX4_isOther, .instanceMethod yX4_isOther, .selects RX4 yX4_isOther yX4_isOther, .initialized RX4] : List Cond) ++ (([.code yX4_isOther cX4_isOther 3 (some .boolean), .fieldLink RX4 9 "TalePlay$Lines" "sorts" "[I", .methodLink RX11 128 yX11_answerFinding, .instanceMethod yX11_answerFinding, .selects RX11 yX11_answerFinding yX11_answerFinding, .code yX11_answerFinding cX11_answerFinding 2 (some .int), .fieldLink RX11 72 "TalePlay" "latestFinding" "I", .fieldLink RX11 68 "TalePlay" "findingCounts" "[I", .fieldLink RX11 322 "TalePlay$Lines" "sorts" "[I", .methodLink RX11 325 yX4_hasRun, .instanceMethod yX4_hasRun, .selects RX4 yX4_hasRun yX4_hasRun, .code yX4_hasRun cX4_hasRun 4 (some .boolean), .fieldLink RX4 15 "TalePlay$Lines" "lengths" "[I", .fieldLink RX11 311 "TalePlay$Lines" "items" "[J", .methodLink RX11 328 arraycopyName] : List Cond) ++ ([.native arraycopyName, .static arraycopyName, .initialized "java/lang/System"] : List Cond))) ++ wsX110 ++ wsX100 ++ wsX40)
set_option maxRecDepth 20000 in
theorem gm_X11_copy_X10_hasObject_109 : GoodIn wm_X11_copy (wsV RX11 109 RX10 yX10_hasObject wm_X10_hasObject) := goodIn_w (List.forall_mem_append.mpr ⟨List.forall_mem_cons.mpr ⟨List.mem_cons_of_mem _ (List.mem_append_left _ (List.mem_append_left _ (List.mem_append_left _ (List.mem_append_left _ (List.mem_of_getElem? (i := 1) rfl))))), List.forall_mem_cons.mpr ⟨List.mem_cons_of_mem _ (List.mem_append_left _ (List.mem_append_left _ (List.mem_append_left _ (List.mem_append_left _ (List.mem_of_getElem? (i := 2) rfl))))), List.forall_mem_cons.mpr ⟨List.mem_cons_of_mem _ (List.mem_append_left _ (List.mem_append_left _ (List.mem_append_left _ (List.mem_append_left _ (List.mem_of_getElem? (i := 3) rfl))))), List.forall_mem_cons.mpr ⟨List.mem_cons_of_mem _ (List.mem_append_left _ (List.mem_append_left _ (List.mem_append_left _ (List.mem_append_left _ (List.mem_of_getElem? (i := 4) rfl))))), (fun _ h => absurd h List.not_mem_nil)⟩⟩⟩⟩, List.forall_mem_cons.mpr ⟨List.mem_cons_of_mem _ (List.mem_append_left _ (List.mem_append_left _ (List.mem_append_left _ (List.mem_append_left _ (List.mem_of_getElem? (i := 5) rfl))))), List.forall_mem_append.mpr ⟨List.forall_mem_cons.mpr ⟨List.mem_cons_of_mem _ (List.mem_append_left _ (List.mem_append_left _ (List.mem_append_left _ (List.mem_append_left _ (List.mem_of_getElem? (i := 6) rfl))))), (fun _ h => absurd h List.not_mem_nil)⟩, (fun _ h => List.mem_cons_of_mem _ (List.mem_append_left _ (List.mem_append_right _ h)))⟩⟩⟩) (by decide +kernel)
set_option maxRecDepth 20000 in
theorem gm_X11_copy_X11_isBelow_91 : GoodIn wm_X11_copy (va_wsS RX11 91 yX11_isBelow wm_X11_isBelow) := goodIn_w (List.forall_mem_append.mpr ⟨List.forall_mem_cons.mpr ⟨List.mem_cons_of_mem _ (List.mem_append_left _ (List.mem_append_left _ (List.mem_append_left _ (List.mem_append_left _ (List.mem_of_getElem? (i := 7) rfl))))), List.forall_mem_cons.mpr ⟨List.mem_cons_of_mem _ (List.mem_append_left _ (List.mem_append_left _ (List.mem_append_left _ (List.mem_append_left _ (List.mem_of_getElem? (i := 8) rfl))))), List.forall_mem_cons.mpr ⟨List.mem_cons_of_mem _ (List.mem_append_left _ (List.mem_append_left _ (List.mem_append_left _ (List.mem_append_left _ (List.mem_of_getElem? (i := 9) rfl))))), (fun _ h => absurd h List.not_mem_nil)⟩⟩⟩, List.forall_mem_cons.mpr ⟨List.mem_cons_of_mem _ (List.mem_append_left _ (List.mem_append_left _ (List.mem_append_left _ (List.mem_append_left _ (List.mem_of_getElem? (i := 10) rfl))))), (fun _ h => absurd h List.not_mem_nil)⟩⟩) (by decide +kernel)
set_option maxRecDepth 20000 in
theorem gm_X11_copy_X4_isOther_319 : GoodIn wm_X11_copy (wsV RX11 319 RX4 yX4_isOther wm_X4_isOther) := goodIn_w (List.forall_mem_append.mpr ⟨List.forall_mem_cons.mpr ⟨List.mem_cons_of_mem _ (List.mem_append_left _ (List.mem_append_left _ (List.mem_append_left _ (List.mem_append_left _ (List.mem_of_getElem? (i := 12) rfl))))), List.forall_mem_cons.mpr ⟨List.mem_cons_of_mem _ (List.mem_append_left _ (List.mem_append_left _ (List.mem_append_left _ (List.mem_append_left _ (List.mem_of_getElem? (i := 13) rfl))))), List.forall_mem_cons.mpr ⟨List.mem_cons_of_mem _ (List.mem_append_left _ (List.mem_append_left _ (List.mem_append_left _ (List.mem_append_left _ (List.mem_of_getElem? (i := 14) rfl))))), List.forall_mem_cons.mpr ⟨List.mem_cons_of_mem _ (List.mem_append_left _ (List.mem_append_left _ (List.mem_append_left _ (List.mem_append_left _ (List.mem_of_getElem? (i := 15) rfl))))), (fun _ h => absurd h List.not_mem_nil)⟩⟩⟩⟩, List.forall_mem_cons.mpr ⟨List.mem_cons_of_mem _ (List.mem_append_left _ (List.mem_append_left _ (List.mem_append_left _ (List.mem_append_right _ (List.mem_append_left _ (List.mem_of_getElem? (i := 0) rfl)))))), List.forall_mem_append.mpr ⟨List.forall_mem_cons.mpr ⟨List.mem_cons_of_mem _ (List.mem_append_left _ (List.mem_append_left _ (List.mem_append_left _ (List.mem_append_right _ (List.mem_append_left _ (List.mem_of_getElem? (i := 1) rfl)))))), (fun _ h => absurd h List.not_mem_nil)⟩, (fun _ h => List.mem_cons_of_mem _ (List.mem_append_right _ h))⟩⟩⟩) (by decide +kernel)
set_option maxRecDepth 20000 in
theorem gm_X11_copy_X11_answerFinding_128 : GoodIn wm_X11_copy (wsV RX11 128 RX11 yX11_answerFinding wm_X11_answerFinding) := goodIn_w (List.forall_mem_append.mpr ⟨List.forall_mem_cons.mpr ⟨List.mem_cons_of_mem _ (List.mem_append_left _ (List.mem_append_left _ (List.mem_append_left _ (List.mem_append_right _ (List.mem_append_left _ (List.mem_of_getElem? (i := 2) rfl)))))), List.forall_mem_cons.mpr ⟨List.mem_cons_of_mem _ (List.mem_append_left _ (List.mem_append_left _ (List.mem_append_left _ (List.mem_append_right _ (List.mem_append_left _ (List.mem_of_getElem? (i := 3) rfl)))))), List.forall_mem_cons.mpr ⟨List.mem_cons_of_mem _ (List.mem_append_left _ (List.mem_append_left _ (List.mem_append_left _ (List.mem_append_right _ (List.mem_append_left _ (List.mem_of_getElem? (i := 4) rfl)))))), List.forall_mem_cons.mpr ⟨List.mem_cons_of_mem _ (List.mem_append_left _ (List.mem_append_left _ (List.mem_append_left _ (List.mem_append_left _ (List.mem_of_getElem? (i := 9) rfl))))), (fun _ h => absurd h List.not_mem_nil)⟩⟩⟩⟩, List.forall_mem_cons.mpr ⟨List.mem_cons_of_mem _ (List.mem_append_left _ (List.mem_append_left _ (List.mem_append_left _ (List.mem_append_right _ (List.mem_append_left _ (List.mem_of_getElem? (i := 5) rfl)))))), List.forall_mem_append.mpr ⟨List.forall_mem_cons.mpr ⟨List.mem_cons_of_mem _ (List.mem_append_left _ (List.mem_append_left _ (List.mem_append_left _ (List.mem_append_right _ (List.mem_append_left _ (List.mem_of_getElem? (i := 6) rfl)))))), List.forall_mem_cons.mpr ⟨List.mem_cons_of_mem _ (List.mem_append_left _ (List.mem_append_left _ (List.mem_append_left _ (List.mem_append_right _ (List.mem_append_left _ (List.mem_of_getElem? (i := 7) rfl)))))), (fun _ h => absurd h List.not_mem_nil)⟩⟩, (fun _ h => List.mem_cons_of_mem _ (List.mem_append_left _ (List.mem_append_left _ (List.mem_append_right _ h))))⟩⟩⟩) (by decide +kernel)
set_option maxRecDepth 20000 in
theorem gm_X11_copy_X4_hasRun_325 : GoodIn wm_X11_copy (wsV RX11 325 RX4 yX4_hasRun wm_X4_hasRun) := goodIn_w (List.forall_mem_append.mpr ⟨List.forall_mem_cons.mpr ⟨List.mem_cons_of_mem _ (List.mem_append_left _ (List.mem_append_left _ (List.mem_append_left _ (List.mem_append_right _ (List.mem_append_left _ (List.mem_of_getElem? (i := 9) rfl)))))), List.forall_mem_cons.mpr ⟨List.mem_cons_of_mem _ (List.mem_append_left _ (List.mem_append_left _ (List.mem_append_left _ (List.mem_append_right _ (List.mem_append_left _ (List.mem_of_getElem? (i := 10) rfl)))))), List.forall_mem_cons.mpr ⟨List.mem_cons_of_mem _ (List.mem_append_left _ (List.mem_append_left _ (List.mem_append_left _ (List.mem_append_right _ (List.mem_append_left _ (List.mem_of_getElem? (i := 11) rfl)))))), List.forall_mem_cons.mpr ⟨List.mem_cons_of_mem _ (List.mem_append_left _ (List.mem_append_left _ (List.mem_append_left _ (List.mem_append_left _ (List.mem_of_getElem? (i := 15) rfl))))), (fun _ h => absurd h List.not_mem_nil)⟩⟩⟩⟩, List.forall_mem_cons.mpr ⟨List.mem_cons_of_mem _ (List.mem_append_left _ (List.mem_append_left _ (List.mem_append_left _ (List.mem_append_right _ (List.mem_append_left _ (List.mem_of_getElem? (i := 12) rfl)))))), List.forall_mem_append.mpr ⟨List.forall_mem_cons.mpr ⟨List.mem_cons_of_mem _ (List.mem_append_left _ (List.mem_append_left _ (List.mem_append_left _ (List.mem_append_right _ (List.mem_append_left _ (List.mem_of_getElem? (i := 13) rfl)))))), (fun _ h => absurd h List.not_mem_nil)⟩, (fun _ h => List.mem_cons_of_mem _ (List.mem_append_right _ h))⟩⟩⟩) (by decide +kernel)
set_option maxHeartbeats 4000000 in
set_option maxRecDepth 100000 in
theorem x_X11_copy (l : Launch) (D : va_G) (sz : Nat) (sk : Value) (a : Nat → Nat) (t : Nat → ClassId) (i : Nat → Int32) (q : Int64) (c : Nat → Nat → Int32) (d : Nat → Nat → Int64) (w1 : Int32) (s1 : Int32) (n1 : Int32) (w2 : Int32) (n2 : Int32) (n3 : Int32) (hI : xInv i c) : Met l yX11_copy wm_X11_copy ({ frames := 1, cells := 0, slots := 0, locals := 40 }) (va_Pc [.ref (a 100), .int w1, .int s1, .int n1, .int w2, .int n2, .int n3] (yB (a 186) D sz (xwT sk a t i q c d) (xtT t))) (va_Qi (fun (r : Int32) (u : MS) => True ∧ xInv u.1 u.2.2.1 ∧ (∀ k, k ∉ ([102] : List Nat) → u.1 k = i k) ∧ (∀ k, k ∉ ([101] : List Nat) → u.2.2.1 k = c k)) (oC D (va_A (xwT sk a t i q c d) sz) (fun u : MS => xwT sk a t u.1 u.2.1 u.2.2.1 u.2.2.2) (fun _ => [])) (va_A (xwT sk a t i q c d) sz)) 0 0 (va_A (xwT sk a t i q c d) sz) := by
  refine Met.ofW (cc := cX11_copy) (maxL := 7) (ret := (some .int)) (by decide +kernel) rfl ?_
  intro p e s m args below meth cd s₁ B hml hv
  obtain ⟨rfl, ⟨hsz, hP, hK, hD0⟩, hN, hZ, hBW⟩ := hv
  have hx := B.exec
  have hb := B.bytes
  have hr := B.returns
  have hts := atoms_spec (ws := wm_X11_copy) B.pre
  have hown : s.vm.findClass RX11 = some m.cls := findClass_of_methodNamed B.named
  have hlocks := B.notSynchronized
  subst hsz
  have hD := hD0.self (sz := s.heap.size)
  have hZ := xZ_A hZ hP hBW
  generalize hAe : va_A (xwT sk a t i q c d) s.heap.size = A at hD hZ ⊢
  have hA : ∀ q : Nat, s.heap.size ≤ q → A q := fun q h => by rw [← hAe]; exact Or.inr h
  have hS : va_S A s.heap s.heap [] := va_S.rf
  have hfi : ∀ k, k ∉ ([] : List Nat) → i k = i k := fun _ _ => rfl
  have hfc : ∀ k, k ∉ ([] : List Nat) → c k = c k := fun _ _ => rfl
  have hl := lv_entry ([.ref (a 100), .int w1, .int s1, .int n1, .int w2, .int n2, .int n3]) (n := 7) (Nat.le_of_ble_eq_true rfl)
  rw [lg_entry_eq]
  generalize (lg_sl ([.ref (a 100), .int w1, .int s1, .int n1, .int w2, .int n2, .int n3]) ++ List.replicate (7 - (lg_sl ([.ref (a 100), .int w1, .int s1, .int n1, .int w2, .int n2, .int n3])).length) Slot.unset).toArray = ls at hl ⊢
  have hl : lv_has ls 7 [(0, .ref (a 100)), (1, .int w1), (2, .int s1), (3, .int n1), (4, .int w2), (5, .int n2), (6, .int n3)] := hl
  refine lv_aload_n hx hb dX11_copy_0 rfl (lv_at hl 0 rfl) ?_
  refine xgT_X_world hx hb hts (fun _ h => List.mem_cons_of_mem _ (List.mem_append_left _ (List.mem_append_left _ (List.mem_append_right _ h)))) hown hK hP (hts (.fieldLink RX11 10 "TalePlay" "world" "LTalePlay$World;") (List.mem_cons_of_mem _ (List.mem_append_left _ (List.mem_append_left _ (List.mem_append_left _ (List.mem_append_left _ (List.mem_of_getElem? (i := 0) rfl))))))) dX11_copy_1 ?_
  refine lv_iload_n hx hb dX11_copy_4 rfl (lv_at hl 1 rfl) ?_
  have rb111_i : 0 ≤ (i 111).toInt ∧ (i 111).toInt ≤ 30 := hI.1 111
  refine ro_calli (va_runV (As := [.int w1]) (rest := []) ⟨hx, hb, hml, hown, hts⟩ (x_X10_hasObject l D s.heap.size .null a t i q c d w1 hI ) (cwV 1 hts gm_X11_copy_X10_hasObject_109 rfl rfl rfl (by decide +kernel) ⟨Nat.le_of_ble_eq_true rfl, Nat.le_of_ble_eq_true rfl⟩) (yA_V hN (xZ_k hZ hS hA) (xkT_W hK) (xuT_W (sk := sk) hP) (ci := 10) (q0 := 0) rfl rfl) rfl rfl hl.1 rfl (lv_room (Nat.le_of_ble_eq_true rfl)) dX11_copy_5 ⟨Nat.le_of_ble_eq_true rfl, Nat.le_of_ble_eq_true rfl⟩) hS hA hP (fun r1 u1 H locs hw1 hP hS => ?_)
  have hw1 : r1 = if (0 ≤ w1.toInt ∧ w1.toInt < (i 111).toInt) then 1 else 0 := hw1
  refine lv_if_eq (tgt := 31) hx hb dX11_copy_8 (by decide +kernel) (fun c2 => ?_) (fun c2 => ?_)
  · have f2 := fl_f hw1 c2
    refine lv_iconst (v := (-1)) hx hb dX11_copy_31 (by decide +kernel) ?_
    exact rw_iret (i, q, c, d) hx hb hr hlocks hS (hK.sub (tys' := []) [] rfl) hP hD dX11_copy_32 ⟨trivial, hI, fr_w hfi (by decide +kernel), fr_w hfc (by decide +kernel)⟩
  · have f2 := fl_t hw1 c2
    refine lv_aload_n hx hb dX11_copy_11 rfl (lv_at hl 0 rfl) ?_
    refine xgT_X_world hx hb hts (fun _ h => List.mem_cons_of_mem _ (List.mem_append_left _ (List.mem_append_left _ (List.mem_append_right _ h)))) hown hK hP (hts (.fieldLink RX11 10 "TalePlay" "world" "LTalePlay$World;") (List.mem_cons_of_mem _ (List.mem_append_left _ (List.mem_append_left _ (List.mem_append_left _ (List.mem_append_left _ (List.mem_of_getElem? (i := 0) rfl))))))) dX11_copy_12 ?_
    refine lv_iload hx hb dX11_copy_15 (lv_at hl 4 rfl) ?_
    refine ro_calli (va_runV (As := [.int w2]) (rest := []) ⟨hx, hb, hml, hown, hts⟩ (x_X10_hasObject l D H.size .null a t i q c d w2 hI ) (cwV 1 hts gm_X11_copy_X10_hasObject_109 rfl rfl rfl (by decide +kernel) ⟨Nat.le_of_ble_eq_true rfl, Nat.le_of_ble_eq_true rfl⟩) (yA_V hN (xZ_k hZ hS hA) (xkT_W hK) (xuT_W (sk := sk) hP) (ci := 10) (q0 := 0) rfl rfl) rfl rfl hl.1 rfl (lv_room (Nat.le_of_ble_eq_true rfl)) dX11_copy_17 ⟨Nat.le_of_ble_eq_true rfl, Nat.le_of_ble_eq_true rfl⟩) hS hA hP (fun r3 u3 H locs hw3 hP hS => ?_)
    have hw3 : r3 = if (0 ≤ w2.toInt ∧ w2.toInt < (i 111).toInt) then 1 else 0 := hw3
    refine lv_if_eq (tgt := 31) hx hb dX11_copy_20 (by decide +kernel) (fun c4 => ?_) (fun c4 => ?_)
    · have f4 := fl_f hw3 c4
      refine lv_iconst (v := (-1)) hx hb dX11_copy_31 (by decide +kernel) ?_
      exact rw_iret (i, q, c, d) hx hb hr hlocks hS (hK.sub (tys' := []) [] rfl) hP hD dX11_copy_32 ⟨trivial, hI, fr_w hfi (by decide +kernel), fr_w hfc (by decide +kernel)⟩
    · have f4 := fl_t hw3 c4
      refine lv_iload_n hx hb dX11_copy_23 rfl (lv_at hl 2 rfl) ?_
      refine lv_iconst (v := 4) hx hb dX11_copy_24 (by decide +kernel) ?_
      have hPc := hP.sub (ws' := []) [] rfl
      have hKc := hK.sub (tys' := []) [] rfl
      refine ro_calli (va_runS (As := [.int s1, .int 4]) (rest := []) ⟨hx, hb, hml, hown, hts⟩ (c_X11_isBelow l D H.size s1 4 s1.toInt 4 rfl (by decide +kernel)) (va_cwS 2 hts gm_X11_copy_X11_isBelow_91 rfl rfl rfl (by decide +kernel) ⟨Nat.le_of_ble_eq_true rfl, Nat.le_of_ble_eq_true rfl⟩) (pA_S hKc hPc) rfl rfl hl.1 rfl (lv_room (Nat.le_of_ble_eq_true rfl)) dX11_copy_25 ⟨Nat.le_of_ble_eq_true rfl, Nat.le_of_ble_eq_true rfl⟩) hS hA hP (fun r6 u6 H locs hw6 hP hS => ?_)
      have hw6 : r6 = if (0 ≤ s1.toInt ∧ s1.toInt < 4) then 1 else 0 := hw6
      refine lv_if_ne (tgt := 33) hx hb dX11_copy_28 (by decide +kernel) (fun c7 => ?_) (fun c7 => ?_)
      · have f7 := fl_t hw6 c7
        refine lv_aload_n hx hb dX11_copy_33 rfl (lv_at hl 0 rfl) ?_
        refine xgT_X_lines hx hb hts (fun _ h => List.mem_cons_of_mem _ (List.mem_append_left _ (List.mem_append_left _ (List.mem_append_right _ h)))) hown hK hP (hts (.fieldLink RX11 53 "TalePlay" "lines" "LTalePlay$Lines;") (List.mem_cons_of_mem _ (List.mem_append_left _ (List.mem_append_left _ (List.mem_append_left _ (List.mem_append_left _ (List.mem_of_getElem? (i := 11) rfl))))))) dX11_copy_34 ?_
        refine lv_iload_n hx hb dX11_copy_37 rfl (lv_at hl 1 rfl) ?_
        refine lv_iload_n hx hb dX11_copy_38 rfl (lv_at hl 2 rfl) ?_
        refine ro_calli (va_runV (As := [.int w1, .int s1]) (rest := []) ⟨hx, hb, hml, hown, hts⟩ (x_X4_isOther l D H.size sk a t i q c d w1 s1 hI (show 0 ≤ w1.toInt ∧ w1.toInt ≤ 29 from by omega)) (cwV 2 hts gm_X11_copy_X4_isOther_319 rfl rfl rfl (by decide +kernel) ⟨Nat.le_of_ble_eq_true rfl, Nat.le_of_ble_eq_true rfl⟩) (yA_V hN (xZ_k hZ hS hA) hK hP (ci := 4) (q0 := 43) rfl rfl) rfl rfl hl.1 rfl (lv_room (Nat.le_of_ble_eq_true rfl)) dX11_copy_39 ⟨Nat.le_of_ble_eq_true rfl, Nat.le_of_ble_eq_true rfl⟩) hS hA hP (fun r8 u8 H locs hw8 hP hS => ?_)
        have hw8 : (0 ≤ r8.toInt ∧ r8.toInt ≤ 1) := hw8
        refine lv_if_ne (tgt := 58) hx hb dX11_copy_42 (by decide +kernel) (fun c9 => ?_) (fun c9 => ?_)
        · have f9 := mt (ti_eq (a := r8.toInt) (b := 0) rfl (by decide +kernel)).mpr c9
          refine lv_aload_n hx hb dX11_copy_58 rfl (lv_at hl 0 rfl) ?_
          refine lv_iconst (v := 3) hx hb dX11_copy_59 (by decide +kernel) ?_
          refine al_calli (va_runV (As := [.int 3]) (rest := []) ⟨hx, hb, hml, hown, hts⟩ (x_X11_answerFinding l D H.size sk a t i q c d 3 hI (show 1 ≤ 3 ∧ 3 ≤ 6 from by decide +kernel)) (cwV 1 hts gm_X11_copy_X11_answerFinding_128 rfl rfl rfl (by decide +kernel) ⟨Nat.le_of_ble_eq_true rfl, Nat.le_of_ble_eq_true rfl⟩) (yB_V hN (xZ_k hZ hS hA) (xZ_n hZ hD) hK hP hD (ci := 11) (q0 := 0) rfl rfl) rfl rfl hl.1 rfl (lv_room (Nat.le_of_ble_eq_true rfl)) dX11_copy_60 ⟨Nat.le_of_ble_eq_true rfl, Nat.le_of_ble_eq_true rfl⟩) hS hA hP hD (fun r10 u10 H locs hw10 hP hD hS => ?_)
          obtain ⟨i10, q10, c10, d10⟩ := u10
          have hw10 : r10 = (-3) ∧ xInv i10 c10 ∧ (∀ k, k ∉ ([102] : List Nat) → i10 k = i k) ∧ (∀ k, k ∉ ([101] : List Nat) → c10 k = c k) := hw10
          obtain ⟨hw10, hI, hei10, hec10⟩ := hw10
          have hfi : ∀ k, k ∉ ([102] : List Nat) → i10 k = i k := fr_z hfi hei10 (by decide +kernel) (by decide +kernel)
          have hfc : ∀ k, k ∉ ([101] : List Nat) → c10 k = c k := fr_z hfc hec10 (by decide +kernel) (by decide +kernel)
          have hw10 : r10 = (-3) := hw10
          subst hw10
          exact rw_iret (i10, q10, c10, d10) hx hb hr hlocks hS (hK.sub (tys' := []) [] rfl) hP hD dX11_copy_63 ⟨trivial, hI, fr_w hfi (by decide +kernel), fr_w hfc (by decide +kernel)⟩
        · have f9 := (ti_eq (a := r8.toInt) (b := 0) rfl (by decide +kernel)).mp c9
          refine lv_aload_n hx hb dX11_copy_45 rfl (lv_at hl 0 rfl) ?_
          refine xgT_X_lines hx hb hts (fun _ h => List.mem_cons_of_mem _ (List.mem_append_left _ (List.mem_append_left _ (List.mem_append_right _ h)))) hown hK hP (hts (.fieldLink RX11 53 "TalePlay" "lines" "LTalePlay$Lines;") (List.mem_cons_of_mem _ (List.mem_append_left _ (List.mem_append_left _ (List.mem_append_left _ (List.mem_append_left _ (List.mem_of_getElem? (i := 11) rfl))))))) dX11_copy_46 ?_
          refine lv_iload hx hb dX11_copy_49 (lv_at hl 4 rfl) ?_
          refine lv_iload_n hx hb dX11_copy_51 rfl (lv_at hl 2 rfl) ?_
          refine ro_calli (va_runV (As := [.int w2, .int s1]) (rest := []) ⟨hx, hb, hml, hown, hts⟩ (x_X4_isOther l D H.size sk a t i q c d w2 s1 hI (show 0 ≤ w2.toInt ∧ w2.toInt ≤ 29 from by omega)) (cwV 2 hts gm_X11_copy_X4_isOther_319 rfl rfl rfl (by decide +kernel) ⟨Nat.le_of_ble_eq_true rfl, Nat.le_of_ble_eq_true rfl⟩) (yA_V hN (xZ_k hZ hS hA) hK hP (ci := 4) (q0 := 43) rfl rfl) rfl rfl hl.1 rfl (lv_room (Nat.le_of_ble_eq_true rfl)) dX11_copy_52 ⟨Nat.le_of_ble_eq_true rfl, Nat.le_of_ble_eq_true rfl⟩) hS hA hP (fun r11 u11 H locs hw11 hP hS => ?_)
          have hw11 : (0 ≤ r11.toInt ∧ r11.toInt ≤ 1) := hw11
          refine lv_if_eq (tgt := 64) hx hb dX11_copy_55 (by decide +kernel) (fun c12 => ?_) (fun c12 => ?_)
          · have f12 := (ti_eq (a := r11.toInt) (b := 0) rfl (by decide +kernel)).mp c12
            refine lv_aload_n hx hb dX11_copy_64 rfl (lv_at hl 0 rfl) ?_
            refine xgT_X_lines hx hb hts (fun _ h => List.mem_cons_of_mem _ (List.mem_append_left _ (List.mem_append_left _ (List.mem_append_right _ h)))) hown hK hP (hts (.fieldLink RX11 53 "TalePlay" "lines" "LTalePlay$Lines;") (List.mem_cons_of_mem _ (List.mem_append_left _ (List.mem_append_left _ (List.mem_append_left _ (List.mem_append_left _ (List.mem_of_getElem? (i := 11) rfl))))))) dX11_copy_65 ?_
            refine xgT_L_sorts hx hb hts (fun _ h => List.mem_cons_of_mem _ (List.mem_append_right _ h)) hown hK hP (hts (.fieldLink RX11 322 "TalePlay$Lines" "sorts" "[I") (List.mem_cons_of_mem _ (List.mem_append_left _ (List.mem_append_left _ (List.mem_append_left _ (List.mem_append_right _ (List.mem_append_left _ (List.mem_of_getElem? (i := 8) rfl)))))))) dX11_copy_68 ?_
            refine lv_iload_n hx hb dX11_copy_71 rfl (lv_at hl 1 rfl) ?_
            refine xlT_158 hx hb hK hP (vp_in_iff.mpr (by have h9 : w1.toInt = w1.toInt := rfl; omega)) dX11_copy_72 (fun x13 ex13 => ?_)
            have rx13 : x13.toInt = -9 ∨ (0 ≤ x13.toInt ∧ x13.toInt ≤ 3) := by rw [ex13]; exact hI.2 158 _
            refine lv_bipush (v := (-9)) hx hb dX11_copy_73 (by decide +kernel) ?_
            refine lv_icmp_eq (tgt := 93) hx hb dX11_copy_75 (by decide +kernel) (fun c14 => ?_) (fun c14 => ?_)
            · have f14 := (ti_eq (a := x13.toInt) (b := (-9)) rfl (by decide +kernel)).mp c14
              refine lv_aload_n hx hb dX11_copy_93 rfl (lv_at hl 0 rfl) ?_
              refine lv_iconst (v := 1) hx hb dX11_copy_94 (by decide +kernel) ?_
              refine al_calli (va_runV (As := [.int 1]) (rest := []) ⟨hx, hb, hml, hown, hts⟩ (x_X11_answerFinding l D H.size sk a t i q c d 1 hI (show 1 ≤ 1 ∧ 1 ≤ 6 from by decide +kernel)) (cwV 1 hts gm_X11_copy_X11_answerFinding_128 rfl rfl rfl (by decide +kernel) ⟨Nat.le_of_ble_eq_true rfl, Nat.le_of_ble_eq_true rfl⟩) (yB_V hN (xZ_k hZ hS hA) (xZ_n hZ hD) hK hP hD (ci := 11) (q0 := 0) rfl rfl) rfl rfl hl.1 rfl (lv_room (Nat.le_of_ble_eq_true rfl)) dX11_copy_95 ⟨Nat.le_of_ble_eq_true rfl, Nat.le_of_ble_eq_true rfl⟩) hS hA hP hD (fun r15 u15 H locs hw15 hP hD hS => ?_)
              obtain ⟨i15, q15, c15, d15⟩ := u15
              have hw15 : r15 = (-3) ∧ xInv i15 c15 ∧ (∀ k, k ∉ ([102] : List Nat) → i15 k = i k) ∧ (∀ k, k ∉ ([101] : List Nat) → c15 k = c k) := hw15
              obtain ⟨hw15, hI, hei15, hec15⟩ := hw15
              have hfi : ∀ k, k ∉ ([102] : List Nat) → i15 k = i k := fr_z hfi hei15 (by decide +kernel) (by decide +kernel)
              have hfc : ∀ k, k ∉ ([101] : List Nat) → c15 k = c k := fr_z hfc hec15 (by decide +kernel) (by decide +kernel)
              have hw15 : r15 = (-3) := hw15
              subst hw15
              exact rw_iret (i15, q15, c15, d15) hx hb hr hlocks hS (hK.sub (tys' := []) [] rfl) hP hD dX11_copy_98 ⟨trivial, hI, fr_w hfi (by decide +kernel), fr_w hfc (by decide +kernel)⟩
            · have f14 := mt (ti_eq (a := x13.toInt) (b := (-9)) rfl (by decide +kernel)).mpr c14
              refine lv_aload_n hx hb dX11_copy_78 rfl (lv_at hl 0 rfl) ?_
              refine xgT_X_lines hx hb hts (fun _ h => List.mem_cons_of_mem _ (List.mem_append_left _ (List.mem_append_left _ (List.mem_append_right _ h)))) hown hK hP (hts (.fieldLink RX11 53 "TalePlay" "lines" "LTalePlay$Lines;") (List.mem_cons_of_mem _ (List.mem_append_left _ (List.mem_append_left _ (List.mem_append_left _ (List.mem_append_left _ (List.mem_of_getElem? (i := 11) rfl))))))) dX11_copy_79 ?_
              refine xgT_L_sorts hx hb hts (fun _ h => List.mem_cons_of_mem _ (List.mem_append_right _ h)) hown hK hP (hts (.fieldLink RX11 322 "TalePlay$Lines" "sorts" "[I") (List.mem_cons_of_mem _ (List.mem_append_left _ (List.mem_append_left _ (List.mem_append_left _ (List.mem_append_right _ (List.mem_append_left _ (List.mem_of_getElem? (i := 8) rfl)))))))) dX11_copy_82 ?_
              refine lv_iload hx hb dX11_copy_85 (lv_at hl 4 rfl) ?_
              refine xlT_158 hx hb hK hP (vp_in_iff.mpr (by have h9 : w2.toInt = w2.toInt := rfl; omega)) dX11_copy_87 (fun x16 ex16 => ?_)
              have rx16 : x16.toInt = -9 ∨ (0 ≤ x16.toInt ∧ x16.toInt ≤ 3) := by rw [ex16]; exact hI.2 158 _
              refine lv_bipush (v := (-9)) hx hb dX11_copy_88 (by decide +kernel) ?_
              refine lv_icmp_ne (tgt := 99) hx hb dX11_copy_90 (by decide +kernel) (fun c17 => ?_) (fun c17 => ?_)
              · have f17 := mt (ti_eq (a := x16.toInt) (b := (-9)) rfl (by decide +kernel)).mpr c17
                refine lv_aload_n hx hb dX11_copy_99 rfl (lv_at hl 0 rfl) ?_
                refine xgT_X_lines hx hb hts (fun _ h => List.mem_cons_of_mem _ (List.mem_append_left _ (List.mem_append_left _ (List.mem_append_right _ h)))) hown hK hP (hts (.fieldLink RX11 53 "TalePlay" "lines" "LTalePlay$Lines;") (List.mem_cons_of_mem _ (List.mem_append_left _ (List.mem_append_left _ (List.mem_append_left _ (List.mem_append_left _ (List.mem_of_getElem? (i := 11) rfl))))))) dX11_copy_100 ?_
                refine lv_iload_n hx hb dX11_copy_103 rfl (lv_at hl 1 rfl) ?_
                refine lv_iload_n hx hb dX11_copy_104 rfl (lv_at hl 3 rfl) ?_
                refine lv_iload hx hb dX11_copy_105 (lv_at hl 6 rfl) ?_
                refine ro_calli (va_runV (As := [.int w1, .int n1, .int n3]) (rest := []) ⟨hx, hb, hml, hown, hts⟩ (x_X4_hasRun l D H.size sk a t i q c d w1 n1 n3 hI (show 0 ≤ w1.toInt ∧ w1.toInt ≤ 29 from by omega)) (cwV 3 hts gm_X11_copy_X4_hasRun_325 rfl rfl rfl (by decide +kernel) ⟨Nat.le_of_ble_eq_true rfl, Nat.le_of_ble_eq_true rfl⟩) (yA_V hN (xZ_k hZ hS hA) hK hP (ci := 4) (q0 := 43) rfl rfl) rfl rfl hl.1 rfl (lv_room (Nat.le_of_ble_eq_true rfl)) dX11_copy_107 ⟨Nat.le_of_ble_eq_true rfl, Nat.le_of_ble_eq_true rfl⟩) hS hA hP (fun r18 u18 H locs hw18 hP hS => ?_)
                have hw18 : ((0 ≤ r18.toInt ∧ r18.toInt ≤ 1) ∧ (Im (r18.toInt = 1) (0 ≤ n1.toInt ∧ 0 ≤ n3.toInt ∧ n1.toInt + n3.toInt ≤ 12))) := hw18
                obtain ⟨hw18, hr18_0⟩ := hw18
                have hr18_0 : Im (r18.toInt = 1) (0 ≤ n1.toInt ∧ 0 ≤ n3.toInt ∧ n1.toInt + n3.toInt ≤ 12) := hr18_0
                refine lv_if_eq (tgt := 129) hx hb dX11_copy_110 (by decide +kernel) (fun c19 => ?_) (fun c19 => ?_)
                · have f19 := (ti_eq (a := r18.toInt) (b := 0) rfl (by decide +kernel)).mp c19
                  refine lv_aload_n hx hb dX11_copy_129 rfl (lv_at hl 0 rfl) ?_
                  refine lv_iconst (v := 2) hx hb dX11_copy_130 (by decide +kernel) ?_
                  refine al_calli (va_runV (As := [.int 2]) (rest := []) ⟨hx, hb, hml, hown, hts⟩ (x_X11_answerFinding l D H.size sk a t i q c d 2 hI (show 1 ≤ 2 ∧ 2 ≤ 6 from by decide +kernel)) (cwV 1 hts gm_X11_copy_X11_answerFinding_128 rfl rfl rfl (by decide +kernel) ⟨Nat.le_of_ble_eq_true rfl, Nat.le_of_ble_eq_true rfl⟩) (yB_V hN (xZ_k hZ hS hA) (xZ_n hZ hD) hK hP hD (ci := 11) (q0 := 0) rfl rfl) rfl rfl hl.1 rfl (lv_room (Nat.le_of_ble_eq_true rfl)) dX11_copy_131 ⟨Nat.le_of_ble_eq_true rfl, Nat.le_of_ble_eq_true rfl⟩) hS hA hP hD (fun r20 u20 H locs hw20 hP hD hS => ?_)
                  obtain ⟨i20, q20, c20, d20⟩ := u20
                  have hw20 : r20 = (-3) ∧ xInv i20 c20 ∧ (∀ k, k ∉ ([102] : List Nat) → i20 k = i k) ∧ (∀ k, k ∉ ([101] : List Nat) → c20 k = c k) := hw20
                  obtain ⟨hw20, hI, hei20, hec20⟩ := hw20
                  have hfi : ∀ k, k ∉ ([102] : List Nat) → i20 k = i k := fr_z hfi hei20 (by decide +kernel) (by decide +kernel)
                  have hfc : ∀ k, k ∉ ([101] : List Nat) → c20 k = c k := fr_z hfc hec20 (by decide +kernel) (by decide +kernel)
                  have hw20 : r20 = (-3) := hw20
                  subst hw20
                  exact rw_iret (i20, q20, c20, d20) hx hb hr hlocks hS (hK.sub (tys' := []) [] rfl) hP hD dX11_copy_134 ⟨trivial, hI, fr_w hfi (by decide +kernel), fr_w hfc (by decide +kernel)⟩
                · have f19 := mt (ti_eq (a := r18.toInt) (b := 0) rfl (by decide +kernel)).mpr c19
                  refine lv_aload_n hx hb dX11_copy_113 rfl (lv_at hl 0 rfl) ?_
                  refine xgT_X_lines hx hb hts (fun _ h => List.mem_cons_of_mem _ (List.mem_append_left _ (List.mem_append_left _ (List.mem_append_right _ h)))) hown hK hP (hts (.fieldLink RX11 53 "TalePlay" "lines" "LTalePlay$Lines;") (List.mem_cons_of_mem _ (List.mem_append_left _ (List.mem_append_left _ (List.mem_append_left _ (List.mem_append_left _ (List.mem_of_getElem? (i := 11) rfl))))))) dX11_copy_114 ?_
                  refine lv_iload hx hb dX11_copy_117 (lv_at hl 4 rfl) ?_
                  refine lv_iload hx hb dX11_copy_119 (lv_at hl 5 rfl) ?_
                  refine lv_iload hx hb dX11_copy_121 (lv_at hl 6 rfl) ?_
                  refine ro_calli (va_runV (As := [.int w2, .int n2, .int n3]) (rest := []) ⟨hx, hb, hml, hown, hts⟩ (x_X4_hasRun l D H.size sk a t i q c d w2 n2 n3 hI (show 0 ≤ w2.toInt ∧ w2.toInt ≤ 29 from by omega)) (cwV 3 hts gm_X11_copy_X4_hasRun_325 rfl rfl rfl (by decide +kernel) ⟨Nat.le_of_ble_eq_true rfl, Nat.le_of_ble_eq_true rfl⟩) (yA_V hN (xZ_k hZ hS hA) hK hP (ci := 4) (q0 := 43) rfl rfl) rfl rfl hl.1 rfl (lv_room (Nat.le_of_ble_eq_true rfl)) dX11_copy_123 ⟨Nat.le_of_ble_eq_true rfl, Nat.le_of_ble_eq_true rfl⟩) hS hA hP (fun r21 u21 H locs hw21 hP hS => ?_)
                  have hw21 : ((0 ≤ r21.toInt ∧ r21.toInt ≤ 1) ∧ (Im (r21.toInt = 1) (0 ≤ n2.toInt ∧ 0 ≤ n3.toInt ∧ n2.toInt + n3.toInt ≤ 12))) := hw21
                  obtain ⟨hw21, hr21_0⟩ := hw21
                  have hr21_0 : Im (r21.toInt = 1) (0 ≤ n2.toInt ∧ 0 ≤ n3.toInt ∧ n2.toInt + n3.toInt ≤ 12) := hr21_0
                  refine lv_if_ne (tgt := 135) hx hb dX11_copy_126 (by decide +kernel) (fun c22 => ?_) (fun c22 => ?_)
                  · have f22 := mt (ti_eq (a := r21.toInt) (b := 0) rfl (by decide +kernel)).mpr c22
                    have hru18 := hr18_0 (by omega)
                    have hru21 := hr21_0 (by omega)
                    refine lv_aload_n hx hb dX11_copy_135 rfl (lv_at hl 0 rfl) ?_
                    refine xgT_X_lines hx hb hts (fun _ h => List.mem_cons_of_mem _ (List.mem_append_left _ (List.mem_append_left _ (List.mem_append_right _ h)))) hown hK hP (hts (.fieldLink RX11 53 "TalePlay" "lines" "LTalePlay$Lines;") (List.mem_cons_of_mem _ (List.mem_append_left _ (List.mem_append_left _ (List.mem_append_left _ (List.mem_append_left _ (List.mem_of_getElem? (i := 11) rfl))))))) dX11_copy_136 ?_
                    refine xgT_L_items hx hb hts (fun _ h => List.mem_cons_of_mem _ (List.mem_append_right _ h)) hown hK hP (hts (.fieldLink RX11 311 "TalePlay$Lines" "items" "[J") (List.mem_cons_of_mem _ (List.mem_append_left _ (List.mem_append_left _ (List.mem_append_left _ (List.mem_append_right _ (List.mem_append_left _ (List.mem_of_getElem? (i := 14) rfl)))))))) dX11_copy_139 ?_
                    refine lv_iload_n hx hb dX11_copy_142 rfl (lv_at hl 1 rfl) ?_
                    refine lv_bipush (v := 12) hx hb dX11_copy_143 (by decide +kernel) ?_
                    refine lv_imul hx hb dX11_copy_145 ?_
                    refine lv_topi (fun x23 ex23 => ?_)
                    have tx23 := ti_mul (a := w1.toInt) (b := 12) ex23 rfl (by decide +kernel) (by omega) (by omega)
                    refine lv_iload_n hx hb dX11_copy_146 rfl (lv_at hl 3 rfl) ?_
                    refine lv_iadd hx hb dX11_copy_147 ?_
                    refine lv_topi (fun x24 ex24 => ?_)
                    have tx24 := ti_add (a := (w1.toInt * 12)) (b := n1.toInt) ex24 tx23 rfl (by omega) (by omega)
                    refine lv_aload_n hx hb dX11_copy_148 rfl (lv_at hl 0 rfl) ?_
                    refine xgT_X_lines hx hb hts (fun _ h => List.mem_cons_of_mem _ (List.mem_append_left _ (List.mem_append_left _ (List.mem_append_right _ h)))) hown hK hP (hts (.fieldLink RX11 53 "TalePlay" "lines" "LTalePlay$Lines;") (List.mem_cons_of_mem _ (List.mem_append_left _ (List.mem_append_left _ (List.mem_append_left _ (List.mem_append_left _ (List.mem_of_getElem? (i := 11) rfl))))))) dX11_copy_149 ?_
                    refine xgT_L_items hx hb hts (fun _ h => List.mem_cons_of_mem _ (List.mem_append_right _ h)) hown hK hP (hts (.fieldLink RX11 311 "TalePlay$Lines" "items" "[J") (List.mem_cons_of_mem _ (List.mem_append_left _ (List.mem_append_left _ (List.mem_append_left _ (List.mem_append_right _ (List.mem_append_left _ (List.mem_of_getElem? (i := 14) rfl)))))))) dX11_copy_152 ?_
                    refine lv_iload hx hb dX11_copy_155 (lv_at hl 4 rfl) ?_
                    refine lv_bipush (v := 12) hx hb dX11_copy_157 (by decide +kernel) ?_
                    refine lv_imul hx hb dX11_copy_159 ?_
                    refine lv_topi (fun x25 ex25 => ?_)
                    have tx25 := ti_mul (a := w2.toInt) (b := 12) ex25 rfl (by decide +kernel) (by omega) (by omega)
                    refine lv_iload hx hb dX11_copy_160 (lv_at hl 5 rfl) ?_
                    refine lv_iadd hx hb dX11_copy_162 ?_
                    refine lv_topi (fun x26 ex26 => ?_)
                    have tx26 := ti_add (a := (w2.toInt * 12)) (b := n2.toInt) ex26 tx25 rfl (by omega) (by omega)
                    refine lv_iload hx hb dX11_copy_163 (lv_at hl 6 rfl) ?_
                    refine va_copyl (sp := x24) (dp := x26) (n := n3) hx hb (hml.trans hl.1.symm) hown (hts (.methodLink RX11 328 arraycopyName) (List.mem_cons_of_mem _ (List.mem_append_left _ (List.mem_append_left _ (List.mem_append_left _ (List.mem_append_right _ (List.mem_append_left _ (List.mem_of_getElem? (i := 15) rfl)))))))) (hts (.native arraycopyName) (List.mem_cons_of_mem _ (List.mem_append_left _ (List.mem_append_left _ (List.mem_append_left _ (List.mem_append_right _ (List.mem_append_right _ (List.mem_of_getElem? (i := 0) rfl)))))))) (hts (.static arraycopyName) (List.mem_cons_of_mem _ (List.mem_append_left _ (List.mem_append_left _ (List.mem_append_left _ (List.mem_append_right _ (List.mem_append_right _ (List.mem_of_getElem? (i := 1) rfl)))))))) (hts (.initialized "java/lang/System") (List.mem_cons_of_mem _ (List.mem_append_left _ (List.mem_append_left _ (List.mem_append_left _ (List.mem_append_right _ (List.mem_append_right _ (List.mem_of_getElem? (i := 2) rfl)))))))) hK hP hD hS 46 46 35 35 rfl rfl rfl rfl rfl (mt (ti_lt (a := ((w1.toInt * 12) + n1.toInt)) (b := 0) tx24 (by decide +kernel)).mp (by omega)) (mt (ti_lt (a := ((w2.toInt * 12) + n2.toInt)) (b := 0) tx26 (by decide +kernel)).mp (by omega)) (mt (ti_lt (a := n3.toInt) (b := 0) rfl (by decide +kernel)).mp (by omega)) (by show (x24 : Int32).toInt.toNat + (n3 : Int32).toInt.toNat ≤ 360; have h80 : (x24 : Int32).toInt = ((w1.toInt * 12) + n1.toInt) := tx24; have h81 : (n3 : Int32).toInt = n3.toInt := rfl; omega) (by show (x26 : Int32).toInt.toNat + (n3 : Int32).toInt.toNat ≤ 360; have h80 : (x26 : Int32).toInt = ((w2.toInt * 12) + n2.toInt) := tx26; have h81 : (n3 : Int32).toInt = n3.toInt := rfl; omega) (fun _ _ => rfl) (Nat.le_of_ble_eq_true rfl) (Nat.le_of_ble_eq_true rfl) dX11_copy_165 (fun H locs hP hD hS => ?_)
                    have hP : va_P D vwCl (xwT sk a t i q c (updG d 160 (va_cpy (d 160) (d 160) (x24 : Int32).toNatClampNeg (x26 : Int32).toNatClampNeg (n3 : Int32).toNatClampNeg))) H := hP
                    have hD : va_D A (xwT sk a t i q c (updG d 160 (va_cpy (d 160) (d 160) (x24 : Int32).toNatClampNeg (x26 : Int32).toNatClampNeg (n3 : Int32).toNatClampNeg))) := hD
                    refine lv_iconst (v := 1) hx hb dX11_copy_168 (by decide +kernel) ?_
                    exact rw_iret (i, q, c, (updG d 160 (va_cpy (d 160) (d 160) (x24 : Int32).toNatClampNeg (x26 : Int32).toNatClampNeg (n3 : Int32).toNatClampNeg))) hx hb hr hlocks hS (hK.sub (tys' := []) [] rfl) hP hD dX11_copy_169 ⟨trivial, hI, fr_w hfi (by decide +kernel), fr_w hfc (by decide +kernel)⟩
                  · have f22 := (ti_eq (a := r21.toInt) (b := 0) rfl (by decide +kernel)).mp c22
                    refine lv_aload_n hx hb dX11_copy_129 rfl (lv_at hl 0 rfl) ?_
                    refine lv_iconst (v := 2) hx hb dX11_copy_130 (by decide +kernel) ?_
                    refine al_calli (va_runV (As := [.int 2]) (rest := []) ⟨hx, hb, hml, hown, hts⟩ (x_X11_answerFinding l D H.size sk a t i q c d 2 hI (show 1 ≤ 2 ∧ 2 ≤ 6 from by decide +kernel)) (cwV 1 hts gm_X11_copy_X11_answerFinding_128 rfl rfl rfl (by decide +kernel) ⟨Nat.le_of_ble_eq_true rfl, Nat.le_of_ble_eq_true rfl⟩) (yB_V hN (xZ_k hZ hS hA) (xZ_n hZ hD) hK hP hD (ci := 11) (q0 := 0) rfl rfl) rfl rfl hl.1 rfl (lv_room (Nat.le_of_ble_eq_true rfl)) dX11_copy_131 ⟨Nat.le_of_ble_eq_true rfl, Nat.le_of_ble_eq_true rfl⟩) hS hA hP hD (fun r28 u28 H locs hw28 hP hD hS => ?_)
                    obtain ⟨i28, q28, c28, d28⟩ := u28
                    have hw28 : r28 = (-3) ∧ xInv i28 c28 ∧ (∀ k, k ∉ ([102] : List Nat) → i28 k = i k) ∧ (∀ k, k ∉ ([101] : List Nat) → c28 k = c k) := hw28
                    obtain ⟨hw28, hI, hei28, hec28⟩ := hw28
                    have hfi : ∀ k, k ∉ ([102] : List Nat) → i28 k = i k := fr_z hfi hei28 (by decide +kernel) (by decide +kernel)
                    have hfc : ∀ k, k ∉ ([101] : List Nat) → c28 k = c k := fr_z hfc hec28 (by decide +kernel) (by decide +kernel)
                    have hw28 : r28 = (-3) := hw28
                    subst hw28
                    exact rw_iret (i28, q28, c28, d28) hx hb hr hlocks hS (hK.sub (tys' := []) [] rfl) hP hD dX11_copy_134 ⟨trivial, hI, fr_w hfi (by decide +kernel), fr_w hfc (by decide +kernel)⟩
              · have f17 := (ti_eq (a := x16.toInt) (b := (-9)) rfl (by decide +kernel)).mp c17
                refine lv_aload_n hx hb dX11_copy_93 rfl (lv_at hl 0 rfl) ?_
                refine lv_iconst (v := 1) hx hb dX11_copy_94 (by decide +kernel) ?_
                refine al_calli (va_runV (As := [.int 1]) (rest := []) ⟨hx, hb, hml, hown, hts⟩ (x_X11_answerFinding l D H.size sk a t i q c d 1 hI (show 1 ≤ 1 ∧ 1 ≤ 6 from by decide +kernel)) (cwV 1 hts gm_X11_copy_X11_answerFinding_128 rfl rfl rfl (by decide +kernel) ⟨Nat.le_of_ble_eq_true rfl, Nat.le_of_ble_eq_true rfl⟩) (yB_V hN (xZ_k hZ hS hA) (xZ_n hZ hD) hK hP hD (ci := 11) (q0 := 0) rfl rfl) rfl rfl hl.1 rfl (lv_room (Nat.le_of_ble_eq_true rfl)) dX11_copy_95 ⟨Nat.le_of_ble_eq_true rfl, Nat.le_of_ble_eq_true rfl⟩) hS hA hP hD (fun r29 u29 H locs hw29 hP hD hS => ?_)
                obtain ⟨i29, q29, c29, d29⟩ := u29
                have hw29 : r29 = (-3) ∧ xInv i29 c29 ∧ (∀ k, k ∉ ([102] : List Nat) → i29 k = i k) ∧ (∀ k, k ∉ ([101] : List Nat) → c29 k = c k) := hw29
                obtain ⟨hw29, hI, hei29, hec29⟩ := hw29
                have hfi : ∀ k, k ∉ ([102] : List Nat) → i29 k = i k := fr_z hfi hei29 (by decide +kernel) (by decide +kernel)
                have hfc : ∀ k, k ∉ ([101] : List Nat) → c29 k = c k := fr_z hfc hec29 (by decide +kernel) (by decide +kernel)
                have hw29 : r29 = (-3) := hw29
                subst hw29
                exact rw_iret (i29, q29, c29, d29) hx hb hr hlocks hS (hK.sub (tys' := []) [] rfl) hP hD dX11_copy_98 ⟨trivial, hI, fr_w hfi (by decide +kernel), fr_w hfc (by decide +kernel)⟩
          · have f12 := mt (ti_eq (a := r11.toInt) (b := 0) rfl (by decide +kernel)).mpr c12
            refine lv_aload_n hx hb dX11_copy_58 rfl (lv_at hl 0 rfl) ?_
            refine lv_iconst (v := 3) hx hb dX11_copy_59 (by decide +kernel) ?_
            refine al_calli (va_runV (As := [.int 3]) (rest := []) ⟨hx, hb, hml, hown, hts⟩ (x_X11_answerFinding l D H.size sk a t i q c d 3 hI (show 1 ≤ 3 ∧ 3 ≤ 6 from by decide +kernel)) (cwV 1 hts gm_X11_copy_X11_answerFinding_128 rfl rfl rfl (by decide +kernel) ⟨Nat.le_of_ble_eq_true rfl, Nat.le_of_ble_eq_true rfl⟩) (yB_V hN (xZ_k hZ hS hA) (xZ_n hZ hD) hK hP hD (ci := 11) (q0 := 0) rfl rfl) rfl rfl hl.1 rfl (lv_room (Nat.le_of_ble_eq_true rfl)) dX11_copy_60 ⟨Nat.le_of_ble_eq_true rfl, Nat.le_of_ble_eq_true rfl⟩) hS hA hP hD (fun r30 u30 H locs hw30 hP hD hS => ?_)
            obtain ⟨i30, q30, c30, d30⟩ := u30
            have hw30 : r30 = (-3) ∧ xInv i30 c30 ∧ (∀ k, k ∉ ([102] : List Nat) → i30 k = i k) ∧ (∀ k, k ∉ ([101] : List Nat) → c30 k = c k) := hw30
            obtain ⟨hw30, hI, hei30, hec30⟩ := hw30
            have hfi : ∀ k, k ∉ ([102] : List Nat) → i30 k = i k := fr_z hfi hei30 (by decide +kernel) (by decide +kernel)
            have hfc : ∀ k, k ∉ ([101] : List Nat) → c30 k = c k := fr_z hfc hec30 (by decide +kernel) (by decide +kernel)
            have hw30 : r30 = (-3) := hw30
            subst hw30
            exact rw_iret (i30, q30, c30, d30) hx hb hr hlocks hS (hK.sub (tys' := []) [] rfl) hP hD dX11_copy_63 ⟨trivial, hI, fr_w hfi (by decide +kernel), fr_w hfc (by decide +kernel)⟩
      · have f7 := fl_f hw6 c7
        refine lv_iconst (v := (-1)) hx hb dX11_copy_31 (by decide +kernel) ?_
        exact rw_iret (i, q, c, d) hx hb hr hlocks hS (hK.sub (tys' := []) [] rfl) hP hD dX11_copy_32 ⟨trivial, hI, fr_w hfi (by decide +kernel), fr_w hfc (by decide +kernel)⟩

