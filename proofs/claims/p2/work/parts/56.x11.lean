def wm_X11_way : List Cond := .code yX11_way cX11_way 5 (some .int) :: (([.methodLink RX11 232 yX11_refuseRooms, .instanceMethod yX11_refuseRooms, .selects RX11 yX11_refuseRooms yX11_refuseRooms, .initialized RX11, .code yX11_refuseRooms cX11_refuseRooms 3 (some .int), .fieldLink RX11 10 "TalePlay" "world" "LTalePlay$World;", .methodLink RX11 109 yX10_hasObject, .instanceMethod yX10_hasObject, .selects RX10 yX10_hasObject yX10_hasObject, .initialized RX10, .code yX10_hasObject cX10_hasObject 2 (some .boolean), .fieldLink RX10 37 "TalePlay$World" "objects" "I", .methodLink RX11 125 yX10_sortOf, .instanceMethod yX10_sortOf, .selects RX10 yX10_sortOf yX10_sortOf, .code yX10_sortOf cX10_sortOf 2 (some .int), .fieldLink RX10 15 "TalePlay$World" "sorts" "[I", .fieldLink RX10 21 "TalePlay$World" "kindOf" "[I", .methodLink RX11 128 yX11_answerFinding, .instanceMethod yX11_answerFinding, .selects RX11 yX11_answerFinding yX11_answerFinding, .code yX11_answerFinding cX11_answerFinding 2 (some .int), .fieldLink RX11 72 "TalePlay" "latestFinding" "I", .fieldLink RX11 68 "TalePlay" "findingCounts" "[I", .fieldLink RX11 30 "TalePlay" "roads" "LTalePlay$Roads;", .methodLink RX11 235 yX5_walkFrom, .instanceMethod yX5_walkFrom, .selects RX5 yX5_walkFrom yX5_walkFrom, .initialized RX5, .code yX5_walkFrom cX5_walkFrom 8 none, .fieldLink RX5 30 "TalePlay$Roads" "steps" "[I", .methodLink RX5 50 yJ7_fill_53178, .static yJ7_fill_53178, .initialized RJ7, .code yJ7_fill_53178 cJ7_fill_53178 4 none, .fieldLink RX5 33 "TalePlay$Roads" "firsts" "[I", .fieldLink RX5 36 "TalePlay$Roads" "queue" "[I", .fieldLink RX5 9 "TalePlay$Roads" "leads" "[I", .methodLink RX5 101 yX5_isPassable, .instanceMethod yX5_isPassable, .selects RX5 yX5_isPassable yX5_isPassable, .code yX5_isPassable cX5_isPassable 3 (some .boolean), .fieldLink RX5 15 "TalePlay$Roads" "doors" "[I", .fieldLink RX5 43 "TalePlay$Roads" "book" "LTalePlay$Book;", .methodLink RX5 105 yX1_saidFlag, .instanceMethod yX1_saidFlag, .selects RX1 yX1_saidFlag yX1_saidFlag, .initialized RX1, .code yX1_saidFlag cX1_saidFlag 4 (some .int), .fieldLink RX1 34 "TalePlay$Book" "flagBy" "[I", .fieldLink RX1 21 "TalePlay$Book" "cs" "[I", .fieldLink RX1 43 "TalePlay$Book" "world" "LTalePlay$World;", .methodLink RX1 114 yX10_standardFor, .instanceMethod yX10_standardFor, .selects RX10 yX10_standardFor yX10_standardFor, .code yX10_standardFor cX10_standardFor 6 (some .int), .methodLink RX10 40 yX10_sortOf, .fieldLink RX10 18 "TalePlay$World" "standards" "[I", .fieldLink RX10 9 "TalePlay$World" "parents" "[I", .fieldLink RX11 239 "TalePlay$Roads" "steps" "[I"] : List Cond) ++ wsX110 ++ wsX100 ++ wsX50 ++ wsX10)
set_option maxRecDepth 20000 in
theorem gm_X11_way_X11_refuseRooms_232 : GoodIn wm_X11_way (wsV RX11 232 RX11 yX11_refuseRooms wm_X11_refuseRooms) := goodIn_app (goodIn_of _ (by decide +kernel)) (goodIn_r _ [5, 6, 7, 8, 9, 10, 11, 12, 13, 14, 15, 16, 17, 18, 19, 20, 21, 4, 22, 23, 24, 61, 62, 63, 64, 65, 66, 67, 68, 69, 70, 71, 72, 73, 74, 75, 76, 77, 78] rfl (by decide +kernel))
set_option maxRecDepth 20000 in
theorem gm_X11_way_X5_walkFrom_235 : GoodIn wm_X11_way (wsV RX11 235 RX5 yX5_walkFrom wm_X5_walkFrom) := goodIn_app (goodIn_of _ (by decide +kernel)) (goodIn_r _ [30, 31, 32, 33, 34, 35, 36, 37, 38, 39, 40, 41, 29, 42, 43, 44, 45, 46, 47, 48, 49, 50, 51, 52, 53, 54, 55, 10, 56, 18, 57, 14, 15, 16, 12, 17, 58, 59, 79, 80, 81, 82, 83, 84, 85, 86, 87, 88, 89, 90, 91, 92, 93, 94, 95, 96, 97, 98, 99, 100, 101, 102, 103, 104, 72, 73, 74, 75, 76, 77, 78] rfl (by decide +kernel))
set_option maxHeartbeats 4000000 in
set_option maxRecDepth 100000 in
theorem x_X11_way (l : Launch) (D : va_G) (sz : Nat) (sk : Value) (a : Nat → Nat) (t : Nat → ClassId) (i : Nat → Int32) (q : Int64) (c : Nat → Nat → Int32) (d : Nat → Nat → Int64) (w1 : Int32) (w2 : Int32) (b1 : Int32) (hI : xInv i c) : Met l yX11_way wm_X11_way ({ frames := 5, cells := 0, slots := 0, locals := 118 }) (va_Pc [.ref (a 100), .int w1, .int w2, .int b1] (yB (a 186) D sz (xwT sk a t i q c d) (xtT t))) (va_Qi (fun (r : Int32) (u : MS) => True ∧ xInv u.1 u.2.2.1 ∧ (∀ k, k ∉ ([102] : List Nat) → u.1 k = i k) ∧ (∀ k, k ∉ ([101, 135, 136, 137] : List Nat) → u.2.2.1 k = c k)) (oC D (va_A (xwT sk a t i q c d) sz) (fun u : MS => xwT sk a t u.1 u.2.1 u.2.2.1 u.2.2.2) (fun _ => [])) (va_A (xwT sk a t i q c d) sz)) 0 0 (va_A (xwT sk a t i q c d) sz) := by
  refine Met.ofW (cc := cX11_way) (maxL := 5) (ret := (some .int)) (by decide) rfl ?_
  intro p e s m args below meth cd s₁ B hml hv
  obtain ⟨rfl, ⟨hsz, hP, hK, hD0⟩, hN, hZ, hBW⟩ := hv
  have hx := B.exec
  have hb := B.bytes
  have hr := B.returns
  have hts := atoms_spec (ws := wm_X11_way) B.pre
  have hown : s.vm.findClass RX11 = some m.cls := findClass_of_methodNamed B.named
  have hlocks := B.notSynchronized
  subst hsz
  have hD := hD0.self (sz := s.heap.size)
  have hZ := xZ_A hZ hP hBW
  generalize hAe : va_A (xwT sk a t i q c d) s.heap.size = A at hD hZ ⊢
  have hA : ∀ q : Nat, s.heap.size ≤ q → A q := fun q h => by rw [← hAe]; exact Or.inr h
  have hS : va_S A s.heap s.heap [] := va_S.rf
  have hfi : ∀ k, k ∉ ([] : List Nat) → i k = i k := fun _ _ => rfl
  have hfc : ∀ k, k ∉ ([] : List Nat) → c k = c k := fun _ _ => rfl
  have hl := lv_entry ([.ref (a 100), .int w1, .int w2, .int b1]) (n := 5) (Nat.le_of_ble_eq_true rfl)
  rw [lg_entry_eq]
  generalize (lg_sl ([.ref (a 100), .int w1, .int w2, .int b1]) ++ List.replicate (5 - (lg_sl ([.ref (a 100), .int w1, .int w2, .int b1])).length) Slot.unset).toArray = ls at hl ⊢
  have hl : lv_has ls 5 [(0, .ref (a 100)), (1, .int w1), (2, .int w2), (3, .int b1)] := hl
  refine lv_aload_n hx hb dX11_way_0 rfl (lv_at hl 0 rfl) ?_
  refine lv_iload_n hx hb dX11_way_1 rfl (lv_at hl 1 rfl) ?_
  refine lv_iload_n hx hb dX11_way_2 rfl (lv_at hl 2 rfl) ?_
  have rb111_i : 0 ≤ (i 111).toInt ∧ (i 111).toInt ≤ 30 := hI.1 111
  refine al_calli (va_runV (As := [.int w1, .int w2]) (rest := []) ⟨hx, hb, hml, hown, hts⟩ (x_X11_refuseRooms l D s.heap.size sk a t i q c d w1 w2 hI ) (cwV 2 hts gm_X11_way_X11_refuseRooms_232 rfl rfl rfl (by decide +kernel) ⟨Nat.le_of_ble_eq_true rfl, Nat.le_of_ble_eq_true rfl⟩) (yB_V hN (xZ_k hZ hS hA) (xZ_n hZ hD) hK hP hD (ci := 11) (q0 := 0) rfl rfl) rfl rfl hl.1 rfl (lv_room (Nat.le_of_ble_eq_true rfl)) dX11_way_3 ⟨Nat.le_of_ble_eq_true rfl, Nat.le_of_ble_eq_true rfl⟩) hS hA hP hD (fun r1 u1 H locs hw1 hP hD hS => ?_)
  obtain ⟨i1, q1, c1, d1⟩ := u1
  have hw1 : ((r1.toInt = 0 ∧ 0 ≤ w1.toInt ∧ w1.toInt < (i 111).toInt ∧ 0 ≤ w2.toInt ∧ w2.toInt < (i 111).toInt) ∨ r1.toInt = -1 ∨ r1.toInt = -3) ∧ xInv i1 c1 ∧ (∀ k, k ∉ ([102] : List Nat) → i1 k = i k) ∧ (∀ k, k ∉ ([101] : List Nat) → c1 k = c k) := hw1
  obtain ⟨hw1, hI, hei1, hec1⟩ := hw1
  have hfi : ∀ k, k ∉ ([102] : List Nat) → i1 k = i k := fr_z hfi hei1 (by decide) (by decide)
  have hfc : ∀ k, k ∉ ([101] : List Nat) → c1 k = c k := fr_z hfc hec1 (by decide) (by decide)
  refine lv_istore (lv' := [(4, .int r1), (0, .ref (a 100)), (1, .int w1), (2, .int w2), (3, .int b1)]) hx hb dX11_way_6 hl (by decide) rfl (fun ls hl => ?_)
  refine lv_iload hx hb dX11_way_8 (lv_at hl 0 rfl) ?_
  refine lv_if_eq (tgt := 16) hx hb dX11_way_10 (by decide) (fun c2 => ?_) (fun c2 => ?_)
  · have f2 := (ti_eq (a := r1.toInt) (b := 0) rfl (by decide)).mp c2
    refine lv_aload_n hx hb dX11_way_16 rfl (lv_at hl 1 rfl) ?_
    refine xgT_X_roads hx hb hts (fun _ h => List.mem_cons_of_mem _ (List.mem_append_left _ (List.mem_append_left _ (List.mem_append_left _ (List.mem_append_right _ h))))) hown hK hP (hts (.fieldLink RX11 30 "TalePlay" "roads" "LTalePlay$Roads;") (by decide +kernel)) dX11_way_17 ?_
    refine lv_iload_n hx hb dX11_way_20 rfl (lv_at hl 2 rfl) ?_
    refine lv_iload_n hx hb dX11_way_21 rfl (lv_at hl 4 rfl) ?_
    refine al_callv (va_runV (As := [.int w1, .int b1]) (rest := []) ⟨hx, hb, hml, hown, hts⟩ (x_X5_walkFrom l D H.size sk a t i1 q1 c1 d1 w1 b1 hI (show 0 ≤ w1.toInt ∧ w1.toInt ≤ 29 from by omega)) (cwV 2 hts gm_X11_way_X5_walkFrom_235 rfl rfl rfl (by decide +kernel) ⟨Nat.le_of_ble_eq_true rfl, Nat.le_of_ble_eq_true rfl⟩) (yB_V hN (xZ_k hZ hS hA) (xZ_n hZ hD) hK hP hD (ci := 5) (q0 := 21) rfl rfl) rfl rfl hl.1 rfl (lv_room (Nat.le_of_ble_eq_true rfl)) dX11_way_22 ⟨Nat.le_of_ble_eq_true rfl, Nat.le_of_ble_eq_true rfl⟩) hS hA hP hD (fun u3 H locs hw3 hP hD hS => ?_)
    obtain ⟨i3, q3, c3, d3⟩ := u3
    have hw3 : True ∧ xInv i3 c3 ∧ (∀ k, k ∉ ([] : List Nat) → i3 k = i1 k) ∧ (∀ k, k ∉ ([135, 136, 137] : List Nat) → c3 k = c1 k) := hw3
    obtain ⟨hw3, hI, hei3, hec3⟩ := hw3
    have hfi : ∀ k, k ∉ ([102] : List Nat) → i3 k = i k := fr_z hfi hei3 (by decide) (by decide)
    have hfc : ∀ k, k ∉ ([101, 135, 136, 137] : List Nat) → c3 k = c k := fr_z hfc hec3 (by decide) (by decide)
    refine lv_aload_n hx hb dX11_way_25 rfl (lv_at hl 1 rfl) ?_
    refine xgT_X_roads hx hb hts (fun _ h => List.mem_cons_of_mem _ (List.mem_append_left _ (List.mem_append_left _ (List.mem_append_left _ (List.mem_append_right _ h))))) hown hK hP (hts (.fieldLink RX11 30 "TalePlay" "roads" "LTalePlay$Roads;") (by decide +kernel)) dX11_way_26 ?_
    refine xgT_R_steps hx hb hts (fun _ h => List.mem_cons_of_mem _ (List.mem_append_left _ (List.mem_append_right _ h))) hown hK hP (hts (.fieldLink RX11 239 "TalePlay$Roads" "steps" "[I") (by decide +kernel)) dX11_way_29 ?_
    refine lv_iload_n hx hb dX11_way_32 rfl (lv_at hl 3 rfl) ?_
    refine xlT_135 hx hb hK hP (vp_in_iff.mpr (by have h9 : w2.toInt = w2.toInt := rfl; omega)) dX11_way_33 (fun x4 ex4 => ?_)
    have rx4 : x4.toInt = -9 ∨ (0 ≤ x4.toInt ∧ x4.toInt ≤ 29) := by rw [ex4]; exact hI.2 135 _
    exact rw_iret (i3, q3, c3, d3) hx hb hr hlocks hS (hK.sub (tys' := []) [] rfl) hP hD dX11_way_34 ⟨trivial, hI, fr_w hfi (by decide), fr_w hfc (by decide)⟩
  · have f2 := mt (ti_eq (a := r1.toInt) (b := 0) rfl (by decide)).mpr c2
    refine lv_iload hx hb dX11_way_13 (lv_at hl 0 rfl) ?_
    exact rw_iret (i1, q1, c1, d1) hx hb hr hlocks hS (hK.sub (tys' := []) [] rfl) hP hD dX11_way_15 ⟨trivial, hI, fr_w hfi (by decide), fr_w hfc (by decide)⟩

def wm_X11_toward : List Cond := .code yX11_toward cX11_toward 5 (some .int) :: (([.methodLink RX11 232 yX11_refuseRooms, .instanceMethod yX11_refuseRooms, .selects RX11 yX11_refuseRooms yX11_refuseRooms, .initialized RX11, .code yX11_refuseRooms cX11_refuseRooms 3 (some .int), .fieldLink RX11 10 "TalePlay" "world" "LTalePlay$World;", .methodLink RX11 109 yX10_hasObject, .instanceMethod yX10_hasObject, .selects RX10 yX10_hasObject yX10_hasObject, .initialized RX10, .code yX10_hasObject cX10_hasObject 2 (some .boolean), .fieldLink RX10 37 "TalePlay$World" "objects" "I", .methodLink RX11 125 yX10_sortOf, .instanceMethod yX10_sortOf, .selects RX10 yX10_sortOf yX10_sortOf, .code yX10_sortOf cX10_sortOf 2 (some .int), .fieldLink RX10 15 "TalePlay$World" "sorts" "[I", .fieldLink RX10 21 "TalePlay$World" "kindOf" "[I", .methodLink RX11 128 yX11_answerFinding, .instanceMethod yX11_answerFinding, .selects RX11 yX11_answerFinding yX11_answerFinding, .code yX11_answerFinding cX11_answerFinding 2 (some .int), .fieldLink RX11 72 "TalePlay" "latestFinding" "I", .fieldLink RX11 68 "TalePlay" "findingCounts" "[I", .fieldLink RX11 30 "TalePlay" "roads" "LTalePlay$Roads;", .methodLink RX11 235 yX5_walkFrom, .instanceMethod yX5_walkFrom, .selects RX5 yX5_walkFrom yX5_walkFrom, .initialized RX5, .code yX5_walkFrom cX5_walkFrom 8 none, .fieldLink RX5 30 "TalePlay$Roads" "steps" "[I", .methodLink RX5 50 yJ7_fill_53178, .static yJ7_fill_53178, .initialized RJ7, .code yJ7_fill_53178 cJ7_fill_53178 4 none, .fieldLink RX5 33 "TalePlay$Roads" "firsts" "[I", .fieldLink RX5 36 "TalePlay$Roads" "queue" "[I", .fieldLink RX5 9 "TalePlay$Roads" "leads" "[I", .methodLink RX5 101 yX5_isPassable, .instanceMethod yX5_isPassable, .selects RX5 yX5_isPassable yX5_isPassable, .code yX5_isPassable cX5_isPassable 3 (some .boolean), .fieldLink RX5 15 "TalePlay$Roads" "doors" "[I", .fieldLink RX5 43 "TalePlay$Roads" "book" "LTalePlay$Book;", .methodLink RX5 105 yX1_saidFlag, .instanceMethod yX1_saidFlag, .selects RX1 yX1_saidFlag yX1_saidFlag, .initialized RX1, .code yX1_saidFlag cX1_saidFlag 4 (some .int), .fieldLink RX1 34 "TalePlay$Book" "flagBy" "[I", .fieldLink RX1 21 "TalePlay$Book" "cs" "[I", .fieldLink RX1 43 "TalePlay$Book" "world" "LTalePlay$World;", .methodLink RX1 114 yX10_standardFor, .instanceMethod yX10_standardFor, .selects RX10 yX10_standardFor yX10_standardFor, .code yX10_standardFor cX10_standardFor 6 (some .int), .methodLink RX10 40 yX10_sortOf, .fieldLink RX10 18 "TalePlay$World" "standards" "[I", .fieldLink RX10 9 "TalePlay$World" "parents" "[I", .fieldLink RX11 242 "TalePlay$Roads" "firsts" "[I"] : List Cond) ++ wsX110 ++ wsX100 ++ wsX50 ++ wsX10)
set_option maxRecDepth 20000 in
theorem gm_X11_toward_X11_refuseRooms_232 : GoodIn wm_X11_toward (wsV RX11 232 RX11 yX11_refuseRooms wm_X11_refuseRooms) := goodIn_app (goodIn_of _ (by decide +kernel)) (goodIn_r _ [5, 6, 7, 8, 9, 10, 11, 12, 13, 14, 15, 16, 17, 18, 19, 20, 21, 4, 22, 23, 24, 61, 62, 63, 64, 65, 66, 67, 68, 69, 70, 71, 72, 73, 74, 75, 76, 77, 78] rfl (by decide +kernel))
set_option maxRecDepth 20000 in
theorem gm_X11_toward_X5_walkFrom_235 : GoodIn wm_X11_toward (wsV RX11 235 RX5 yX5_walkFrom wm_X5_walkFrom) := goodIn_app (goodIn_of _ (by decide +kernel)) (goodIn_r _ [30, 31, 32, 33, 34, 35, 36, 37, 38, 39, 40, 41, 29, 42, 43, 44, 45, 46, 47, 48, 49, 50, 51, 52, 53, 54, 55, 10, 56, 18, 57, 14, 15, 16, 12, 17, 58, 59, 79, 80, 81, 82, 83, 84, 85, 86, 87, 88, 89, 90, 91, 92, 93, 94, 95, 96, 97, 98, 99, 100, 101, 102, 103, 104, 72, 73, 74, 75, 76, 77, 78] rfl (by decide +kernel))
set_option maxHeartbeats 4000000 in
set_option maxRecDepth 100000 in
theorem x_X11_toward (l : Launch) (D : va_G) (sz : Nat) (sk : Value) (a : Nat → Nat) (t : Nat → ClassId) (i : Nat → Int32) (q : Int64) (c : Nat → Nat → Int32) (d : Nat → Nat → Int64) (w1 : Int32) (w2 : Int32) (b1 : Int32) (hI : xInv i c) : Met l yX11_toward wm_X11_toward ({ frames := 5, cells := 0, slots := 0, locals := 118 }) (va_Pc [.ref (a 100), .int w1, .int w2, .int b1] (yB (a 186) D sz (xwT sk a t i q c d) (xtT t))) (va_Qi (fun (r : Int32) (u : MS) => True ∧ xInv u.1 u.2.2.1 ∧ (∀ k, k ∉ ([102] : List Nat) → u.1 k = i k) ∧ (∀ k, k ∉ ([101, 135, 136, 137] : List Nat) → u.2.2.1 k = c k)) (oC D (va_A (xwT sk a t i q c d) sz) (fun u : MS => xwT sk a t u.1 u.2.1 u.2.2.1 u.2.2.2) (fun _ => [])) (va_A (xwT sk a t i q c d) sz)) 0 0 (va_A (xwT sk a t i q c d) sz) := by
  refine Met.ofW (cc := cX11_toward) (maxL := 5) (ret := (some .int)) (by decide) rfl ?_
  intro p e s m args below meth cd s₁ B hml hv
  obtain ⟨rfl, ⟨hsz, hP, hK, hD0⟩, hN, hZ, hBW⟩ := hv
  have hx := B.exec
  have hb := B.bytes
  have hr := B.returns
  have hts := atoms_spec (ws := wm_X11_toward) B.pre
  have hown : s.vm.findClass RX11 = some m.cls := findClass_of_methodNamed B.named
  have hlocks := B.notSynchronized
  subst hsz
  have hD := hD0.self (sz := s.heap.size)
  have hZ := xZ_A hZ hP hBW
  generalize hAe : va_A (xwT sk a t i q c d) s.heap.size = A at hD hZ ⊢
  have hA : ∀ q : Nat, s.heap.size ≤ q → A q := fun q h => by rw [← hAe]; exact Or.inr h
  have hS : va_S A s.heap s.heap [] := va_S.rf
  have hfi : ∀ k, k ∉ ([] : List Nat) → i k = i k := fun _ _ => rfl
  have hfc : ∀ k, k ∉ ([] : List Nat) → c k = c k := fun _ _ => rfl
  have hl := lv_entry ([.ref (a 100), .int w1, .int w2, .int b1]) (n := 5) (Nat.le_of_ble_eq_true rfl)
  rw [lg_entry_eq]
  generalize (lg_sl ([.ref (a 100), .int w1, .int w2, .int b1]) ++ List.replicate (5 - (lg_sl ([.ref (a 100), .int w1, .int w2, .int b1])).length) Slot.unset).toArray = ls at hl ⊢
  have hl : lv_has ls 5 [(0, .ref (a 100)), (1, .int w1), (2, .int w2), (3, .int b1)] := hl
  refine lv_aload_n hx hb dX11_toward_0 rfl (lv_at hl 0 rfl) ?_
  refine lv_iload_n hx hb dX11_toward_1 rfl (lv_at hl 1 rfl) ?_
  refine lv_iload_n hx hb dX11_toward_2 rfl (lv_at hl 2 rfl) ?_
  have rb111_i : 0 ≤ (i 111).toInt ∧ (i 111).toInt ≤ 30 := hI.1 111
  refine al_calli (va_runV (As := [.int w1, .int w2]) (rest := []) ⟨hx, hb, hml, hown, hts⟩ (x_X11_refuseRooms l D s.heap.size sk a t i q c d w1 w2 hI ) (cwV 2 hts gm_X11_toward_X11_refuseRooms_232 rfl rfl rfl (by decide +kernel) ⟨Nat.le_of_ble_eq_true rfl, Nat.le_of_ble_eq_true rfl⟩) (yB_V hN (xZ_k hZ hS hA) (xZ_n hZ hD) hK hP hD (ci := 11) (q0 := 0) rfl rfl) rfl rfl hl.1 rfl (lv_room (Nat.le_of_ble_eq_true rfl)) dX11_toward_3 ⟨Nat.le_of_ble_eq_true rfl, Nat.le_of_ble_eq_true rfl⟩) hS hA hP hD (fun r1 u1 H locs hw1 hP hD hS => ?_)
  obtain ⟨i1, q1, c1, d1⟩ := u1
  have hw1 : ((r1.toInt = 0 ∧ 0 ≤ w1.toInt ∧ w1.toInt < (i 111).toInt ∧ 0 ≤ w2.toInt ∧ w2.toInt < (i 111).toInt) ∨ r1.toInt = -1 ∨ r1.toInt = -3) ∧ xInv i1 c1 ∧ (∀ k, k ∉ ([102] : List Nat) → i1 k = i k) ∧ (∀ k, k ∉ ([101] : List Nat) → c1 k = c k) := hw1
  obtain ⟨hw1, hI, hei1, hec1⟩ := hw1
  have hfi : ∀ k, k ∉ ([102] : List Nat) → i1 k = i k := fr_z hfi hei1 (by decide) (by decide)
  have hfc : ∀ k, k ∉ ([101] : List Nat) → c1 k = c k := fr_z hfc hec1 (by decide) (by decide)
  refine lv_istore (lv' := [(4, .int r1), (0, .ref (a 100)), (1, .int w1), (2, .int w2), (3, .int b1)]) hx hb dX11_toward_6 hl (by decide) rfl (fun ls hl => ?_)
  refine lv_iload hx hb dX11_toward_8 (lv_at hl 0 rfl) ?_
  refine lv_if_eq (tgt := 16) hx hb dX11_toward_10 (by decide) (fun c2 => ?_) (fun c2 => ?_)
  · have f2 := (ti_eq (a := r1.toInt) (b := 0) rfl (by decide)).mp c2
    refine lv_aload_n hx hb dX11_toward_16 rfl (lv_at hl 1 rfl) ?_
    refine xgT_X_roads hx hb hts (fun _ h => List.mem_cons_of_mem _ (List.mem_append_left _ (List.mem_append_left _ (List.mem_append_left _ (List.mem_append_right _ h))))) hown hK hP (hts (.fieldLink RX11 30 "TalePlay" "roads" "LTalePlay$Roads;") (by decide +kernel)) dX11_toward_17 ?_
    refine lv_iload_n hx hb dX11_toward_20 rfl (lv_at hl 2 rfl) ?_
    refine lv_iload_n hx hb dX11_toward_21 rfl (lv_at hl 4 rfl) ?_
    refine al_callv (va_runV (As := [.int w1, .int b1]) (rest := []) ⟨hx, hb, hml, hown, hts⟩ (x_X5_walkFrom l D H.size sk a t i1 q1 c1 d1 w1 b1 hI (show 0 ≤ w1.toInt ∧ w1.toInt ≤ 29 from by omega)) (cwV 2 hts gm_X11_toward_X5_walkFrom_235 rfl rfl rfl (by decide +kernel) ⟨Nat.le_of_ble_eq_true rfl, Nat.le_of_ble_eq_true rfl⟩) (yB_V hN (xZ_k hZ hS hA) (xZ_n hZ hD) hK hP hD (ci := 5) (q0 := 21) rfl rfl) rfl rfl hl.1 rfl (lv_room (Nat.le_of_ble_eq_true rfl)) dX11_toward_22 ⟨Nat.le_of_ble_eq_true rfl, Nat.le_of_ble_eq_true rfl⟩) hS hA hP hD (fun u3 H locs hw3 hP hD hS => ?_)
    obtain ⟨i3, q3, c3, d3⟩ := u3
    have hw3 : True ∧ xInv i3 c3 ∧ (∀ k, k ∉ ([] : List Nat) → i3 k = i1 k) ∧ (∀ k, k ∉ ([135, 136, 137] : List Nat) → c3 k = c1 k) := hw3
    obtain ⟨hw3, hI, hei3, hec3⟩ := hw3
    have hfi : ∀ k, k ∉ ([102] : List Nat) → i3 k = i k := fr_z hfi hei3 (by decide) (by decide)
    have hfc : ∀ k, k ∉ ([101, 135, 136, 137] : List Nat) → c3 k = c k := fr_z hfc hec3 (by decide) (by decide)
    refine lv_aload_n hx hb dX11_toward_25 rfl (lv_at hl 1 rfl) ?_
    refine xgT_X_roads hx hb hts (fun _ h => List.mem_cons_of_mem _ (List.mem_append_left _ (List.mem_append_left _ (List.mem_append_left _ (List.mem_append_right _ h))))) hown hK hP (hts (.fieldLink RX11 30 "TalePlay" "roads" "LTalePlay$Roads;") (by decide +kernel)) dX11_toward_26 ?_
    refine xgT_R_firsts hx hb hts (fun _ h => List.mem_cons_of_mem _ (List.mem_append_left _ (List.mem_append_right _ h))) hown hK hP (hts (.fieldLink RX11 242 "TalePlay$Roads" "firsts" "[I") (by decide +kernel)) dX11_toward_29 ?_
    refine lv_iload_n hx hb dX11_toward_32 rfl (lv_at hl 3 rfl) ?_
    refine xlT_136 hx hb hK hP (vp_in_iff.mpr (by have h9 : w2.toInt = w2.toInt := rfl; omega)) dX11_toward_33 (fun x4 ex4 => ?_)
    exact rw_iret (i3, q3, c3, d3) hx hb hr hlocks hS (hK.sub (tys' := []) [] rfl) hP hD dX11_toward_34 ⟨trivial, hI, fr_w hfi (by decide), fr_w hfc (by decide)⟩
  · have f2 := mt (ti_eq (a := r1.toInt) (b := 0) rfl (by decide)).mpr c2
    refine lv_iload hx hb dX11_toward_13 (lv_at hl 0 rfl) ?_
    exact rw_iret (i1, q1, c1, d1) hx hb hr hlocks hS (hK.sub (tys' := []) [] rfl) hP hD dX11_toward_15 ⟨trivial, hI, fr_w hfi (by decide), fr_w hfc (by decide)⟩

def wm_X11_unsay : List Cond := .code yX11_unsay cX11_unsay 2 (some .int) :: (([.fieldLink RX11 21 "TalePlay" "book" "LTalePlay$Book;", .fieldLink RX11 168 "TalePlay$Book" "total" "I", .methodLink RX11 91 yX11_isBelow, .static yX11_isBelow, .initialized RX11, .code yX11_isBelow cX11_isBelow 2 (some .boolean), .fieldLink RX11 181 "TalePlay$Book" "said" "[Z", .fieldLink RX11 46 "TalePlay" "tale" "LTalePlay$Tale;", .methodLink RX11 95 yX9_end, .instanceMethod yX9_end, .selects RX9 yX9_end yX9_end, .initialized RX9, .code yX9_end cX9_end 1 none, .fieldLink RX9 72 "TalePlay$Tale" "there" "Z", .fieldLink RX9 77 "TalePlay$Tale" "turns" "I", .methodLink RX11 185 yX1_strike, .instanceMethod yX1_strike, .selects RX1 yX1_strike yX1_strike, .initialized RX1, .code yX1_strike cX1_strike 2 none, .fieldLink RX1 24 "TalePlay$Book" "said" "[Z", .fieldLink RX1 96 "TalePlay$Book" "standing" "I", .methodLink RX1 99 yX1_point, .instanceMethod yX1_point, .selects RX1 yX1_point yX1_point, .code yX1_point cX1_point 4 none, .fieldLink RX1 15 "TalePlay$Book" "as" "[I", .fieldLink RX1 9 "TalePlay$Book" "forms" "[I", .fieldLink RX1 28 "TalePlay$Book" "placeBy" "[I", .fieldLink RX1 52 "TalePlay$Book" "places" "LTalePlay$Scene;", .fieldLink RX1 103 "TalePlay$Scene" "cells" "[I", .fieldLink RX1 18 "TalePlay$Book" "bs" "[I", .methodLink RX1 106 yX6_placed, .static yX6_placed, .initialized RX6, .code yX6_placed cX6_placed 3 (some .int), .fieldLink RX1 31 "TalePlay$Book" "exitBy" "[I", .fieldLink RX1 21 "TalePlay$Book" "cs" "[I", .fieldLink RX1 34 "TalePlay$Book" "flagBy" "[I", .fieldLink RX1 37 "TalePlay$Book" "keyBy" "[I", .fieldLink RX11 30 "TalePlay" "roads" "LTalePlay$Roads;", .fieldLink RX11 188 "TalePlay$Book" "forms" "[I", .methodLink RX11 177 yX5_redrawFor, .instanceMethod yX5_redrawFor, .selects RX5 yX5_redrawFor yX5_redrawFor, .initialized RX5, .code yX5_redrawFor cX5_redrawFor 2 none, .methodLink RX5 47 yX5_wipe, .instanceMethod yX5_wipe, .selects RX5 yX5_wipe yX5_wipe, .code yX5_wipe cX5_wipe 1 none, .fieldLink RX5 9 "TalePlay$Roads" "leads" "[I", .methodLink RX5 50 yJ7_fill_53178, .static yJ7_fill_53178, .initialized RJ7, .code yJ7_fill_53178 cJ7_fill_53178 4 none, .fieldLink RX5 15 "TalePlay$Roads" "doors" "[I", .fieldLink RX5 18 "TalePlay$Roads" "bys" "[I", .fieldLink RX5 21 "TalePlay$Roads" "implied" "[I", .fieldLink RX5 24 "TalePlay$Roads" "firstSides" "[I", .fieldLink RX5 27 "TalePlay$Roads" "secondSides" "[I", .methodLink RX5 56 yX5_drawSaid, .instanceMethod yX5_drawSaid, .selects RX5 yX5_drawSaid yX5_drawSaid, .code yX5_drawSaid cX5_drawSaid 3 none, .fieldLink RX5 43 "TalePlay$Roads" "book" "LTalePlay$Book;", .fieldLink RX5 74 "TalePlay$Book" "total" "I", .methodLink RX5 78 yX5_isDrawn, .instanceMethod yX5_isDrawn, .selects RX5 yX5_isDrawn yX5_isDrawn, .code yX5_isDrawn cX5_isDrawn 2 (some .boolean), .fieldLink RX5 65 "TalePlay$Book" "said" "[Z", .fieldLink RX5 71 "TalePlay$Book" "forms" "[I", .fieldLink RX5 82 "TalePlay$Book" "as" "[I", .fieldLink RX5 85 "TalePlay$Book" "cs" "[I", .fieldLink RX5 88 "TalePlay$Book" "bs" "[I", .methodLink RX5 91 yX5_drawTarget, .instanceMethod yX5_drawTarget, .selects RX5 yX5_drawTarget yX5_drawTarget, .code yX5_drawTarget cX5_drawTarget 4 none, .fieldLink RX5 39 "TalePlay$Roads" "world" "LTalePlay$World;", .methodLink RX5 95 yX10_sortOf, .instanceMethod yX10_sortOf, .selects RX10 yX10_sortOf yX10_sortOf, .initialized RX10, .code yX10_sortOf cX10_sortOf 2 (some .int), .fieldLink RX10 37 "TalePlay$World" "objects" "I", .fieldLink RX10 15 "TalePlay$World" "sorts" "[I", .fieldLink RX10 21 "TalePlay$World" "kindOf" "[I", .methodLink RX5 59 yX5_drawImplied, .instanceMethod yX5_drawImplied, .selects RX5 yX5_drawImplied yX5_drawImplied, .code yX5_drawImplied cX5_drawImplied 3 none, .methodLink RX5 62 yX5_drawThroughDoors, .instanceMethod yX5_drawThroughDoors, .selects RX5 yX5_drawThroughDoors yX5_drawThroughDoors, .code yX5_drawThroughDoors cX5_drawThroughDoors 4 none, .fieldLink RX11 191 "TalePlay$Book" "standing" "I"] : List Cond) ++ wsX110 ++ wsX10 ++ wsX90 ++ wsX60 ++ wsX50 ++ wsX100)
set_option maxRecDepth 20000 in
theorem gm_X11_unsay_X11_isBelow_91 : GoodIn wm_X11_unsay (va_wsS RX11 91 yX11_isBelow wm_X11_isBelow) := goodIn_app (goodIn_of _ (by decide +kernel)) (goodIn_r _ [6] rfl (by decide +kernel))
set_option maxRecDepth 20000 in
theorem gm_X11_unsay_X9_end_95 : GoodIn wm_X11_unsay (wsV RX11 95 RX9 yX9_end wm_X9_end) := goodIn_app (goodIn_of _ (by decide +kernel)) (goodIn_r _ [13, 14, 15, 125, 126, 127, 128, 129, 130, 131, 132, 133, 134, 135] rfl (by decide +kernel))
set_option maxRecDepth 20000 in
theorem gm_X11_unsay_X1_strike_185 : GoodIn wm_X11_unsay (wsV RX11 185 RX1 yX1_strike wm_X1_strike) := goodIn_app (goodIn_of _ (by decide +kernel)) (goodIn_r _ [20, 21, 22, 23, 24, 25, 19, 26, 27, 28, 29, 30, 31, 32, 33, 34, 35, 36, 37, 38, 39, 40, 110, 111, 112, 113, 114, 115, 116, 117, 118, 119, 120, 121, 122, 123, 124, 136, 137] rfl (by decide +kernel))
set_option maxRecDepth 20000 in
theorem gm_X11_unsay_X5_redrawFor_177 : GoodIn wm_X11_unsay (wsV RX11 177 RX5 yX5_redrawFor wm_X5_redrawFor) := goodIn_app (goodIn_of _ (by decide +kernel)) (goodIn_r _ [47, 48, 49, 50, 46, 51, 52, 53, 54, 55, 56, 57, 58, 59, 60, 61, 62, 63, 64, 65, 66, 67, 68, 69, 70, 71, 72, 73, 74, 75, 76, 77, 78, 79, 80, 81, 82, 83, 84, 85, 86, 87, 88, 89, 90, 91, 92, 93, 94, 95, 96, 97, 138, 139, 140, 141, 142, 143, 144, 145, 146, 147, 148, 110, 111, 112, 113, 114, 115, 116, 117, 118, 119, 120, 121, 122, 123, 124, 149, 150, 151, 152, 153, 154, 155] rfl (by decide +kernel))
set_option maxHeartbeats 4000000 in
set_option maxRecDepth 100000 in
theorem x_X11_unsay (l : Launch) (D : va_G) (sz : Nat) (sk : Value) (a : Nat → Nat) (t : Nat → ClassId) (i : Nat → Int32) (q : Int64) (c : Nat → Nat → Int32) (d : Nat → Nat → Int64) (s1 : Int32) (hI : xInv i c) (hs_F : xFl (c 113) (c 115)) : Met l yX11_unsay wm_X11_unsay ({ frames := 4, cells := 0, slots := 0, locals := 87 }) (va_Pc [.ref (a 100), .int s1] (yB (a 186) D sz (xwT sk a t i q c d) (xtT t))) (va_Qi (fun (r : Int32) (u : MS) => True ∧ xInv u.1 u.2.2.1 ∧ (∀ k, k ∉ ([125, 146, 148] : List Nat) → u.1 k = i k) ∧ (∀ k, k ∉ ([117, 118, 119, 120, 121, 127, 129, 130, 131, 132, 133, 134] : List Nat) → u.2.2.1 k = c k) ∧ (xEn (i 146) (i 148) (u.1 146) (u.1 148))) (oC D (va_A (xwT sk a t i q c d) sz) (fun u : MS => xwT sk a t u.1 u.2.1 u.2.2.1 u.2.2.2) (fun _ => [])) (va_A (xwT sk a t i q c d) sz)) 0 0 (va_A (xwT sk a t i q c d) sz) := by
  refine Met.ofW (cc := cX11_unsay) (maxL := 2) (ret := (some .int)) (by decide) rfl ?_
  intro p e s m args below meth cd s₁ B hml hv
  obtain ⟨rfl, ⟨hsz, hP, hK, hD0⟩, hN, hZ, hBW⟩ := hv
  have hx := B.exec
  have hb := B.bytes
  have hr := B.returns
  have hts := atoms_spec (ws := wm_X11_unsay) B.pre
  have hown : s.vm.findClass RX11 = some m.cls := findClass_of_methodNamed B.named
  have hlocks := B.notSynchronized
  subst hsz
  have hD := hD0.self (sz := s.heap.size)
  have hZ := xZ_A hZ hP hBW
  generalize hAe : va_A (xwT sk a t i q c d) s.heap.size = A at hD hZ ⊢
  have hA : ∀ q : Nat, s.heap.size ≤ q → A q := fun q h => by rw [← hAe]; exact Or.inr h
  have hS : va_S A s.heap s.heap [] := va_S.rf
  have hfi : ∀ k, k ∉ ([] : List Nat) → i k = i k := fun _ _ => rfl
  have hfc : ∀ k, k ∉ ([] : List Nat) → c k = c k := fun _ _ => rfl
  have hl := lv_entry ([.ref (a 100), .int s1]) (n := 2) (Nat.le_of_ble_eq_true rfl)
  rw [lg_entry_eq]
  generalize (lg_sl ([.ref (a 100), .int s1]) ++ List.replicate (2 - (lg_sl ([.ref (a 100), .int s1])).length) Slot.unset).toArray = ls at hl ⊢
  have hl : lv_has ls 2 [(0, .ref (a 100)), (1, .int s1)] := hl
  refine lv_iload_n hx hb dX11_unsay_0 rfl (lv_at hl 1 rfl) ?_
  refine lv_aload_n hx hb dX11_unsay_1 rfl (lv_at hl 0 rfl) ?_
  refine xgT_X_book hx hb hts (fun _ h => List.mem_cons_of_mem _ (List.mem_append_left _ (List.mem_append_left _ (List.mem_append_left _ (List.mem_append_left _ (List.mem_append_left _ (List.mem_append_right _ h))))))) hown hK hP (hts (.fieldLink RX11 21 "TalePlay" "book" "LTalePlay$Book;") (by decide +kernel)) dX11_unsay_2 ?_
  refine xgT_B_total (v := (i 124)) rfl hx hb hts (fun _ h => List.mem_cons_of_mem _ (List.mem_append_left _ (List.mem_append_left _ (List.mem_append_left _ (List.mem_append_left _ (List.mem_append_right _ h)))))) hown hK hP (hts (.fieldLink RX11 168 "TalePlay$Book" "total" "I") (by decide +kernel)) dX11_unsay_5 ?_
  have rb124_i : 0 ≤ (i 124).toInt ∧ (i 124).toInt ≤ 200 := hI.1 124
  have hPc := hP.sub (ws' := []) [] rfl
  have hKc := hK.sub (tys' := []) [] rfl
  refine ro_calli (va_runS (As := [.int s1, .int (i 124)]) (rest := []) ⟨hx, hb, hml, hown, hts⟩ (c_X11_isBelow l D s.heap.size s1 (i 124) s1.toInt ((i 124).toInt) rfl rfl) (va_cwS 2 hts gm_X11_unsay_X11_isBelow_91 rfl rfl rfl (by decide +kernel) ⟨Nat.le_of_ble_eq_true rfl, Nat.le_of_ble_eq_true rfl⟩) (pA_S hKc hPc) rfl rfl hl.1 rfl (lv_room (Nat.le_of_ble_eq_true rfl)) dX11_unsay_8 ⟨Nat.le_of_ble_eq_true rfl, Nat.le_of_ble_eq_true rfl⟩) hS hA hP (fun r2 u2 H locs hw2 hP hS => ?_)
  have hw2 : r2 = if (0 ≤ s1.toInt ∧ s1.toInt < ((i 124).toInt)) then 1 else 0 := hw2
  refine lv_if_eq (tgt := 26) hx hb dX11_unsay_11 (by decide) (fun c3 => ?_) (fun c3 => ?_)
  · have f3 := fl_f hw2 c3
    refine lv_iconst (v := (-1)) hx hb dX11_unsay_26 (by decide) ?_
    exact rw_iret (i, q, c, d) hx hb hr hlocks hS (hK.sub (tys' := []) [] rfl) hP hD dX11_unsay_27 ⟨trivial, hI, fr_w hfi (by decide), fr_w hfc (by decide), (show xEn (i 146) (i 148) ((i 146) : Int32) ((i 148) : Int32) from Or.inr ⟨rfl, rfl⟩)⟩
  · have f3 := fl_t hw2 c3
    refine lv_aload_n hx hb dX11_unsay_14 rfl (lv_at hl 0 rfl) ?_
    refine xgT_X_book hx hb hts (fun _ h => List.mem_cons_of_mem _ (List.mem_append_left _ (List.mem_append_left _ (List.mem_append_left _ (List.mem_append_left _ (List.mem_append_left _ (List.mem_append_right _ h))))))) hown hK hP (hts (.fieldLink RX11 21 "TalePlay" "book" "LTalePlay$Book;") (by decide +kernel)) dX11_unsay_15 ?_
    refine xgT_B_said hx hb hts (fun _ h => List.mem_cons_of_mem _ (List.mem_append_left _ (List.mem_append_left _ (List.mem_append_left _ (List.mem_append_left _ (List.mem_append_right _ h)))))) hown hK hP (hts (.fieldLink RX11 181 "TalePlay$Book" "said" "[Z") (by decide +kernel)) dX11_unsay_18 ?_
    refine lv_iload_n hx hb dX11_unsay_21 rfl (lv_at hl 1 rfl) ?_
    refine xlT_117 hx hb hK hP (vp_in_iff.mpr (by have h9 : s1.toInt = s1.toInt := rfl; omega)) dX11_unsay_22 (fun x4 ex4 => ?_)
    have rx4 : 0 ≤ x4.toInt ∧ x4.toInt ≤ 1 := by rw [ex4]; exact hI.2 117 _
    refine lv_if_ne (tgt := 28) hx hb dX11_unsay_23 (by decide) (fun c5 => ?_) (fun c5 => ?_)
    · have f5 := mt (ti_eq (a := x4.toInt) (b := 0) rfl (by decide)).mpr c5
      refine lv_aload_n hx hb dX11_unsay_28 rfl (lv_at hl 0 rfl) ?_
      refine xgT_X_tale hx hb hts (fun _ h => List.mem_cons_of_mem _ (List.mem_append_left _ (List.mem_append_left _ (List.mem_append_left _ (List.mem_append_left _ (List.mem_append_left _ (List.mem_append_right _ h))))))) hown hK hP (hts (.fieldLink RX11 46 "TalePlay" "tale" "LTalePlay$Tale;") (by decide +kernel)) dX11_unsay_29 ?_
      refine al_callv (va_runV (As := []) (rest := []) ⟨hx, hb, hml, hown, hts⟩ (x_X9_end l D H.size sk a t i q c d  hI ) (cwV 0 hts gm_X11_unsay_X9_end_95 rfl rfl rfl (by decide +kernel) ⟨Nat.le_of_ble_eq_true rfl, Nat.le_of_ble_eq_true rfl⟩) (yB_V hN (xZ_k hZ hS hA) (xZ_n hZ hD) hK hP hD (ci := 9) (q0 := 33) rfl rfl) rfl rfl hl.1 rfl (lv_room (Nat.le_of_ble_eq_true rfl)) dX11_unsay_32 ⟨Nat.le_of_ble_eq_true rfl, Nat.le_of_ble_eq_true rfl⟩) hS hA hP hD (fun u6 H locs hw6 hP hD hS => ?_)
      obtain ⟨i6, q6, c6, d6⟩ := u6
      have hw6 : True ∧ xInv i6 c6 ∧ (∀ k, k ∉ ([146, 148] : List Nat) → i6 k = i k) ∧ (∀ k, k ∉ ([] : List Nat) → c6 k = c k) ∧ ((i6 146).toInt = 0) ∧ ((i6 148).toInt = 0) := hw6
      obtain ⟨hw6, hI, hei6, hec6, hxp6_0, hxp6_1⟩ := hw6
      have hxp6_0 : (i6 146).toInt = 0 := hxp6_0
      have hxp6_1 : (i6 148).toInt = 0 := hxp6_1
      have hfi : ∀ k, k ∉ ([146, 148] : List Nat) → i6 k = i k := fr_z hfi hei6 (by decide) (by decide)
      have hfc : ∀ k, k ∉ ([] : List Nat) → c6 k = c k := fr_z hfc hec6 (by decide) (by decide)
      have hen : (i6 146).toInt = 0 := hxp6_0
      refine lv_aload_n hx hb dX11_unsay_35 rfl (lv_at hl 0 rfl) ?_
      refine xgT_X_book hx hb hts (fun _ h => List.mem_cons_of_mem _ (List.mem_append_left _ (List.mem_append_left _ (List.mem_append_left _ (List.mem_append_left _ (List.mem_append_left _ (List.mem_append_right _ h))))))) hown hK hP (hts (.fieldLink RX11 21 "TalePlay" "book" "LTalePlay$Book;") (by decide +kernel)) dX11_unsay_36 ?_
      refine lv_iload_n hx hb dX11_unsay_39 rfl (lv_at hl 1 rfl) ?_
      refine al_callv (va_runV (As := [.int s1]) (rest := []) ⟨hx, hb, hml, hown, hts⟩ (x_X1_strike l D H.size sk a t i6 q6 c6 d6 s1 hI (show 0 ≤ s1.toInt ∧ s1.toInt ≤ 199 from by omega) (by rw [show c6 113 = c 113 from hfc 113 (by decide), show c6 115 = c 115 from hfc 115 (by decide)]; exact hs_F)) (cwV 1 hts gm_X11_unsay_X1_strike_185 rfl rfl rfl (by decide +kernel) ⟨Nat.le_of_ble_eq_true rfl, Nat.le_of_ble_eq_true rfl⟩) (yB_V hN (xZ_k hZ hS hA) (xZ_n hZ hD) hK hP hD (ci := 1) (q0 := 8) rfl rfl) rfl rfl hl.1 rfl (lv_room (Nat.le_of_ble_eq_true rfl)) dX11_unsay_40 ⟨Nat.le_of_ble_eq_true rfl, Nat.le_of_ble_eq_true rfl⟩) hS hA hP hD (fun u7 H locs hw7 hP hD hS => ?_)
      obtain ⟨i7, q7, c7, d7⟩ := u7
      have hw7 : True ∧ xInv i7 c7 ∧ (∀ k, k ∉ ([125] : List Nat) → i7 k = i6 k) ∧ (∀ k, k ∉ ([117, 118, 119, 120, 121, 127] : List Nat) → c7 k = c6 k) := hw7
      obtain ⟨hw7, hI, hei7, hec7⟩ := hw7
      have hfi : ∀ k, k ∉ ([125, 146, 148] : List Nat) → i7 k = i k := fr_z hfi hei7 (by decide) (by decide)
      have hfc : ∀ k, k ∉ ([117, 118, 119, 120, 121, 127] : List Nat) → c7 k = c k := fr_z hfc hec7 (by decide) (by decide)
      have hen : ((i7 146) : Int32).toInt = 0 := by rw [show i7 146 = i6 146 from hei7 146 (by decide)]; exact hen
      refine lv_aload_n hx hb dX11_unsay_43 rfl (lv_at hl 0 rfl) ?_
      refine xgT_X_roads hx hb hts (fun _ h => List.mem_cons_of_mem _ (List.mem_append_left _ (List.mem_append_left _ (List.mem_append_left _ (List.mem_append_left _ (List.mem_append_left _ (List.mem_append_right _ h))))))) hown hK hP (hts (.fieldLink RX11 30 "TalePlay" "roads" "LTalePlay$Roads;") (by decide +kernel)) dX11_unsay_44 ?_
      refine lv_aload_n hx hb dX11_unsay_47 rfl (lv_at hl 0 rfl) ?_
      refine xgT_X_book hx hb hts (fun _ h => List.mem_cons_of_mem _ (List.mem_append_left _ (List.mem_append_left _ (List.mem_append_left _ (List.mem_append_left _ (List.mem_append_left _ (List.mem_append_right _ h))))))) hown hK hP (hts (.fieldLink RX11 21 "TalePlay" "book" "LTalePlay$Book;") (by decide +kernel)) dX11_unsay_48 ?_
      refine xgT_B_forms hx hb hts (fun _ h => List.mem_cons_of_mem _ (List.mem_append_left _ (List.mem_append_left _ (List.mem_append_left _ (List.mem_append_left _ (List.mem_append_right _ h)))))) hown hK hP (hts (.fieldLink RX11 188 "TalePlay$Book" "forms" "[I") (by decide +kernel)) dX11_unsay_51 ?_
      refine lv_iload_n hx hb dX11_unsay_54 rfl (lv_at hl 1 rfl) ?_
      refine xlT_113 hx hb hK hP (vp_in_iff.mpr (by have h9 : s1.toInt = s1.toInt := rfl; omega)) dX11_unsay_55 (fun x8 ex8 => ?_)
      have rx8 : 0 ≤ x8.toInt ∧ x8.toInt ≤ 7 := by rw [ex8]; exact hI.2 113 _
      refine al_callv (va_runV (As := [.int x8]) (rest := []) ⟨hx, hb, hml, hown, hts⟩ (x_X5_redrawFor l D H.size sk a t i7 q7 c7 d7 x8 hI ) (cwV 1 hts gm_X11_unsay_X5_redrawFor_177 rfl rfl rfl (by decide +kernel) ⟨Nat.le_of_ble_eq_true rfl, Nat.le_of_ble_eq_true rfl⟩) (yB_V hN (xZ_k hZ hS hA) (xZ_n hZ hD) hK hP hD (ci := 5) (q0 := 21) rfl rfl) rfl rfl hl.1 rfl (lv_room (Nat.le_of_ble_eq_true rfl)) dX11_unsay_56 ⟨Nat.le_of_ble_eq_true rfl, Nat.le_of_ble_eq_true rfl⟩) hS hA hP hD (fun u9 H locs hw9 hP hD hS => ?_)
      obtain ⟨i9, q9, c9, d9⟩ := u9
      have hw9 : True ∧ xInv i9 c9 ∧ (∀ k, k ∉ ([] : List Nat) → i9 k = i7 k) ∧ (∀ k, k ∉ ([129, 130, 131, 132, 133, 134] : List Nat) → c9 k = c7 k) := hw9
      obtain ⟨hw9, hI, hei9, hec9⟩ := hw9
      have hfi : ∀ k, k ∉ ([125, 146, 148] : List Nat) → i9 k = i k := fr_z hfi hei9 (by decide) (by decide)
      have hfc : ∀ k, k ∉ ([117, 118, 119, 120, 121, 127, 129, 130, 131, 132, 133, 134] : List Nat) → c9 k = c k := fr_z hfc hec9 (by decide) (by decide)
      have hen : ((i9 146) : Int32).toInt = 0 := by rw [show i9 146 = i7 146 from hei9 146 (by decide)]; exact hen
      refine lv_aload_n hx hb dX11_unsay_59 rfl (lv_at hl 0 rfl) ?_
      refine xgT_X_book hx hb hts (fun _ h => List.mem_cons_of_mem _ (List.mem_append_left _ (List.mem_append_left _ (List.mem_append_left _ (List.mem_append_left _ (List.mem_append_left _ (List.mem_append_right _ h))))))) hown hK hP (hts (.fieldLink RX11 21 "TalePlay" "book" "LTalePlay$Book;") (by decide +kernel)) dX11_unsay_60 ?_
      refine xgT_B_standing (v := (i9 125)) rfl hx hb hts (fun _ h => List.mem_cons_of_mem _ (List.mem_append_left _ (List.mem_append_left _ (List.mem_append_left _ (List.mem_append_left _ (List.mem_append_right _ h)))))) hown hK hP (hts (.fieldLink RX11 191 "TalePlay$Book" "standing" "I") (by decide +kernel)) dX11_unsay_63 ?_
      exact rw_iret (i9, q9, c9, d9) hx hb hr hlocks hS (hK.sub (tys' := []) [] rfl) hP hD dX11_unsay_66 ⟨trivial, hI, fr_w hfi (by decide), fr_w hfc (by decide), (show xEn (i 146) (i 148) ((i9 146) : Int32) ((i9 148) : Int32) from Or.inl hen)⟩
    · have f5 := (ti_eq (a := x4.toInt) (b := 0) rfl (by decide)).mp c5
      refine lv_iconst (v := (-1)) hx hb dX11_unsay_26 (by decide) ?_
      exact rw_iret (i, q, c, d) hx hb hr hlocks hS (hK.sub (tys' := []) [] rfl) hP hD dX11_unsay_27 ⟨trivial, hI, fr_w hfi (by decide), fr_w hfc (by decide), (show xEn (i 146) (i 148) ((i 146) : Int32) ((i 148) : Int32) from Or.inr ⟨rfl, rfl⟩)⟩

