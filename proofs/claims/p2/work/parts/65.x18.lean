def wm_X11_begin : List Cond := .code yX11_begin cX11_begin 3 (some .int) :: (([.fieldLink RX11 10 "TalePlay" "world" "LTalePlay$World;", .methodLink RX11 109 yX10_hasObject, .instanceMethod yX10_hasObject, .selects RX10 yX10_hasObject yX10_hasObject, .initialized RX10, .code yX10_hasObject cX10_hasObject 2 (some .boolean), .fieldLink RX10 37 "TalePlay$World" "objects" "I", .methodLink RX11 125 yX10_sortOf, .instanceMethod yX10_sortOf, .selects RX10 yX10_sortOf yX10_sortOf, .code yX10_sortOf cX10_sortOf 2 (some .int), .fieldLink RX10 15 "TalePlay$World" "sorts" "[I", .fieldLink RX10 21 "TalePlay$World" "kindOf" "[I", .fieldLink RX11 21 "TalePlay" "book" "LTalePlay$Book;", .fieldLink RX11 203 "TalePlay$Book" "places" "LTalePlay$Scene;", .methodLink RX11 245 yX6_roomOf, .instanceMethod yX6_roomOf, .selects RX6 yX6_roomOf yX6_roomOf, .initialized RX6, .code yX6_roomOf cX6_roomOf 4 (some .int), .fieldLink RX6 15 "TalePlay$Scene" "world" "LTalePlay$World;", .methodLink RX6 29 yX10_sortOf, .methodLink RX6 25 yX6_holderOf, .instanceMethod yX6_holderOf, .selects RX6 yX6_holderOf yX6_holderOf, .code yX6_holderOf cX6_holderOf 3 (some .int), .fieldLink RX6 9 "TalePlay$Scene" "cells" "[I", .fieldLink RX11 46 "TalePlay" "tale" "LTalePlay$Tale;", .methodLink RX11 248 yX9_start, .instanceMethod yX9_start, .selects RX9 yX9_start yX9_start, .initialized RX9, .code yX9_start cX9_start 3 none, .fieldLink RX9 21 "TalePlay$Tale" "world" "LTalePlay$World;", .fieldLink RX9 60 "TalePlay$World" "objects" "I", .fieldLink RX9 72 "TalePlay$Tale" "there" "Z", .fieldLink RX9 56 "TalePlay$Tale" "player" "I", .fieldLink RX9 52 "TalePlay$Tale" "acts" "LTalePlay$Acts;", .fieldLink RX9 76 "TalePlay$Acts" "player" "I", .fieldLink RX9 77 "TalePlay$Tale" "turns" "I", .fieldLink RX9 43 "TalePlay$Tale" "sight" "LTalePlay$Sight;", .methodLink RX9 80 yX8_look, .instanceMethod yX8_look, .selects RX8 yX8_look yX8_look, .initialized RX8, .code yX8_look cX8_look 6 none, .methodLink RX8 30 yX8_shellOf, .instanceMethod yX8_shellOf, .selects RX8 yX8_shellOf yX8_shellOf, .code yX8_shellOf cX8_shellOf 5 (some .int), .fieldLink RX8 26 "TalePlay$Sight" "scene" "LTalePlay$Scene;", .methodLink RX8 62 yX6_holderOf, .fieldLink RX8 18 "TalePlay$Sight" "world" "LTalePlay$World;", .methodLink RX8 34 yX10_sortOf, .methodLink RX8 65 yX8_isCover, .instanceMethod yX8_isCover, .selects RX8 yX8_isCover yX8_isCover, .code yX8_isCover cX8_isCover 3 (some .boolean), .methodLink RX8 40 yX6_has, .instanceMethod yX6_has, .selects RX6 yX6_has yX6_has, .code yX6_has cX6_has 3 (some .boolean), .fieldLink RX8 46 "TalePlay$Sight" "bright" "Z", .fieldLink RX8 50 "TalePlay$World" "objects" "I", .methodLink RX8 58 yX6_lies, .instanceMethod yX6_lies, .selects RX6 yX6_lies yX6_lies, .code yX6_lies cX6_lies 4 (some .boolean), .fieldLink RX8 9 "TalePlay$Sight" "seen" "[Z", .fieldLink RX8 15 "TalePlay$Sight" "reached" "[Z", .methodLink RX8 54 yX8_isInView, .instanceMethod yX8_isInView, .selects RX8 yX8_isInView yX8_isInView, .code yX8_isInView cX8_isInView 6 (some .boolean), .fieldLink RX8 22 "TalePlay$Sight" "roads" "LTalePlay$Roads;", .methodLink RX8 69 yX5_isSide, .instanceMethod yX5_isSide, .selects RX5 yX5_isSide yX5_isSide, .initialized RX5, .code yX5_isSide cX5_isSide 3 (some .boolean), .fieldLink RX5 24 "TalePlay$Roads" "firstSides" "[I", .fieldLink RX5 27 "TalePlay$Roads" "secondSides" "[I", .fieldLink RX9 34 "TalePlay$Tale" "scene" "LTalePlay$Scene;", .fieldLink RX9 65 "TalePlay$Scene" "cells" "[I", .methodLink RX9 68 yX9_cellAsSaid, .instanceMethod yX9_cellAsSaid, .selects RX9 yX9_cellAsSaid yX9_cellAsSaid, .code yX9_cellAsSaid cX9_cellAsSaid 4 (some .int), .fieldLink RX9 25 "TalePlay$Tale" "book" "LTalePlay$Book;", .fieldLink RX9 84 "TalePlay$Book" "places" "LTalePlay$Scene;", .methodLink RX9 89 yX10_canHave, .instanceMethod yX10_canHave, .selects RX10 yX10_canHave yX10_canHave, .code yX10_canHave cX10_canHave 3 (some .boolean), .methodLink RX10 48 yX10_isShutter, .instanceMethod yX10_isShutter, .selects RX10 yX10_isShutter yX10_isShutter, .code yX10_isShutter cX10_isShutter 3 (some .boolean), .methodLink RX10 40 yX10_sortOf, .methodLink RX10 44 yX10_isMovable, .instanceMethod yX10_isMovable, .selects RX10 yX10_isMovable yX10_isMovable, .code yX10_isMovable cX10_isMovable 3 (some .boolean), .methodLink RX10 51 yX10_isGoods, .instanceMethod yX10_isGoods, .selects RX10 yX10_isGoods yX10_isGoods, .code yX10_isGoods cX10_isGoods 2 (some .boolean), .methodLink RX9 93 yX1_saidFlag, .instanceMethod yX1_saidFlag, .selects RX1 yX1_saidFlag yX1_saidFlag, .initialized RX1, .code yX1_saidFlag cX1_saidFlag 4 (some .int), .fieldLink RX1 34 "TalePlay$Book" "flagBy" "[I", .fieldLink RX1 21 "TalePlay$Book" "cs" "[I", .fieldLink RX1 43 "TalePlay$Book" "world" "LTalePlay$World;", .methodLink RX1 114 yX10_standardFor, .instanceMethod yX10_standardFor, .selects RX10 yX10_standardFor yX10_standardFor, .code yX10_standardFor cX10_standardFor 6 (some .int), .fieldLink RX10 18 "TalePlay$World" "standards" "[I", .fieldLink RX10 9 "TalePlay$World" "parents" "[I", .methodLink RX9 97 yX6_flagged, .static yX6_flagged, .code yX6_flagged cX6_flagged 4 (some .int), .methodLink RX11 128 yX11_answerFinding, .instanceMethod yX11_answerFinding, .selects RX11 yX11_answerFinding yX11_answerFinding, .initialized RX11, .code yX11_answerFinding cX11_answerFinding 2 (some .int), .fieldLink RX11 72 "TalePlay" "latestFinding" "I", .fieldLink RX11 68 "TalePlay" "findingCounts" "[I"] : List Cond) ++ wsX110 ++ wsX100 ++ wsX10 ++ wsX60 ++ wsX90 ++ wsX00 ++ wsX80 ++ wsX50)
set_option maxRecDepth 20000 in
theorem gm_X11_begin_X10_hasObject_109 : GoodIn wm_X11_begin (wsV RX11 109 RX10 yX10_hasObject wm_X10_hasObject) := goodIn_app (goodIn_of _ (by decide +kernel)) (goodIn_r _ [6, 7, 143, 144, 145, 146, 147, 148, 149] rfl (by decide +kernel))
set_option maxRecDepth 20000 in
theorem gm_X11_begin_X10_sortOf_e_125 : GoodIn wm_X11_begin (wsV RX11 125 RX10 yX10_sortOf wm_X10_sortOf_e) := goodIn_app (goodIn_of _ (by decide +kernel)) (goodIn_r _ [11, 7, 12, 13, 143, 144, 145, 146, 147, 148, 149] rfl (by decide +kernel))
set_option maxRecDepth 20000 in
theorem gm_X11_begin_X6_roomOf_e_245 : GoodIn wm_X11_begin (wsV RX11 245 RX6 yX6_roomOf wm_X6_roomOf_e) := goodIn_app (goodIn_of _ (by decide +kernel)) (goodIn_r _ [20, 21, 22, 9, 10, 5, 11, 7, 12, 13, 23, 24, 25, 19, 26, 27, 165, 166, 143, 144, 145, 146, 147, 148, 149] rfl (by decide +kernel))
set_option maxRecDepth 20000 in
theorem gm_X11_begin_X9_start_248 : GoodIn wm_X11_begin (wsV RX11 248 RX9 yX9_start wm_X9_start) := goodIn_app (goodIn_of _ (by decide +kernel)) (goodIn_r _ [33, 34, 35, 36, 37, 38, 39, 40, 41, 42, 43, 44, 45, 46, 47, 48, 49, 50, 51, 52, 24, 25, 19, 26, 27, 53, 54, 9, 10, 5, 11, 7, 12, 13, 55, 56, 57, 58, 59, 60, 61, 62, 63, 64, 65, 66, 67, 68, 69, 70, 71, 72, 73, 74, 75, 76, 77, 78, 79, 80, 81, 82, 83, 84, 85, 86, 87, 32, 88, 89, 90, 91, 92, 93, 94, 95, 96, 97, 98, 99, 100, 101, 102, 103, 104, 105, 106, 107, 108, 109, 110, 111, 112, 113, 114, 115, 116, 117, 118, 119, 120, 121, 122, 123, 124, 167, 168, 169, 170, 171, 172, 173, 174, 175, 176, 177, 143, 144, 145, 146, 147, 148, 149, 178, 179, 180, 181, 182, 183, 184, 185, 186, 187, 188, 189, 190, 165, 166, 191, 192, 193, 194, 195, 196, 197, 198, 199, 200, 201, 150, 151, 152, 153, 154, 155, 156, 157, 158, 159, 160, 161, 162, 163, 164] rfl (by decide +kernel))
set_option maxRecDepth 20000 in
theorem gm_X11_begin_X11_answerFinding_128 : GoodIn wm_X11_begin (wsV RX11 128 RX11 yX11_answerFinding wm_X11_answerFinding) := goodIn_app (goodIn_of _ (by decide +kernel)) (goodIn_r _ [129, 130, 131, 132, 133, 134, 135, 136, 137, 138, 139, 140, 141, 142] rfl (by decide +kernel))
set_option maxHeartbeats 4000000 in
set_option maxRecDepth 100000 in
theorem x_X11_begin (l : Launch) (D : va_G) (sz : Nat) (sk : Value) (a : Nat → Nat) (t : Nat → ClassId) (i : Nat → Int32) (q : Int64) (c : Nat → Nat → Int32) (d : Nat → Nat → Int64) (w : Int32) (hI : xInv i c) (hs_P : PJ (i 146) (i 147) (i 156) (i 148) (c 150) (c 144) (c 145)) : Met l yX11_begin wm_X11_begin ({ frames := 6, cells := 0, slots := 0, locals := 131 }) (va_Pc [.ref (a 100), .int w] (yB (a 186) D sz (xwT sk a t i q c d) (xtT t))) (va_Qi (fun (r : Int32) (u : MS) => True ∧ xInv u.1 u.2.2.1 ∧ (∀ k, k ∉ ([102, 146, 147, 148, 154, 156] : List Nat) → u.1 k = i k) ∧ (∀ k, k ∉ ([101, 150, 152, 153] : List Nat) → u.2.2.1 k = c k) ∧ (PJ (u.1 146) (u.1 147) (u.1 156) (u.1 148) (u.2.2.1 150) (u.2.2.1 144) (u.2.2.1 145))) (oC D (va_A (xwT sk a t i q c d) sz) (fun u : MS => xwT sk a t u.1 u.2.1 u.2.2.1 u.2.2.2) (fun _ => [])) (va_A (xwT sk a t i q c d) sz)) 0 0 (va_A (xwT sk a t i q c d) sz) := by
  refine Met.ofW (cc := cX11_begin) (maxL := 3) (ret := (some .int)) (by decide) rfl ?_
  intro p e s m args below meth cd s₁ B hml hv
  obtain ⟨rfl, ⟨hsz, hP, hK, hD0⟩, hN, hZ, hBW⟩ := hv
  have hx := B.exec
  have hb := B.bytes
  have hr := B.returns
  have hts := atoms_spec (ws := wm_X11_begin) B.pre
  have hown : s.vm.findClass RX11 = some m.cls := findClass_of_methodNamed B.named
  have hlocks := B.notSynchronized
  subst hsz
  have hD := hD0.self (sz := s.heap.size)
  have hZ := xZ_A hZ hP hBW
  generalize hAe : va_A (xwT sk a t i q c d) s.heap.size = A at hD hZ ⊢
  have hA : ∀ q : Nat, s.heap.size ≤ q → A q := fun q h => by rw [← hAe]; exact Or.inr h
  have hS : va_S A s.heap s.heap [] := va_S.rf
  have hfi : ∀ k, k ∉ ([] : List Nat) → i k = i k := fun _ _ => rfl
  have hfc : ∀ k, k ∉ ([] : List Nat) → c k = c k := fun _ _ => rfl
  have hl := lv_entry ([.ref (a 100), .int w]) (n := 3) (Nat.le_of_ble_eq_true rfl)
  rw [lg_entry_eq]
  generalize (lg_sl ([.ref (a 100), .int w]) ++ List.replicate (3 - (lg_sl ([.ref (a 100), .int w])).length) Slot.unset).toArray = ls at hl ⊢
  have hl : lv_has ls 3 [(0, .ref (a 100)), (1, .int w)] := hl
  refine lv_aload_n hx hb dX11_begin_0 rfl (lv_at hl 0 rfl) ?_
  refine xgT_X_world hx hb hts (fun _ h => List.mem_cons_of_mem _ (List.mem_append_left _ (List.mem_append_left _ (List.mem_append_left _ (List.mem_append_left _ (List.mem_append_left _ (List.mem_append_left _ (List.mem_append_left _ (List.mem_append_right _ h))))))))) hown hK hP (hts (.fieldLink RX11 10 "TalePlay" "world" "LTalePlay$World;") (by decide +kernel)) dX11_begin_1 ?_
  refine lv_iload_n hx hb dX11_begin_4 rfl (lv_at hl 1 rfl) ?_
  have rb111_i : 0 ≤ (i 111).toInt ∧ (i 111).toInt ≤ 30 := hI.1 111
  refine ro_calli (va_runV (As := [.int w]) (rest := []) ⟨hx, hb, hml, hown, hts⟩ (x_X10_hasObject l D s.heap.size .null a t i q c d w hI ) (cwV 1 hts gm_X11_begin_X10_hasObject_109 rfl rfl rfl (by decide +kernel) ⟨Nat.le_of_ble_eq_true rfl, Nat.le_of_ble_eq_true rfl⟩) (yA_V hN (xZ_k hZ hS hA) (xkT_W hK) (xuT_W (sk := sk) hP) (ci := 10) (q0 := 0) rfl rfl) rfl rfl hl.1 rfl (lv_room (Nat.le_of_ble_eq_true rfl)) dX11_begin_5 ⟨Nat.le_of_ble_eq_true rfl, Nat.le_of_ble_eq_true rfl⟩) hS hA hP (fun r1 u1 H locs hw1 hP hS => ?_)
  have hw1 : r1 = if (0 ≤ w.toInt ∧ w.toInt < (i 111).toInt) then 1 else 0 := hw1
  refine lv_if_ne (tgt := 13) hx hb dX11_begin_8 (by decide) (fun c2 => ?_) (fun c2 => ?_)
  · have f2 := fl_t hw1 c2
    refine lv_aload_n hx hb dX11_begin_13 rfl (lv_at hl 0 rfl) ?_
    refine xgT_X_world hx hb hts (fun _ h => List.mem_cons_of_mem _ (List.mem_append_left _ (List.mem_append_left _ (List.mem_append_left _ (List.mem_append_left _ (List.mem_append_left _ (List.mem_append_left _ (List.mem_append_left _ (List.mem_append_right _ h))))))))) hown hK hP (hts (.fieldLink RX11 10 "TalePlay" "world" "LTalePlay$World;") (by decide +kernel)) dX11_begin_14 ?_
    refine lv_iload_n hx hb dX11_begin_17 rfl (lv_at hl 1 rfl) ?_
    refine ro_calli (va_runV (As := [.int w]) (rest := []) ⟨hx, hb, hml, hown, hts⟩ (x_X10_sortOf_e l D H.size .null a t i q c d w hI ) (cwV 1 hts gm_X11_begin_X10_sortOf_e_125 rfl rfl rfl (by decide +kernel) ⟨Nat.le_of_ble_eq_true rfl, Nat.le_of_ble_eq_true rfl⟩) (yA_V hN (xZ_k hZ hS hA) (xkT_W hK) (xuT_W (sk := sk) hP) (ci := 10) (q0 := 0) rfl rfl) rfl rfl hl.1 rfl (lv_room (Nat.le_of_ble_eq_true rfl)) dX11_begin_18 ⟨Nat.le_of_ble_eq_true rfl, Nat.le_of_ble_eq_true rfl⟩) hS hA hP (fun r3 u3 H locs hw3 hP hS => ?_)
    have hw3 : (((r3.toInt = -9 ∧ ¬ (0 ≤ w.toInt ∧ w.toInt < (i 111).toInt)) ∨ (0 ≤ r3.toInt ∧ r3.toInt ≤ 5 ∧ 0 ≤ w.toInt ∧ w.toInt < (i 111).toInt)) ∧ (SO (c 106) (c 108) (i 111).toInt w.toInt r3.toInt)) := hw3
    obtain ⟨hw3, hr3_0⟩ := hw3
    have hr3_0 : SO (c 106) (c 108) (i 111).toInt w.toInt r3.toInt := hr3_0
    refine lv_iconst (v := 5) hx hb dX11_begin_21 (by decide) ?_
    refine lv_icmp_eq (tgt := 31) hx hb dX11_begin_22 (by decide) (fun c4 => ?_) (fun c4 => ?_)
    · have f4 := (ti_eq (a := r3.toInt) (b := 5) rfl (by decide)).mp c4
      refine lv_aload_n hx hb dX11_begin_31 rfl (lv_at hl 0 rfl) ?_
      refine xgT_X_book hx hb hts (fun _ h => List.mem_cons_of_mem _ (List.mem_append_left _ (List.mem_append_left _ (List.mem_append_left _ (List.mem_append_left _ (List.mem_append_left _ (List.mem_append_left _ (List.mem_append_left _ (List.mem_append_right _ h))))))))) hown hK hP (hts (.fieldLink RX11 21 "TalePlay" "book" "LTalePlay$Book;") (by decide +kernel)) dX11_begin_32 ?_
      refine xgT_B_places hx hb hts (fun _ h => List.mem_cons_of_mem _ (List.mem_append_left _ (List.mem_append_left _ (List.mem_append_left _ (List.mem_append_left _ (List.mem_append_left _ (List.mem_append_right _ h))))))) hown hK hP (hts (.fieldLink RX11 203 "TalePlay$Book" "places" "LTalePlay$Scene;") (by decide +kernel)) dX11_begin_35 ?_
      refine lv_iload_n hx hb dX11_begin_38 rfl (lv_at hl 1 rfl) ?_
      refine ro_calli (va_runV (As := [.int w]) (rest := []) ⟨hx, hb, hml, hown, hts⟩ (x_X6_roomOf_e l D H.size .null a t i q c d w hI (show 0 ≤ w.toInt ∧ w.toInt ≤ 29 from by omega)) (cwV 1 hts gm_X11_begin_X6_roomOf_e_245 rfl rfl rfl (by decide +kernel) ⟨Nat.le_of_ble_eq_true rfl, Nat.le_of_ble_eq_true rfl⟩) (yA_V hN (xZ_k hZ hS hA) (xkT_Q0 hK) (xuT_Q0 (sk := sk) hP) (ci := 6) (q0 := 0) rfl rfl) rfl rfl hl.1 rfl (lv_room (Nat.le_of_ble_eq_true rfl)) dX11_begin_39 ⟨Nat.le_of_ble_eq_true rfl, Nat.le_of_ble_eq_true rfl⟩) hS hA hP (fun r5 u5 H locs hw5 hP hS => ?_)
      have hw5 : ((r5.toInt = -9 ∨ (0 ≤ r5.toInt ∧ r5.toInt ≤ 29)) ∧ (Im (¬ r5.toInt = -9) (SO (c 106) (c 108) (i 111).toInt w.toInt 0 ∨ ¬ (c 127 w.toNatClampNeg).toInt % 256 = 255))) := hw5
      obtain ⟨hw5, hr5_0⟩ := hw5
      have hr5_0 : Im (¬ r5.toInt = -9) (SO (c 106) (c 108) (i 111).toInt w.toInt 0 ∨ ¬ (c 127 w.toNatClampNeg).toInt % 256 = 255) := hr5_0
      refine lv_istore_n (lv' := [(2, .int r5), (0, .ref (a 100)), (1, .int w)]) hx hb dX11_begin_42 rfl hl (by decide) rfl (fun ls hl => ?_)
      refine lv_iload_n hx hb dX11_begin_43 rfl (lv_at hl 0 rfl) ?_
      refine lv_bipush (v := (-9)) hx hb dX11_begin_44 (by decide) ?_
      refine lv_icmp_ne (tgt := 55) hx hb dX11_begin_46 (by decide) (fun c6 => ?_) (fun c6 => ?_)
      · have f6 := mt (ti_eq (a := r5.toInt) (b := (-9)) rfl (by decide)).mpr c6
        refine lv_aload_n hx hb dX11_begin_55 rfl (lv_at hl 1 rfl) ?_
        refine xgT_X_tale hx hb hts (fun _ h => List.mem_cons_of_mem _ (List.mem_append_left _ (List.mem_append_left _ (List.mem_append_left _ (List.mem_append_left _ (List.mem_append_left _ (List.mem_append_left _ (List.mem_append_left _ (List.mem_append_right _ h))))))))) hown hK hP (hts (.fieldLink RX11 46 "TalePlay" "tale" "LTalePlay$Tale;") (by decide +kernel)) dX11_begin_56 ?_
        refine lv_iload_n hx hb dX11_begin_59 rfl (lv_at hl 2 rfl) ?_
        refine al_callv (va_runV (As := [.int w]) (rest := []) ⟨hx, hb, hml, hown, hts⟩ (x_X9_start l D H.size sk a t i q c d w hI (show 0 ≤ w.toInt ∧ w.toInt ≤ 29 from by omega) (show w.toInt < ((i 111) : Int32).toInt from by omega) (by rcases hr5_0 (by omega) with h9 | h9; (· exact absurd (SO_u hr3_0 h9) (by omega)); (· exact h9))) (cwV 1 hts gm_X11_begin_X9_start_248 rfl rfl rfl (by decide +kernel) ⟨Nat.le_of_ble_eq_true rfl, Nat.le_of_ble_eq_true rfl⟩) (yB_V hN (xZ_k hZ hS hA) (xZ_n hZ hD) hK hP hD (ci := 9) (q0 := 33) rfl rfl) rfl rfl hl.1 rfl (lv_room (Nat.le_of_ble_eq_true rfl)) dX11_begin_60 ⟨Nat.le_of_ble_eq_true rfl, Nat.le_of_ble_eq_true rfl⟩) hS hA hP hD (fun u7 H locs hw7 hP hD hS => ?_)
        obtain ⟨i7, q7, c7, d7⟩ := u7
        have hw7 : True ∧ xInv i7 c7 ∧ (∀ k, k ∉ ([146, 147, 148, 154, 156] : List Nat) → i7 k = i k) ∧ (∀ k, k ∉ ([150, 152, 153] : List Nat) → c7 k = c k) ∧ (PJ (i7 146) (i7 147) (i7 156) (i7 148) (c7 150) (c7 144) (c7 145)) := hw7
        obtain ⟨hw7, hI, hei7, hec7, hxp7_0⟩ := hw7
        have hxp7_0 : PJ (i7 146) (i7 147) (i7 156) (i7 148) (c7 150) (c7 144) (c7 145) := hxp7_0
        have hfi : ∀ k, k ∉ ([146, 147, 148, 154, 156] : List Nat) → i7 k = i k := fr_z hfi hei7 (by decide) (by decide)
        have hfc : ∀ k, k ∉ ([150, 152, 153] : List Nat) → c7 k = c k := fr_z hfc hec7 (by decide) (by decide)
        have hPJ : PJ (i7 146) (i7 147) (i7 156) (i7 148) (c7 150) (c7 144) (c7 145) := hxp7_0
        refine lv_iload_n hx hb dX11_begin_63 rfl (lv_at hl 0 rfl) ?_
        exact rw_iret (i7, q7, c7, d7) hx hb hr hlocks hS (hK.sub (tys' := []) [] rfl) hP hD dX11_begin_64 ⟨trivial, hI, fr_w hfi (by decide), fr_w hfc (by decide), (show PJ ((i7 146) : Int32) ((i7 147) : Int32) ((i7 156) : Int32) ((i7 148) : Int32) (c7 150) (c7 144) (c7 145) from hPJ)⟩
      · have f6 := (ti_eq (a := r5.toInt) (b := (-9)) rfl (by decide)).mp c6
        refine lv_aload_n hx hb dX11_begin_49 rfl (lv_at hl 1 rfl) ?_
        refine lv_iconst (v := 1) hx hb dX11_begin_50 (by decide) ?_
        refine al_calli (va_runV (As := [.int 1]) (rest := []) ⟨hx, hb, hml, hown, hts⟩ (x_X11_answerFinding l D H.size sk a t i q c d 1 hI (show 1 ≤ 1 ∧ 1 ≤ 6 from by have h90 : (1 : Int32).toInt = 1 := (by decide); omega)) (cwV 1 hts gm_X11_begin_X11_answerFinding_128 rfl rfl rfl (by decide +kernel) ⟨Nat.le_of_ble_eq_true rfl, Nat.le_of_ble_eq_true rfl⟩) (yB_V hN (xZ_k hZ hS hA) (xZ_n hZ hD) hK hP hD (ci := 11) (q0 := 0) rfl rfl) rfl rfl hl.1 rfl (lv_room (Nat.le_of_ble_eq_true rfl)) dX11_begin_51 ⟨Nat.le_of_ble_eq_true rfl, Nat.le_of_ble_eq_true rfl⟩) hS hA hP hD (fun r8 u8 H locs hw8 hP hD hS => ?_)
        obtain ⟨i8, q8, c8, d8⟩ := u8
        have hw8 : r8 = (-3) ∧ xInv i8 c8 ∧ (∀ k, k ∉ ([102] : List Nat) → i8 k = i k) ∧ (∀ k, k ∉ ([101] : List Nat) → c8 k = c k) := hw8
        obtain ⟨hw8, hI, hei8, hec8⟩ := hw8
        have hfi : ∀ k, k ∉ ([102] : List Nat) → i8 k = i k := fr_z hfi hei8 (by decide) (by decide)
        have hfc : ∀ k, k ∉ ([101] : List Nat) → c8 k = c k := fr_z hfc hec8 (by decide) (by decide)
        have hw8 : r8 = (-3) := hw8
        subst hw8
        exact rw_iret (i8, q8, c8, d8) hx hb hr hlocks hS (hK.sub (tys' := []) [] rfl) hP hD dX11_begin_54 ⟨trivial, hI, fr_w hfi (by decide), fr_w hfc (by decide), (show PJ ((i8 146) : Int32) ((i8 147) : Int32) ((i8 156) : Int32) ((i8 148) : Int32) (c8 150) (c8 144) (c8 145) from by show PJ (i8 146) (i8 147) (i8 156) (i8 148) (c8 150) (c8 144) (c8 145); rw [show c8 144 = c 144 from hfc 144 (by decide), show c8 145 = c 145 from hfc 145 (by decide), show c8 150 = c 150 from hfc 150 (by decide), show i8 146 = i 146 from hfi 146 (by decide), show i8 147 = i 147 from hfi 147 (by decide), show i8 148 = i 148 from hfi 148 (by decide), show i8 156 = i 156 from hfi 156 (by decide)]; exact hs_P)⟩
    · have f4 := mt (ti_eq (a := r3.toInt) (b := 5) rfl (by decide)).mpr c4
      refine lv_aload_n hx hb dX11_begin_25 rfl (lv_at hl 0 rfl) ?_
      refine lv_iconst (v := 3) hx hb dX11_begin_26 (by decide) ?_
      refine al_calli (va_runV (As := [.int 3]) (rest := []) ⟨hx, hb, hml, hown, hts⟩ (x_X11_answerFinding l D H.size sk a t i q c d 3 hI (show 1 ≤ 3 ∧ 3 ≤ 6 from by have h90 : (3 : Int32).toInt = 3 := (by decide); omega)) (cwV 1 hts gm_X11_begin_X11_answerFinding_128 rfl rfl rfl (by decide +kernel) ⟨Nat.le_of_ble_eq_true rfl, Nat.le_of_ble_eq_true rfl⟩) (yB_V hN (xZ_k hZ hS hA) (xZ_n hZ hD) hK hP hD (ci := 11) (q0 := 0) rfl rfl) rfl rfl hl.1 rfl (lv_room (Nat.le_of_ble_eq_true rfl)) dX11_begin_27 ⟨Nat.le_of_ble_eq_true rfl, Nat.le_of_ble_eq_true rfl⟩) hS hA hP hD (fun r9 u9 H locs hw9 hP hD hS => ?_)
      obtain ⟨i9, q9, c9, d9⟩ := u9
      have hw9 : r9 = (-3) ∧ xInv i9 c9 ∧ (∀ k, k ∉ ([102] : List Nat) → i9 k = i k) ∧ (∀ k, k ∉ ([101] : List Nat) → c9 k = c k) := hw9
      obtain ⟨hw9, hI, hei9, hec9⟩ := hw9
      have hfi : ∀ k, k ∉ ([102] : List Nat) → i9 k = i k := fr_z hfi hei9 (by decide) (by decide)
      have hfc : ∀ k, k ∉ ([101] : List Nat) → c9 k = c k := fr_z hfc hec9 (by decide) (by decide)
      have hw9 : r9 = (-3) := hw9
      subst hw9
      exact rw_iret (i9, q9, c9, d9) hx hb hr hlocks hS (hK.sub (tys' := []) [] rfl) hP hD dX11_begin_30 ⟨trivial, hI, fr_w hfi (by decide), fr_w hfc (by decide), (show PJ ((i9 146) : Int32) ((i9 147) : Int32) ((i9 156) : Int32) ((i9 148) : Int32) (c9 150) (c9 144) (c9 145) from by show PJ (i9 146) (i9 147) (i9 156) (i9 148) (c9 150) (c9 144) (c9 145); rw [show c9 144 = c 144 from hfc 144 (by decide), show c9 145 = c 145 from hfc 145 (by decide), show c9 150 = c 150 from hfc 150 (by decide), show i9 146 = i 146 from hfi 146 (by decide), show i9 147 = i 147 from hfi 147 (by decide), show i9 148 = i 148 from hfi 148 (by decide), show i9 156 = i 156 from hfi 156 (by decide)]; exact hs_P)⟩
  · have f2 := fl_f hw1 c2
    refine lv_iconst (v := (-1)) hx hb dX11_begin_11 (by decide) ?_
    exact rw_iret (i, q, c, d) hx hb hr hlocks hS (hK.sub (tys' := []) [] rfl) hP hD dX11_begin_12 ⟨trivial, hI, fr_w hfi (by decide), fr_w hfc (by decide), (show PJ ((i 146) : Int32) ((i 147) : Int32) ((i 156) : Int32) ((i 148) : Int32) (c 150) (c 144) (c 145) from by show PJ ((i 146) : Int32) ((i 147) : Int32) ((i 156) : Int32) ((i 148) : Int32) (c 150) (c 144) (c 145); exact hs_P)⟩

def wm_X11_act : List Cond := .code yX11_act cX11_act 4 (some .int) :: (([.fieldLink RX11 46 "TalePlay" "tale" "LTalePlay$Tale;", .methodLink RX11 251 yX9_isAct, .instanceMethod yX9_isAct, .selects RX9 yX9_isAct yX9_isAct, .initialized RX9, .code yX9_isAct cX9_isAct 4 (some .boolean), .methodLink RX9 104 yX0_hasX, .static yX0_hasX, .initialized RX0, .code yX0_hasX cX0_hasX 1 (some .boolean), .methodLink RX9 111 yX0_hasY, .static yX0_hasY, .code yX0_hasY cX0_hasY 1 (some .boolean), .fieldLink RX9 21 "TalePlay$Tale" "world" "LTalePlay$World;", .methodLink RX9 108 yX10_hasObject, .instanceMethod yX10_hasObject, .selects RX10 yX10_hasObject yX10_hasObject, .initialized RX10, .code yX10_hasObject cX10_hasObject 2 (some .boolean), .fieldLink RX10 37 "TalePlay$World" "objects" "I", .code yX11_isBelow cX11_isBelow 2 (some .boolean), .initialized RX11, .static yX11_isBelow, .fieldLink RX11 254 "TalePlay$Tale" "turns" "I", .fieldLink RX11 257 "TalePlay$Tale" "there" "Z", .methodLink RX11 261 yX9_play, .instanceMethod yX9_play, .selects RX9 yX9_play yX9_play, .code yX9_play cX9_play 5 (some .int), .fieldLink RX9 52 "TalePlay$Tale" "acts" "LTalePlay$Acts;", .methodLink RX9 114 yX0_reasonOfX, .instanceMethod yX0_reasonOfX, .selects RX0 yX0_reasonOfX yX0_reasonOfX, .code yX0_reasonOfX cX0_reasonOfX 3 (some .int), .methodLink RX0 42 yX0_reasonToGo, .instanceMethod yX0_reasonToGo, .selects RX0 yX0_reasonToGo yX0_reasonToGo, .code yX0_reasonToGo cX0_reasonToGo 4 (some .int), .methodLink RX0 91 yX0_isByRoom, .instanceMethod yX0_isByRoom, .selects RX0 yX0_isByRoom yX0_isByRoom, .code yX0_isByRoom cX0_isByRoom 1 (some .boolean), .fieldLink RX0 33 "TalePlay$Acts" "scene" "LTalePlay$Scene;", .fieldLink RX0 38 "TalePlay$Acts" "player" "I", .methodLink RX0 80 yX6_formOf, .instanceMethod yX6_formOf, .selects RX6 yX6_formOf yX6_formOf, .initialized RX6, .code yX6_formOf cX6_formOf 3 (some .int), .fieldLink RX6 9 "TalePlay$Scene" "cells" "[I", .fieldLink RX0 9 "TalePlay$Acts" "world" "LTalePlay$World;", .methodLink RX0 83 yX6_holderOf, .instanceMethod yX6_holderOf, .selects RX6 yX6_holderOf yX6_holderOf, .code yX6_holderOf cX6_holderOf 3 (some .int), .methodLink RX0 86 yX10_sortOf, .instanceMethod yX10_sortOf, .selects RX10 yX10_sortOf yX10_sortOf, .code yX10_sortOf cX10_sortOf 2 (some .int), .fieldLink RX10 15 "TalePlay$World" "sorts" "[I", .fieldLink RX10 21 "TalePlay$World" "kindOf" "[I", .fieldLink RX0 19 "TalePlay$Acts" "roads" "LTalePlay$Roads;", .fieldLink RX0 95 "TalePlay$Roads" "leads" "[I", .fieldLink RX0 101 "TalePlay$Roads" "doors" "[I", .methodLink RX0 104 yX6_has, .instanceMethod yX6_has, .selects RX6 yX6_has yX6_has, .code yX6_has cX6_has 3 (some .boolean), .methodLink RX0 46 yX0_reasonToTake, .instanceMethod yX0_reasonToTake, .selects RX0 yX0_reasonToTake yX0_reasonToTake, .code yX0_reasonToTake cX0_reasonToTake 3 (some .int), .fieldLink RX0 34 "TalePlay$Acts" "sight" "LTalePlay$Sight;", .fieldLink RX0 108 "TalePlay$Sight" "seen" "[Z", .methodLink RX0 112 yX6_isUp, .instanceMethod yX6_isUp, .selects RX6 yX6_isUp yX6_isUp, .code yX6_isUp cX6_isUp 5 (some .boolean), .methodLink RX6 25 yX6_holderOf, .methodLink RX0 49 yX0_isHeld, .instanceMethod yX0_isHeld, .selects RX0 yX0_isHeld yX0_isHeld, .code yX0_isHeld cX0_isHeld 2 (some .boolean), .methodLink RX0 74 yX6_lies, .instanceMethod yX6_lies, .selects RX6 yX6_lies yX6_lies, .code yX6_lies cX6_lies 4 (some .boolean), .methodLink RX0 115 yX10_isGoods, .instanceMethod yX10_isGoods, .selects RX10 yX10_isGoods yX10_isGoods, .code yX10_isGoods cX10_isGoods 2 (some .boolean), .methodLink RX10 44 yX10_isMovable, .instanceMethod yX10_isMovable, .selects RX10 yX10_isMovable yX10_isMovable, .code yX10_isMovable cX10_isMovable 3 (some .boolean), .methodLink RX10 40 yX10_sortOf, .fieldLink RX0 118 "TalePlay$Sight" "reached" "[Z", .methodLink RX0 121 yX0_isAnothers, .instanceMethod yX0_isAnothers, .selects RX0 yX0_isAnothers yX0_isAnothers, .code yX0_isAnothers cX0_isAnothers 4 (some .boolean), .fieldLink RX0 23 "TalePlay$Acts" "bulks" "LTalePlay$Bulks;", .code yX2_weighBy cX2_weighBy 6 (some .int), .fieldLink RX2 15 "TalePlay$Bulks" "world" "LTalePlay$World;", .methodLink RX2 42 yX10_sortOf, .methodLink RX2 45 yX2_noteBodies, .instanceMethod yX2_noteBodies, .selects RX2 yX2_noteBodies yX2_noteBodies, .initialized RX2, .code yX2_noteBodies cX2_noteBodies 2 none, .fieldLink RX2 60 "TalePlay$Bulks" "BODIES" "[I", .methodLink RX2 63 yX2_note, .instanceMethod yX2_note, .selects RX2 yX2_note yX2_note, .code yX2_note cX2_note 2 none, .fieldLink RX2 27 "TalePlay$Bulks" "tracing" "Z", .fieldLink RX2 49 "TalePlay$World" "sizeOf" "[I", .methodLink RX2 52 yX2_weighThose, .instanceMethod yX2_weighThose, .selects RX2 yX2_weighThose yX2_weighThose, .code yX2_weighThose cX2_weighThose 7 (some .int), .fieldLink RX2 31 "TalePlay$World" "objects" "I", .methodLink RX2 56 yX6_lies, .methodLink RX2 23 yX2_weighBy, .instanceMethod yX2_weighBy, .selects RX2 yX2_weighBy yX2_weighBy, .methodLink RX0 53 yX0_reasonOfShutter, .instanceMethod yX0_reasonOfShutter, .selects RX0 yX0_reasonOfShutter yX0_reasonOfShutter, .code yX0_reasonOfShutter cX0_reasonOfShutter 4 (some .int), .methodLink RX0 137 yX10_isShutter, .instanceMethod yX10_isShutter, .selects RX10 yX10_isShutter yX10_isShutter, .code yX10_isShutter cX10_isShutter 3 (some .boolean), .methodLink RX0 140 yX0_reasonOfLeaf, .static yX0_reasonOfLeaf, .code yX0_reasonOfLeaf cX0_reasonOfLeaf 3 (some .int), .methodLink RX0 57 yX0_reasonToWear, .instanceMethod yX0_reasonToWear, .selects RX0 yX0_reasonToWear yX0_reasonToWear, .code yX0_reasonToWear cX0_reasonToWear 2 (some .int), .methodLink RX0 60 yX0_reasonToEnter, .instanceMethod yX0_reasonToEnter, .selects RX0 yX0_reasonToEnter yX0_reasonToEnter, .code yX0_reasonToEnter cX0_reasonToEnter 3 (some .int), .methodLink RX0 63 yX0_reasonToLeave, .instanceMethod yX0_reasonToLeave, .selects RX0 yX0_reasonToLeave yX0_reasonToLeave, .code yX0_reasonToLeave cX0_reasonToLeave 3 (some .int), .methodLink RX9 121 yX9_doIt, .instanceMethod yX9_doIt, .selects RX9 yX9_doIt yX9_doIt, .code yX9_doIt cX9_doIt 5 none, .methodLink RX9 125 yX0_subjectOf, .instanceMethod yX0_subjectOf, .selects RX0 yX0_subjectOf yX0_subjectOf, .code yX0_subjectOf cX0_subjectOf 3 (some .int), .fieldLink RX9 9 "TalePlay$Tale" "deeds" "[I", .fieldLink RX9 77 "TalePlay$Tale" "turns" "I", .code yX11_deedOf cX11_deedOf 3 (some .int), .static yX11_deedOf, .fieldLink RX9 15 "TalePlay$Tale" "subjects" "[I", .fieldLink RX9 18 "TalePlay$Tale" "formerCells" "[I", .fieldLink RX9 34 "TalePlay$Tale" "scene" "LTalePlay$Scene;", .fieldLink RX9 65 "TalePlay$Scene" "cells" "[I", .methodLink RX9 131 yX0_outcomeOf, .instanceMethod yX0_outcomeOf, .selects RX0 yX0_outcomeOf yX0_outcomeOf, .code yX0_outcomeOf cX0_outcomeOf 5 (some .int), .fieldLink RX0 149 "TalePlay$Scene" "cells" "[I", .methodLink RX0 152 yX0_subjectOf, .methodLink RX0 155 yX6_placed, .static yX6_placed, .code yX6_placed cX6_placed 3 (some .int), .methodLink RX0 158 yX6_flagged, .static yX6_flagged, .code yX6_flagged cX6_flagged 4 (some .int), .methodLink RX0 162 yX0_placedAs, .instanceMethod yX0_placedAs, .selects RX0 yX0_placedAs yX0_placedAs, .code yX0_placedAs cX0_placedAs 3 (some .int), .fieldLink RX9 43 "TalePlay$Tale" "sight" "LTalePlay$Sight;", .fieldLink RX9 56 "TalePlay$Tale" "player" "I", .methodLink RX9 80 yX8_look, .instanceMethod yX8_look, .selects RX8 yX8_look yX8_look, .initialized RX8, .code yX8_look cX8_look 6 none, .methodLink RX8 30 yX8_shellOf, .instanceMethod yX8_shellOf, .selects RX8 yX8_shellOf yX8_shellOf, .code yX8_shellOf cX8_shellOf 5 (some .int), .fieldLink RX8 26 "TalePlay$Sight" "scene" "LTalePlay$Scene;", .methodLink RX8 62 yX6_holderOf, .fieldLink RX8 18 "TalePlay$Sight" "world" "LTalePlay$World;", .methodLink RX8 34 yX10_sortOf, .methodLink RX8 65 yX8_isCover, .instanceMethod yX8_isCover, .selects RX8 yX8_isCover yX8_isCover, .code yX8_isCover cX8_isCover 3 (some .boolean), .methodLink RX8 40 yX6_has, .fieldLink RX8 46 "TalePlay$Sight" "bright" "Z", .fieldLink RX8 50 "TalePlay$World" "objects" "I", .methodLink RX8 58 yX6_lies, .fieldLink RX8 9 "TalePlay$Sight" "seen" "[Z", .fieldLink RX8 15 "TalePlay$Sight" "reached" "[Z", .methodLink RX8 54 yX8_isInView, .instanceMethod yX8_isInView, .selects RX8 yX8_isInView yX8_isInView, .code yX8_isInView cX8_isInView 6 (some .boolean), .fieldLink RX8 22 "TalePlay$Sight" "roads" "LTalePlay$Roads;", .methodLink RX8 69 yX5_isSide, .instanceMethod yX5_isSide, .selects RX5 yX5_isSide yX5_isSide, .initialized RX5, .code yX5_isSide cX5_isSide 3 (some .boolean), .fieldLink RX5 24 "TalePlay$Roads" "firstSides" "[I", .fieldLink RX5 27 "TalePlay$Roads" "secondSides" "[I", .methodLink RX9 117 yX0_reasonOfY, .instanceMethod yX0_reasonOfY, .selects RX0 yX0_reasonOfY yX0_reasonOfY, .code yX0_reasonOfY cX0_reasonOfY 4 (some .int), .methodLink RX0 67 yX0_reasonToPut, .instanceMethod yX0_reasonToPut, .selects RX0 yX0_reasonToPut yX0_reasonToPut, .code yX0_reasonToPut cX0_reasonToPut 4 (some .int), .methodLink RX0 134 yX6_countOf, .instanceMethod yX6_countOf, .selects RX6 yX6_countOf yX6_countOf, .code yX6_countOf cX6_countOf 5 (some .int), .fieldLink RX6 15 "TalePlay$Scene" "world" "LTalePlay$World;", .fieldLink RX6 34 "TalePlay$World" "objects" "I", .methodLink RX6 38 yX6_lies, .methodLink RX0 71 yX0_reasonOfKey, .instanceMethod yX0_reasonOfKey, .selects RX0 yX0_reasonOfKey yX0_reasonOfKey, .code yX0_reasonOfKey cX0_reasonOfKey 3 (some .int), .fieldLink RX0 15 "TalePlay$Acts" "book" "LTalePlay$Book;", .methodLink RX0 144 yX1_keyOf, .instanceMethod yX1_keyOf, .selects RX1 yX1_keyOf yX1_keyOf, .initialized RX1, .code yX1_keyOf cX1_keyOf 3 (some .int), .fieldLink RX1 37 "TalePlay$Book" "keyBy" "[I", .fieldLink RX1 15 "TalePlay$Book" "as" "[I"] : List Cond) ++ wsX110 ++ wsX90 ++ wsX100 ++ wsX00 ++ wsX60 ++ wsX50 ++ wsX80 ++ wsX20 ++ wsX10)
set_option maxRecDepth 20000 in
theorem gm_X11_act_X9_isAct_251 : GoodIn wm_X11_act (wsV RX11 251 RX9 yX9_isAct wm_X9_isAct) := goodIn_app (goodIn_of _ (by decide +kernel)) (goodIn_r _ [6, 7, 8, 9, 10, 11, 12, 13, 14, 15, 16, 17, 18, 19, 20, 21, 22, 23, 257, 258, 259, 260, 261, 262, 263, 264, 265, 266, 267, 268, 269, 270, 271, 272, 273, 274] rfl (by decide +kernel))
set_option maxRecDepth 20000 in
theorem gm_X11_act_X9_play_261 : GoodIn wm_X11_act (wsV RX11 261 RX9 yX9_play wm_X9_play) := goodIn_app (goodIn_of _ (by decide +kernel)) (goodIn_r _ [29, 30, 31, 32, 33, 9, 34, 35, 36, 37, 38, 39, 40, 41, 42, 43, 44, 45, 46, 47, 48, 49, 50, 51, 52, 53, 54, 55, 56, 57, 58, 18, 59, 20, 60, 61, 62, 63, 64, 65, 66, 67, 68, 69, 70, 71, 72, 73, 74, 75, 76, 77, 78, 79, 80, 81, 82, 83, 84, 85, 86, 87, 88, 89, 90, 91, 92, 93, 94, 95, 96, 97, 98, 99, 100, 101, 102, 103, 104, 105, 106, 107, 108, 109, 110, 111, 112, 113, 114, 115, 116, 117, 118, 119, 120, 121, 122, 123, 124, 125, 126, 127, 128, 129, 130, 131, 132, 133, 134, 135, 136, 137, 138, 139, 140, 141, 142, 143, 144, 145, 146, 147, 148, 149, 150, 151, 152, 5, 153, 154, 155, 156, 157, 158, 159, 7, 8, 10, 11, 12, 13, 160, 22, 161, 162, 163, 164, 165, 166, 167, 168, 169, 170, 171, 172, 173, 174, 175, 176, 177, 178, 179, 180, 181, 182, 183, 184, 185, 186, 187, 188, 189, 190, 191, 192, 193, 194, 195, 196, 197, 198, 199, 200, 201, 202, 203, 204, 205, 206, 207, 208, 209, 210, 211, 212, 213, 214, 215, 216, 217, 218, 219, 220, 221, 222, 223, 224, 225, 226, 227, 228, 229, 230, 231, 232, 233, 234, 235, 236, 237, 238, 239, 240, 241, 242, 243, 244, 245, 257, 258, 259, 260, 261, 262, 263, 264, 265, 266, 267, 275, 276, 277, 278, 279, 280, 281, 282, 283, 268, 269, 270, 271, 272, 273, 274, 284, 285, 286, 287, 288, 289, 290, 291, 292, 293, 294, 295, 296, 297, 298, 299, 300, 301, 302, 303, 304, 305, 306, 307, 308, 309, 310, 311, 312, 313, 314, 315, 316, 317, 318, 319] rfl (by decide +kernel))
set_option maxHeartbeats 4000000 in
set_option maxRecDepth 100000 in
theorem x_X11_act (l : Launch) (D : va_G) (sz : Nat) (sk : Value) (a : Nat → Nat) (t : Nat → ClassId) (i : Nat → Int32) (q : Int64) (c : Nat → Nat → Int32) (d : Nat → Nat → Int64) (v1 : Int32) (w : Int32) (w2 : Int32) (hI : xInv i c) (htr : (i 141).toInt = 0) (hs_P : PJ (i 146) (i 147) (i 156) (i 148) (c 150) (c 144) (c 145)) : Met l yX11_act wm_X11_act ({ frames := 72, cells := 0, slots := 0, locals := 1874 }) (va_Pc [.ref (a 100), .int v1, .int w, .int w2] (yB (a 186) D sz (xwT sk a t i q c d) (xtT t))) (va_Qi (fun (r : Int32) (u : MS) => True ∧ xInv u.1 u.2.2.1 ∧ (∀ k, k ∉ ([148, 154] : List Nat) → u.1 k = i k) ∧ (∀ k, k ∉ ([143, 144, 145, 150, 152, 153] : List Nat) → u.2.2.1 k = c k) ∧ (PJ (u.1 146) (u.1 147) (u.1 156) (u.1 148) (u.2.2.1 150) (u.2.2.1 144) (u.2.2.1 145))) (oC D (va_A (xwT sk a t i q c d) sz) (fun u : MS => xwT sk a t u.1 u.2.1 u.2.2.1 u.2.2.2) (fun _ => [])) (va_A (xwT sk a t i q c d) sz)) 0 0 (va_A (xwT sk a t i q c d) sz) := by
  refine Met.ofW (cc := cX11_act) (maxL := 4) (ret := (some .int)) (by decide) rfl ?_
  intro p e s m args below meth cd s₁ B hml hv
  obtain ⟨rfl, ⟨hsz, hP, hK, hD0⟩, hN, hZ, hBW⟩ := hv
  have hx := B.exec
  have hb := B.bytes
  have hr := B.returns
  have hts := atoms_spec (ws := wm_X11_act) B.pre
  have hown : s.vm.findClass RX11 = some m.cls := findClass_of_methodNamed B.named
  have hlocks := B.notSynchronized
  subst hsz
  have hD := hD0.self (sz := s.heap.size)
  have hZ := xZ_A hZ hP hBW
  generalize hAe : va_A (xwT sk a t i q c d) s.heap.size = A at hD hZ ⊢
  have hA : ∀ q : Nat, s.heap.size ≤ q → A q := fun q h => by rw [← hAe]; exact Or.inr h
  have hS : va_S A s.heap s.heap [] := va_S.rf
  have hfi : ∀ k, k ∉ ([] : List Nat) → i k = i k := fun _ _ => rfl
  have hfc : ∀ k, k ∉ ([] : List Nat) → c k = c k := fun _ _ => rfl
  have hl := lv_entry ([.ref (a 100), .int v1, .int w, .int w2]) (n := 4) (Nat.le_of_ble_eq_true rfl)
  rw [lg_entry_eq]
  generalize (lg_sl ([.ref (a 100), .int v1, .int w, .int w2]) ++ List.replicate (4 - (lg_sl ([.ref (a 100), .int v1, .int w, .int w2])).length) Slot.unset).toArray = ls at hl ⊢
  have hl : lv_has ls 4 [(0, .ref (a 100)), (1, .int v1), (2, .int w), (3, .int w2)] := hl
  refine lv_aload_n hx hb dX11_act_0 rfl (lv_at hl 0 rfl) ?_
  refine xgT_X_tale hx hb hts (fun _ h => List.mem_cons_of_mem _ (List.mem_append_left _ (List.mem_append_left _ (List.mem_append_left _ (List.mem_append_left _ (List.mem_append_left _ (List.mem_append_left _ (List.mem_append_left _ (List.mem_append_left _ (List.mem_append_right _ h)))))))))) hown hK hP (hts (.fieldLink RX11 46 "TalePlay" "tale" "LTalePlay$Tale;") (by decide +kernel)) dX11_act_1 ?_
  refine lv_iload_n hx hb dX11_act_4 rfl (lv_at hl 1 rfl) ?_
  refine lv_iload_n hx hb dX11_act_5 rfl (lv_at hl 2 rfl) ?_
  refine lv_iload_n hx hb dX11_act_6 rfl (lv_at hl 3 rfl) ?_
  have rb111_i : 0 ≤ (i 111).toInt ∧ (i 111).toInt ≤ 30 := hI.1 111
  refine ro_calli (va_runV (As := [.int v1, .int w, .int w2]) (rest := []) ⟨hx, hb, hml, hown, hts⟩ (x_X9_isAct l D s.heap.size sk a t i q c d v1 w w2 hI ) (cwV 3 hts gm_X11_act_X9_isAct_251 rfl rfl rfl (by decide +kernel) ⟨Nat.le_of_ble_eq_true rfl, Nat.le_of_ble_eq_true rfl⟩) (yA_V hN (xZ_k hZ hS hA) hK hP (ci := 9) (q0 := 33) rfl rfl) rfl rfl hl.1 rfl (lv_room (Nat.le_of_ble_eq_true rfl)) dX11_act_7 ⟨Nat.le_of_ble_eq_true rfl, Nat.le_of_ble_eq_true rfl⟩) hS hA hP (fun r1 u1 H locs hw1 hP hS => ?_)
  have hw1 : ((0 ≤ r1.toInt ∧ r1.toInt ≤ 1) ∧ (Im (r1.toInt = 1) (0 ≤ v1.toInt ∧ v1.toInt ≤ 12 ∧ (v1.toInt = 0 → 0 ≤ w.toInt ∧ w.toInt ≤ 9) ∧ (1 ≤ v1.toInt ∧ v1.toInt ≤ 10 → 0 ≤ w.toInt ∧ w.toInt < (i 111).toInt) ∧ (v1.toInt = 3 ∨ v1.toInt = 4 ∨ v1.toInt = 7 ∨ v1.toInt = 8 → 0 ≤ w2.toInt ∧ w2.toInt < (i 111).toInt)))) := hw1
  obtain ⟨hw1, hr1_0⟩ := hw1
  have hr1_0 : Im (r1.toInt = 1) (0 ≤ v1.toInt ∧ v1.toInt ≤ 12 ∧ (v1.toInt = 0 → 0 ≤ w.toInt ∧ w.toInt ≤ 9) ∧ (1 ≤ v1.toInt ∧ v1.toInt ≤ 10 → 0 ≤ w.toInt ∧ w.toInt < (i 111).toInt) ∧ (v1.toInt = 3 ∨ v1.toInt = 4 ∨ v1.toInt = 7 ∨ v1.toInt = 8 → 0 ≤ w2.toInt ∧ w2.toInt < (i 111).toInt)) := hr1_0
  refine lv_if_ne (tgt := 15) hx hb dX11_act_10 (by decide) (fun c2 => ?_) (fun c2 => ?_)
  · have f2 := mt (ti_eq (a := r1.toInt) (b := 0) rfl (by decide)).mpr c2
    obtain ⟨hia1, hia2, hia3, hia4, hia5⟩ := hr1_0 (by omega)
    refine lv_aload_n hx hb dX11_act_15 rfl (lv_at hl 0 rfl) ?_
    refine xgT_X_tale hx hb hts (fun _ h => List.mem_cons_of_mem _ (List.mem_append_left _ (List.mem_append_left _ (List.mem_append_left _ (List.mem_append_left _ (List.mem_append_left _ (List.mem_append_left _ (List.mem_append_left _ (List.mem_append_left _ (List.mem_append_right _ h)))))))))) hown hK hP (hts (.fieldLink RX11 46 "TalePlay" "tale" "LTalePlay$Tale;") (by decide +kernel)) dX11_act_16 ?_
    refine xgT_T_turns (v := (i 148)) rfl hx hb hts (fun _ h => List.mem_cons_of_mem _ (List.mem_append_left _ (List.mem_append_left _ (List.mem_append_left _ (List.mem_append_left _ (List.mem_append_left _ (List.mem_append_left _ (List.mem_append_left _ (List.mem_append_right _ h))))))))) hown hK hP (hts (.fieldLink RX11 254 "TalePlay$Tale" "turns" "I") (by decide +kernel)) dX11_act_19 ?_
    have rb148_i : 0 ≤ (i 148).toInt ∧ (i 148).toInt ≤ 100 := hI.1 148
    refine lv_bipush (v := 100) hx hb dX11_act_22 (by decide) ?_
    refine lv_icmp_lt (tgt := 30) hx hb dX11_act_24 (by decide) (fun c3 => ?_) (fun c3 => ?_)
    · have f3 := (ti_lt (a := (i 148).toInt) (b := 100) rfl (by decide)).mp c3
      refine lv_aload_n hx hb dX11_act_30 rfl (lv_at hl 0 rfl) ?_
      refine xgT_X_tale hx hb hts (fun _ h => List.mem_cons_of_mem _ (List.mem_append_left _ (List.mem_append_left _ (List.mem_append_left _ (List.mem_append_left _ (List.mem_append_left _ (List.mem_append_left _ (List.mem_append_left _ (List.mem_append_left _ (List.mem_append_right _ h)))))))))) hown hK hP (hts (.fieldLink RX11 46 "TalePlay" "tale" "LTalePlay$Tale;") (by decide +kernel)) dX11_act_31 ?_
      refine xgT_T_there (v := (i 146)) rfl hx hb hts (fun _ h => List.mem_cons_of_mem _ (List.mem_append_left _ (List.mem_append_left _ (List.mem_append_left _ (List.mem_append_left _ (List.mem_append_left _ (List.mem_append_left _ (List.mem_append_left _ (List.mem_append_right _ h))))))))) hown hK hP (hts (.fieldLink RX11 257 "TalePlay$Tale" "there" "Z") (by decide +kernel)) dX11_act_34 ?_
      have rb146_i : 0 ≤ (i 146).toInt ∧ (i 146).toInt ≤ 1 := hI.1 146
      refine lv_if_ne (tgt := 43) hx hb dX11_act_37 (by decide) (fun c4 => ?_) (fun c4 => ?_)
      · have f4 := mt (ti_eq (a := (i 146).toInt) (b := 0) rfl (by decide)).mpr c4
        refine lv_aload_n hx hb dX11_act_43 rfl (lv_at hl 0 rfl) ?_
        refine xgT_X_tale hx hb hts (fun _ h => List.mem_cons_of_mem _ (List.mem_append_left _ (List.mem_append_left _ (List.mem_append_left _ (List.mem_append_left _ (List.mem_append_left _ (List.mem_append_left _ (List.mem_append_left _ (List.mem_append_left _ (List.mem_append_right _ h)))))))))) hown hK hP (hts (.fieldLink RX11 46 "TalePlay" "tale" "LTalePlay$Tale;") (by decide +kernel)) dX11_act_44 ?_
        refine lv_iload_n hx hb dX11_act_47 rfl (lv_at hl 1 rfl) ?_
        refine lv_iload_n hx hb dX11_act_48 rfl (lv_at hl 2 rfl) ?_
        refine lv_iload_n hx hb dX11_act_49 rfl (lv_at hl 3 rfl) ?_
        have rb141_i : 0 ≤ (i 141).toInt ∧ (i 141).toInt ≤ 1 := hI.1 141
        have rb147_i : (i 147).toInt = -9 ∨ (0 ≤ (i 147).toInt ∧ (i 147).toInt ≤ 29) := hI.1 147
        have rb156_i : (i 156).toInt = -9 ∨ (0 ≤ (i 156).toInt ∧ (i 156).toInt ≤ 29) := hI.1 156
        refine al_calli (va_runV (As := [.int v1, .int w, .int w2]) (rest := []) ⟨hx, hb, hml, hown, hts⟩ (x_X9_play l D H.size sk a t i q c d v1 w w2 hI (show 0 ≤ v1.toInt ∧ v1.toInt ≤ 12 from by omega) (show v1.toInt = 0 → 0 ≤ w.toInt ∧ w.toInt ≤ 9 from by omega) (show 1 ≤ v1.toInt ∧ v1.toInt ≤ 10 → 0 ≤ w.toInt ∧ w.toInt ≤ 29 from by omega) (show v1.toInt = 3 ∨ v1.toInt = 4 ∨ v1.toInt = 7 ∨ v1.toInt = 8 → 0 ≤ w2.toInt ∧ w2.toInt ≤ 29 from by omega) (show ((i 146) : Int32).toInt = 1 from by omega) (show ((i 148) : Int32).toInt ≤ 99 from by omega) (show ((i 141) : Int32).toInt = 0 from by omega) hs_P) (cwV 3 hts gm_X11_act_X9_play_261 rfl rfl rfl (by decide +kernel) ⟨Nat.le_of_ble_eq_true rfl, Nat.le_of_ble_eq_true rfl⟩) (yB_V hN (xZ_k hZ hS hA) (xZ_n hZ hD) hK hP hD (ci := 9) (q0 := 33) rfl rfl) rfl rfl hl.1 rfl (lv_room (Nat.le_of_ble_eq_true rfl)) dX11_act_50 ⟨Nat.le_of_ble_eq_true rfl, Nat.le_of_ble_eq_true rfl⟩) hS hA hP hD (fun r5 u5 H locs hw5 hP hD hS => ?_)
        obtain ⟨i5, q5, c5, d5⟩ := u5
        have hw5 : True ∧ xInv i5 c5 ∧ (∀ k, k ∉ ([148, 154] : List Nat) → i5 k = i k) ∧ (∀ k, k ∉ ([143, 144, 145, 150, 152, 153] : List Nat) → c5 k = c k) ∧ (PJ (i5 146) (i5 147) (i5 156) (i5 148) (c5 150) (c5 144) (c5 145)) := hw5
        obtain ⟨hw5, hI, hei5, hec5, hxp5_0⟩ := hw5
        have hxp5_0 : PJ (i5 146) (i5 147) (i5 156) (i5 148) (c5 150) (c5 144) (c5 145) := hxp5_0
        have hfi : ∀ k, k ∉ ([148, 154] : List Nat) → i5 k = i k := fr_z hfi hei5 (by decide) (by decide)
        have hfc : ∀ k, k ∉ ([143, 144, 145, 150, 152, 153] : List Nat) → c5 k = c k := fr_z hfc hec5 (by decide) (by decide)
        have hPJ : PJ (i5 146) (i5 147) (i5 156) (i5 148) (c5 150) (c5 144) (c5 145) := hxp5_0
        exact rw_iret (i5, q5, c5, d5) hx hb hr hlocks hS (hK.sub (tys' := []) [] rfl) hP hD dX11_act_53 ⟨trivial, hI, fr_w hfi (by decide), fr_w hfc (by decide), (show PJ ((i5 146) : Int32) ((i5 147) : Int32) ((i5 156) : Int32) ((i5 148) : Int32) (c5 150) (c5 144) (c5 145) from hPJ)⟩
      · have f4 := (ti_eq (a := (i 146).toInt) (b := 0) rfl (by decide)).mp c4
        refine lv_bipush (v := (-5)) hx hb dX11_act_40 (by decide) ?_
        exact rw_iret (i, q, c, d) hx hb hr hlocks hS (hK.sub (tys' := []) [] rfl) hP hD dX11_act_42 ⟨trivial, hI, fr_w hfi (by decide), fr_w hfc (by decide), (show PJ ((i 146) : Int32) ((i 147) : Int32) ((i 156) : Int32) ((i 148) : Int32) (c 150) (c 144) (c 145) from by show PJ ((i 146) : Int32) ((i 147) : Int32) ((i 156) : Int32) ((i 148) : Int32) (c 150) (c 144) (c 145); exact hs_P)⟩
    · have f3 := mt (ti_lt (a := (i 148).toInt) (b := 100) rfl (by decide)).mpr c3
      refine lv_bipush (v := (-2)) hx hb dX11_act_27 (by decide) ?_
      exact rw_iret (i, q, c, d) hx hb hr hlocks hS (hK.sub (tys' := []) [] rfl) hP hD dX11_act_29 ⟨trivial, hI, fr_w hfi (by decide), fr_w hfc (by decide), (show PJ ((i 146) : Int32) ((i 147) : Int32) ((i 156) : Int32) ((i 148) : Int32) (c 150) (c 144) (c 145) from by show PJ ((i 146) : Int32) ((i 147) : Int32) ((i 156) : Int32) ((i 148) : Int32) (c 150) (c 144) (c 145); exact hs_P)⟩
  · have f2 := (ti_eq (a := r1.toInt) (b := 0) rfl (by decide)).mp c2
    refine lv_iconst (v := (-1)) hx hb dX11_act_13 (by decide) ?_
    exact rw_iret (i, q, c, d) hx hb hr hlocks hS (hK.sub (tys' := []) [] rfl) hP hD dX11_act_14 ⟨trivial, hI, fr_w hfi (by decide), fr_w hfc (by decide), (show PJ ((i 146) : Int32) ((i 147) : Int32) ((i 156) : Int32) ((i 148) : Int32) (c 150) (c 144) (c 145) from by show PJ ((i 146) : Int32) ((i 147) : Int32) ((i 156) : Int32) ((i 148) : Int32) (c 150) (c 144) (c 145); exact hs_P)⟩

def wm_X11_back : List Cond := .code yX11_back cX11_back 1 (some .int) :: (([.fieldLink RX11 46 "TalePlay" "tale" "LTalePlay$Tale;", .fieldLink RX11 257 "TalePlay$Tale" "there" "Z", .fieldLink RX11 254 "TalePlay$Tale" "turns" "I", .methodLink RX11 264 yX9_undo, .instanceMethod yX9_undo, .selects RX9 yX9_undo yX9_undo, .initialized RX9, .code yX9_undo cX9_undo 1 none, .fieldLink RX9 77 "TalePlay$Tale" "turns" "I", .fieldLink RX9 34 "TalePlay$Tale" "scene" "LTalePlay$Scene;", .fieldLink RX9 65 "TalePlay$Scene" "cells" "[I", .fieldLink RX9 15 "TalePlay$Tale" "subjects" "[I", .fieldLink RX9 18 "TalePlay$Tale" "formerCells" "[I", .fieldLink RX9 43 "TalePlay$Tale" "sight" "LTalePlay$Sight;", .fieldLink RX9 56 "TalePlay$Tale" "player" "I", .methodLink RX9 80 yX8_look, .instanceMethod yX8_look, .selects RX8 yX8_look yX8_look, .initialized RX8, .code yX8_look cX8_look 6 none, .methodLink RX8 30 yX8_shellOf, .instanceMethod yX8_shellOf, .selects RX8 yX8_shellOf yX8_shellOf, .code yX8_shellOf cX8_shellOf 5 (some .int), .fieldLink RX8 26 "TalePlay$Sight" "scene" "LTalePlay$Scene;", .methodLink RX8 62 yX6_holderOf, .instanceMethod yX6_holderOf, .selects RX6 yX6_holderOf yX6_holderOf, .initialized RX6, .code yX6_holderOf cX6_holderOf 3 (some .int), .fieldLink RX6 9 "TalePlay$Scene" "cells" "[I", .fieldLink RX8 18 "TalePlay$Sight" "world" "LTalePlay$World;", .methodLink RX8 34 yX10_sortOf, .instanceMethod yX10_sortOf, .selects RX10 yX10_sortOf yX10_sortOf, .initialized RX10, .code yX10_sortOf cX10_sortOf 2 (some .int), .fieldLink RX10 37 "TalePlay$World" "objects" "I", .fieldLink RX10 15 "TalePlay$World" "sorts" "[I", .fieldLink RX10 21 "TalePlay$World" "kindOf" "[I", .methodLink RX8 65 yX8_isCover, .instanceMethod yX8_isCover, .selects RX8 yX8_isCover yX8_isCover, .code yX8_isCover cX8_isCover 3 (some .boolean), .methodLink RX8 40 yX6_has, .instanceMethod yX6_has, .selects RX6 yX6_has yX6_has, .code yX6_has cX6_has 3 (some .boolean), .fieldLink RX8 46 "TalePlay$Sight" "bright" "Z", .fieldLink RX8 50 "TalePlay$World" "objects" "I", .methodLink RX8 58 yX6_lies, .instanceMethod yX6_lies, .selects RX6 yX6_lies yX6_lies, .code yX6_lies cX6_lies 4 (some .boolean), .fieldLink RX8 9 "TalePlay$Sight" "seen" "[Z", .fieldLink RX8 15 "TalePlay$Sight" "reached" "[Z", .methodLink RX8 54 yX8_isInView, .instanceMethod yX8_isInView, .selects RX8 yX8_isInView yX8_isInView, .code yX8_isInView cX8_isInView 6 (some .boolean), .fieldLink RX8 22 "TalePlay$Sight" "roads" "LTalePlay$Roads;", .methodLink RX8 69 yX5_isSide, .instanceMethod yX5_isSide, .selects RX5 yX5_isSide yX5_isSide, .initialized RX5, .code yX5_isSide cX5_isSide 3 (some .boolean), .fieldLink RX5 24 "TalePlay$Roads" "firstSides" "[I", .fieldLink RX5 27 "TalePlay$Roads" "secondSides" "[I"] : List Cond) ++ wsX110 ++ wsX90 ++ wsX60 ++ wsX80 ++ wsX100 ++ wsX50)
set_option maxRecDepth 20000 in
theorem gm_X11_back_X9_undo_264 : GoodIn wm_X11_back (wsV RX11 264 RX9 yX9_undo wm_X9_undo) := goodIn_app (goodIn_of _ (by decide +kernel)) (goodIn_r _ [8, 9, 10, 11, 12, 13, 14, 15, 16, 17, 18, 19, 20, 21, 22, 23, 24, 25, 26, 27, 28, 29, 30, 31, 32, 33, 34, 35, 36, 37, 38, 39, 40, 41, 42, 43, 44, 45, 46, 47, 48, 49, 50, 51, 52, 53, 54, 55, 56, 57, 58, 59, 60, 61, 62, 63, 64, 65, 66, 67, 68, 80, 81, 82, 83, 84, 85, 86, 87, 88, 89, 90, 91, 92, 93, 94, 95, 96, 97, 98, 99, 100, 101, 102, 103, 104, 105, 106, 107, 108, 109, 110, 111, 112, 113, 114, 115, 116] rfl (by decide +kernel))
set_option maxHeartbeats 4000000 in
set_option maxRecDepth 100000 in
theorem x_X11_back (l : Launch) (D : va_G) (sz : Nat) (sk : Value) (a : Nat → Nat) (t : Nat → ClassId) (i : Nat → Int32) (q : Int64) (c : Nat → Nat → Int32) (d : Nat → Nat → Int64) (hI : xInv i c) (hs_P : PJ (i 146) (i 147) (i 156) (i 148) (c 150) (c 144) (c 145)) : Met l yX11_back wm_X11_back ({ frames := 5, cells := 0, slots := 0, locals := 114 }) (va_Pc [.ref (a 100)] (yB (a 186) D sz (xwT sk a t i q c d) (xtT t))) (va_Qi (fun (r : Int32) (u : MS) => True ∧ xInv u.1 u.2.2.1 ∧ (∀ k, k ∉ ([148, 154] : List Nat) → u.1 k = i k) ∧ (∀ k, k ∉ ([150, 152, 153] : List Nat) → u.2.2.1 k = c k) ∧ (PJ (u.1 146) (u.1 147) (u.1 156) (u.1 148) (u.2.2.1 150) (u.2.2.1 144) (u.2.2.1 145))) (oC D (va_A (xwT sk a t i q c d) sz) (fun u : MS => xwT sk a t u.1 u.2.1 u.2.2.1 u.2.2.2) (fun _ => [])) (va_A (xwT sk a t i q c d) sz)) 0 0 (va_A (xwT sk a t i q c d) sz) := by
  refine Met.ofW (cc := cX11_back) (maxL := 1) (ret := (some .int)) (by decide) rfl ?_
  intro p e s m args below meth cd s₁ B hml hv
  obtain ⟨rfl, ⟨hsz, hP, hK, hD0⟩, hN, hZ, hBW⟩ := hv
  have hx := B.exec
  have hb := B.bytes
  have hr := B.returns
  have hts := atoms_spec (ws := wm_X11_back) B.pre
  have hown : s.vm.findClass RX11 = some m.cls := findClass_of_methodNamed B.named
  have hlocks := B.notSynchronized
  subst hsz
  have hD := hD0.self (sz := s.heap.size)
  have hZ := xZ_A hZ hP hBW
  generalize hAe : va_A (xwT sk a t i q c d) s.heap.size = A at hD hZ ⊢
  have hA : ∀ q : Nat, s.heap.size ≤ q → A q := fun q h => by rw [← hAe]; exact Or.inr h
  have hS : va_S A s.heap s.heap [] := va_S.rf
  have hfi : ∀ k, k ∉ ([] : List Nat) → i k = i k := fun _ _ => rfl
  have hfc : ∀ k, k ∉ ([] : List Nat) → c k = c k := fun _ _ => rfl
  have hl := lv_entry ([.ref (a 100)]) (n := 1) (Nat.le_of_ble_eq_true rfl)
  rw [lg_entry_eq]
  generalize (lg_sl ([.ref (a 100)]) ++ List.replicate (1 - (lg_sl ([.ref (a 100)])).length) Slot.unset).toArray = ls at hl ⊢
  have hl : lv_has ls 1 [(0, .ref (a 100))] := hl
  refine lv_aload_n hx hb dX11_back_0 rfl (lv_at hl 0 rfl) ?_
  refine xgT_X_tale hx hb hts (fun _ h => List.mem_cons_of_mem _ (List.mem_append_left _ (List.mem_append_left _ (List.mem_append_left _ (List.mem_append_left _ (List.mem_append_left _ (List.mem_append_right _ h))))))) hown hK hP (hts (.fieldLink RX11 46 "TalePlay" "tale" "LTalePlay$Tale;") (by decide +kernel)) dX11_back_1 ?_
  refine xgT_T_there (v := (i 146)) rfl hx hb hts (fun _ h => List.mem_cons_of_mem _ (List.mem_append_left _ (List.mem_append_left _ (List.mem_append_left _ (List.mem_append_left _ (List.mem_append_right _ h)))))) hown hK hP (hts (.fieldLink RX11 257 "TalePlay$Tale" "there" "Z") (by decide +kernel)) dX11_back_4 ?_
  have rb146_i : 0 ≤ (i 146).toInt ∧ (i 146).toInt ≤ 1 := hI.1 146
  refine lv_if_eq (tgt := 20) hx hb dX11_back_7 (by decide) (fun c1 => ?_) (fun c1 => ?_)
  · have f1 := (ti_eq (a := (i 146).toInt) (b := 0) rfl (by decide)).mp c1
    refine lv_bipush (v := (-5)) hx hb dX11_back_20 (by decide) ?_
    exact rw_iret (i, q, c, d) hx hb hr hlocks hS (hK.sub (tys' := []) [] rfl) hP hD dX11_back_22 ⟨trivial, hI, fr_w hfi (by decide), fr_w hfc (by decide), (show PJ ((i 146) : Int32) ((i 147) : Int32) ((i 156) : Int32) ((i 148) : Int32) (c 150) (c 144) (c 145) from by show PJ ((i 146) : Int32) ((i 147) : Int32) ((i 156) : Int32) ((i 148) : Int32) (c 150) (c 144) (c 145); exact hs_P)⟩
  · have f1 := mt (ti_eq (a := (i 146).toInt) (b := 0) rfl (by decide)).mpr c1
    refine lv_aload_n hx hb dX11_back_10 rfl (lv_at hl 0 rfl) ?_
    refine xgT_X_tale hx hb hts (fun _ h => List.mem_cons_of_mem _ (List.mem_append_left _ (List.mem_append_left _ (List.mem_append_left _ (List.mem_append_left _ (List.mem_append_left _ (List.mem_append_right _ h))))))) hown hK hP (hts (.fieldLink RX11 46 "TalePlay" "tale" "LTalePlay$Tale;") (by decide +kernel)) dX11_back_11 ?_
    refine xgT_T_turns (v := (i 148)) rfl hx hb hts (fun _ h => List.mem_cons_of_mem _ (List.mem_append_left _ (List.mem_append_left _ (List.mem_append_left _ (List.mem_append_left _ (List.mem_append_right _ h)))))) hown hK hP (hts (.fieldLink RX11 254 "TalePlay$Tale" "turns" "I") (by decide +kernel)) dX11_back_14 ?_
    have rb148_i : 0 ≤ (i 148).toInt ∧ (i 148).toInt ≤ 100 := hI.1 148
    refine lv_if_ne (tgt := 23) hx hb dX11_back_17 (by decide) (fun c2 => ?_) (fun c2 => ?_)
    · have f2 := mt (ti_eq (a := (i 148).toInt) (b := 0) rfl (by decide)).mpr c2
      refine lv_aload_n hx hb dX11_back_23 rfl (lv_at hl 0 rfl) ?_
      refine xgT_X_tale hx hb hts (fun _ h => List.mem_cons_of_mem _ (List.mem_append_left _ (List.mem_append_left _ (List.mem_append_left _ (List.mem_append_left _ (List.mem_append_left _ (List.mem_append_right _ h))))))) hown hK hP (hts (.fieldLink RX11 46 "TalePlay" "tale" "LTalePlay$Tale;") (by decide +kernel)) dX11_back_24 ?_
      have rb147_i : (i 147).toInt = -9 ∨ (0 ≤ (i 147).toInt ∧ (i 147).toInt ≤ 29) := hI.1 147
      have rb156_i : (i 156).toInt = -9 ∨ (0 ≤ (i 156).toInt ∧ (i 156).toInt ≤ 29) := hI.1 156
      refine al_callv (va_runV (As := []) (rest := []) ⟨hx, hb, hml, hown, hts⟩ (x_X9_undo l D s.heap.size sk a t i q c d  hI (show ((i 146) : Int32).toInt = 1 from by omega) (show 1 ≤ ((i 148) : Int32).toInt from by omega) hs_P) (cwV 0 hts gm_X11_back_X9_undo_264 rfl rfl rfl (by decide +kernel) ⟨Nat.le_of_ble_eq_true rfl, Nat.le_of_ble_eq_true rfl⟩) (yB_V hN (xZ_k hZ hS hA) (xZ_n hZ hD) hK hP hD (ci := 9) (q0 := 33) rfl rfl) rfl rfl hl.1 rfl (lv_room (Nat.le_of_ble_eq_true rfl)) dX11_back_27 ⟨Nat.le_of_ble_eq_true rfl, Nat.le_of_ble_eq_true rfl⟩) hS hA hP hD (fun u3 H locs hw3 hP hD hS => ?_)
      obtain ⟨i3, q3, c3, d3⟩ := u3
      have hw3 : True ∧ xInv i3 c3 ∧ (∀ k, k ∉ ([148, 154] : List Nat) → i3 k = i k) ∧ (∀ k, k ∉ ([150, 152, 153] : List Nat) → c3 k = c k) ∧ (PJ (i3 146) (i3 147) (i3 156) (i3 148) (c3 150) (c3 144) (c3 145)) := hw3
      obtain ⟨hw3, hI, hei3, hec3, hxp3_0⟩ := hw3
      have hxp3_0 : PJ (i3 146) (i3 147) (i3 156) (i3 148) (c3 150) (c3 144) (c3 145) := hxp3_0
      have hfi : ∀ k, k ∉ ([148, 154] : List Nat) → i3 k = i k := fr_z hfi hei3 (by decide) (by decide)
      have hfc : ∀ k, k ∉ ([150, 152, 153] : List Nat) → c3 k = c k := fr_z hfc hec3 (by decide) (by decide)
      have hPJ : PJ (i3 146) (i3 147) (i3 156) (i3 148) (c3 150) (c3 144) (c3 145) := hxp3_0
      refine lv_aload_n hx hb dX11_back_30 rfl (lv_at hl 0 rfl) ?_
      refine xgT_X_tale hx hb hts (fun _ h => List.mem_cons_of_mem _ (List.mem_append_left _ (List.mem_append_left _ (List.mem_append_left _ (List.mem_append_left _ (List.mem_append_left _ (List.mem_append_right _ h))))))) hown hK hP (hts (.fieldLink RX11 46 "TalePlay" "tale" "LTalePlay$Tale;") (by decide +kernel)) dX11_back_31 ?_
      refine xgT_T_turns (v := (i3 148)) rfl hx hb hts (fun _ h => List.mem_cons_of_mem _ (List.mem_append_left _ (List.mem_append_left _ (List.mem_append_left _ (List.mem_append_left _ (List.mem_append_right _ h)))))) hown hK hP (hts (.fieldLink RX11 254 "TalePlay$Tale" "turns" "I") (by decide +kernel)) dX11_back_34 ?_
      have rb148_i3 : 0 ≤ (i3 148).toInt ∧ (i3 148).toInt ≤ 100 := hI.1 148
      exact rw_iret (i3, q3, c3, d3) hx hb hr hlocks hS (hK.sub (tys' := []) [] rfl) hP hD dX11_back_37 ⟨trivial, hI, fr_w hfi (by decide), fr_w hfc (by decide), (show PJ ((i3 146) : Int32) ((i3 147) : Int32) ((i3 156) : Int32) ((i3 148) : Int32) (c3 150) (c3 144) (c3 145) from hPJ)⟩
    · have f2 := (ti_eq (a := (i 148).toInt) (b := 0) rfl (by decide)).mp c2
      refine lv_bipush (v := (-5)) hx hb dX11_back_20 (by decide) ?_
      exact rw_iret (i, q, c, d) hx hb hr hlocks hS (hK.sub (tys' := []) [] rfl) hP hD dX11_back_22 ⟨trivial, hI, fr_w hfi (by decide), fr_w hfc (by decide), (show PJ ((i 146) : Int32) ((i 147) : Int32) ((i 156) : Int32) ((i 148) : Int32) (c 150) (c 144) (c 145) from by show PJ ((i 146) : Int32) ((i 147) : Int32) ((i 156) : Int32) ((i 148) : Int32) (c 150) (c 144) (c 145); exact hs_P)⟩

def wm_X11_now : List Cond := .code yX11_now cX11_now 3 (some .int) :: (([.fieldLink RX11 10 "TalePlay" "world" "LTalePlay$World;", .methodLink RX11 109 yX10_hasObject, .instanceMethod yX10_hasObject, .selects RX10 yX10_hasObject yX10_hasObject, .initialized RX10, .code yX10_hasObject cX10_hasObject 2 (some .boolean), .fieldLink RX10 37 "TalePlay$World" "objects" "I", .methodLink RX11 91 yX11_isBelow, .static yX11_isBelow, .initialized RX11, .code yX11_isBelow cX11_isBelow 2 (some .boolean), .fieldLink RX11 46 "TalePlay" "tale" "LTalePlay$Tale;", .fieldLink RX11 257 "TalePlay$Tale" "there" "Z", .methodLink RX11 267 yX9_tellOf, .instanceMethod yX9_tellOf, .selects RX9 yX9_tellOf yX9_tellOf, .initialized RX9, .code yX9_tellOf cX9_tellOf 3 (some .int), .fieldLink RX9 34 "TalePlay$Tale" "scene" "LTalePlay$Scene;", .methodLink RX9 157 yX6_roomOf, .instanceMethod yX6_roomOf, .selects RX6 yX6_roomOf yX6_roomOf, .initialized RX6, .code yX6_roomOf cX6_roomOf 4 (some .int), .fieldLink RX6 15 "TalePlay$Scene" "world" "LTalePlay$World;", .methodLink RX6 29 yX10_sortOf, .instanceMethod yX10_sortOf, .selects RX10 yX10_sortOf yX10_sortOf, .code yX10_sortOf cX10_sortOf 2 (some .int), .fieldLink RX10 15 "TalePlay$World" "sorts" "[I", .fieldLink RX10 21 "TalePlay$World" "kindOf" "[I", .methodLink RX6 25 yX6_holderOf, .instanceMethod yX6_holderOf, .selects RX6 yX6_holderOf yX6_holderOf, .code yX6_holderOf cX6_holderOf 3 (some .int), .fieldLink RX6 9 "TalePlay$Scene" "cells" "[I", .methodLink RX9 134 yX6_formOf, .instanceMethod yX6_formOf, .selects RX6 yX6_formOf yX6_formOf, .code yX6_formOf cX6_formOf 3 (some .int), .methodLink RX9 137 yX6_holderOf, .fieldLink RX9 21 "TalePlay$Tale" "world" "LTalePlay$World;", .methodLink RX9 140 yX10_isShutter, .instanceMethod yX10_isShutter, .selects RX10 yX10_isShutter yX10_isShutter, .code yX10_isShutter cX10_isShutter 3 (some .boolean), .methodLink RX10 40 yX10_sortOf, .methodLink RX9 143 yX6_has, .instanceMethod yX6_has, .selects RX6 yX6_has yX6_has, .code yX6_has cX6_has 3 (some .boolean), .code yX11_oneIf cX11_oneIf 1 (some .int), .static yX11_oneIf, .fieldLink RX9 43 "TalePlay$Tale" "sight" "LTalePlay$Sight;", .fieldLink RX9 150 "TalePlay$Sight" "seen" "[Z", .fieldLink RX9 154 "TalePlay$Sight" "reached" "[Z"] : List Cond) ++ wsX110 ++ wsX100 ++ wsX90 ++ wsX60 ++ wsX80)
set_option maxRecDepth 20000 in
theorem gm_X11_now_X10_hasObject_109 : GoodIn wm_X11_now (wsV RX11 109 RX10 yX10_hasObject wm_X10_hasObject) := goodIn_app (goodIn_of _ (by decide +kernel)) (goodIn_r _ [6, 7, 68, 69, 70, 71, 72, 73, 74] rfl (by decide +kernel))
set_option maxRecDepth 20000 in
theorem gm_X11_now_X11_isBelow_91 : GoodIn wm_X11_now (va_wsS RX11 91 yX11_isBelow wm_X11_isBelow) := goodIn_app (goodIn_of _ (by decide +kernel)) (goodIn_r _ [11] rfl (by decide +kernel))
set_option maxRecDepth 20000 in
theorem gm_X11_now_X9_tellOf_267 : GoodIn wm_X11_now (wsV RX11 267 RX9 yX9_tellOf wm_X9_tellOf) := goodIn_app (goodIn_of _ (by decide +kernel)) (goodIn_r _ [18, 19, 20, 21, 22, 23, 24, 25, 26, 27, 28, 5, 29, 7, 30, 31, 32, 33, 34, 35, 36, 37, 38, 39, 40, 41, 42, 43, 44, 45, 46, 47, 48, 49, 50, 51, 52, 10, 53, 54, 55, 56, 75, 76, 77, 78, 79, 80, 81, 82, 83, 84, 85, 86, 87, 68, 69, 70, 71, 72, 73, 74, 88, 89, 90, 91, 92, 93] rfl (by decide +kernel))
set_option maxHeartbeats 4000000 in
set_option maxRecDepth 100000 in
theorem x_X11_now (l : Launch) (D : va_G) (sz : Nat) (sk : Value) (a : Nat → Nat) (t : Nat → ClassId) (i : Nat → Int32) (q : Int64) (c : Nat → Nat → Int32) (d : Nat → Nat → Int64) (w : Int32) (s1 : Int32) (hI : xInv i c) : Met l yX11_now wm_X11_now ({ frames := 3, cells := 0, slots := 0, locals := 67 }) (va_Pc [.ref (a 100), .int w, .int s1] (yA (a 186) D sz (xwT sk a t i q c d) (xtT t))) (va_Qi (fun (r : Int32) (_ : Unit) => True) oA (ro sz)) 0 0 (ro sz) := by
  refine Met.ofW (cc := cX11_now) (maxL := 3) (ret := (some .int)) (by decide) rfl ?_
  intro p e s m args below meth cd s₁ B hml hv
  obtain ⟨rfl, ⟨hsz, hP, hK⟩, hN, hZ⟩ := hv
  have hx := B.exec
  have hb := B.bytes
  have hr := B.returns
  have hts := atoms_spec (ws := wm_X11_now) B.pre
  have hown : s.vm.findClass RX11 = some m.cls := findClass_of_methodNamed B.named
  have hlocks := B.notSynchronized
  subst hsz
  have hA : ∀ q : Nat, s.heap.size ≤ q → ro s.heap.size q := fun _ h => h
  have hS : va_S (ro s.heap.size) s.heap s.heap [] := va_S.rf
  have hl := lv_entry ([.ref (a 100), .int w, .int s1]) (n := 3) (Nat.le_of_ble_eq_true rfl)
  rw [lg_entry_eq]
  generalize (lg_sl ([.ref (a 100), .int w, .int s1]) ++ List.replicate (3 - (lg_sl ([.ref (a 100), .int w, .int s1])).length) Slot.unset).toArray = ls at hl ⊢
  have hl : lv_has ls 3 [(0, .ref (a 100)), (1, .int w), (2, .int s1)] := hl
  refine lv_aload_n hx hb dX11_now_0 rfl (lv_at hl 0 rfl) ?_
  refine xgT_X_world hx hb hts (fun _ h => List.mem_cons_of_mem _ (List.mem_append_left _ (List.mem_append_left _ (List.mem_append_left _ (List.mem_append_left _ (List.mem_append_right _ h)))))) hown hK hP (hts (.fieldLink RX11 10 "TalePlay" "world" "LTalePlay$World;") (by decide +kernel)) dX11_now_1 ?_
  refine lv_iload_n hx hb dX11_now_4 rfl (lv_at hl 1 rfl) ?_
  have rb111_i : 0 ≤ (i 111).toInt ∧ (i 111).toInt ≤ 30 := hI.1 111
  refine ro_calli (va_runV (As := [.int w]) (rest := []) ⟨hx, hb, hml, hown, hts⟩ (x_X10_hasObject l D s.heap.size .null a t i q c d w hI ) (cwV 1 hts gm_X11_now_X10_hasObject_109 rfl rfl rfl (by decide +kernel) ⟨Nat.le_of_ble_eq_true rfl, Nat.le_of_ble_eq_true rfl⟩) (yA_V hN (xZ_k hZ hS hA) (xkT_W hK) (xuT_W (sk := sk) hP) (ci := 10) (q0 := 0) rfl rfl) rfl rfl hl.1 rfl (lv_room (Nat.le_of_ble_eq_true rfl)) dX11_now_5 ⟨Nat.le_of_ble_eq_true rfl, Nat.le_of_ble_eq_true rfl⟩) hS hA hP (fun r1 u1 H locs hw1 hP hS => ?_)
  have hw1 : r1 = if (0 ≤ w.toInt ∧ w.toInt < (i 111).toInt) then 1 else 0 := hw1
  refine lv_if_eq (tgt := 20) hx hb dX11_now_8 (by decide) (fun c2 => ?_) (fun c2 => ?_)
  · have f2 := fl_f hw1 c2
    refine lv_iconst (v := (-1)) hx hb dX11_now_20 (by decide) ?_
    exact ro_iret hx hb hr hlocks hS dX11_now_21 trivial
  · have f2 := fl_t hw1 c2
    refine lv_iload_n hx hb dX11_now_11 rfl (lv_at hl 2 rfl) ?_
    refine lv_bipush (v := 7) hx hb dX11_now_12 (by decide) ?_
    have hPc := hP.sub (ws' := []) [] rfl
    have hKc := hK.sub (tys' := []) [] rfl
    refine ro_calli (va_runS (As := [.int s1, .int 7]) (rest := []) ⟨hx, hb, hml, hown, hts⟩ (c_X11_isBelow l D H.size s1 7 s1.toInt 7 rfl (by decide)) (va_cwS 2 hts gm_X11_now_X11_isBelow_91 rfl rfl rfl (by decide +kernel) ⟨Nat.le_of_ble_eq_true rfl, Nat.le_of_ble_eq_true rfl⟩) (pA_S hKc hPc) rfl rfl hl.1 rfl (lv_room (Nat.le_of_ble_eq_true rfl)) dX11_now_14 ⟨Nat.le_of_ble_eq_true rfl, Nat.le_of_ble_eq_true rfl⟩) hS hA hP (fun r4 u4 H locs hw4 hP hS => ?_)
    have hw4 : r4 = if (0 ≤ s1.toInt ∧ s1.toInt < 7) then 1 else 0 := hw4
    refine lv_if_ne (tgt := 22) hx hb dX11_now_17 (by decide) (fun c5 => ?_) (fun c5 => ?_)
    · have f5 := fl_t hw4 c5
      refine lv_aload_n hx hb dX11_now_22 rfl (lv_at hl 0 rfl) ?_
      refine xgT_X_tale hx hb hts (fun _ h => List.mem_cons_of_mem _ (List.mem_append_left _ (List.mem_append_left _ (List.mem_append_left _ (List.mem_append_left _ (List.mem_append_right _ h)))))) hown hK hP (hts (.fieldLink RX11 46 "TalePlay" "tale" "LTalePlay$Tale;") (by decide +kernel)) dX11_now_23 ?_
      refine xgT_T_there (v := (i 146)) rfl hx hb hts (fun _ h => List.mem_cons_of_mem _ (List.mem_append_left _ (List.mem_append_left _ (List.mem_append_right _ h)))) hown hK hP (hts (.fieldLink RX11 257 "TalePlay$Tale" "there" "Z") (by decide +kernel)) dX11_now_26 ?_
      have rb146_i : 0 ≤ (i 146).toInt ∧ (i 146).toInt ≤ 1 := hI.1 146
      refine lv_if_ne (tgt := 35) hx hb dX11_now_29 (by decide) (fun c6 => ?_) (fun c6 => ?_)
      · have f6 := mt (ti_eq (a := (i 146).toInt) (b := 0) rfl (by decide)).mpr c6
        refine lv_aload_n hx hb dX11_now_35 rfl (lv_at hl 0 rfl) ?_
        refine xgT_X_tale hx hb hts (fun _ h => List.mem_cons_of_mem _ (List.mem_append_left _ (List.mem_append_left _ (List.mem_append_left _ (List.mem_append_left _ (List.mem_append_right _ h)))))) hown hK hP (hts (.fieldLink RX11 46 "TalePlay" "tale" "LTalePlay$Tale;") (by decide +kernel)) dX11_now_36 ?_
        refine lv_iload_n hx hb dX11_now_39 rfl (lv_at hl 1 rfl) ?_
        refine lv_iload_n hx hb dX11_now_40 rfl (lv_at hl 2 rfl) ?_
        refine ro_calli (va_runV (As := [.int w, .int s1]) (rest := []) ⟨hx, hb, hml, hown, hts⟩ (x_X9_tellOf l D H.size sk a t i q c d w s1 hI (show 0 ≤ w.toInt ∧ w.toInt ≤ 29 from by omega)) (cwV 2 hts gm_X11_now_X9_tellOf_267 rfl rfl rfl (by decide +kernel) ⟨Nat.le_of_ble_eq_true rfl, Nat.le_of_ble_eq_true rfl⟩) (yA_V hN (xZ_k hZ hS hA) hK hP (ci := 9) (q0 := 33) rfl rfl) rfl rfl hl.1 rfl (lv_room (Nat.le_of_ble_eq_true rfl)) dX11_now_41 ⟨Nat.le_of_ble_eq_true rfl, Nat.le_of_ble_eq_true rfl⟩) hS hA hP (fun r7 u7 H locs hw7 hP hS => ?_)
        exact ro_iret hx hb hr hlocks hS dX11_now_44 trivial
      · have f6 := (ti_eq (a := (i 146).toInt) (b := 0) rfl (by decide)).mp c6
        refine lv_bipush (v := (-5)) hx hb dX11_now_32 (by decide) ?_
        exact ro_iret hx hb hr hlocks hS dX11_now_34 trivial
    · have f5 := fl_f hw4 c5
      refine lv_iconst (v := (-1)) hx hb dX11_now_20 (by decide) ?_
      exact ro_iret hx hb hr hlocks hS dX11_now_21 trivial

def wm_X11_digestKinds : List Cond := .code yX11_digestKinds cX11_digestKinds 7 (some .long) :: (([.fieldLink RX11 10 "TalePlay" "world" "LTalePlay$World;", .fieldLink RX11 84 "TalePlay$World" "kinds" "I", .constantLong RX11 362 (31), .fieldLink RX11 364 "TalePlay$World" "parents" "[I", .fieldLink RX11 367 "TalePlay$World" "standards" "[I"] : List Cond) ++ wsX110 ++ wsX100)
set_option maxHeartbeats 4000000 in
set_option maxRecDepth 100000 in
theorem x_X11_digestKinds (l : Launch) (D : va_G) (sz : Nat) (sk : Value) (a : Nat → Nat) (t : Nat → ClassId) (i : Nat → Int32) (q : Int64) (c : Nat → Nat → Int32) (d : Nat → Nat → Int64) (v1 : Int64) (hI : xInv i c) : Met l yX11_digestKinds wm_X11_digestKinds ({ frames := 0, cells := 0, slots := 0, locals := 0 }) (va_Pc [.ref (a 100), .long v1] (yA (a 186) D sz (xwT sk a t i q c d) (xtT t))) (va_Ql (fun (r : Int64) (_ : Unit) => True) oA (ro sz)) 0 0 (ro sz) := by
  refine Met.ofW (cc := cX11_digestKinds) (maxL := 7) (ret := (some .long)) (by decide) rfl ?_
  intro p e s m args below meth cd s₁ B hml hv
  obtain ⟨rfl, ⟨hsz, hP, hK⟩, hN, hZ⟩ := hv
  have hx := B.exec
  have hb := B.bytes
  have hr := B.returns
  have hts := atoms_spec (ws := wm_X11_digestKinds) B.pre
  have hown : s.vm.findClass RX11 = some m.cls := findClass_of_methodNamed B.named
  have hlocks := B.notSynchronized
  subst hsz
  have hA : ∀ q : Nat, s.heap.size ≤ q → ro s.heap.size q := fun _ h => h
  have hS : va_S (ro s.heap.size) s.heap s.heap [] := va_S.rf
  have hl := lv_entry ([.ref (a 100), .long v1]) (n := 7) (Nat.le_of_ble_eq_true rfl)
  rw [lg_entry_eq]
  generalize (lg_sl ([.ref (a 100), .long v1]) ++ List.replicate (7 - (lg_sl ([.ref (a 100), .long v1])).length) Slot.unset).toArray = ls at hl ⊢
  have hl : lv_has ls 7 [(0, .ref (a 100)), (1, .long v1)] := hl
  refine lv_lload_n hx hb dX11_digestKinds_0 rfl (lv_at hl 1 rfl) ?_
  refine lv_lstore_n (lv' := [(3, .long v1), (0, .ref (a 100)), (1, .long v1)]) hx hb dX11_digestKinds_1 rfl hl (by decide) rfl (fun ls hl => ?_)
  refine lv_iconst (v := 0) hx hb dX11_digestKinds_2 (by decide) ?_
  refine lv_istore (lv' := [(5, .int 0), (3, .long v1), (0, .ref (a 100)), (1, .long v1)]) hx hb dX11_digestKinds_3 hl (by decide) rfl (fun ls hl => ?_)
  have lp1 : ∀ (fu : Nat) (y1_5 : Int32) (y1_3 : Int64), (0 ≤ y1_5.toInt ∧ y1_5.toInt ≤ 30) → (30 - y1_5.toInt).toNat < fu → ∀ (H : Heap) (locs : List Loc) (ls : Array Slot), va_P D vwCl (xwT sk a t i q c d) H → va_S (ro s.heap.size) s.heap H locs → lv_has ls 7 [(5, .int y1_5), (3, .long y1_3), (0, .ref (a 100)), (1, .long v1)] → W p l e (headSpec wm_X11_digestKinds ({ frames := 0, cells := 0, slots := 0, locals := 0 })).room s m ([.ref (a 100), .long v1] : List Value).toArray below meth cd H locs 0 0 (MQ below (va_Ql (fun (r : Int64) (_ : Unit) => True) oA (ro s.heap.size)) ([.ref (a 100), .long v1] : List Value).toArray s 0 0 (ro s.heap.size)) (F0 m 5 ls []) := by
    intro fu
    induction fu with
    | zero => intro y1_5 y1_3 hy1_5 hm; exact absurd hm (Nat.not_lt_zero _)
    | succ fu ih =>
      intro y1_5 y1_3 hy1_5 hm H locs ls hP hS hl
      have ih1 := ih
      refine lv_iload hx hb dX11_digestKinds_5 (lv_at hl 0 rfl) ?_
      refine lv_aload_n hx hb dX11_digestKinds_7 rfl (lv_at hl 2 rfl) ?_
      refine xgT_X_world hx hb hts (fun _ h => List.mem_cons_of_mem _ (List.mem_append_left _ (List.mem_append_right _ h))) hown hK hP (hts (.fieldLink RX11 10 "TalePlay" "world" "LTalePlay$World;") (by decide +kernel)) dX11_digestKinds_8 ?_
      refine xgT_W_kinds (v := (i 110)) rfl hx hb hts (fun _ h => List.mem_cons_of_mem _ (List.mem_append_right _ h)) hown hK hP (hts (.fieldLink RX11 84 "TalePlay$World" "kinds" "I") (by decide +kernel)) dX11_digestKinds_11 ?_
      have rb110_i : 6 ≤ (i 110).toInt ∧ (i 110).toInt ≤ 24 := hI.1 110
      refine lv_icmp_ge (tgt := 81) hx hb dX11_digestKinds_14 (by decide) (fun c2 => ?_) (fun c2 => ?_)
      · have f2 := (ti_le (a := (i 110).toInt) (b := y1_5.toInt) rfl rfl).mp c2
        refine lv_lload_n hx hb dX11_digestKinds_81 rfl (lv_at hl 1 rfl) ?_
        exact ro_lret hx hb hr hlocks hS dX11_digestKinds_82 trivial
      · have f2 := mt (ti_le (a := (i 110).toInt) (b := y1_5.toInt) rfl rfl).mpr c2
        refine lv_ldc2 (v := 31) hx hb hown (hts (.constantLong RX11 362 (31)) (by decide +kernel)) dX11_digestKinds_17 ?_
        refine lv_lload_n hx hb dX11_digestKinds_20 rfl (lv_at hl 1 rfl) ?_
        refine lv_lmul hx hb dX11_digestKinds_21 ?_
        refine lv_topl (fun x3 ex3 => ?_)
        refine lv_aload_n hx hb dX11_digestKinds_22 rfl (lv_at hl 2 rfl) ?_
        refine xgT_X_world hx hb hts (fun _ h => List.mem_cons_of_mem _ (List.mem_append_left _ (List.mem_append_right _ h))) hown hK hP (hts (.fieldLink RX11 10 "TalePlay" "world" "LTalePlay$World;") (by decide +kernel)) dX11_digestKinds_23 ?_
        refine xgT_W_parents hx hb hts (fun _ h => List.mem_cons_of_mem _ (List.mem_append_right _ h)) hown hK hP (hts (.fieldLink RX11 364 "TalePlay$World" "parents" "[I") (by decide +kernel)) dX11_digestKinds_26 ?_
        refine lv_iload hx hb dX11_digestKinds_29 (lv_at hl 0 rfl) ?_
        refine xlT_105 hx hb hK hP (vp_in_iff.mpr (by have h9 : y1_5.toInt = y1_5.toInt := rfl; omega)) dX11_digestKinds_31 (fun x4 ex4 => ?_)
        have rx4 : x4.toInt = -9 ∨ (0 ≤ x4.toInt ∧ x4.toInt ≤ 23) := by rw [ex4]; exact hI.2 105 _
        refine lv_i2l (v := x4.toInt64) hx hb dX11_digestKinds_32 rfl ?_
        refine lv_ladd hx hb dX11_digestKinds_33 ?_
        refine lv_topl (fun x5 ex5 => ?_)
        refine lv_lstore_n (lv' := [(3, .long x5), (5, .int y1_5), (0, .ref (a 100)), (1, .long v1)]) hx hb dX11_digestKinds_34 rfl hl (by decide) rfl (fun ls hl => ?_)
        refine lv_iconst (v := 0) hx hb dX11_digestKinds_35 (by decide) ?_
        refine lv_istore (lv' := [(6, .int 0), (3, .long x5), (5, .int y1_5), (0, .ref (a 100)), (1, .long v1)]) hx hb dX11_digestKinds_36 hl (by decide) rfl (fun ls hl => ?_)
        have lp6 : ∀ (fu : Nat) (y6_6 : Int32) (y6_3 : Int64), (0 ≤ y6_6.toInt ∧ y6_6.toInt ≤ 6) → (6 - y6_6.toInt).toNat < fu → ∀ (H : Heap) (locs : List Loc) (ls : Array Slot), va_P D vwCl (xwT sk a t i q c d) H → va_S (ro s.heap.size) s.heap H locs → lv_has ls 7 [(6, .int y6_6), (3, .long y6_3), (5, .int y1_5), (0, .ref (a 100)), (1, .long v1)] → W p l e (headSpec wm_X11_digestKinds ({ frames := 0, cells := 0, slots := 0, locals := 0 })).room s m ([.ref (a 100), .long v1] : List Value).toArray below meth cd H locs 0 0 (MQ below (va_Ql (fun (r : Int64) (_ : Unit) => True) oA (ro s.heap.size)) ([.ref (a 100), .long v1] : List Value).toArray s 0 0 (ro s.heap.size)) (F0 m 38 ls []) := by
          intro fu
          induction fu with
          | zero => intro y6_6 y6_3 hy6_6 hm; exact absurd hm (Nat.not_lt_zero _)
          | succ fu ih =>
            intro y6_6 y6_3 hy6_6 hm H locs ls hP hS hl
            have ih6 := ih
            refine lv_iload hx hb dX11_digestKinds_38 (lv_at hl 0 rfl) ?_
            refine lv_bipush (v := 6) hx hb dX11_digestKinds_40 (by decide) ?_
            refine lv_icmp_ge (tgt := 75) hx hb dX11_digestKinds_42 (by decide) (fun c7 => ?_) (fun c7 => ?_)
            · have f7 := (ti_le (a := 6) (b := y6_6.toInt) (by decide) rfl).mp c7
              obtain ⟨x8, ex8⟩ : ∃ y : Int32, y = y1_5 + 1 := ⟨_, rfl⟩
              have tx8 := ti_add (a := y1_5.toInt) (b := 1) ex8 rfl (by decide) (by omega) (by omega)
              refine lv_iinc (v := x8) (lv' := [(5, .int x8), (6, .int y6_6), (3, .long y6_3), (0, .ref (a 100)), (1, .long v1)]) hx hb dX11_digestKinds_75 hl (k := 2) rfl (by rw [ex8]; rfl) (by decide) rfl (fun ls hl => ?_)
              refine lv_goto (tgt := 5) hx hb dX11_digestKinds_78 (by decide) ?_
              exact ih1 x8 y6_3 (show 0 ≤ x8.toInt ∧ x8.toInt ≤ 30 from by have h50 : x8.toInt = (y1_5.toInt + 1) := tx8; omega) (by have h50 : x8.toInt = (y1_5.toInt + 1) := tx8; omega) _ _ _ hP hS (lv_sub hl [0, 2, 3, 4] rfl)
            · have f7 := mt (ti_le (a := 6) (b := y6_6.toInt) (by decide) rfl).mpr c7
              refine lv_ldc2 (v := 31) hx hb hown (hts (.constantLong RX11 362 (31)) (by decide +kernel)) dX11_digestKinds_45 ?_
              refine lv_lload_n hx hb dX11_digestKinds_48 rfl (lv_at hl 1 rfl) ?_
              refine lv_lmul hx hb dX11_digestKinds_49 ?_
              refine lv_topl (fun x9 ex9 => ?_)
              refine lv_aload_n hx hb dX11_digestKinds_50 rfl (lv_at hl 3 rfl) ?_
              refine xgT_X_world hx hb hts (fun _ h => List.mem_cons_of_mem _ (List.mem_append_left _ (List.mem_append_right _ h))) hown hK hP (hts (.fieldLink RX11 10 "TalePlay" "world" "LTalePlay$World;") (by decide +kernel)) dX11_digestKinds_51 ?_
              refine xgT_W_standards hx hb hts (fun _ h => List.mem_cons_of_mem _ (List.mem_append_right _ h)) hown hK hP (hts (.fieldLink RX11 367 "TalePlay$World" "standards" "[I") (by decide +kernel)) dX11_digestKinds_54 ?_
              refine lv_iload hx hb dX11_digestKinds_57 (lv_at hl 2 rfl) ?_
              refine lv_bipush (v := 6) hx hb dX11_digestKinds_59 (by decide) ?_
              refine lv_imul hx hb dX11_digestKinds_61 ?_
              refine lv_topi (fun x10 ex10 => ?_)
              have tx10 := ti_mul (a := y1_5.toInt) (b := 6) ex10 rfl (by decide) (by omega) (by omega)
              refine lv_iload hx hb dX11_digestKinds_62 (lv_at hl 0 rfl) ?_
              refine lv_iadd hx hb dX11_digestKinds_64 ?_
              refine lv_topi (fun x11 ex11 => ?_)
              have tx11 := ti_add (a := (y1_5.toInt * 6)) (b := y6_6.toInt) ex11 tx10 rfl (by omega) (by omega)
              refine xlT_107 hx hb hK hP (vp_in_iff.mpr (by have h9 : x11.toInt = ((y1_5.toInt * 6) + y6_6.toInt) := tx11; omega)) dX11_digestKinds_65 (fun x12 ex12 => ?_)
              have rx12 : x12.toInt = -9 ∨ (0 ≤ x12.toInt ∧ x12.toInt ≤ 1) := by rw [ex12]; exact hI.2 107 _
              refine lv_i2l (v := x12.toInt64) hx hb dX11_digestKinds_66 rfl ?_
              refine lv_ladd hx hb dX11_digestKinds_67 ?_
              refine lv_topl (fun x13 ex13 => ?_)
              refine lv_lstore_n (lv' := [(3, .long x13), (6, .int y6_6), (5, .int y1_5), (0, .ref (a 100)), (1, .long v1)]) hx hb dX11_digestKinds_68 rfl hl (by decide) rfl (fun ls hl => ?_)
              obtain ⟨x14, ex14⟩ : ∃ y : Int32, y = y6_6 + 1 := ⟨_, rfl⟩
              have tx14 := ti_add (a := y6_6.toInt) (b := 1) ex14 rfl (by decide) (by omega) (by omega)
              refine lv_iinc (v := x14) (lv' := [(6, .int x14), (3, .long x13), (5, .int y1_5), (0, .ref (a 100)), (1, .long v1)]) hx hb dX11_digestKinds_69 hl (k := 1) rfl (by rw [ex14]; rfl) (by decide) rfl (fun ls hl => ?_)
              refine lv_goto (tgt := 38) hx hb dX11_digestKinds_72 (by decide) ?_
              exact ih6 x14 x13 (show 0 ≤ x14.toInt ∧ x14.toInt ≤ 6 from by have h50 : x14.toInt = (y6_6.toInt + 1) := tx14; omega) (by have h50 : x14.toInt = (y6_6.toInt + 1) := tx14; omega) _ _ _ hP hS (lv_sub hl [0, 1, 2, 3, 4] rfl)
        exact lp6 _ (0 : Int32) x5 (show 0 ≤ (0 : Int32).toInt ∧ (0 : Int32).toInt ≤ 6 from by have h50 : (0 : Int32).toInt = 0 := (by decide); omega) (Nat.lt_succ_self _) _ _ _ hP hS (lv_sub hl [0, 1, 2, 3, 4] rfl)
  exact lp1 _ (0 : Int32) v1 (show 0 ≤ (0 : Int32).toInt ∧ (0 : Int32).toInt ≤ 30 from by have h50 : (0 : Int32).toInt = 0 := (by decide); omega) (Nat.lt_succ_self _) _ _ _ hP hS (lv_sub hl [0, 1, 2, 3] rfl)

def wm_X11_digestObjects : List Cond := .code yX11_digestObjects cX11_digestObjects 7 (some .long) :: (([.fieldLink RX11 10 "TalePlay" "world" "LTalePlay$World;", .fieldLink RX11 102 "TalePlay$World" "objects" "I", .constantLong RX11 362 (31), .fieldLink RX11 112 "TalePlay$World" "kindOf" "[I", .fieldLink RX11 370 "TalePlay$World" "sizeOf" "[I", .fieldLink RX11 21 "TalePlay" "book" "LTalePlay$Book;", .fieldLink RX11 203 "TalePlay$Book" "places" "LTalePlay$Scene;", .methodLink RX11 206 yX6_formOf, .instanceMethod yX6_formOf, .selects RX6 yX6_formOf yX6_formOf, .initialized RX6, .code yX6_formOf cX6_formOf 3 (some .int), .fieldLink RX6 9 "TalePlay$Scene" "cells" "[I", .methodLink RX11 211 yX6_holderOf, .instanceMethod yX6_holderOf, .selects RX6 yX6_holderOf yX6_holderOf, .code yX6_holderOf cX6_holderOf 3 (some .int), .fieldLink RX11 46 "TalePlay" "tale" "LTalePlay$Tale;", .fieldLink RX11 257 "TalePlay$Tale" "there" "Z", .methodLink RX11 267 yX9_tellOf, .instanceMethod yX9_tellOf, .selects RX9 yX9_tellOf yX9_tellOf, .initialized RX9, .code yX9_tellOf cX9_tellOf 3 (some .int), .fieldLink RX9 34 "TalePlay$Tale" "scene" "LTalePlay$Scene;", .methodLink RX9 157 yX6_roomOf, .instanceMethod yX6_roomOf, .selects RX6 yX6_roomOf yX6_roomOf, .code yX6_roomOf cX6_roomOf 4 (some .int), .fieldLink RX6 15 "TalePlay$Scene" "world" "LTalePlay$World;", .methodLink RX6 29 yX10_sortOf, .instanceMethod yX10_sortOf, .selects RX10 yX10_sortOf yX10_sortOf, .initialized RX10, .code yX10_sortOf cX10_sortOf 2 (some .int), .fieldLink RX10 37 "TalePlay$World" "objects" "I", .fieldLink RX10 15 "TalePlay$World" "sorts" "[I", .fieldLink RX10 21 "TalePlay$World" "kindOf" "[I", .methodLink RX6 25 yX6_holderOf, .methodLink RX9 134 yX6_formOf, .methodLink RX9 137 yX6_holderOf, .fieldLink RX9 21 "TalePlay$Tale" "world" "LTalePlay$World;", .methodLink RX9 140 yX10_isShutter, .instanceMethod yX10_isShutter, .selects RX10 yX10_isShutter yX10_isShutter, .code yX10_isShutter cX10_isShutter 3 (some .boolean), .methodLink RX10 40 yX10_sortOf, .methodLink RX9 143 yX6_has, .instanceMethod yX6_has, .selects RX6 yX6_has yX6_has, .code yX6_has cX6_has 3 (some .boolean), .code yX11_oneIf cX11_oneIf 1 (some .int), .initialized RX11, .static yX11_oneIf, .fieldLink RX9 43 "TalePlay$Tale" "sight" "LTalePlay$Sight;", .fieldLink RX9 150 "TalePlay$Sight" "seen" "[Z", .fieldLink RX9 154 "TalePlay$Sight" "reached" "[Z"] : List Cond) ++ wsX110 ++ wsX100 ++ wsX10 ++ wsX60 ++ wsX90 ++ wsX80)
set_option maxRecDepth 20000 in
theorem gm_X11_digestObjects_X6_formOf_BP_206 : GoodIn wm_X11_digestObjects (wsV RX11 206 RX6 yX6_formOf wm_X6_formOf_BP) := goodIn_app (goodIn_of _ (by decide +kernel)) (goodIn_r _ [12, 13, 91, 92] rfl (by decide +kernel))
set_option maxRecDepth 20000 in
theorem gm_X11_digestObjects_X6_holderOf_BP_211 : GoodIn wm_X11_digestObjects (wsV RX11 211 RX6 yX6_holderOf wm_X6_holderOf_BP) := goodIn_app (goodIn_of _ (by decide +kernel)) (goodIn_r _ [17, 13, 91, 92] rfl (by decide +kernel))
set_option maxRecDepth 20000 in
theorem gm_X11_digestObjects_X9_tellOf_267 : GoodIn wm_X11_digestObjects (wsV RX11 267 RX9 yX9_tellOf wm_X9_tellOf) := goodIn_app (goodIn_of _ (by decide +kernel)) (goodIn_r _ [24, 25, 26, 27, 28, 11, 29, 30, 31, 32, 33, 34, 35, 36, 37, 38, 39, 15, 16, 17, 13, 40, 9, 10, 12, 41, 42, 43, 44, 45, 46, 47, 48, 49, 50, 51, 52, 53, 54, 55, 56, 57, 93, 94, 95, 96, 97, 98, 99, 100, 101, 102, 103, 91, 92, 69, 70, 71, 72, 73, 74, 75, 104, 105, 106, 107, 108, 109] rfl (by decide +kernel))
set_option maxHeartbeats 4000000 in
set_option maxRecDepth 100000 in
theorem x_X11_digestObjects (l : Launch) (D : va_G) (sz : Nat) (sk : Value) (a : Nat → Nat) (t : Nat → ClassId) (i : Nat → Int32) (q : Int64) (c : Nat → Nat → Int32) (d : Nat → Nat → Int64) (v1 : Int64) (hI : xInv i c) : Met l yX11_digestObjects wm_X11_digestObjects ({ frames := 3, cells := 0, slots := 0, locals := 67 }) (va_Pc [.ref (a 100), .long v1] (yA (a 186) D sz (xwT sk a t i q c d) (xtT t))) (va_Ql (fun (r : Int64) (_ : Unit) => True) oA (ro sz)) 0 0 (ro sz) := by
  refine Met.ofW (cc := cX11_digestObjects) (maxL := 7) (ret := (some .long)) (by decide) rfl ?_
  intro p e s m args below meth cd s₁ B hml hv
  obtain ⟨rfl, ⟨hsz, hP, hK⟩, hN, hZ⟩ := hv
  have hx := B.exec
  have hb := B.bytes
  have hr := B.returns
  have hts := atoms_spec (ws := wm_X11_digestObjects) B.pre
  have hown : s.vm.findClass RX11 = some m.cls := findClass_of_methodNamed B.named
  have hlocks := B.notSynchronized
  subst hsz
  have hA : ∀ q : Nat, s.heap.size ≤ q → ro s.heap.size q := fun _ h => h
  have hS : va_S (ro s.heap.size) s.heap s.heap [] := va_S.rf
  have hl := lv_entry ([.ref (a 100), .long v1]) (n := 7) (Nat.le_of_ble_eq_true rfl)
  rw [lg_entry_eq]
  generalize (lg_sl ([.ref (a 100), .long v1]) ++ List.replicate (7 - (lg_sl ([.ref (a 100), .long v1])).length) Slot.unset).toArray = ls at hl ⊢
  have hl : lv_has ls 7 [(0, .ref (a 100)), (1, .long v1)] := hl
  refine lv_lload_n hx hb dX11_digestObjects_0 rfl (lv_at hl 1 rfl) ?_
  refine lv_lstore_n (lv' := [(3, .long v1), (0, .ref (a 100)), (1, .long v1)]) hx hb dX11_digestObjects_1 rfl hl (by decide) rfl (fun ls hl => ?_)
  refine lv_iconst (v := 0) hx hb dX11_digestObjects_2 (by decide) ?_
  refine lv_istore (lv' := [(5, .int 0), (3, .long v1), (0, .ref (a 100)), (1, .long v1)]) hx hb dX11_digestObjects_3 hl (by decide) rfl (fun ls hl => ?_)
  have lp1 : ∀ (fu : Nat) (y1_5 : Int32) (y1_3 : Int64), (0 ≤ y1_5.toInt ∧ y1_5.toInt ≤ 30) → (30 - y1_5.toInt).toNat < fu → ∀ (H : Heap) (locs : List Loc) (ls : Array Slot), va_P D vwCl (xwT sk a t i q c d) H → va_S (ro s.heap.size) s.heap H locs → lv_has ls 7 [(5, .int y1_5), (3, .long y1_3), (0, .ref (a 100)), (1, .long v1)] → W p l e (headSpec wm_X11_digestObjects ({ frames := 3, cells := 0, slots := 0, locals := 67 })).room s m ([.ref (a 100), .long v1] : List Value).toArray below meth cd H locs 0 0 (MQ below (va_Ql (fun (r : Int64) (_ : Unit) => True) oA (ro s.heap.size)) ([.ref (a 100), .long v1] : List Value).toArray s 0 0 (ro s.heap.size)) (F0 m 5 ls []) := by
    intro fu
    induction fu with
    | zero => intro y1_5 y1_3 hy1_5 hm; exact absurd hm (Nat.not_lt_zero _)
    | succ fu ih =>
      intro y1_5 y1_3 hy1_5 hm H locs ls hP hS hl
      have ih1 := ih
      refine lv_iload hx hb dX11_digestObjects_5 (lv_at hl 0 rfl) ?_
      refine lv_aload_n hx hb dX11_digestObjects_7 rfl (lv_at hl 2 rfl) ?_
      refine xgT_X_world hx hb hts (fun _ h => List.mem_cons_of_mem _ (List.mem_append_left _ (List.mem_append_left _ (List.mem_append_left _ (List.mem_append_left _ (List.mem_append_left _ (List.mem_append_right _ h))))))) hown hK hP (hts (.fieldLink RX11 10 "TalePlay" "world" "LTalePlay$World;") (by decide +kernel)) dX11_digestObjects_8 ?_
      refine xgT_W_objects (v := (i 111)) rfl hx hb hts (fun _ h => List.mem_cons_of_mem _ (List.mem_append_left _ (List.mem_append_left _ (List.mem_append_left _ (List.mem_append_left _ (List.mem_append_right _ h)))))) hown hK hP (hts (.fieldLink RX11 102 "TalePlay$World" "objects" "I") (by decide +kernel)) dX11_digestObjects_11 ?_
      have rb111_i : 0 ≤ (i 111).toInt ∧ (i 111).toInt ≤ 30 := hI.1 111
      refine lv_icmp_ge (tgt := 144) hx hb dX11_digestObjects_14 (by decide) (fun c2 => ?_) (fun c2 => ?_)
      · have f2 := (ti_le (a := (i 111).toInt) (b := y1_5.toInt) rfl rfl).mp c2
        refine lv_lload_n hx hb dX11_digestObjects_144 rfl (lv_at hl 1 rfl) ?_
        exact ro_lret hx hb hr hlocks hS dX11_digestObjects_145 trivial
      · have f2 := mt (ti_le (a := (i 111).toInt) (b := y1_5.toInt) rfl rfl).mpr c2
        refine lv_ldc2 (v := 31) hx hb hown (hts (.constantLong RX11 362 (31)) (by decide +kernel)) dX11_digestObjects_17 ?_
        refine lv_lload_n hx hb dX11_digestObjects_20 rfl (lv_at hl 1 rfl) ?_
        refine lv_lmul hx hb dX11_digestObjects_21 ?_
        refine lv_topl (fun x3 ex3 => ?_)
        refine lv_aload_n hx hb dX11_digestObjects_22 rfl (lv_at hl 2 rfl) ?_
        refine xgT_X_world hx hb hts (fun _ h => List.mem_cons_of_mem _ (List.mem_append_left _ (List.mem_append_left _ (List.mem_append_left _ (List.mem_append_left _ (List.mem_append_left _ (List.mem_append_right _ h))))))) hown hK hP (hts (.fieldLink RX11 10 "TalePlay" "world" "LTalePlay$World;") (by decide +kernel)) dX11_digestObjects_23 ?_
        refine xgT_W_kindOf hx hb hts (fun _ h => List.mem_cons_of_mem _ (List.mem_append_left _ (List.mem_append_left _ (List.mem_append_left _ (List.mem_append_left _ (List.mem_append_right _ h)))))) hown hK hP (hts (.fieldLink RX11 112 "TalePlay$World" "kindOf" "[I") (by decide +kernel)) dX11_digestObjects_26 ?_
        refine lv_iload hx hb dX11_digestObjects_29 (lv_at hl 0 rfl) ?_
        refine xlT_108 hx hb hK hP (vp_in_iff.mpr (by have h9 : y1_5.toInt = y1_5.toInt := rfl; omega)) dX11_digestObjects_31 (fun x4 ex4 => ?_)
        have rx4 : 0 ≤ x4.toInt ∧ x4.toInt ≤ 23 := by rw [ex4]; exact hI.2 108 _
        refine lv_i2l (v := x4.toInt64) hx hb dX11_digestObjects_32 rfl ?_
        refine lv_ladd hx hb dX11_digestObjects_33 ?_
        refine lv_topl (fun x5 ex5 => ?_)
        refine lv_lstore_n (lv' := [(3, .long x5), (5, .int y1_5), (0, .ref (a 100)), (1, .long v1)]) hx hb dX11_digestObjects_34 rfl hl (by decide) rfl (fun ls hl => ?_)
        refine lv_ldc2 (v := 31) hx hb hown (hts (.constantLong RX11 362 (31)) (by decide +kernel)) dX11_digestObjects_35 ?_
        refine lv_lload_n hx hb dX11_digestObjects_38 rfl (lv_at hl 0 rfl) ?_
        refine lv_lmul hx hb dX11_digestObjects_39 ?_
        refine lv_topl (fun x6 ex6 => ?_)
        refine lv_aload_n hx hb dX11_digestObjects_40 rfl (lv_at hl 2 rfl) ?_
        refine xgT_X_world hx hb hts (fun _ h => List.mem_cons_of_mem _ (List.mem_append_left _ (List.mem_append_left _ (List.mem_append_left _ (List.mem_append_left _ (List.mem_append_left _ (List.mem_append_right _ h))))))) hown hK hP (hts (.fieldLink RX11 10 "TalePlay" "world" "LTalePlay$World;") (by decide +kernel)) dX11_digestObjects_41 ?_
        refine xgT_W_sizeOf hx hb hts (fun _ h => List.mem_cons_of_mem _ (List.mem_append_left _ (List.mem_append_left _ (List.mem_append_left _ (List.mem_append_left _ (List.mem_append_right _ h)))))) hown hK hP (hts (.fieldLink RX11 370 "TalePlay$World" "sizeOf" "[I") (by decide +kernel)) dX11_digestObjects_44 ?_
        refine lv_iload hx hb dX11_digestObjects_47 (lv_at hl 1 rfl) ?_
        refine xlT_109 hx hb hK hP (vp_in_iff.mpr (by have h9 : y1_5.toInt = y1_5.toInt := rfl; omega)) dX11_digestObjects_49 (fun x7 ex7 => ?_)
        have rx7 : 0 ≤ x7.toInt ∧ x7.toInt ≤ 99 := by rw [ex7]; exact hI.2 109 _
        refine lv_i2l (v := x7.toInt64) hx hb dX11_digestObjects_50 rfl ?_
        refine lv_ladd hx hb dX11_digestObjects_51 ?_
        refine lv_topl (fun x8 ex8 => ?_)
        refine lv_lstore_n (lv' := [(3, .long x8), (5, .int y1_5), (0, .ref (a 100)), (1, .long v1)]) hx hb dX11_digestObjects_52 rfl hl (by decide) rfl (fun ls hl => ?_)
        refine lv_ldc2 (v := 31) hx hb hown (hts (.constantLong RX11 362 (31)) (by decide +kernel)) dX11_digestObjects_53 ?_
        refine lv_lload_n hx hb dX11_digestObjects_56 rfl (lv_at hl 0 rfl) ?_
        refine lv_lmul hx hb dX11_digestObjects_57 ?_
        refine lv_topl (fun x9 ex9 => ?_)
        refine lv_aload_n hx hb dX11_digestObjects_58 rfl (lv_at hl 2 rfl) ?_
        refine xgT_X_book hx hb hts (fun _ h => List.mem_cons_of_mem _ (List.mem_append_left _ (List.mem_append_left _ (List.mem_append_left _ (List.mem_append_left _ (List.mem_append_left _ (List.mem_append_right _ h))))))) hown hK hP (hts (.fieldLink RX11 21 "TalePlay" "book" "LTalePlay$Book;") (by decide +kernel)) dX11_digestObjects_59 ?_
        refine xgT_B_places hx hb hts (fun _ h => List.mem_cons_of_mem _ (List.mem_append_left _ (List.mem_append_left _ (List.mem_append_left _ (List.mem_append_right _ h))))) hown hK hP (hts (.fieldLink RX11 203 "TalePlay$Book" "places" "LTalePlay$Scene;") (by decide +kernel)) dX11_digestObjects_62 ?_
        refine lv_iload hx hb dX11_digestObjects_65 (lv_at hl 1 rfl) ?_
        refine ro_calli (va_runV (As := [.int y1_5]) (rest := [.long x9]) ⟨hx, hb, hml, hown, hts⟩ (x_X6_formOf_BP l D H.size .null a t i q c d y1_5 hI (show 0 ≤ y1_5.toInt ∧ y1_5.toInt ≤ 29 from by omega)) (cwV 1 hts gm_X11_digestObjects_X6_formOf_BP_206 rfl rfl rfl (by decide +kernel) ⟨Nat.le_of_ble_eq_true rfl, Nat.le_of_ble_eq_true rfl⟩) (yA_V hN (xZ_k hZ hS hA) (xkT_P0 hK) (xuT_P0 (sk := sk) hP) (ci := 6) (q0 := 0) rfl rfl) rfl rfl hl.1 rfl (lv_room (Nat.le_of_ble_eq_true rfl)) dX11_digestObjects_67 ⟨Nat.le_of_ble_eq_true rfl, Nat.le_of_ble_eq_true rfl⟩) hS hA hP (fun r10 u10 H locs hw10 hP hS => ?_)
        have hw10 : ((r10.toInt = -9 ∧ (c 127 y1_5.toNatClampNeg).toInt % 256 = 255) ∨ (0 ≤ r10.toInt ∧ r10.toInt ≤ 4 ∧ ¬ (c 127 y1_5.toNatClampNeg).toInt % 256 = 255 ∧ r10.toInt = (c 127 y1_5.toNatClampNeg).toInt % 8)) := hw10
        refine lv_i2l (v := r10.toInt64) hx hb dX11_digestObjects_70 rfl ?_
        refine lv_ladd hx hb dX11_digestObjects_71 ?_
        refine lv_topl (fun x11 ex11 => ?_)
        refine lv_lstore_n (lv' := [(3, .long x11), (5, .int y1_5), (0, .ref (a 100)), (1, .long v1)]) hx hb dX11_digestObjects_72 rfl hl (by decide) rfl (fun ls hl => ?_)
        refine lv_ldc2 (v := 31) hx hb hown (hts (.constantLong RX11 362 (31)) (by decide +kernel)) dX11_digestObjects_73 ?_
        refine lv_lload_n hx hb dX11_digestObjects_76 rfl (lv_at hl 0 rfl) ?_
        refine lv_lmul hx hb dX11_digestObjects_77 ?_
        refine lv_topl (fun x12 ex12 => ?_)
        refine lv_aload_n hx hb dX11_digestObjects_78 rfl (lv_at hl 2 rfl) ?_
        refine xgT_X_book hx hb hts (fun _ h => List.mem_cons_of_mem _ (List.mem_append_left _ (List.mem_append_left _ (List.mem_append_left _ (List.mem_append_left _ (List.mem_append_left _ (List.mem_append_right _ h))))))) hown hK hP (hts (.fieldLink RX11 21 "TalePlay" "book" "LTalePlay$Book;") (by decide +kernel)) dX11_digestObjects_79 ?_
        refine xgT_B_places hx hb hts (fun _ h => List.mem_cons_of_mem _ (List.mem_append_left _ (List.mem_append_left _ (List.mem_append_left _ (List.mem_append_right _ h))))) hown hK hP (hts (.fieldLink RX11 203 "TalePlay$Book" "places" "LTalePlay$Scene;") (by decide +kernel)) dX11_digestObjects_82 ?_
        refine lv_iload hx hb dX11_digestObjects_85 (lv_at hl 1 rfl) ?_
        refine ro_calli (va_runV (As := [.int y1_5]) (rest := [.long x12]) ⟨hx, hb, hml, hown, hts⟩ (x_X6_holderOf_BP l D H.size .null a t i q c d y1_5 hI (show 0 ≤ y1_5.toInt ∧ y1_5.toInt ≤ 29 from by omega)) (cwV 1 hts gm_X11_digestObjects_X6_holderOf_BP_211 rfl rfl rfl (by decide +kernel) ⟨Nat.le_of_ble_eq_true rfl, Nat.le_of_ble_eq_true rfl⟩) (yA_V hN (xZ_k hZ hS hA) (xkT_P0 hK) (xuT_P0 (sk := sk) hP) (ci := 6) (q0 := 0) rfl rfl) rfl rfl hl.1 rfl (lv_room (Nat.le_of_ble_eq_true rfl)) dX11_digestObjects_87 ⟨Nat.le_of_ble_eq_true rfl, Nat.le_of_ble_eq_true rfl⟩) hS hA hP (fun r13 u13 H locs hw13 hP hS => ?_)
        have hw13 : ((r13.toInt = -9 ∧ (c 127 y1_5.toNatClampNeg).toInt % 256 = 255) ∨ (0 ≤ r13.toInt ∧ r13.toInt ≤ 29 ∧ ¬ (c 127 y1_5.toNatClampNeg).toInt % 256 = 255 ∧ r13.toInt = (c 127 y1_5.toNatClampNeg).toInt / 8 % 32)) := hw13
        refine lv_i2l (v := r13.toInt64) hx hb dX11_digestObjects_90 rfl ?_
        refine lv_ladd hx hb dX11_digestObjects_91 ?_
        refine lv_topl (fun x14 ex14 => ?_)
        refine lv_lstore_n (lv' := [(3, .long x14), (5, .int y1_5), (0, .ref (a 100)), (1, .long v1)]) hx hb dX11_digestObjects_92 rfl hl (by decide) rfl (fun ls hl => ?_)
        refine lv_iconst (v := 0) hx hb dX11_digestObjects_93 (by decide) ?_
        refine lv_istore (lv' := [(6, .int 0), (3, .long x14), (5, .int y1_5), (0, .ref (a 100)), (1, .long v1)]) hx hb dX11_digestObjects_94 hl (by decide) rfl (fun ls hl => ?_)
        have lp15 : ∀ (fu : Nat) (y15_6 : Int32) (y15_3 : Int64), (0 ≤ y15_6.toInt ∧ y15_6.toInt ≤ 6) → (6 - y15_6.toInt).toNat < fu → ∀ (H : Heap) (locs : List Loc) (ls : Array Slot), va_P D vwCl (xwT sk a t i q c d) H → va_S (ro s.heap.size) s.heap H locs → lv_has ls 7 [(6, .int y15_6), (3, .long y15_3), (5, .int y1_5), (0, .ref (a 100)), (1, .long v1)] → W p l e (headSpec wm_X11_digestObjects ({ frames := 3, cells := 0, slots := 0, locals := 67 })).room s m ([.ref (a 100), .long v1] : List Value).toArray below meth cd H locs 0 0 (MQ below (va_Ql (fun (r : Int64) (_ : Unit) => True) oA (ro s.heap.size)) ([.ref (a 100), .long v1] : List Value).toArray s 0 0 (ro s.heap.size)) (F0 m 96 ls []) := by
          intro fu
          induction fu with
          | zero => intro y15_6 y15_3 hy15_6 hm; exact absurd hm (Nat.not_lt_zero _)
          | succ fu ih =>
            intro y15_6 y15_3 hy15_6 hm H locs ls hP hS hl
            have ih15 := ih
            refine lv_aload_n hx hb dX11_digestObjects_96 rfl (lv_at hl 3 rfl) ?_
            refine xgT_X_tale hx hb hts (fun _ h => List.mem_cons_of_mem _ (List.mem_append_left _ (List.mem_append_left _ (List.mem_append_left _ (List.mem_append_left _ (List.mem_append_left _ (List.mem_append_right _ h))))))) hown hK hP (hts (.fieldLink RX11 46 "TalePlay" "tale" "LTalePlay$Tale;") (by decide +kernel)) dX11_digestObjects_97 ?_
            refine xgT_T_there (v := (i 146)) rfl hx hb hts (fun _ h => List.mem_cons_of_mem _ (List.mem_append_left _ (List.mem_append_right _ h))) hown hK hP (hts (.fieldLink RX11 257 "TalePlay$Tale" "there" "Z") (by decide +kernel)) dX11_digestObjects_100 ?_
            have rb146_i : 0 ≤ (i 146).toInt ∧ (i 146).toInt ≤ 1 := hI.1 146
            have jn16 : ∀ (H : Heap) (locs : List Loc) (ls : Array Slot), va_P D vwCl (xwT sk a t i q c d) H → va_S (ro s.heap.size) s.heap H locs → lv_has ls 7 [(6, .int y15_6), (3, .long y15_3), (5, .int y1_5), (0, .ref (a 100)), (1, .long v1)] → W p l e (headSpec wm_X11_digestObjects ({ frames := 3, cells := 0, slots := 0, locals := 67 })).room s m ([.ref (a 100), .long v1] : List Value).toArray below meth cd H locs 0 0 (MQ below (va_Ql (fun (r : Int64) (_ : Unit) => True) oA (ro s.heap.size)) ([.ref (a 100), .long v1] : List Value).toArray s 0 0 (ro s.heap.size)) (F0 m 138 ls []) := by
              intro H locs ls hP hS hl
              obtain ⟨x17, ex17⟩ : ∃ y : Int32, y = y1_5 + 1 := ⟨_, rfl⟩
              have tx17 := ti_add (a := y1_5.toInt) (b := 1) ex17 rfl (by decide) (by omega) (by omega)
              refine lv_iinc (v := x17) (lv' := [(5, .int x17), (6, .int y15_6), (3, .long y15_3), (0, .ref (a 100)), (1, .long v1)]) hx hb dX11_digestObjects_138 hl (k := 2) rfl (by rw [ex17]; rfl) (by decide) rfl (fun ls hl => ?_)
              refine lv_goto (tgt := 5) hx hb dX11_digestObjects_141 (by decide) ?_
              exact ih1 x17 y15_3 (show 0 ≤ x17.toInt ∧ x17.toInt ≤ 30 from by have h50 : x17.toInt = (y1_5.toInt + 1) := tx17; omega) (by have h50 : x17.toInt = (y1_5.toInt + 1) := tx17; omega) _ _ _ hP hS (lv_sub hl [0, 2, 3, 4] rfl)
            refine lv_if_eq (tgt := 138) hx hb dX11_digestObjects_103 (by decide) (fun c18 => ?_) (fun c18 => ?_)
            · have f18 := (ti_eq (a := (i 146).toInt) (b := 0) rfl (by decide)).mp c18
              exact jn16    _ _ _ hP hS (lv_sub hl [0, 1, 2, 3, 4] rfl)
            · have f18 := mt (ti_eq (a := (i 146).toInt) (b := 0) rfl (by decide)).mpr c18
              refine lv_iload hx hb dX11_digestObjects_106 (lv_at hl 0 rfl) ?_
              refine lv_bipush (v := 6) hx hb dX11_digestObjects_108 (by decide) ?_
              refine lv_icmp_ge (tgt := 138) hx hb dX11_digestObjects_110 (by decide) (fun c19 => ?_) (fun c19 => ?_)
              · have f19 := (ti_le (a := 6) (b := y15_6.toInt) (by decide) rfl).mp c19
                exact jn16    _ _ _ hP hS (lv_sub hl [0, 1, 2, 3, 4] rfl)
              · have f19 := mt (ti_le (a := 6) (b := y15_6.toInt) (by decide) rfl).mpr c19
                refine lv_ldc2 (v := 31) hx hb hown (hts (.constantLong RX11 362 (31)) (by decide +kernel)) dX11_digestObjects_113 ?_
                refine lv_lload_n hx hb dX11_digestObjects_116 rfl (lv_at hl 1 rfl) ?_
                refine lv_lmul hx hb dX11_digestObjects_117 ?_
                refine lv_topl (fun x20 ex20 => ?_)
                refine lv_aload_n hx hb dX11_digestObjects_118 rfl (lv_at hl 3 rfl) ?_
                refine xgT_X_tale hx hb hts (fun _ h => List.mem_cons_of_mem _ (List.mem_append_left _ (List.mem_append_left _ (List.mem_append_left _ (List.mem_append_left _ (List.mem_append_left _ (List.mem_append_right _ h))))))) hown hK hP (hts (.fieldLink RX11 46 "TalePlay" "tale" "LTalePlay$Tale;") (by decide +kernel)) dX11_digestObjects_119 ?_
                refine lv_iload hx hb dX11_digestObjects_122 (lv_at hl 2 rfl) ?_
                refine lv_iload hx hb dX11_digestObjects_124 (lv_at hl 0 rfl) ?_
                refine ro_calli (va_runV (As := [.int y1_5, .int y15_6]) (rest := [.long x20]) ⟨hx, hb, hml, hown, hts⟩ (x_X9_tellOf l D H.size sk a t i q c d y1_5 y15_6 hI (show 0 ≤ y1_5.toInt ∧ y1_5.toInt ≤ 29 from by omega)) (cwV 2 hts gm_X11_digestObjects_X9_tellOf_267 rfl rfl rfl (by decide +kernel) ⟨Nat.le_of_ble_eq_true rfl, Nat.le_of_ble_eq_true rfl⟩) (yA_V hN (xZ_k hZ hS hA) hK hP (ci := 9) (q0 := 33) rfl rfl) rfl rfl hl.1 rfl (lv_room (Nat.le_of_ble_eq_true rfl)) dX11_digestObjects_126 ⟨Nat.le_of_ble_eq_true rfl, Nat.le_of_ble_eq_true rfl⟩) hS hA hP (fun r21 u21 H locs hw21 hP hS => ?_)
                refine lv_i2l (v := r21.toInt64) hx hb dX11_digestObjects_129 rfl ?_
                refine lv_ladd hx hb dX11_digestObjects_130 ?_
                refine lv_topl (fun x22 ex22 => ?_)
                refine lv_lstore_n (lv' := [(3, .long x22), (6, .int y15_6), (5, .int y1_5), (0, .ref (a 100)), (1, .long v1)]) hx hb dX11_digestObjects_131 rfl hl (by decide) rfl (fun ls hl => ?_)
                obtain ⟨x23, ex23⟩ : ∃ y : Int32, y = y15_6 + 1 := ⟨_, rfl⟩
                have tx23 := ti_add (a := y15_6.toInt) (b := 1) ex23 rfl (by decide) (by omega) (by omega)
                refine lv_iinc (v := x23) (lv' := [(6, .int x23), (3, .long x22), (5, .int y1_5), (0, .ref (a 100)), (1, .long v1)]) hx hb dX11_digestObjects_132 hl (k := 1) rfl (by rw [ex23]; rfl) (by decide) rfl (fun ls hl => ?_)
                refine lv_goto (tgt := 96) hx hb dX11_digestObjects_135 (by decide) ?_
                exact ih15 x23 x22 (show 0 ≤ x23.toInt ∧ x23.toInt ≤ 6 from by have h50 : x23.toInt = (y15_6.toInt + 1) := tx23; omega) (by have h50 : x23.toInt = (y15_6.toInt + 1) := tx23; omega) _ _ _ hP hS (lv_sub hl [0, 1, 2, 3, 4] rfl)
        exact lp15 _ (0 : Int32) x14 (show 0 ≤ (0 : Int32).toInt ∧ (0 : Int32).toInt ≤ 6 from by have h50 : (0 : Int32).toInt = 0 := (by decide); omega) (Nat.lt_succ_self _) _ _ _ hP hS (lv_sub hl [0, 1, 2, 3, 4] rfl)
  exact lp1 _ (0 : Int32) v1 (show 0 ≤ (0 : Int32).toInt ∧ (0 : Int32).toInt ≤ 30 from by have h50 : (0 : Int32).toInt = 0 := (by decide); omega) (Nat.lt_succ_self _) _ _ _ hP hS (lv_sub hl [0, 1, 2, 3] rfl)

def wm_X11_digestSentences : List Cond := .code yX11_digestSentences cX11_digestSentences 7 (some .long) :: (([.fieldLink RX11 21 "TalePlay" "book" "LTalePlay$Book;", .fieldLink RX11 168 "TalePlay$Book" "total" "I", .constantLong RX11 362 (31), .methodLink RX11 200 yX1_part, .instanceMethod yX1_part, .selects RX1 yX1_part yX1_part, .initialized RX1, .code yX1_part cX1_part 3 (some .int), .fieldLink RX1 24 "TalePlay$Book" "said" "[Z", .code yX11_oneIf cX11_oneIf 1 (some .int), .initialized RX11, .static yX11_oneIf, .fieldLink RX1 9 "TalePlay$Book" "forms" "[I", .fieldLink RX1 15 "TalePlay$Book" "as" "[I", .fieldLink RX1 18 "TalePlay$Book" "bs" "[I", .fieldLink RX1 21 "TalePlay$Book" "cs" "[I"] : List Cond) ++ wsX110 ++ wsX10)
set_option maxRecDepth 20000 in
theorem gm_X11_digestSentences_X1_part_200 : GoodIn wm_X11_digestSentences (wsV RX11 200 RX1 yX1_part wm_X1_part) := goodIn_app (goodIn_of _ (by decide +kernel)) (goodIn_r _ [8, 9, 10, 11, 12, 13, 14, 15, 16, 28, 29, 30, 31, 32, 33, 34, 35, 36, 37, 38, 39, 40, 41, 42] rfl (by decide +kernel))
set_option maxHeartbeats 4000000 in
set_option maxRecDepth 100000 in
theorem x_X11_digestSentences (l : Launch) (D : va_G) (sz : Nat) (sk : Value) (a : Nat → Nat) (t : Nat → ClassId) (i : Nat → Int32) (q : Int64) (c : Nat → Nat → Int32) (d : Nat → Nat → Int64) (v1 : Int64) (hI : xInv i c) : Met l yX11_digestSentences wm_X11_digestSentences ({ frames := 2, cells := 0, slots := 0, locals := 42 }) (va_Pc [.ref (a 100), .long v1] (yA (a 186) D sz (xwT sk a t i q c d) (xtT t))) (va_Ql (fun (r : Int64) (_ : Unit) => True) oA (ro sz)) 0 0 (ro sz) := by
  refine Met.ofW (cc := cX11_digestSentences) (maxL := 7) (ret := (some .long)) (by decide) rfl ?_
  intro p e s m args below meth cd s₁ B hml hv
  obtain ⟨rfl, ⟨hsz, hP, hK⟩, hN, hZ⟩ := hv
  have hx := B.exec
  have hb := B.bytes
  have hr := B.returns
  have hts := atoms_spec (ws := wm_X11_digestSentences) B.pre
  have hown : s.vm.findClass RX11 = some m.cls := findClass_of_methodNamed B.named
  have hlocks := B.notSynchronized
  subst hsz
  have hA : ∀ q : Nat, s.heap.size ≤ q → ro s.heap.size q := fun _ h => h
  have hS : va_S (ro s.heap.size) s.heap s.heap [] := va_S.rf
  have hl := lv_entry ([.ref (a 100), .long v1]) (n := 7) (Nat.le_of_ble_eq_true rfl)
  rw [lg_entry_eq]
  generalize (lg_sl ([.ref (a 100), .long v1]) ++ List.replicate (7 - (lg_sl ([.ref (a 100), .long v1])).length) Slot.unset).toArray = ls at hl ⊢
  have hl : lv_has ls 7 [(0, .ref (a 100)), (1, .long v1)] := hl
  refine lv_lload_n hx hb dX11_digestSentences_0 rfl (lv_at hl 1 rfl) ?_
  refine lv_lstore_n (lv' := [(3, .long v1), (0, .ref (a 100)), (1, .long v1)]) hx hb dX11_digestSentences_1 rfl hl (by decide) rfl (fun ls hl => ?_)
  refine lv_iconst (v := 0) hx hb dX11_digestSentences_2 (by decide) ?_
  refine lv_istore (lv' := [(5, .int 0), (3, .long v1), (0, .ref (a 100)), (1, .long v1)]) hx hb dX11_digestSentences_3 hl (by decide) rfl (fun ls hl => ?_)
  have lp1 : ∀ (fu : Nat) (y1_5 : Int32) (y1_3 : Int64), (0 ≤ y1_5.toInt ∧ y1_5.toInt ≤ 200) → (200 - y1_5.toInt).toNat < fu → ∀ (H : Heap) (locs : List Loc) (ls : Array Slot), va_P D vwCl (xwT sk a t i q c d) H → va_S (ro s.heap.size) s.heap H locs → lv_has ls 7 [(5, .int y1_5), (3, .long y1_3), (0, .ref (a 100)), (1, .long v1)] → W p l e (headSpec wm_X11_digestSentences ({ frames := 2, cells := 0, slots := 0, locals := 42 })).room s m ([.ref (a 100), .long v1] : List Value).toArray below meth cd H locs 0 0 (MQ below (va_Ql (fun (r : Int64) (_ : Unit) => True) oA (ro s.heap.size)) ([.ref (a 100), .long v1] : List Value).toArray s 0 0 (ro s.heap.size)) (F0 m 5 ls []) := by
    intro fu
    induction fu with
    | zero => intro y1_5 y1_3 hy1_5 hm; exact absurd hm (Nat.not_lt_zero _)
    | succ fu ih =>
      intro y1_5 y1_3 hy1_5 hm H locs ls hP hS hl
      have ih1 := ih
      refine lv_iload hx hb dX11_digestSentences_5 (lv_at hl 0 rfl) ?_
      refine lv_aload_n hx hb dX11_digestSentences_7 rfl (lv_at hl 2 rfl) ?_
      refine xgT_X_book hx hb hts (fun _ h => List.mem_cons_of_mem _ (List.mem_append_left _ (List.mem_append_right _ h))) hown hK hP (hts (.fieldLink RX11 21 "TalePlay" "book" "LTalePlay$Book;") (by decide +kernel)) dX11_digestSentences_8 ?_
      refine xgT_B_total (v := (i 124)) rfl hx hb hts (fun _ h => List.mem_cons_of_mem _ (List.mem_append_right _ h)) hown hK hP (hts (.fieldLink RX11 168 "TalePlay$Book" "total" "I") (by decide +kernel)) dX11_digestSentences_11 ?_
      have rb124_i : 0 ≤ (i 124).toInt ∧ (i 124).toInt ≤ 200 := hI.1 124
      refine lv_icmp_ge (tgt := 57) hx hb dX11_digestSentences_14 (by decide) (fun c2 => ?_) (fun c2 => ?_)
      · have f2 := (ti_le (a := (i 124).toInt) (b := y1_5.toInt) rfl rfl).mp c2
        refine lv_lload_n hx hb dX11_digestSentences_57 rfl (lv_at hl 1 rfl) ?_
        exact ro_lret hx hb hr hlocks hS dX11_digestSentences_58 trivial
      · have f2 := mt (ti_le (a := (i 124).toInt) (b := y1_5.toInt) rfl rfl).mpr c2
        refine lv_iconst (v := 0) hx hb dX11_digestSentences_17 (by decide) ?_
        refine lv_istore (lv' := [(6, .int 0), (5, .int y1_5), (3, .long y1_3), (0, .ref (a 100)), (1, .long v1)]) hx hb dX11_digestSentences_18 hl (by decide) rfl (fun ls hl => ?_)
        have lp3 : ∀ (fu : Nat) (y3_6 : Int32) (y3_3 : Int64), (0 ≤ y3_6.toInt ∧ y3_6.toInt ≤ 6) → (6 - y3_6.toInt).toNat < fu → ∀ (H : Heap) (locs : List Loc) (ls : Array Slot), va_P D vwCl (xwT sk a t i q c d) H → va_S (ro s.heap.size) s.heap H locs → lv_has ls 7 [(6, .int y3_6), (5, .int y1_5), (3, .long y3_3), (0, .ref (a 100)), (1, .long v1)] → W p l e (headSpec wm_X11_digestSentences ({ frames := 2, cells := 0, slots := 0, locals := 42 })).room s m ([.ref (a 100), .long v1] : List Value).toArray below meth cd H locs 0 0 (MQ below (va_Ql (fun (r : Int64) (_ : Unit) => True) oA (ro s.heap.size)) ([.ref (a 100), .long v1] : List Value).toArray s 0 0 (ro s.heap.size)) (F0 m 20 ls []) := by
          intro fu
          induction fu with
          | zero => intro y3_6 y3_3 hy3_6 hm; exact absurd hm (Nat.not_lt_zero _)
          | succ fu ih =>
            intro y3_6 y3_3 hy3_6 hm H locs ls hP hS hl
            have ih3 := ih
            refine lv_iload hx hb dX11_digestSentences_20 (lv_at hl 0 rfl) ?_
            refine lv_iconst (v := 5) hx hb dX11_digestSentences_22 (by decide) ?_
            refine lv_icmp_ge (tgt := 51) hx hb dX11_digestSentences_23 (by decide) (fun c4 => ?_) (fun c4 => ?_)
            · have f4 := (ti_le (a := 5) (b := y3_6.toInt) (by decide) rfl).mp c4
              obtain ⟨x5, ex5⟩ : ∃ y : Int32, y = y1_5 + 1 := ⟨_, rfl⟩
              have tx5 := ti_add (a := y1_5.toInt) (b := 1) ex5 rfl (by decide) (by omega) (by omega)
              refine lv_iinc (v := x5) (lv' := [(5, .int x5), (6, .int y3_6), (3, .long y3_3), (0, .ref (a 100)), (1, .long v1)]) hx hb dX11_digestSentences_51 hl (k := 1) rfl (by rw [ex5]; rfl) (by decide) rfl (fun ls hl => ?_)
              refine lv_goto (tgt := 5) hx hb dX11_digestSentences_54 (by decide) ?_
              exact ih1 x5 y3_3 (show 0 ≤ x5.toInt ∧ x5.toInt ≤ 200 from by have h50 : x5.toInt = (y1_5.toInt + 1) := tx5; omega) (by have h50 : x5.toInt = (y1_5.toInt + 1) := tx5; omega) _ _ _ hP hS (lv_sub hl [0, 2, 3, 4] rfl)
            · have f4 := mt (ti_le (a := 5) (b := y3_6.toInt) (by decide) rfl).mpr c4
              refine lv_ldc2 (v := 31) hx hb hown (hts (.constantLong RX11 362 (31)) (by decide +kernel)) dX11_digestSentences_26 ?_
              refine lv_lload_n hx hb dX11_digestSentences_29 rfl (lv_at hl 2 rfl) ?_
              refine lv_lmul hx hb dX11_digestSentences_30 ?_
              refine lv_topl (fun x6 ex6 => ?_)
              refine lv_aload_n hx hb dX11_digestSentences_31 rfl (lv_at hl 3 rfl) ?_
              refine xgT_X_book hx hb hts (fun _ h => List.mem_cons_of_mem _ (List.mem_append_left _ (List.mem_append_right _ h))) hown hK hP (hts (.fieldLink RX11 21 "TalePlay" "book" "LTalePlay$Book;") (by decide +kernel)) dX11_digestSentences_32 ?_
              refine lv_iload hx hb dX11_digestSentences_35 (lv_at hl 1 rfl) ?_
              refine lv_iload hx hb dX11_digestSentences_37 (lv_at hl 0 rfl) ?_
              refine ro_calli (va_runV (As := [.int y1_5, .int y3_6]) (rest := [.long x6]) ⟨hx, hb, hml, hown, hts⟩ (x_X1_part l D H.size .null a t i q c d y1_5 y3_6 hI (show 0 ≤ y1_5.toInt ∧ y1_5.toInt ≤ 199 from by omega)) (cwV 2 hts gm_X11_digestSentences_X1_part_200 rfl rfl rfl (by decide +kernel) ⟨Nat.le_of_ble_eq_true rfl, Nat.le_of_ble_eq_true rfl⟩) (yA_V hN (xZ_k hZ hS hA) (xkT_B hK) (xuT_B (sk := sk) hP) (ci := 1) (q0 := 6) rfl rfl) rfl rfl hl.1 rfl (lv_room (Nat.le_of_ble_eq_true rfl)) dX11_digestSentences_39 ⟨Nat.le_of_ble_eq_true rfl, Nat.le_of_ble_eq_true rfl⟩) hS hA hP (fun r7 u7 H locs hw7 hP hS => ?_)
              refine lv_i2l (v := r7.toInt64) hx hb dX11_digestSentences_42 rfl ?_
              refine lv_ladd hx hb dX11_digestSentences_43 ?_
              refine lv_topl (fun x8 ex8 => ?_)
              refine lv_lstore_n (lv' := [(3, .long x8), (6, .int y3_6), (5, .int y1_5), (0, .ref (a 100)), (1, .long v1)]) hx hb dX11_digestSentences_44 rfl hl (by decide) rfl (fun ls hl => ?_)
              obtain ⟨x9, ex9⟩ : ∃ y : Int32, y = y3_6 + 1 := ⟨_, rfl⟩
              have tx9 := ti_add (a := y3_6.toInt) (b := 1) ex9 rfl (by decide) (by omega) (by omega)
              refine lv_iinc (v := x9) (lv' := [(6, .int x9), (3, .long x8), (5, .int y1_5), (0, .ref (a 100)), (1, .long v1)]) hx hb dX11_digestSentences_45 hl (k := 1) rfl (by rw [ex9]; rfl) (by decide) rfl (fun ls hl => ?_)
              refine lv_goto (tgt := 20) hx hb dX11_digestSentences_48 (by decide) ?_
              exact ih3 x9 x8 (show 0 ≤ x9.toInt ∧ x9.toInt ≤ 6 from by have h50 : x9.toInt = (y3_6.toInt + 1) := tx9; omega) (by have h50 : x9.toInt = (y3_6.toInt + 1) := tx9; omega) _ _ _ hP hS (lv_sub hl [0, 2, 1, 3, 4] rfl)
        exact lp3 _ (0 : Int32) y1_3 (show 0 ≤ (0 : Int32).toInt ∧ (0 : Int32).toInt ≤ 6 from by have h50 : (0 : Int32).toInt = 0 := (by decide); omega) (Nat.lt_succ_self _) _ _ _ hP hS (lv_sub hl [0, 1, 2, 3, 4] rfl)
  exact lp1 _ (0 : Int32) v1 (show 0 ≤ (0 : Int32).toInt ∧ (0 : Int32).toInt ≤ 200 from by have h50 : (0 : Int32).toInt = 0 := (by decide); omega) (Nat.lt_succ_self _) _ _ _ hP hS (lv_sub hl [0, 1, 2, 3] rfl)

def wm_X11_digest : List Cond := .code yX11_digest cX11_digest 1 (some .long) :: (([.constantLong RX11 350 (17), .methodLink RX11 352 yX11_digestKinds, .instanceMethod yX11_digestKinds, .selects RX11 yX11_digestKinds yX11_digestKinds, .initialized RX11, .code yX11_digestKinds cX11_digestKinds 7 (some .long), .fieldLink RX11 10 "TalePlay" "world" "LTalePlay$World;", .fieldLink RX11 84 "TalePlay$World" "kinds" "I", .constantLong RX11 362 (31), .fieldLink RX11 364 "TalePlay$World" "parents" "[I", .fieldLink RX11 367 "TalePlay$World" "standards" "[I", .methodLink RX11 356 yX11_digestObjects, .instanceMethod yX11_digestObjects, .selects RX11 yX11_digestObjects yX11_digestObjects, .code yX11_digestObjects cX11_digestObjects 7 (some .long), .fieldLink RX11 102 "TalePlay$World" "objects" "I", .fieldLink RX11 112 "TalePlay$World" "kindOf" "[I", .fieldLink RX11 370 "TalePlay$World" "sizeOf" "[I", .fieldLink RX11 21 "TalePlay" "book" "LTalePlay$Book;", .fieldLink RX11 203 "TalePlay$Book" "places" "LTalePlay$Scene;", .methodLink RX11 206 yX6_formOf, .instanceMethod yX6_formOf, .selects RX6 yX6_formOf yX6_formOf, .initialized RX6, .code yX6_formOf cX6_formOf 3 (some .int), .fieldLink RX6 9 "TalePlay$Scene" "cells" "[I", .methodLink RX11 211 yX6_holderOf, .instanceMethod yX6_holderOf, .selects RX6 yX6_holderOf yX6_holderOf, .code yX6_holderOf cX6_holderOf 3 (some .int), .fieldLink RX11 46 "TalePlay" "tale" "LTalePlay$Tale;", .fieldLink RX11 257 "TalePlay$Tale" "there" "Z", .methodLink RX11 267 yX9_tellOf, .instanceMethod yX9_tellOf, .selects RX9 yX9_tellOf yX9_tellOf, .initialized RX9, .code yX9_tellOf cX9_tellOf 3 (some .int), .fieldLink RX9 34 "TalePlay$Tale" "scene" "LTalePlay$Scene;", .methodLink RX9 157 yX6_roomOf, .instanceMethod yX6_roomOf, .selects RX6 yX6_roomOf yX6_roomOf, .code yX6_roomOf cX6_roomOf 4 (some .int), .fieldLink RX6 15 "TalePlay$Scene" "world" "LTalePlay$World;", .methodLink RX6 29 yX10_sortOf, .instanceMethod yX10_sortOf, .selects RX10 yX10_sortOf yX10_sortOf, .initialized RX10, .code yX10_sortOf cX10_sortOf 2 (some .int), .fieldLink RX10 37 "TalePlay$World" "objects" "I", .fieldLink RX10 15 "TalePlay$World" "sorts" "[I", .fieldLink RX10 21 "TalePlay$World" "kindOf" "[I", .methodLink RX6 25 yX6_holderOf, .methodLink RX9 134 yX6_formOf, .methodLink RX9 137 yX6_holderOf, .fieldLink RX9 21 "TalePlay$Tale" "world" "LTalePlay$World;", .methodLink RX9 140 yX10_isShutter, .instanceMethod yX10_isShutter, .selects RX10 yX10_isShutter yX10_isShutter, .code yX10_isShutter cX10_isShutter 3 (some .boolean), .methodLink RX10 40 yX10_sortOf, .methodLink RX9 143 yX6_has, .instanceMethod yX6_has, .selects RX6 yX6_has yX6_has, .code yX6_has cX6_has 3 (some .boolean), .code yX11_oneIf cX11_oneIf 1 (some .int), .static yX11_oneIf, .fieldLink RX9 43 "TalePlay$Tale" "sight" "LTalePlay$Sight;", .fieldLink RX9 150 "TalePlay$Sight" "seen" "[Z", .fieldLink RX9 154 "TalePlay$Sight" "reached" "[Z", .methodLink RX11 359 yX11_digestSentences, .instanceMethod yX11_digestSentences, .selects RX11 yX11_digestSentences yX11_digestSentences, .code yX11_digestSentences cX11_digestSentences 7 (some .long), .fieldLink RX11 168 "TalePlay$Book" "total" "I", .methodLink RX11 200 yX1_part, .instanceMethod yX1_part, .selects RX1 yX1_part yX1_part, .initialized RX1, .code yX1_part cX1_part 3 (some .int), .fieldLink RX1 24 "TalePlay$Book" "said" "[Z", .fieldLink RX1 9 "TalePlay$Book" "forms" "[I", .fieldLink RX1 15 "TalePlay$Book" "as" "[I", .fieldLink RX1 18 "TalePlay$Book" "bs" "[I", .fieldLink RX1 21 "TalePlay$Book" "cs" "[I"] : List Cond) ++ wsX110 ++ wsX100 ++ wsX10 ++ wsX60 ++ wsX90 ++ wsX80)
set_option maxRecDepth 20000 in
theorem gm_X11_digest_X11_digestKinds_352 : GoodIn wm_X11_digest (wsV RX11 352 RX11 yX11_digestKinds wm_X11_digestKinds) := goodIn_app (goodIn_of _ (by decide +kernel)) (goodIn_r _ [6, 7, 8, 9, 10, 11, 85, 86, 87, 88, 89, 90, 91, 92, 93, 94, 95, 96, 97, 98, 99, 100, 101, 102] rfl (by decide +kernel))
set_option maxRecDepth 20000 in
theorem gm_X11_digest_X11_digestObjects_356 : GoodIn wm_X11_digest (wsV RX11 356 RX11 yX11_digestObjects wm_X11_digestObjects) := goodIn_app (goodIn_of _ (by decide +kernel)) (goodIn_r _ [15, 7, 16, 9, 17, 18, 19, 20, 21, 22, 23, 24, 25, 26, 27, 28, 29, 30, 31, 32, 33, 34, 35, 36, 37, 38, 39, 40, 41, 42, 43, 44, 45, 46, 47, 48, 49, 50, 51, 52, 53, 54, 55, 56, 57, 58, 59, 60, 61, 62, 63, 64, 65, 5, 66, 67, 68, 69, 85, 86, 87, 88, 89, 90, 91, 92, 93, 94, 95, 96, 97, 98, 99, 100, 101, 102, 103, 104, 105, 106, 107, 108, 109, 110, 111, 112, 113, 114, 115, 116, 117, 118, 119, 120, 121, 122, 123, 124, 125, 126, 127, 128, 129, 130, 131, 132, 133, 134, 135, 136] rfl (by decide +kernel))
set_option maxRecDepth 20000 in
theorem gm_X11_digest_X11_digestSentences_359 : GoodIn wm_X11_digest (wsV RX11 359 RX11 yX11_digestSentences wm_X11_digestSentences) := goodIn_app (goodIn_of _ (by decide +kernel)) (goodIn_r _ [73, 19, 74, 9, 75, 76, 77, 78, 79, 80, 65, 5, 66, 81, 82, 83, 84, 85, 86, 87, 88, 89, 90, 91, 92, 93, 94, 95, 103, 104, 105, 106, 107, 108, 109, 110, 111, 112, 113, 114, 115, 116, 117] rfl (by decide +kernel))
set_option maxHeartbeats 4000000 in
set_option maxRecDepth 100000 in
theorem x_X11_digest (l : Launch) (D : va_G) (sz : Nat) (sk : Value) (a : Nat → Nat) (t : Nat → ClassId) (i : Nat → Int32) (q : Int64) (c : Nat → Nat → Int32) (d : Nat → Nat → Int64) (hI : xInv i c) : Met l yX11_digest wm_X11_digest ({ frames := 4, cells := 0, slots := 0, locals := 93 }) (va_Pc [.ref (a 100)] (yA (a 186) D sz (xwT sk a t i q c d) (xtT t))) (va_Ql (fun (r : Int64) (_ : Unit) => True) oA (ro sz)) 0 0 (ro sz) := by
  refine Met.ofW (cc := cX11_digest) (maxL := 1) (ret := (some .long)) (by decide) rfl ?_
  intro p e s m args below meth cd s₁ B hml hv
  obtain ⟨rfl, ⟨hsz, hP, hK⟩, hN, hZ⟩ := hv
  have hx := B.exec
  have hb := B.bytes
  have hr := B.returns
  have hts := atoms_spec (ws := wm_X11_digest) B.pre
  have hown : s.vm.findClass RX11 = some m.cls := findClass_of_methodNamed B.named
  have hlocks := B.notSynchronized
  subst hsz
  have hA : ∀ q : Nat, s.heap.size ≤ q → ro s.heap.size q := fun _ h => h
  have hS : va_S (ro s.heap.size) s.heap s.heap [] := va_S.rf
  have hl := lv_entry ([.ref (a 100)]) (n := 1) (Nat.le_of_ble_eq_true rfl)
  rw [lg_entry_eq]
  generalize (lg_sl ([.ref (a 100)]) ++ List.replicate (1 - (lg_sl ([.ref (a 100)])).length) Slot.unset).toArray = ls at hl ⊢
  have hl : lv_has ls 1 [(0, .ref (a 100))] := hl
  refine lv_aload_n hx hb dX11_digest_0 rfl (lv_at hl 0 rfl) ?_
  refine lv_aload_n hx hb dX11_digest_1 rfl (lv_at hl 0 rfl) ?_
  refine lv_aload_n hx hb dX11_digest_2 rfl (lv_at hl 0 rfl) ?_
  refine lv_ldc2 (v := 17) hx hb hown (hts (.constantLong RX11 350 (17)) (by decide +kernel)) dX11_digest_3 ?_
  refine ro_calll (va_runV (As := [.long 17]) (rest := [.ref (a 100), .ref (a 100)]) ⟨hx, hb, hml, hown, hts⟩ (x_X11_digestKinds l D s.heap.size sk a t i q c d 17 hI ) (cwV 1 hts gm_X11_digest_X11_digestKinds_352 rfl rfl rfl (by decide +kernel) ⟨Nat.le_of_ble_eq_true rfl, Nat.le_of_ble_eq_true rfl⟩) (yA_V hN (xZ_k hZ hS hA) hK hP (ci := 11) (q0 := 0) rfl rfl) rfl rfl hl.1 rfl (lv_room (Nat.le_of_ble_eq_true rfl)) dX11_digest_6 ⟨Nat.le_of_ble_eq_true rfl, Nat.le_of_ble_eq_true rfl⟩) hS hA hP (fun r1 u1 H locs hw1 hP hS => ?_)
  refine ro_calll (va_runV (As := [.long r1]) (rest := [.ref (a 100)]) ⟨hx, hb, hml, hown, hts⟩ (x_X11_digestObjects l D H.size sk a t i q c d r1 hI ) (cwV 1 hts gm_X11_digest_X11_digestObjects_356 rfl rfl rfl (by decide +kernel) ⟨Nat.le_of_ble_eq_true rfl, Nat.le_of_ble_eq_true rfl⟩) (yA_V hN (xZ_k hZ hS hA) hK hP (ci := 11) (q0 := 0) rfl rfl) rfl rfl hl.1 rfl (lv_room (Nat.le_of_ble_eq_true rfl)) dX11_digest_9 ⟨Nat.le_of_ble_eq_true rfl, Nat.le_of_ble_eq_true rfl⟩) hS hA hP (fun r2 u2 H locs hw2 hP hS => ?_)
  refine ro_calll (va_runV (As := [.long r2]) (rest := []) ⟨hx, hb, hml, hown, hts⟩ (x_X11_digestSentences l D H.size sk a t i q c d r2 hI ) (cwV 1 hts gm_X11_digest_X11_digestSentences_359 rfl rfl rfl (by decide +kernel) ⟨Nat.le_of_ble_eq_true rfl, Nat.le_of_ble_eq_true rfl⟩) (yA_V hN (xZ_k hZ hS hA) hK hP (ci := 11) (q0 := 0) rfl rfl) rfl rfl hl.1 rfl (lv_room (Nat.le_of_ble_eq_true rfl)) dX11_digest_12 ⟨Nat.le_of_ble_eq_true rfl, Nat.le_of_ble_eq_true rfl⟩) hS hA hP (fun r3 u3 H locs hw3 hP hS => ?_)
  exact ro_lret hx hb hr hlocks hS dX11_digest_15 trivial

