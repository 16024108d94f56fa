def wm_X0_isHeld_TA : List Cond := .code yX0_isHeld cX0_isHeld 2 (some .boolean) :: (([.fieldLink RX0 33 "TalePlay$Acts" "scene" "LTalePlay$Scene;", .fieldLink RX0 38 "TalePlay$Acts" "player" "I", .methodLink RX0 74 yX6_lies, .instanceMethod yX6_lies, .selects RX6 yX6_lies yX6_lies, .initialized RX6, .code yX6_lies cX6_lies 4 (some .boolean), .fieldLink RX6 9 "TalePlay$Scene" "cells" "[I"] : List Cond) ++ wsX00 ++ wsX60)
set_option maxRecDepth 20000 in
theorem gm_X0_isHeld_TA_X6_lies_TS_74 : GoodIn wm_X0_isHeld_TA (wsV RX0 74 RX6 yX6_lies wm_X6_lies_TS) := goodIn_app (goodIn_of _ (by decide +kernel)) (goodIn_r _ [7, 8, 16, 17] rfl (by decide +kernel))
set_option maxHeartbeats 4000000 in
set_option maxRecDepth 100000 in
theorem x_X0_isHeld_TA (l : Launch) (D : va_G) (sz : Nat) (sk : Value) (a : Nat → Nat) (t : Nat → ClassId) (i : Nat → Int32) (q : Int64) (c : Nat → Nat → Int32) (d : Nat → Nat → Int64) (w : Int32) (hI : xInv i c) (hw : 0 ≤ w.toInt ∧ w.toInt ≤ 29) : Met l yX0_isHeld wm_X0_isHeld_TA ({ frames := 1, cells := 0, slots := 0, locals := 23 }) (va_Pc [.ref (a 155), .int w] (yA (a 186) D sz (xwT sk a t i q c d) (xtT t))) (va_Qi (fun (r : Int32) (_ : Unit) => (0 ≤ r.toInt ∧ r.toInt ≤ 1)) oA (ro sz)) 0 0 (ro sz) := by
  refine Met.ofW (cc := cX0_isHeld) (maxL := 2) (ret := (some .boolean)) (by decide) rfl ?_
  intro p e s m args below meth cd s₁ B hml hv
  obtain ⟨rfl, ⟨hsz, hP, hK⟩, hN, hZ⟩ := hv
  have hx := B.exec
  have hb := B.bytes
  have hr := B.returns
  have hts := atoms_spec (ws := wm_X0_isHeld_TA) B.pre
  have hown : s.vm.findClass RX0 = some m.cls := findClass_of_methodNamed B.named
  have hlocks := B.notSynchronized
  subst hsz
  have hA : ∀ q : Nat, s.heap.size ≤ q → ro s.heap.size q := fun _ h => h
  have hS : va_S (ro s.heap.size) s.heap s.heap [] := va_S.rf
  have hl := lv_entry ([.ref (a 155), .int w]) (n := 2) (Nat.le_of_ble_eq_true rfl)
  rw [lg_entry_eq]
  generalize (lg_sl ([.ref (a 155), .int w]) ++ List.replicate (2 - (lg_sl ([.ref (a 155), .int w])).length) Slot.unset).toArray = ls at hl ⊢
  have hl : lv_has ls 2 [(0, .ref (a 155)), (1, .int w)] := hl
  refine lv_aload_n hx hb dX0_isHeld_0 rfl (lv_at hl 0 rfl) ?_
  refine xgT_TA_scene hx hb hts (fun _ h => List.mem_cons_of_mem _ (List.mem_append_left _ (List.mem_append_right _ h))) hown hK hP (hts (.fieldLink RX0 33 "TalePlay$Acts" "scene" "LTalePlay$Scene;") (by decide +kernel)) dX0_isHeld_1 ?_
  refine lv_iload_n hx hb dX0_isHeld_4 rfl (lv_at hl 1 rfl) ?_
  refine lv_iconst (v := 2) hx hb dX0_isHeld_5 (by decide) ?_
  refine lv_aload_n hx hb dX0_isHeld_6 rfl (lv_at hl 0 rfl) ?_
  refine xgT_TA_player (v := (i 156)) rfl hx hb hts (fun _ h => List.mem_cons_of_mem _ (List.mem_append_left _ (List.mem_append_right _ h))) hown hK hP (hts (.fieldLink RX0 38 "TalePlay$Acts" "player" "I") (by decide +kernel)) dX0_isHeld_7 ?_
  have rb156_i : (i 156).toInt = -9 ∨ (0 ≤ (i 156).toInt ∧ (i 156).toInt ≤ 29) := hI.1 156
  refine ro_calli (va_runV (As := [.int w, .int 2, .int (i 156)]) (rest := []) ⟨hx, hb, hml, hown, hts⟩ (x_X6_lies_TS l D s.heap.size .null a t i q c d w 2 (i 156) hI (show 0 ≤ w.toInt ∧ w.toInt ≤ 29 from by have h91 : (2 : Int32).toInt = 2 := (by decide); omega)) (cwV 3 hts gm_X0_isHeld_TA_X6_lies_TS_74 rfl rfl rfl (by decide +kernel) ⟨Nat.le_of_ble_eq_true rfl, Nat.le_of_ble_eq_true rfl⟩) (yA_V hN (xZ_k hZ hS hA) (xkT_P1 hK) (xuT_P1 (sk := sk) hP) (ci := 6) (q0 := 0) rfl rfl) rfl rfl hl.1 rfl (lv_room (Nat.le_of_ble_eq_true rfl)) dX0_isHeld_10 ⟨Nat.le_of_ble_eq_true rfl, Nat.le_of_ble_eq_true rfl⟩) hS hA hP (fun r1 u1 H locs hw1 hP hS => ?_)
  have hw1 : (0 ≤ r1.toInt ∧ r1.toInt ≤ 1) := hw1
  exact ro_zret hx hb hr hlocks hS (nb_n (show 0 ≤ r1.toInt ∧ r1.toInt ≤ 1 from by omega)) dX0_isHeld_13 (show 0 ≤ r1.toInt ∧ r1.toInt ≤ 1 from by omega)

def wm_X0_isByRoom_TA : List Cond := .code yX0_isByRoom cX0_isByRoom 1 (some .boolean) :: (([.fieldLink RX0 33 "TalePlay$Acts" "scene" "LTalePlay$Scene;", .fieldLink RX0 38 "TalePlay$Acts" "player" "I", .methodLink RX0 80 yX6_formOf, .instanceMethod yX6_formOf, .selects RX6 yX6_formOf yX6_formOf, .initialized RX6, .code yX6_formOf cX6_formOf 3 (some .int), .fieldLink RX6 9 "TalePlay$Scene" "cells" "[I", .fieldLink RX0 9 "TalePlay$Acts" "world" "LTalePlay$World;", .methodLink RX0 83 yX6_holderOf, .instanceMethod yX6_holderOf, .selects RX6 yX6_holderOf yX6_holderOf, .code yX6_holderOf cX6_holderOf 3 (some .int), .methodLink RX0 86 yX10_sortOf, .instanceMethod yX10_sortOf, .selects RX10 yX10_sortOf yX10_sortOf, .initialized RX10, .code yX10_sortOf cX10_sortOf 2 (some .int), .fieldLink RX10 37 "TalePlay$World" "objects" "I", .fieldLink RX10 15 "TalePlay$World" "sorts" "[I", .fieldLink RX10 21 "TalePlay$World" "kindOf" "[I"] : List Cond) ++ wsX00 ++ wsX60 ++ wsX100)
set_option maxRecDepth 20000 in
theorem gm_X0_isByRoom_TA_X6_formOf_TS_80 : GoodIn wm_X0_isByRoom_TA (wsV RX0 80 RX6 yX6_formOf wm_X6_formOf_TS) := goodIn_app (goodIn_of _ (by decide +kernel)) (goodIn_r _ [7, 8, 29, 30] rfl (by decide +kernel))
set_option maxRecDepth 20000 in
theorem gm_X0_isByRoom_TA_X6_holderOf_TS_83 : GoodIn wm_X0_isByRoom_TA (wsV RX0 83 RX6 yX6_holderOf wm_X6_holderOf_TS) := goodIn_app (goodIn_of _ (by decide +kernel)) (goodIn_r _ [13, 8, 29, 30] rfl (by decide +kernel))
set_option maxRecDepth 20000 in
theorem gm_X0_isByRoom_TA_X10_sortOf_86 : GoodIn wm_X0_isByRoom_TA (wsV RX0 86 RX10 yX10_sortOf wm_X10_sortOf) := goodIn_app (goodIn_of _ (by decide +kernel)) (goodIn_r _ [18, 19, 20, 21, 31, 32, 33, 34, 35, 36, 37] rfl (by decide +kernel))
set_option maxHeartbeats 4000000 in
set_option maxRecDepth 100000 in
theorem x_X0_isByRoom_TA (l : Launch) (D : va_G) (sz : Nat) (sk : Value) (a : Nat → Nat) (t : Nat → ClassId) (i : Nat → Int32) (q : Int64) (c : Nat → Nat → Int32) (d : Nat → Nat → Int64) (hI : xInv i c) (hpl : 0 ≤ (i 156).toInt ∧ (i 156).toInt ≤ 29) : Met l yX0_isByRoom wm_X0_isByRoom_TA ({ frames := 1, cells := 0, slots := 0, locals := 22 }) (va_Pc [.ref (a 155)] (yA (a 186) D sz (xwT sk a t i q c d) (xtT t))) (va_Qi (fun (r : Int32) (_ : Unit) => ((0 ≤ r.toInt ∧ r.toInt ≤ 1) ∧ (Im (r.toInt = 1) (¬ (c 150 (i 156).toNatClampNeg).toInt % 256 = 255)))) oA (ro sz)) 0 0 (ro sz) := by
  refine Met.ofW (cc := cX0_isByRoom) (maxL := 1) (ret := (some .boolean)) (by decide) rfl ?_
  intro p e s m args below meth cd s₁ B hml hv
  obtain ⟨rfl, ⟨hsz, hP, hK⟩, hN, hZ⟩ := hv
  have hx := B.exec
  have hb := B.bytes
  have hr := B.returns
  have hts := atoms_spec (ws := wm_X0_isByRoom_TA) B.pre
  have hown : s.vm.findClass RX0 = some m.cls := findClass_of_methodNamed B.named
  have hlocks := B.notSynchronized
  subst hsz
  have hA : ∀ q : Nat, s.heap.size ≤ q → ro s.heap.size q := fun _ h => h
  have hS : va_S (ro s.heap.size) s.heap s.heap [] := va_S.rf
  have hl := lv_entry ([.ref (a 155)]) (n := 1) (Nat.le_of_ble_eq_true rfl)
  rw [lg_entry_eq]
  generalize (lg_sl ([.ref (a 155)]) ++ List.replicate (1 - (lg_sl ([.ref (a 155)])).length) Slot.unset).toArray = ls at hl ⊢
  have hl : lv_has ls 1 [(0, .ref (a 155))] := hl
  refine lv_aload_n hx hb dX0_isByRoom_0 rfl (lv_at hl 0 rfl) ?_
  refine xgT_TA_scene hx hb hts (fun _ h => List.mem_cons_of_mem _ (List.mem_append_left _ (List.mem_append_left _ (List.mem_append_right _ h)))) hown hK hP (hts (.fieldLink RX0 33 "TalePlay$Acts" "scene" "LTalePlay$Scene;") (by decide +kernel)) dX0_isByRoom_1 ?_
  refine lv_aload_n hx hb dX0_isByRoom_4 rfl (lv_at hl 0 rfl) ?_
  refine xgT_TA_player (v := (i 156)) rfl hx hb hts (fun _ h => List.mem_cons_of_mem _ (List.mem_append_left _ (List.mem_append_left _ (List.mem_append_right _ h)))) hown hK hP (hts (.fieldLink RX0 38 "TalePlay$Acts" "player" "I") (by decide +kernel)) dX0_isByRoom_5 ?_
  have rb156_i : (i 156).toInt = -9 ∨ (0 ≤ (i 156).toInt ∧ (i 156).toInt ≤ 29) := hI.1 156
  refine ro_calli (va_runV (As := [.int (i 156)]) (rest := []) ⟨hx, hb, hml, hown, hts⟩ (x_X6_formOf_TS l D s.heap.size .null a t i q c d (i 156) hI (show 0 ≤ (i 156).toInt ∧ (i 156).toInt ≤ 29 from by omega)) (cwV 1 hts gm_X0_isByRoom_TA_X6_formOf_TS_80 rfl rfl rfl (by decide +kernel) ⟨Nat.le_of_ble_eq_true rfl, Nat.le_of_ble_eq_true rfl⟩) (yA_V hN (xZ_k hZ hS hA) (xkT_P1 hK) (xuT_P1 (sk := sk) hP) (ci := 6) (q0 := 0) rfl rfl) rfl rfl hl.1 rfl (lv_room (Nat.le_of_ble_eq_true rfl)) dX0_isByRoom_8 ⟨Nat.le_of_ble_eq_true rfl, Nat.le_of_ble_eq_true rfl⟩) hS hA hP (fun r1 u1 H locs hw1 hP hS => ?_)
  have hw1 : ((r1.toInt = -9 ∧ (c 150 (i 156).toNatClampNeg).toInt % 256 = 255) ∨ (0 ≤ r1.toInt ∧ r1.toInt ≤ 4 ∧ ¬ (c 150 (i 156).toNatClampNeg).toInt % 256 = 255 ∧ r1.toInt = (c 150 (i 156).toNatClampNeg).toInt % 8)) := hw1
  refine lv_if_ne (tgt := 39) hx hb dX0_isByRoom_11 (by decide) (fun c2 => ?_) (fun c2 => ?_)
  · have f2 := mt (ti_eq (a := r1.toInt) (b := 0) rfl (by decide)).mpr c2
    refine lv_iconst (v := 0) hx hb dX0_isByRoom_39 (by decide) ?_
    exact ro_zret hx hb hr hlocks hS rfl dX0_isByRoom_40 ⟨(show 0 ≤ (0 : Int32).toInt ∧ (0 : Int32).toInt ≤ 1 from by have h9 : (0 : Int32).toInt = 0 := (by decide); omega), (show Im ((0 : Int32).toInt = 1) (¬ (c 150 (i 156).toNatClampNeg).toInt % 256 = 255) from fun h9 => absurd h9 (by decide))⟩
  · have f2 := (ti_eq (a := r1.toInt) (b := 0) rfl (by decide)).mp c2
    refine lv_aload_n hx hb dX0_isByRoom_14 rfl (lv_at hl 0 rfl) ?_
    refine xgT_TA_world hx hb hts (fun _ h => List.mem_cons_of_mem _ (List.mem_append_left _ (List.mem_append_left _ (List.mem_append_right _ h)))) hown hK hP (hts (.fieldLink RX0 9 "TalePlay$Acts" "world" "LTalePlay$World;") (by decide +kernel)) dX0_isByRoom_15 ?_
    refine lv_aload_n hx hb dX0_isByRoom_18 rfl (lv_at hl 0 rfl) ?_
    refine xgT_TA_scene hx hb hts (fun _ h => List.mem_cons_of_mem _ (List.mem_append_left _ (List.mem_append_left _ (List.mem_append_right _ h)))) hown hK hP (hts (.fieldLink RX0 33 "TalePlay$Acts" "scene" "LTalePlay$Scene;") (by decide +kernel)) dX0_isByRoom_19 ?_
    refine lv_aload_n hx hb dX0_isByRoom_22 rfl (lv_at hl 0 rfl) ?_
    refine xgT_TA_player (v := (i 156)) rfl hx hb hts (fun _ h => List.mem_cons_of_mem _ (List.mem_append_left _ (List.mem_append_left _ (List.mem_append_right _ h)))) hown hK hP (hts (.fieldLink RX0 38 "TalePlay$Acts" "player" "I") (by decide +kernel)) dX0_isByRoom_23 ?_
    refine ro_calli (va_runV (As := [.int (i 156)]) (rest := [.ref (a 104)]) ⟨hx, hb, hml, hown, hts⟩ (x_X6_holderOf_TS l D H.size .null a t i q c d (i 156) hI (show 0 ≤ (i 156).toInt ∧ (i 156).toInt ≤ 29 from by omega)) (cwV 1 hts gm_X0_isByRoom_TA_X6_holderOf_TS_83 rfl rfl rfl (by decide +kernel) ⟨Nat.le_of_ble_eq_true rfl, Nat.le_of_ble_eq_true rfl⟩) (yA_V hN (xZ_k hZ hS hA) (xkT_P1 hK) (xuT_P1 (sk := sk) hP) (ci := 6) (q0 := 0) rfl rfl) rfl rfl hl.1 rfl (lv_room (Nat.le_of_ble_eq_true rfl)) dX0_isByRoom_26 ⟨Nat.le_of_ble_eq_true rfl, Nat.le_of_ble_eq_true rfl⟩) hS hA hP (fun r3 u3 H locs hw3 hP hS => ?_)
    have hw3 : ((r3.toInt = -9 ∧ (c 150 (i 156).toNatClampNeg).toInt % 256 = 255) ∨ (0 ≤ r3.toInt ∧ r3.toInt ≤ 29 ∧ ¬ (c 150 (i 156).toNatClampNeg).toInt % 256 = 255 ∧ r3.toInt = (c 150 (i 156).toNatClampNeg).toInt / 8 % 32)) := hw3
    have rb111_i : 0 ≤ (i 111).toInt ∧ (i 111).toInt ≤ 30 := hI.1 111
    refine ro_calli (va_runV (As := [.int r3]) (rest := []) ⟨hx, hb, hml, hown, hts⟩ (x_X10_sortOf l D H.size .null a t i q c d r3 hI ) (cwV 1 hts gm_X0_isByRoom_TA_X10_sortOf_86 rfl rfl rfl (by decide +kernel) ⟨Nat.le_of_ble_eq_true rfl, Nat.le_of_ble_eq_true rfl⟩) (yA_V hN (xZ_k hZ hS hA) (xkT_W hK) (xuT_W (sk := sk) hP) (ci := 10) (q0 := 0) rfl rfl) rfl rfl hl.1 rfl (lv_room (Nat.le_of_ble_eq_true rfl)) dX0_isByRoom_29 ⟨Nat.le_of_ble_eq_true rfl, Nat.le_of_ble_eq_true rfl⟩) hS hA hP (fun r4 u4 H locs hw4 hP hS => ?_)
    have hw4 : ((r4.toInt = -9 ∧ ¬ (0 ≤ r3.toInt ∧ r3.toInt < (i 111).toInt)) ∨ (0 ≤ r4.toInt ∧ r4.toInt ≤ 5 ∧ 0 ≤ r3.toInt ∧ r3.toInt < (i 111).toInt)) := hw4
    refine lv_if_ne (tgt := 39) hx hb dX0_isByRoom_32 (by decide) (fun c5 => ?_) (fun c5 => ?_)
    · have f5 := mt (ti_eq (a := r4.toInt) (b := 0) rfl (by decide)).mpr c5
      refine lv_iconst (v := 0) hx hb dX0_isByRoom_39 (by decide) ?_
      exact ro_zret hx hb hr hlocks hS rfl dX0_isByRoom_40 ⟨(show 0 ≤ (0 : Int32).toInt ∧ (0 : Int32).toInt ≤ 1 from by have h9 : (0 : Int32).toInt = 0 := (by decide); omega), (show Im ((0 : Int32).toInt = 1) (¬ (c 150 (i 156).toNatClampNeg).toInt % 256 = 255) from fun h9 => absurd h9 (by decide))⟩
    · have f5 := (ti_eq (a := r4.toInt) (b := 0) rfl (by decide)).mp c5
      refine lv_iconst (v := 1) hx hb dX0_isByRoom_35 (by decide) ?_
      refine lv_goto (tgt := 40) hx hb dX0_isByRoom_36 (by decide) ?_
      exact ro_zret hx hb hr hlocks hS rfl dX0_isByRoom_40 ⟨(show 0 ≤ (1 : Int32).toInt ∧ (1 : Int32).toInt ≤ 1 from by have h9 : (1 : Int32).toInt = 1 := (by decide); omega), (show Im ((1 : Int32).toInt = 1) (¬ (c 150 (i 156).toNatClampNeg).toInt % 256 = 255) from fun _ => by omega)⟩

def wm_X0_isAnothers_TA : List Cond := .code yX0_isAnothers cX0_isAnothers 4 (some .boolean) :: (([.fieldLink RX0 33 "TalePlay$Acts" "scene" "LTalePlay$Scene;", .methodLink RX0 83 yX6_holderOf, .instanceMethod yX6_holderOf, .selects RX6 yX6_holderOf yX6_holderOf, .initialized RX6, .code yX6_holderOf cX6_holderOf 3 (some .int), .fieldLink RX6 9 "TalePlay$Scene" "cells" "[I", .fieldLink RX0 38 "TalePlay$Acts" "player" "I", .fieldLink RX0 9 "TalePlay$Acts" "world" "LTalePlay$World;", .methodLink RX0 86 yX10_sortOf, .instanceMethod yX10_sortOf, .selects RX10 yX10_sortOf yX10_sortOf, .initialized RX10, .code yX10_sortOf cX10_sortOf 2 (some .int), .fieldLink RX10 37 "TalePlay$World" "objects" "I", .fieldLink RX10 15 "TalePlay$World" "sorts" "[I", .fieldLink RX10 21 "TalePlay$World" "kindOf" "[I"] : List Cond) ++ wsX00 ++ wsX60 ++ wsX100)
set_option maxRecDepth 20000 in
theorem gm_X0_isAnothers_TA_X6_holderOf_TS_83 : GoodIn wm_X0_isAnothers_TA (wsV RX0 83 RX6 yX6_holderOf wm_X6_holderOf_TS) := goodIn_app (goodIn_of _ (by decide +kernel)) (goodIn_r _ [6, 7, 25, 26] rfl (by decide +kernel))
set_option maxRecDepth 20000 in
theorem gm_X0_isAnothers_TA_X10_sortOf_86 : GoodIn wm_X0_isAnothers_TA (wsV RX0 86 RX10 yX10_sortOf wm_X10_sortOf) := goodIn_app (goodIn_of _ (by decide +kernel)) (goodIn_r _ [14, 15, 16, 17, 27, 28, 29, 30, 31, 32, 33] rfl (by decide +kernel))
set_option maxHeartbeats 4000000 in
set_option maxRecDepth 100000 in
theorem x_X0_isAnothers_TA (l : Launch) (D : va_G) (sz : Nat) (sk : Value) (a : Nat → Nat) (t : Nat → ClassId) (i : Nat → Int32) (q : Int64) (c : Nat → Nat → Int32) (d : Nat → Nat → Int64) (w : Int32) (hI : xInv i c) (hw : 0 ≤ w.toInt ∧ w.toInt ≤ 29) : Met l yX0_isAnothers wm_X0_isAnothers_TA ({ frames := 1, cells := 0, slots := 0, locals := 22 }) (va_Pc [.ref (a 155), .int w] (yA (a 186) D sz (xwT sk a t i q c d) (xtT t))) (va_Qi (fun (r : Int32) (_ : Unit) => (0 ≤ r.toInt ∧ r.toInt ≤ 1)) oA (ro sz)) 0 0 (ro sz) := by
  refine Met.ofW (cc := cX0_isAnothers) (maxL := 4) (ret := (some .boolean)) (by decide) rfl ?_
  intro p e s m args below meth cd s₁ B hml hv
  obtain ⟨rfl, ⟨hsz, hP, hK⟩, hN, hZ⟩ := hv
  have hx := B.exec
  have hb := B.bytes
  have hr := B.returns
  have hts := atoms_spec (ws := wm_X0_isAnothers_TA) B.pre
  have hown : s.vm.findClass RX0 = some m.cls := findClass_of_methodNamed B.named
  have hlocks := B.notSynchronized
  subst hsz
  have hA : ∀ q : Nat, s.heap.size ≤ q → ro s.heap.size q := fun _ h => h
  have hS : va_S (ro s.heap.size) s.heap s.heap [] := va_S.rf
  have hl := lv_entry ([.ref (a 155), .int w]) (n := 4) (Nat.le_of_ble_eq_true rfl)
  rw [lg_entry_eq]
  generalize (lg_sl ([.ref (a 155), .int w]) ++ List.replicate (4 - (lg_sl ([.ref (a 155), .int w])).length) Slot.unset).toArray = ls at hl ⊢
  have hl : lv_has ls 4 [(0, .ref (a 155)), (1, .int w)] := hl
  refine lv_aload_n hx hb dX0_isAnothers_0 rfl (lv_at hl 0 rfl) ?_
  refine xgT_TA_scene hx hb hts (fun _ h => List.mem_cons_of_mem _ (List.mem_append_left _ (List.mem_append_left _ (List.mem_append_right _ h)))) hown hK hP (hts (.fieldLink RX0 33 "TalePlay$Acts" "scene" "LTalePlay$Scene;") (by decide +kernel)) dX0_isAnothers_1 ?_
  refine lv_iload_n hx hb dX0_isAnothers_4 rfl (lv_at hl 1 rfl) ?_
  refine ro_calli (va_runV (As := [.int w]) (rest := []) ⟨hx, hb, hml, hown, hts⟩ (x_X6_holderOf_TS l D s.heap.size .null a t i q c d w hI (show 0 ≤ w.toInt ∧ w.toInt ≤ 29 from by omega)) (cwV 1 hts gm_X0_isAnothers_TA_X6_holderOf_TS_83 rfl rfl rfl (by decide +kernel) ⟨Nat.le_of_ble_eq_true rfl, Nat.le_of_ble_eq_true rfl⟩) (yA_V hN (xZ_k hZ hS hA) (xkT_P1 hK) (xuT_P1 (sk := sk) hP) (ci := 6) (q0 := 0) rfl rfl) rfl rfl hl.1 rfl (lv_room (Nat.le_of_ble_eq_true rfl)) dX0_isAnothers_5 ⟨Nat.le_of_ble_eq_true rfl, Nat.le_of_ble_eq_true rfl⟩) hS hA hP (fun r1 u1 H locs hw1 hP hS => ?_)
  have hw1 : ((r1.toInt = -9 ∧ (c 150 w.toNatClampNeg).toInt % 256 = 255) ∨ (0 ≤ r1.toInt ∧ r1.toInt ≤ 29 ∧ ¬ (c 150 w.toNatClampNeg).toInt % 256 = 255 ∧ r1.toInt = (c 150 w.toNatClampNeg).toInt / 8 % 32)) := hw1
  refine lv_istore_n (lv' := [(2, .int r1), (0, .ref (a 155)), (1, .int w)]) hx hb dX0_isAnothers_8 rfl hl (by decide) rfl (fun ls hl => ?_)
  refine lv_iconst (v := 0) hx hb dX0_isAnothers_9 (by decide) ?_
  refine lv_istore_n (lv' := [(3, .int 0), (2, .int r1), (0, .ref (a 155)), (1, .int w)]) hx hb dX0_isAnothers_10 rfl hl (by decide) rfl (fun ls hl => ?_)
  have lp2 : ∀ (fu : Nat) (y2_3 : Int32) (y2_2 : Int32), (0 ≤ y2_3.toInt ∧ y2_3.toInt ≤ 30) → (y2_2.toInt = -9 ∨ (0 ≤ y2_2.toInt ∧ y2_2.toInt ≤ 29)) → (30 - y2_3.toInt).toNat < fu → ∀ (H : Heap) (locs : List Loc) (ls : Array Slot), va_P D vwCl (xwT sk a t i q c d) H → va_S (ro s.heap.size) s.heap H locs → lv_has ls 4 [(3, .int y2_3), (2, .int y2_2), (0, .ref (a 155)), (1, .int w)] → W p l e (headSpec wm_X0_isAnothers_TA ({ frames := 1, cells := 0, slots := 0, locals := 22 })).room s m ([.ref (a 155), .int w] : List Value).toArray below meth cd H locs 0 0 (MQ below (va_Qi (fun (r : Int32) (_ : Unit) => (0 ≤ r.toInt ∧ r.toInt ≤ 1)) oA (ro s.heap.size)) ([.ref (a 155), .int w] : List Value).toArray s 0 0 (ro s.heap.size)) (F0 m 11 ls []) := by
    intro fu
    induction fu with
    | zero => intro y2_3 y2_2 hy2_3 hy2_2 hm; exact absurd hm (Nat.not_lt_zero _)
    | succ fu ih =>
      intro y2_3 y2_2 hy2_3 hy2_2 hm H locs ls hP hS hl
      have ih2 := ih
      refine lv_iload_n hx hb dX0_isAnothers_11 rfl (lv_at hl 0 rfl) ?_
      refine lv_bipush (v := 30) hx hb dX0_isAnothers_12 (by decide) ?_
      refine lv_icmp_ge (tgt := 60) hx hb dX0_isAnothers_14 (by decide) (fun c3 => ?_) (fun c3 => ?_)
      · have f3 := (ti_le (a := 30) (b := y2_3.toInt) (by decide) rfl).mp c3
        refine lv_iconst (v := 0) hx hb dX0_isAnothers_60 (by decide) ?_
        exact ro_zret hx hb hr hlocks hS rfl dX0_isAnothers_61 (show 0 ≤ (0 : Int32).toInt ∧ (0 : Int32).toInt ≤ 1 from by have h9 : (0 : Int32).toInt = 0 := (by decide); omega)
      · have f3 := mt (ti_le (a := 30) (b := y2_3.toInt) (by decide) rfl).mpr c3
        refine lv_iload_n hx hb dX0_isAnothers_17 rfl (lv_at hl 1 rfl) ?_
        refine lv_bipush (v := (-9)) hx hb dX0_isAnothers_18 (by decide) ?_
        refine lv_icmp_eq (tgt := 60) hx hb dX0_isAnothers_20 (by decide) (fun c4 => ?_) (fun c4 => ?_)
        · have f4 := (ti_eq (a := y2_2.toInt) (b := (-9)) rfl (by decide)).mp c4
          refine lv_iconst (v := 0) hx hb dX0_isAnothers_60 (by decide) ?_
          exact ro_zret hx hb hr hlocks hS rfl dX0_isAnothers_61 (show 0 ≤ (0 : Int32).toInt ∧ (0 : Int32).toInt ≤ 1 from by have h9 : (0 : Int32).toInt = 0 := (by decide); omega)
        · have f4 := mt (ti_eq (a := y2_2.toInt) (b := (-9)) rfl (by decide)).mpr c4
          refine lv_iload_n hx hb dX0_isAnothers_23 rfl (lv_at hl 1 rfl) ?_
          refine lv_aload_n hx hb dX0_isAnothers_24 rfl (lv_at hl 2 rfl) ?_
          refine xgT_TA_player (v := (i 156)) rfl hx hb hts (fun _ h => List.mem_cons_of_mem _ (List.mem_append_left _ (List.mem_append_left _ (List.mem_append_right _ h)))) hown hK hP (hts (.fieldLink RX0 38 "TalePlay$Acts" "player" "I") (by decide +kernel)) dX0_isAnothers_25 ?_
          have rb156_i : (i 156).toInt = -9 ∨ (0 ≤ (i 156).toInt ∧ (i 156).toInt ≤ 29) := hI.1 156
          have jn5 : ∀ (H : Heap) (locs : List Loc) (ls : Array Slot), va_P D vwCl (xwT sk a t i q c d) H → va_S (ro s.heap.size) s.heap H locs → lv_has ls 4 [(3, .int y2_3), (2, .int y2_2), (0, .ref (a 155)), (1, .int w)] → W p l e (headSpec wm_X0_isAnothers_TA ({ frames := 1, cells := 0, slots := 0, locals := 22 })).room s m ([.ref (a 155), .int w] : List Value).toArray below meth cd H locs 0 0 (MQ below (va_Qi (fun (r : Int32) (_ : Unit) => (0 ≤ r.toInt ∧ r.toInt ≤ 1)) oA (ro s.heap.size)) ([.ref (a 155), .int w] : List Value).toArray s 0 0 (ro s.heap.size)) (F0 m 45 ls []) := by
            intro H locs ls hP hS hl
            refine lv_aload_n hx hb dX0_isAnothers_45 rfl (lv_at hl 2 rfl) ?_
            refine xgT_TA_scene hx hb hts (fun _ h => List.mem_cons_of_mem _ (List.mem_append_left _ (List.mem_append_left _ (List.mem_append_right _ h)))) hown hK hP (hts (.fieldLink RX0 33 "TalePlay$Acts" "scene" "LTalePlay$Scene;") (by decide +kernel)) dX0_isAnothers_46 ?_
            refine lv_iload_n hx hb dX0_isAnothers_49 rfl (lv_at hl 1 rfl) ?_
            refine ro_calli (va_runV (As := [.int y2_2]) (rest := []) ⟨hx, hb, hml, hown, hts⟩ (x_X6_holderOf_TS l D H.size .null a t i q c d y2_2 hI (show 0 ≤ y2_2.toInt ∧ y2_2.toInt ≤ 29 from by omega)) (cwV 1 hts gm_X0_isAnothers_TA_X6_holderOf_TS_83 rfl rfl rfl (by decide +kernel) ⟨Nat.le_of_ble_eq_true rfl, Nat.le_of_ble_eq_true rfl⟩) (yA_V hN (xZ_k hZ hS hA) (xkT_P1 hK) (xuT_P1 (sk := sk) hP) (ci := 6) (q0 := 0) rfl rfl) rfl rfl hl.1 rfl (lv_room (Nat.le_of_ble_eq_true rfl)) dX0_isAnothers_50 ⟨Nat.le_of_ble_eq_true rfl, Nat.le_of_ble_eq_true rfl⟩) hS hA hP (fun r6 u6 H locs hw6 hP hS => ?_)
            have hw6 : ((r6.toInt = -9 ∧ (c 150 y2_2.toNatClampNeg).toInt % 256 = 255) ∨ (0 ≤ r6.toInt ∧ r6.toInt ≤ 29 ∧ ¬ (c 150 y2_2.toNatClampNeg).toInt % 256 = 255 ∧ r6.toInt = (c 150 y2_2.toNatClampNeg).toInt / 8 % 32)) := hw6
            refine lv_istore_n (lv' := [(2, .int r6), (3, .int y2_3), (0, .ref (a 155)), (1, .int w)]) hx hb dX0_isAnothers_53 rfl hl (by decide) rfl (fun ls hl => ?_)
            obtain ⟨x7, ex7⟩ : ∃ y : Int32, y = y2_3 + 1 := ⟨_, rfl⟩
            have tx7 := ti_add (a := y2_3.toInt) (b := 1) ex7 rfl (by decide) (by omega) (by omega)
            refine lv_iinc (v := x7) (lv' := [(3, .int x7), (2, .int r6), (0, .ref (a 155)), (1, .int w)]) hx hb dX0_isAnothers_54 hl (k := 1) rfl (by rw [ex7]; rfl) (by decide) rfl (fun ls hl => ?_)
            refine lv_goto (tgt := 11) hx hb dX0_isAnothers_57 (by decide) ?_
            exact ih2 x7 r6 (show 0 ≤ x7.toInt ∧ x7.toInt ≤ 30 from by have h50 : x7.toInt = (y2_3.toInt + 1) := tx7; omega) (show r6.toInt = -9 ∨ (0 ≤ r6.toInt ∧ r6.toInt ≤ 29) from by have h50 : x7.toInt = (y2_3.toInt + 1) := tx7; omega) (by have h50 : x7.toInt = (y2_3.toInt + 1) := tx7; omega) _ _ _ hP hS (lv_sub hl [0, 1, 2, 3] rfl)
          refine lv_icmp_eq (tgt := 45) hx hb dX0_isAnothers_28 (by decide) (fun c8 => ?_) (fun c8 => ?_)
          · have f8 := (ti_eq (a := y2_2.toInt) (b := (i 156).toInt) rfl rfl).mp c8
            exact jn5    _ _ _ hP hS (lv_sub hl [0, 1, 2, 3] rfl)
          · have f8 := mt (ti_eq (a := y2_2.toInt) (b := (i 156).toInt) rfl rfl).mpr c8
            refine lv_aload_n hx hb dX0_isAnothers_31 rfl (lv_at hl 2 rfl) ?_
            refine xgT_TA_world hx hb hts (fun _ h => List.mem_cons_of_mem _ (List.mem_append_left _ (List.mem_append_left _ (List.mem_append_right _ h)))) hown hK hP (hts (.fieldLink RX0 9 "TalePlay$Acts" "world" "LTalePlay$World;") (by decide +kernel)) dX0_isAnothers_32 ?_
            refine lv_iload_n hx hb dX0_isAnothers_35 rfl (lv_at hl 1 rfl) ?_
            have rb111_i : 0 ≤ (i 111).toInt ∧ (i 111).toInt ≤ 30 := hI.1 111
            refine ro_calli (va_runV (As := [.int y2_2]) (rest := []) ⟨hx, hb, hml, hown, hts⟩ (x_X10_sortOf l D H.size .null a t i q c d y2_2 hI ) (cwV 1 hts gm_X0_isAnothers_TA_X10_sortOf_86 rfl rfl rfl (by decide +kernel) ⟨Nat.le_of_ble_eq_true rfl, Nat.le_of_ble_eq_true rfl⟩) (yA_V hN (xZ_k hZ hS hA) (xkT_W hK) (xuT_W (sk := sk) hP) (ci := 10) (q0 := 0) rfl rfl) rfl rfl hl.1 rfl (lv_room (Nat.le_of_ble_eq_true rfl)) dX0_isAnothers_36 ⟨Nat.le_of_ble_eq_true rfl, Nat.le_of_ble_eq_true rfl⟩) hS hA hP (fun r9 u9 H locs hw9 hP hS => ?_)
            have hw9 : ((r9.toInt = -9 ∧ ¬ (0 ≤ y2_2.toInt ∧ y2_2.toInt < (i 111).toInt)) ∨ (0 ≤ r9.toInt ∧ r9.toInt ≤ 5 ∧ 0 ≤ y2_2.toInt ∧ y2_2.toInt < (i 111).toInt)) := hw9
            refine lv_iconst (v := 5) hx hb dX0_isAnothers_39 (by decide) ?_
            refine lv_icmp_ne (tgt := 45) hx hb dX0_isAnothers_40 (by decide) (fun c10 => ?_) (fun c10 => ?_)
            · have f10 := mt (ti_eq (a := r9.toInt) (b := 5) rfl (by decide)).mpr c10
              exact jn5    _ _ _ hP hS (lv_sub hl [0, 1, 2, 3] rfl)
            · have f10 := (ti_eq (a := r9.toInt) (b := 5) rfl (by decide)).mp c10
              refine lv_iconst (v := 1) hx hb dX0_isAnothers_43 (by decide) ?_
              exact ro_zret hx hb hr hlocks hS rfl dX0_isAnothers_44 (show 0 ≤ (1 : Int32).toInt ∧ (1 : Int32).toInt ≤ 1 from by have h9 : (1 : Int32).toInt = 1 := (by decide); omega)
  exact lp2 _ (0 : Int32) r1 (show 0 ≤ (0 : Int32).toInt ∧ (0 : Int32).toInt ≤ 30 from by have h50 : (0 : Int32).toInt = 0 := (by decide); omega) (show r1.toInt = -9 ∨ (0 ≤ r1.toInt ∧ r1.toInt ≤ 29) from by have h50 : (0 : Int32).toInt = 0 := (by decide); omega) (Nat.lt_succ_self _) _ _ _ hP hS (lv_sub hl [0, 1, 2, 3] rfl)

def wm_X0_reasonToPut_TA : List Cond := .code yX0_reasonToPut cX0_reasonToPut 4 (some .int) :: (([.fieldLink RX0 34 "TalePlay$Acts" "sight" "LTalePlay$Sight;", .fieldLink RX0 108 "TalePlay$Sight" "seen" "[Z", .fieldLink RX0 9 "TalePlay$Acts" "world" "LTalePlay$World;", .methodLink RX0 86 yX10_sortOf, .instanceMethod yX10_sortOf, .selects RX10 yX10_sortOf yX10_sortOf, .initialized RX10, .code yX10_sortOf cX10_sortOf 2 (some .int), .fieldLink RX10 37 "TalePlay$World" "objects" "I", .fieldLink RX10 15 "TalePlay$World" "sorts" "[I", .fieldLink RX10 21 "TalePlay$World" "kindOf" "[I", .fieldLink RX0 33 "TalePlay$Acts" "scene" "LTalePlay$Scene;", .methodLink RX0 112 yX6_isUp, .instanceMethod yX6_isUp, .selects RX6 yX6_isUp yX6_isUp, .initialized RX6, .code yX6_isUp cX6_isUp 5 (some .boolean), .methodLink RX6 25 yX6_holderOf, .instanceMethod yX6_holderOf, .selects RX6 yX6_holderOf yX6_holderOf, .code yX6_holderOf cX6_holderOf 3 (some .int), .fieldLink RX6 9 "TalePlay$Scene" "cells" "[I", .fieldLink RX0 118 "TalePlay$Sight" "reached" "[Z", .methodLink RX0 134 yX6_countOf, .instanceMethod yX6_countOf, .selects RX6 yX6_countOf yX6_countOf, .code yX6_countOf cX6_countOf 5 (some .int), .fieldLink RX6 15 "TalePlay$Scene" "world" "LTalePlay$World;", .fieldLink RX6 34 "TalePlay$World" "objects" "I", .methodLink RX6 38 yX6_lies, .instanceMethod yX6_lies, .selects RX6 yX6_lies yX6_lies, .code yX6_lies cX6_lies 4 (some .boolean), .methodLink RX0 104 yX6_has, .instanceMethod yX6_has, .selects RX6 yX6_has yX6_has, .code yX6_has cX6_has 3 (some .boolean)] : List Cond) ++ wsX00 ++ wsX80 ++ wsX100 ++ wsX60)
set_option maxRecDepth 20000 in
theorem gm_X0_reasonToPut_TA_X10_sortOf_86 : GoodIn wm_X0_reasonToPut_TA (wsV RX0 86 RX10 yX10_sortOf wm_X10_sortOf) := goodIn_app (goodIn_of _ (by decide +kernel)) (goodIn_r _ [8, 9, 10, 11, 51, 52, 53, 54, 55, 56, 57] rfl (by decide +kernel))
set_option maxRecDepth 20000 in
theorem gm_X0_reasonToPut_TA_X6_isUp_TS_112 : GoodIn wm_X0_reasonToPut_TA (wsV RX0 112 RX6 yX6_isUp wm_X6_isUp_TS) := goodIn_app (goodIn_of _ (by decide +kernel)) (goodIn_r _ [17, 18, 19, 20, 16, 21, 22, 58, 59] rfl (by decide +kernel))
set_option maxRecDepth 20000 in
theorem gm_X0_reasonToPut_TA_X6_countOf_TS_134 : GoodIn wm_X0_reasonToPut_TA (wsV RX0 134 RX6 yX6_countOf wm_X6_countOf_TS) := goodIn_app (goodIn_of _ (by decide +kernel)) (goodIn_r _ [27, 28, 29, 30, 31, 32, 16, 33, 22, 58, 59, 51, 52, 53, 54, 55, 56, 57] rfl (by decide +kernel))
set_option maxRecDepth 20000 in
theorem gm_X0_reasonToPut_TA_X6_has_TS_104 : GoodIn wm_X0_reasonToPut_TA (wsV RX0 104 RX6 yX6_has wm_X6_has_TS) := goodIn_app (goodIn_of _ (by decide +kernel)) (goodIn_r _ [37, 22, 58, 59] rfl (by decide +kernel))
set_option maxHeartbeats 4000000 in
set_option maxRecDepth 100000 in
theorem x_X0_reasonToPut_TA (l : Launch) (D : va_G) (sz : Nat) (sk : Value) (a : Nat → Nat) (t : Nat → ClassId) (i : Nat → Int32) (q : Int64) (c : Nat → Nat → Int32) (d : Nat → Nat → Int64) (w1 : Int32) (f : Int32) (w2 : Int32) (hI : xInv i c) (hw1 : 0 ≤ w1.toInt ∧ w1.toInt ≤ 29) (hw2 : 0 ≤ w2.toInt ∧ w2.toInt ≤ 29) : Met l yX0_reasonToPut wm_X0_reasonToPut_TA ({ frames := 2, cells := 0, slots := 0, locals := 47 }) (va_Pc [.ref (a 155), .int w1, .int f, .int w2] (yA (a 186) D sz (xwT sk a t i q c d) (xtT t))) (va_Qi (fun (r : Int32) (_ : Unit) => (0 ≤ r.toInt ∧ r.toInt ≤ 14)) oA (ro sz)) 0 0 (ro sz) := by
  refine Met.ofW (cc := cX0_reasonToPut) (maxL := 4) (ret := (some .int)) (by decide) rfl ?_
  intro p e s m args below meth cd s₁ B hml hv
  obtain ⟨rfl, ⟨hsz, hP, hK⟩, hN, hZ⟩ := hv
  have hx := B.exec
  have hb := B.bytes
  have hr := B.returns
  have hts := atoms_spec (ws := wm_X0_reasonToPut_TA) B.pre
  have hown : s.vm.findClass RX0 = some m.cls := findClass_of_methodNamed B.named
  have hlocks := B.notSynchronized
  subst hsz
  have hA : ∀ q : Nat, s.heap.size ≤ q → ro s.heap.size q := fun _ h => h
  have hS : va_S (ro s.heap.size) s.heap s.heap [] := va_S.rf
  have hl := lv_entry ([.ref (a 155), .int w1, .int f, .int w2]) (n := 4) (Nat.le_of_ble_eq_true rfl)
  rw [lg_entry_eq]
  generalize (lg_sl ([.ref (a 155), .int w1, .int f, .int w2]) ++ List.replicate (4 - (lg_sl ([.ref (a 155), .int w1, .int f, .int w2])).length) Slot.unset).toArray = ls at hl ⊢
  have hl : lv_has ls 4 [(0, .ref (a 155)), (1, .int w1), (2, .int f), (3, .int w2)] := hl
  refine lv_aload_n hx hb dX0_reasonToPut_0 rfl (lv_at hl 0 rfl) ?_
  refine xgT_TA_sight hx hb hts (fun _ h => List.mem_cons_of_mem _ (List.mem_append_left _ (List.mem_append_left _ (List.mem_append_left _ (List.mem_append_right _ h))))) hown hK hP (hts (.fieldLink RX0 34 "TalePlay$Acts" "sight" "LTalePlay$Sight;") (by decide +kernel)) dX0_reasonToPut_1 ?_
  refine xgT_TG_seen hx hb hts (fun _ h => List.mem_cons_of_mem _ (List.mem_append_left _ (List.mem_append_left _ (List.mem_append_right _ h)))) hown hK hP (hts (.fieldLink RX0 108 "TalePlay$Sight" "seen" "[Z") (by decide +kernel)) dX0_reasonToPut_4 ?_
  refine lv_iload_n hx hb dX0_reasonToPut_7 rfl (lv_at hl 3 rfl) ?_
  refine xlT_152 hx hb hK hP (vp_in_iff.mpr (by have h9 : w2.toInt = w2.toInt := rfl; omega)) dX0_reasonToPut_8 (fun x1 ex1 => ?_)
  have rx1 : 0 ≤ x1.toInt ∧ x1.toInt ≤ 1 := by rw [ex1]; exact hI.2 152 _
  refine lv_if_ne (tgt := 14) hx hb dX0_reasonToPut_9 (by decide) (fun c2 => ?_) (fun c2 => ?_)
  · have f2 := mt (ti_eq (a := x1.toInt) (b := 0) rfl (by decide)).mpr c2
    refine lv_aload_n hx hb dX0_reasonToPut_14 rfl (lv_at hl 0 rfl) ?_
    refine xgT_TA_world hx hb hts (fun _ h => List.mem_cons_of_mem _ (List.mem_append_left _ (List.mem_append_left _ (List.mem_append_left _ (List.mem_append_right _ h))))) hown hK hP (hts (.fieldLink RX0 9 "TalePlay$Acts" "world" "LTalePlay$World;") (by decide +kernel)) dX0_reasonToPut_15 ?_
    refine lv_iload_n hx hb dX0_reasonToPut_18 rfl (lv_at hl 3 rfl) ?_
    have rb111_i : 0 ≤ (i 111).toInt ∧ (i 111).toInt ≤ 30 := hI.1 111
    refine ro_calli (va_runV (As := [.int w2]) (rest := []) ⟨hx, hb, hml, hown, hts⟩ (x_X10_sortOf l D s.heap.size .null a t i q c d w2 hI ) (cwV 1 hts gm_X0_reasonToPut_TA_X10_sortOf_86 rfl rfl rfl (by decide +kernel) ⟨Nat.le_of_ble_eq_true rfl, Nat.le_of_ble_eq_true rfl⟩) (yA_V hN (xZ_k hZ hS hA) (xkT_W hK) (xuT_W (sk := sk) hP) (ci := 10) (q0 := 0) rfl rfl) rfl rfl hl.1 rfl (lv_room (Nat.le_of_ble_eq_true rfl)) dX0_reasonToPut_19 ⟨Nat.le_of_ble_eq_true rfl, Nat.le_of_ble_eq_true rfl⟩) hS hA hP (fun r3 u3 H locs hw3 hP hS => ?_)
    have hw3 : ((r3.toInt = -9 ∧ ¬ (0 ≤ w2.toInt ∧ w2.toInt < (i 111).toInt)) ∨ (0 ≤ r3.toInt ∧ r3.toInt ≤ 5 ∧ 0 ≤ w2.toInt ∧ w2.toInt < (i 111).toInt)) := hw3
    refine lv_iload_n hx hb dX0_reasonToPut_22 rfl (lv_at hl 2 rfl) ?_
    have jn4 : ∀ (z4_0 : Int32), (z4_0.toInt = 3 ∨ z4_0.toInt = 4) → ∀ (H : Heap) (locs : List Loc) (ls : Array Slot), va_P D vwCl (xwT sk a t i q c d) H → va_S (ro s.heap.size) s.heap H locs → lv_has ls 4 [(0, .ref (a 155)), (1, .int w1), (2, .int f), (3, .int w2)] → W p l e (headSpec wm_X0_reasonToPut_TA ({ frames := 2, cells := 0, slots := 0, locals := 47 })).room s m ([.ref (a 155), .int w1, .int f, .int w2] : List Value).toArray below meth cd H locs 0 0 (MQ below (va_Qi (fun (r : Int32) (_ : Unit) => (0 ≤ r.toInt ∧ r.toInt ≤ 14)) oA (ro s.heap.size)) ([.ref (a 155), .int w1, .int f, .int w2] : List Value).toArray s 0 0 (ro s.heap.size)) (F0 m 31 ls [.int z4_0, .int r3]) := by
      intro z4_0 hs4_0 H locs ls hP hS hl
      refine lv_icmp_eq (tgt := 37) hx hb dX0_reasonToPut_31 (by decide) (fun c5 => ?_) (fun c5 => ?_)
      · have f5 := (ti_eq (a := r3.toInt) (b := z4_0.toInt) rfl rfl).mp c5
        refine lv_iload_n hx hb dX0_reasonToPut_37 rfl (lv_at hl 3 rfl) ?_
        refine lv_iload_n hx hb dX0_reasonToPut_38 rfl (lv_at hl 1 rfl) ?_
        refine lv_icmp_eq (tgt := 54) hx hb dX0_reasonToPut_39 (by decide) (fun c6 => ?_) (fun c6 => ?_)
        · have f6 := (ti_eq (a := w2.toInt) (b := w1.toInt) rfl rfl).mp c6
          refine lv_bipush (v := 13) hx hb dX0_reasonToPut_54 (by decide) ?_
          exact ro_iret hx hb hr hlocks hS dX0_reasonToPut_56 (show 0 ≤ (13 : Int32).toInt ∧ (13 : Int32).toInt ≤ 14 from by have h9 : (13 : Int32).toInt = 13 := (by decide); omega)
        · have f6 := mt (ti_eq (a := w2.toInt) (b := w1.toInt) rfl rfl).mpr c6
          refine lv_aload_n hx hb dX0_reasonToPut_42 rfl (lv_at hl 0 rfl) ?_
          refine xgT_TA_scene hx hb hts (fun _ h => List.mem_cons_of_mem _ (List.mem_append_left _ (List.mem_append_left _ (List.mem_append_left _ (List.mem_append_right _ h))))) hown hK hP (hts (.fieldLink RX0 33 "TalePlay$Acts" "scene" "LTalePlay$Scene;") (by decide +kernel)) dX0_reasonToPut_43 ?_
          refine lv_iload_n hx hb dX0_reasonToPut_46 rfl (lv_at hl 1 rfl) ?_
          refine lv_iload_n hx hb dX0_reasonToPut_47 rfl (lv_at hl 3 rfl) ?_
          refine ro_calli (va_runV (As := [.int w1, .int w2]) (rest := []) ⟨hx, hb, hml, hown, hts⟩ (x_X6_isUp_TS l D H.size .null a t i q c d w1 w2 hI (show 0 ≤ w2.toInt ∧ w2.toInt ≤ 29 from by omega)) (cwV 2 hts gm_X0_reasonToPut_TA_X6_isUp_TS_112 rfl rfl rfl (by decide +kernel) ⟨Nat.le_of_ble_eq_true rfl, Nat.le_of_ble_eq_true rfl⟩) (yA_V hN (xZ_k hZ hS hA) (xkT_P1 hK) (xuT_P1 (sk := sk) hP) (ci := 6) (q0 := 0) rfl rfl) rfl rfl hl.1 rfl (lv_room (Nat.le_of_ble_eq_true rfl)) dX0_reasonToPut_48 ⟨Nat.le_of_ble_eq_true rfl, Nat.le_of_ble_eq_true rfl⟩) hS hA hP (fun r7 u7 H locs hw7 hP hS => ?_)
          have hw7 : (0 ≤ r7.toInt ∧ r7.toInt ≤ 1) := hw7
          refine lv_if_eq (tgt := 57) hx hb dX0_reasonToPut_51 (by decide) (fun c8 => ?_) (fun c8 => ?_)
          · have f8 := (ti_eq (a := r7.toInt) (b := 0) rfl (by decide)).mp c8
            refine lv_iload_n hx hb dX0_reasonToPut_57 rfl (lv_at hl 2 rfl) ?_
            have jn9 : ∀ (H : Heap) (locs : List Loc) (ls : Array Slot), va_P D vwCl (xwT sk a t i q c d) H → va_S (ro s.heap.size) s.heap H locs → lv_has ls 4 [(0, .ref (a 155)), (1, .int w1), (2, .int f), (3, .int w2)] → W p l e (headSpec wm_X0_reasonToPut_TA ({ frames := 2, cells := 0, slots := 0, locals := 47 })).room s m ([.ref (a 155), .int w1, .int f, .int w2] : List Value).toArray below meth cd H locs 0 0 (MQ below (va_Qi (fun (r : Int32) (_ : Unit) => (0 ≤ r.toInt ∧ r.toInt ≤ 14)) oA (ro s.heap.size)) ([.ref (a 155), .int w1, .int f, .int w2] : List Value).toArray s 0 0 (ro s.heap.size)) (F0 m 75 ls []) := by
              intro H locs ls hP hS hl
              refine lv_aload_n hx hb dX0_reasonToPut_75 rfl (lv_at hl 0 rfl) ?_
              refine xgT_TA_sight hx hb hts (fun _ h => List.mem_cons_of_mem _ (List.mem_append_left _ (List.mem_append_left _ (List.mem_append_left _ (List.mem_append_right _ h))))) hown hK hP (hts (.fieldLink RX0 34 "TalePlay$Acts" "sight" "LTalePlay$Sight;") (by decide +kernel)) dX0_reasonToPut_76 ?_
              refine xgT_TG_reached hx hb hts (fun _ h => List.mem_cons_of_mem _ (List.mem_append_left _ (List.mem_append_left _ (List.mem_append_right _ h)))) hown hK hP (hts (.fieldLink RX0 118 "TalePlay$Sight" "reached" "[Z") (by decide +kernel)) dX0_reasonToPut_79 ?_
              refine lv_iload_n hx hb dX0_reasonToPut_82 rfl (lv_at hl 3 rfl) ?_
              refine xlT_153 hx hb hK hP (vp_in_iff.mpr (by have h9 : w2.toInt = w2.toInt := rfl; omega)) dX0_reasonToPut_83 (fun x10 ex10 => ?_)
              have rx10 : 0 ≤ x10.toInt ∧ x10.toInt ≤ 1 := by rw [ex10]; exact hI.2 153 _
              refine lv_if_ne (tgt := 90) hx hb dX0_reasonToPut_84 (by decide) (fun c11 => ?_) (fun c11 => ?_)
              · have f11 := mt (ti_eq (a := x10.toInt) (b := 0) rfl (by decide)).mpr c11
                refine lv_aload_n hx hb dX0_reasonToPut_90 rfl (lv_at hl 0 rfl) ?_
                refine xgT_TA_scene hx hb hts (fun _ h => List.mem_cons_of_mem _ (List.mem_append_left _ (List.mem_append_left _ (List.mem_append_left _ (List.mem_append_right _ h))))) hown hK hP (hts (.fieldLink RX0 33 "TalePlay$Acts" "scene" "LTalePlay$Scene;") (by decide +kernel)) dX0_reasonToPut_91 ?_
                refine lv_iload_n hx hb dX0_reasonToPut_94 rfl (lv_at hl 2 rfl) ?_
                refine lv_iload_n hx hb dX0_reasonToPut_95 rfl (lv_at hl 3 rfl) ?_
                refine ro_calli (va_runV (As := [.int f, .int w2]) (rest := []) ⟨hx, hb, hml, hown, hts⟩ (x_X6_countOf_TS l D H.size .null a t i q c d f w2 hI ) (cwV 2 hts gm_X0_reasonToPut_TA_X6_countOf_TS_134 rfl rfl rfl (by decide +kernel) ⟨Nat.le_of_ble_eq_true rfl, Nat.le_of_ble_eq_true rfl⟩) (yA_V hN (xZ_k hZ hS hA) (xkT_Q1 hK) (xuT_Q1 (sk := sk) hP) (ci := 6) (q0 := 0) rfl rfl) rfl rfl hl.1 rfl (lv_room (Nat.le_of_ble_eq_true rfl)) dX0_reasonToPut_96 ⟨Nat.le_of_ble_eq_true rfl, Nat.le_of_ble_eq_true rfl⟩) hS hA hP (fun r12 u12 H locs hw12 hP hS => ?_)
                have hw12 : (0 ≤ r12.toInt ∧ r12.toInt ≤ 30) := hw12
                refine lv_bipush (v := 8) hx hb dX0_reasonToPut_99 (by decide) ?_
                refine lv_icmp_lt (tgt := 109) hx hb dX0_reasonToPut_101 (by decide) (fun c13 => ?_) (fun c13 => ?_)
                · have f13 := (ti_lt (a := r12.toInt) (b := 8) rfl (by decide)).mp c13
                  refine lv_iconst (v := 0) hx hb dX0_reasonToPut_109 (by decide) ?_
                  exact ro_iret hx hb hr hlocks hS dX0_reasonToPut_110 (show 0 ≤ (0 : Int32).toInt ∧ (0 : Int32).toInt ≤ 14 from by have h9 : (0 : Int32).toInt = 0 := (by decide); omega)
                · have f13 := mt (ti_lt (a := r12.toInt) (b := 8) rfl (by decide)).mpr c13
                  refine lv_bipush (v := 14) hx hb dX0_reasonToPut_104 (by decide) ?_
                  refine lv_goto (tgt := 110) hx hb dX0_reasonToPut_106 (by decide) ?_
                  exact ro_iret hx hb hr hlocks hS dX0_reasonToPut_110 (show 0 ≤ (14 : Int32).toInt ∧ (14 : Int32).toInt ≤ 14 from by have h9 : (14 : Int32).toInt = 14 := (by decide); omega)
              · have f11 := (ti_eq (a := x10.toInt) (b := 0) rfl (by decide)).mp c11
                refine lv_bipush (v := 8) hx hb dX0_reasonToPut_87 (by decide) ?_
                exact ro_iret hx hb hr hlocks hS dX0_reasonToPut_89 (show 0 ≤ (8 : Int32).toInt ∧ (8 : Int32).toInt ≤ 14 from by have h9 : (8 : Int32).toInt = 8 := (by decide); omega)
            refine lv_if_ne (tgt := 75) hx hb dX0_reasonToPut_58 (by decide) (fun c14 => ?_) (fun c14 => ?_)
            · have f14 := mt (ti_eq (a := f.toInt) (b := 0) rfl (by decide)).mpr c14
              exact jn9    _ _ _ hP hS (lv_sub hl [0, 1, 2, 3] rfl)
            · have f14 := (ti_eq (a := f.toInt) (b := 0) rfl (by decide)).mp c14
              refine lv_aload_n hx hb dX0_reasonToPut_61 rfl (lv_at hl 0 rfl) ?_
              refine xgT_TA_scene hx hb hts (fun _ h => List.mem_cons_of_mem _ (List.mem_append_left _ (List.mem_append_left _ (List.mem_append_left _ (List.mem_append_right _ h))))) hown hK hP (hts (.fieldLink RX0 33 "TalePlay$Acts" "scene" "LTalePlay$Scene;") (by decide +kernel)) dX0_reasonToPut_62 ?_
              refine lv_iload_n hx hb dX0_reasonToPut_65 rfl (lv_at hl 3 rfl) ?_
              refine lv_iconst (v := 0) hx hb dX0_reasonToPut_66 (by decide) ?_
              refine ro_calli (va_runV (As := [.int w2, .int 0]) (rest := []) ⟨hx, hb, hml, hown, hts⟩ (x_X6_has_TS l D H.size .null a t i q c d w2 0 hI (show 0 ≤ w2.toInt ∧ w2.toInt ≤ 29 from by have h91 : (0 : Int32).toInt = 0 := (by decide); omega) (show 0 ≤ 0 ∧ 0 ≤ 5 from by have h91 : (0 : Int32).toInt = 0 := (by decide); omega)) (cwV 2 hts gm_X0_reasonToPut_TA_X6_has_TS_104 rfl rfl rfl (by decide +kernel) ⟨Nat.le_of_ble_eq_true rfl, Nat.le_of_ble_eq_true rfl⟩) (yA_V hN (xZ_k hZ hS hA) (xkT_P1 hK) (xuT_P1 (sk := sk) hP) (ci := 6) (q0 := 0) rfl rfl) rfl rfl hl.1 rfl (lv_room (Nat.le_of_ble_eq_true rfl)) dX0_reasonToPut_67 ⟨Nat.le_of_ble_eq_true rfl, Nat.le_of_ble_eq_true rfl⟩) hS hA hP (fun r15 u15 H locs hw15 hP hS => ?_)
              have hw15 : (0 ≤ r15.toInt ∧ r15.toInt ≤ 1) := hw15
              refine lv_if_ne (tgt := 75) hx hb dX0_reasonToPut_70 (by decide) (fun c16 => ?_) (fun c16 => ?_)
              · have f16 := mt (ti_eq (a := r15.toInt) (b := 0) rfl (by decide)).mpr c16
                exact jn9    _ _ _ hP hS (lv_sub hl [0, 1, 2, 3] rfl)
              · have f16 := (ti_eq (a := r15.toInt) (b := 0) rfl (by decide)).mp c16
                refine lv_iconst (v := 3) hx hb dX0_reasonToPut_73 (by decide) ?_
                exact ro_iret hx hb hr hlocks hS dX0_reasonToPut_74 (show 0 ≤ (3 : Int32).toInt ∧ (3 : Int32).toInt ≤ 14 from by have h9 : (3 : Int32).toInt = 3 := (by decide); omega)
          · have f8 := mt (ti_eq (a := r7.toInt) (b := 0) rfl (by decide)).mpr c8
            refine lv_bipush (v := 13) hx hb dX0_reasonToPut_54 (by decide) ?_
            exact ro_iret hx hb hr hlocks hS dX0_reasonToPut_56 (show 0 ≤ (13 : Int32).toInt ∧ (13 : Int32).toInt ≤ 14 from by have h9 : (13 : Int32).toInt = 13 := (by decide); omega)
      · have f5 := mt (ti_eq (a := r3.toInt) (b := z4_0.toInt) rfl rfl).mpr c5
        refine lv_bipush (v := 12) hx hb dX0_reasonToPut_34 (by decide) ?_
        exact ro_iret hx hb hr hlocks hS dX0_reasonToPut_36 (show 0 ≤ (12 : Int32).toInt ∧ (12 : Int32).toInt ≤ 14 from by have h9 : (12 : Int32).toInt = 12 := (by decide); omega)
    refine lv_if_ne (tgt := 30) hx hb dX0_reasonToPut_23 (by decide) (fun c17 => ?_) (fun c17 => ?_)
    · have f17 := mt (ti_eq (a := f.toInt) (b := 0) rfl (by decide)).mpr c17
      refine lv_iconst (v := 4) hx hb dX0_reasonToPut_30 (by decide) ?_
      exact jn4  (4 : Int32) (show (4 : Int32).toInt = 3 ∨ (4 : Int32).toInt = 4 from by have h54 : (4 : Int32).toInt = 4 := (by decide); omega) _ _ _ hP hS (lv_sub hl [0, 1, 2, 3] rfl)
    · have f17 := (ti_eq (a := f.toInt) (b := 0) rfl (by decide)).mp c17
      refine lv_iconst (v := 3) hx hb dX0_reasonToPut_26 (by decide) ?_
      refine lv_goto (tgt := 31) hx hb dX0_reasonToPut_27 (by decide) ?_
      exact jn4  (3 : Int32) (show (3 : Int32).toInt = 3 ∨ (3 : Int32).toInt = 4 from by have h54 : (3 : Int32).toInt = 3 := (by decide); omega) _ _ _ hP hS (lv_sub hl [0, 1, 2, 3] rfl)
  · have f2 := (ti_eq (a := x1.toInt) (b := 0) rfl (by decide)).mp c2
    refine lv_iconst (v := 4) hx hb dX0_reasonToPut_12 (by decide) ?_
    exact ro_iret hx hb hr hlocks hS dX0_reasonToPut_13 (show 0 ≤ (4 : Int32).toInt ∧ (4 : Int32).toInt ≤ 14 from by have h9 : (4 : Int32).toInt = 4 := (by decide); omega)

def wm_X0_reasonOfShutter_TA : List Cond := .code yX0_reasonOfShutter cX0_reasonOfShutter 4 (some .int) :: (([.fieldLink RX0 34 "TalePlay$Acts" "sight" "LTalePlay$Sight;", .fieldLink RX0 108 "TalePlay$Sight" "seen" "[Z", .fieldLink RX0 9 "TalePlay$Acts" "world" "LTalePlay$World;", .methodLink RX0 137 yX10_isShutter, .instanceMethod yX10_isShutter, .selects RX10 yX10_isShutter yX10_isShutter, .initialized RX10, .code yX10_isShutter cX10_isShutter 3 (some .boolean), .methodLink RX10 40 yX10_sortOf, .instanceMethod yX10_sortOf, .selects RX10 yX10_sortOf yX10_sortOf, .code yX10_sortOf cX10_sortOf 2 (some .int), .fieldLink RX10 37 "TalePlay$World" "objects" "I", .fieldLink RX10 15 "TalePlay$World" "sorts" "[I", .fieldLink RX10 21 "TalePlay$World" "kindOf" "[I", .fieldLink RX0 33 "TalePlay$Acts" "scene" "LTalePlay$Scene;", .methodLink RX0 104 yX6_has, .instanceMethod yX6_has, .selects RX6 yX6_has yX6_has, .initialized RX6, .code yX6_has cX6_has 3 (some .boolean), .fieldLink RX6 9 "TalePlay$Scene" "cells" "[I", .methodLink RX0 140 yX0_reasonOfLeaf, .static yX0_reasonOfLeaf, .initialized RX0, .code yX0_reasonOfLeaf cX0_reasonOfLeaf 3 (some .int), .fieldLink RX0 118 "TalePlay$Sight" "reached" "[Z"] : List Cond) ++ wsX00 ++ wsX80 ++ wsX100 ++ wsX60)
set_option maxRecDepth 20000 in
theorem gm_X0_reasonOfShutter_TA_X10_isShutter_137 : GoodIn wm_X0_reasonOfShutter_TA (wsV RX0 137 RX10 yX10_isShutter wm_X10_isShutter) := goodIn_app (goodIn_of _ (by decide +kernel)) (goodIn_r _ [8, 9, 10, 11, 7, 12, 13, 14, 15, 41, 42, 43, 44, 45, 46, 47] rfl (by decide +kernel))
set_option maxRecDepth 20000 in
theorem gm_X0_reasonOfShutter_TA_X6_has_TS_104 : GoodIn wm_X0_reasonOfShutter_TA (wsV RX0 104 RX6 yX6_has wm_X6_has_TS) := goodIn_app (goodIn_of _ (by decide +kernel)) (goodIn_r _ [21, 22, 48, 49] rfl (by decide +kernel))
set_option maxRecDepth 20000 in
theorem gm_X0_reasonOfShutter_TA_X0_reasonOfLeaf_140 : GoodIn wm_X0_reasonOfShutter_TA (va_wsS RX0 140 yX0_reasonOfLeaf wm_X0_reasonOfLeaf) := goodIn_app (goodIn_of _ (by decide +kernel)) (goodIn_r _ [26] rfl (by decide +kernel))
set_option maxHeartbeats 4000000 in
set_option maxRecDepth 100000 in
theorem x_X0_reasonOfShutter_TA (l : Launch) (D : va_G) (sz : Nat) (sk : Value) (a : Nat → Nat) (t : Nat → ClassId) (i : Nat → Int32) (q : Int64) (c : Nat → Nat → Int32) (d : Nat → Nat → Int64) (v1 : Int32) (w : Int32) (hI : xInv i c) (hw : 0 ≤ w.toInt ∧ w.toInt ≤ 29) : Met l yX0_reasonOfShutter wm_X0_reasonOfShutter_TA ({ frames := 2, cells := 0, slots := 0, locals := 43 }) (va_Pc [.ref (a 155), .int v1, .int w] (yA (a 186) D sz (xwT sk a t i q c d) (xtT t))) (va_Qi (fun (r : Int32) (_ : Unit) => True) oA (ro sz)) 0 0 (ro sz) := by
  refine Met.ofW (cc := cX0_reasonOfShutter) (maxL := 4) (ret := (some .int)) (by decide) rfl ?_
  intro p e s m args below meth cd s₁ B hml hv
  obtain ⟨rfl, ⟨hsz, hP, hK⟩, hN, hZ⟩ := hv
  have hx := B.exec
  have hb := B.bytes
  have hr := B.returns
  have hts := atoms_spec (ws := wm_X0_reasonOfShutter_TA) B.pre
  have hown : s.vm.findClass RX0 = some m.cls := findClass_of_methodNamed B.named
  have hlocks := B.notSynchronized
  subst hsz
  have hA : ∀ q : Nat, s.heap.size ≤ q → ro s.heap.size q := fun _ h => h
  have hS : va_S (ro s.heap.size) s.heap s.heap [] := va_S.rf
  have hl := lv_entry ([.ref (a 155), .int v1, .int w]) (n := 4) (Nat.le_of_ble_eq_true rfl)
  rw [lg_entry_eq]
  generalize (lg_sl ([.ref (a 155), .int v1, .int w]) ++ List.replicate (4 - (lg_sl ([.ref (a 155), .int v1, .int w])).length) Slot.unset).toArray = ls at hl ⊢
  have hl : lv_has ls 4 [(0, .ref (a 155)), (1, .int v1), (2, .int w)] := hl
  refine lv_aload_n hx hb dX0_reasonOfShutter_0 rfl (lv_at hl 0 rfl) ?_
  refine xgT_TA_sight hx hb hts (fun _ h => List.mem_cons_of_mem _ (List.mem_append_left _ (List.mem_append_left _ (List.mem_append_left _ (List.mem_append_right _ h))))) hown hK hP (hts (.fieldLink RX0 34 "TalePlay$Acts" "sight" "LTalePlay$Sight;") (by decide +kernel)) dX0_reasonOfShutter_1 ?_
  refine xgT_TG_seen hx hb hts (fun _ h => List.mem_cons_of_mem _ (List.mem_append_left _ (List.mem_append_left _ (List.mem_append_right _ h)))) hown hK hP (hts (.fieldLink RX0 108 "TalePlay$Sight" "seen" "[Z") (by decide +kernel)) dX0_reasonOfShutter_4 ?_
  refine lv_iload_n hx hb dX0_reasonOfShutter_7 rfl (lv_at hl 2 rfl) ?_
  refine xlT_152 hx hb hK hP (vp_in_iff.mpr (by have h9 : w.toInt = w.toInt := rfl; omega)) dX0_reasonOfShutter_8 (fun x1 ex1 => ?_)
  have rx1 : 0 ≤ x1.toInt ∧ x1.toInt ≤ 1 := by rw [ex1]; exact hI.2 152 _
  refine lv_if_ne (tgt := 14) hx hb dX0_reasonOfShutter_9 (by decide) (fun c2 => ?_) (fun c2 => ?_)
  · have f2 := mt (ti_eq (a := x1.toInt) (b := 0) rfl (by decide)).mpr c2
    refine lv_aload_n hx hb dX0_reasonOfShutter_14 rfl (lv_at hl 0 rfl) ?_
    refine xgT_TA_world hx hb hts (fun _ h => List.mem_cons_of_mem _ (List.mem_append_left _ (List.mem_append_left _ (List.mem_append_left _ (List.mem_append_right _ h))))) hown hK hP (hts (.fieldLink RX0 9 "TalePlay$Acts" "world" "LTalePlay$World;") (by decide +kernel)) dX0_reasonOfShutter_15 ?_
    refine lv_iload_n hx hb dX0_reasonOfShutter_18 rfl (lv_at hl 2 rfl) ?_
    refine ro_calli (va_runV (As := [.int w]) (rest := []) ⟨hx, hb, hml, hown, hts⟩ (x_X10_isShutter l D s.heap.size .null a t i q c d w hI ) (cwV 1 hts gm_X0_reasonOfShutter_TA_X10_isShutter_137 rfl rfl rfl (by decide +kernel) ⟨Nat.le_of_ble_eq_true rfl, Nat.le_of_ble_eq_true rfl⟩) (yA_V hN (xZ_k hZ hS hA) (xkT_W hK) (xuT_W (sk := sk) hP) (ci := 10) (q0 := 0) rfl rfl) rfl rfl hl.1 rfl (lv_room (Nat.le_of_ble_eq_true rfl)) dX0_reasonOfShutter_19 ⟨Nat.le_of_ble_eq_true rfl, Nat.le_of_ble_eq_true rfl⟩) hS hA hP (fun r3 u3 H locs hw3 hP hS => ?_)
    have hw3 : (0 ≤ r3.toInt ∧ r3.toInt ≤ 1) := hw3
    refine lv_if_ne (tgt := 28) hx hb dX0_reasonOfShutter_22 (by decide) (fun c4 => ?_) (fun c4 => ?_)
    · have f4 := mt (ti_eq (a := r3.toInt) (b := 0) rfl (by decide)).mpr c4
      refine lv_iload_n hx hb dX0_reasonOfShutter_28 rfl (lv_at hl 1 rfl) ?_
      refine lv_aload_n hx hb dX0_reasonOfShutter_29 rfl (lv_at hl 0 rfl) ?_
      refine xgT_TA_scene hx hb hts (fun _ h => List.mem_cons_of_mem _ (List.mem_append_left _ (List.mem_append_left _ (List.mem_append_left _ (List.mem_append_right _ h))))) hown hK hP (hts (.fieldLink RX0 33 "TalePlay$Acts" "scene" "LTalePlay$Scene;") (by decide +kernel)) dX0_reasonOfShutter_30 ?_
      refine lv_iload_n hx hb dX0_reasonOfShutter_33 rfl (lv_at hl 2 rfl) ?_
      refine lv_iconst (v := 0) hx hb dX0_reasonOfShutter_34 (by decide) ?_
      refine ro_calli (va_runV (As := [.int w, .int 0]) (rest := [.int v1]) ⟨hx, hb, hml, hown, hts⟩ (x_X6_has_TS l D H.size .null a t i q c d w 0 hI (show 0 ≤ w.toInt ∧ w.toInt ≤ 29 from by have h91 : (0 : Int32).toInt = 0 := (by decide); omega) (show 0 ≤ 0 ∧ 0 ≤ 5 from by have h91 : (0 : Int32).toInt = 0 := (by decide); omega)) (cwV 2 hts gm_X0_reasonOfShutter_TA_X6_has_TS_104 rfl rfl rfl (by decide +kernel) ⟨Nat.le_of_ble_eq_true rfl, Nat.le_of_ble_eq_true rfl⟩) (yA_V hN (xZ_k hZ hS hA) (xkT_P1 hK) (xuT_P1 (sk := sk) hP) (ci := 6) (q0 := 0) rfl rfl) rfl rfl hl.1 rfl (lv_room (Nat.le_of_ble_eq_true rfl)) dX0_reasonOfShutter_35 ⟨Nat.le_of_ble_eq_true rfl, Nat.le_of_ble_eq_true rfl⟩) hS hA hP (fun r5 u5 H locs hw5 hP hS => ?_)
      have hw5 : (0 ≤ r5.toInt ∧ r5.toInt ≤ 1) := hw5
      refine lv_aload_n hx hb dX0_reasonOfShutter_38 rfl (lv_at hl 0 rfl) ?_
      refine xgT_TA_scene hx hb hts (fun _ h => List.mem_cons_of_mem _ (List.mem_append_left _ (List.mem_append_left _ (List.mem_append_left _ (List.mem_append_right _ h))))) hown hK hP (hts (.fieldLink RX0 33 "TalePlay$Acts" "scene" "LTalePlay$Scene;") (by decide +kernel)) dX0_reasonOfShutter_39 ?_
      refine lv_iload_n hx hb dX0_reasonOfShutter_42 rfl (lv_at hl 2 rfl) ?_
      refine lv_iconst (v := 1) hx hb dX0_reasonOfShutter_43 (by decide) ?_
      refine ro_calli (va_runV (As := [.int w, .int 1]) (rest := [.int r5, .int v1]) ⟨hx, hb, hml, hown, hts⟩ (x_X6_has_TS l D H.size .null a t i q c d w 1 hI (show 0 ≤ w.toInt ∧ w.toInt ≤ 29 from by have h91 : (1 : Int32).toInt = 1 := (by decide); omega) (show 0 ≤ 1 ∧ 1 ≤ 5 from by have h91 : (1 : Int32).toInt = 1 := (by decide); omega)) (cwV 2 hts gm_X0_reasonOfShutter_TA_X6_has_TS_104 rfl rfl rfl (by decide +kernel) ⟨Nat.le_of_ble_eq_true rfl, Nat.le_of_ble_eq_true rfl⟩) (yA_V hN (xZ_k hZ hS hA) (xkT_P1 hK) (xuT_P1 (sk := sk) hP) (ci := 6) (q0 := 0) rfl rfl) rfl rfl hl.1 rfl (lv_room (Nat.le_of_ble_eq_true rfl)) dX0_reasonOfShutter_44 ⟨Nat.le_of_ble_eq_true rfl, Nat.le_of_ble_eq_true rfl⟩) hS hA hP (fun r6 u6 H locs hw6 hP hS => ?_)
      have hw6 : (0 ≤ r6.toInt ∧ r6.toInt ≤ 1) := hw6
      have hPc := hP.sub (ws' := []) [] rfl
      have hKc := hK.sub (tys' := []) [] rfl
      refine ro_calli (va_runS (As := [.int v1, .int r5, .int r6]) (rest := []) ⟨hx, hb, hml, hown, hts⟩ (c_X0_reasonOfLeaf l D H.size v1 r5 r6) (va_cwS 3 hts gm_X0_reasonOfShutter_TA_X0_reasonOfLeaf_140 rfl rfl rfl (by decide +kernel) ⟨Nat.le_of_ble_eq_true rfl, Nat.le_of_ble_eq_true rfl⟩) (pA_S hKc hPc) rfl rfl hl.1 rfl (lv_room (Nat.le_of_ble_eq_true rfl)) dX0_reasonOfShutter_47 ⟨Nat.le_of_ble_eq_true rfl, Nat.le_of_ble_eq_true rfl⟩) hS hA hP (fun r8 u8 H locs hw8 hP hS => ?_)
      refine lv_istore_n (lv' := [(3, .int r8), (0, .ref (a 155)), (1, .int v1), (2, .int w)]) hx hb dX0_reasonOfShutter_50 rfl hl (by decide) rfl (fun ls hl => ?_)
      refine lv_iload_n hx hb dX0_reasonOfShutter_51 rfl (lv_at hl 0 rfl) ?_
      refine lv_if_eq (tgt := 57) hx hb dX0_reasonOfShutter_52 (by decide) (fun c9 => ?_) (fun c9 => ?_)
      · have f9 := (ti_eq (a := r8.toInt) (b := 0) rfl (by decide)).mp c9
        refine lv_aload_n hx hb dX0_reasonOfShutter_57 rfl (lv_at hl 1 rfl) ?_
        refine xgT_TA_sight hx hb hts (fun _ h => List.mem_cons_of_mem _ (List.mem_append_left _ (List.mem_append_left _ (List.mem_append_left _ (List.mem_append_right _ h))))) hown hK hP (hts (.fieldLink RX0 34 "TalePlay$Acts" "sight" "LTalePlay$Sight;") (by decide +kernel)) dX0_reasonOfShutter_58 ?_
        refine xgT_TG_reached hx hb hts (fun _ h => List.mem_cons_of_mem _ (List.mem_append_left _ (List.mem_append_left _ (List.mem_append_right _ h)))) hown hK hP (hts (.fieldLink RX0 118 "TalePlay$Sight" "reached" "[Z") (by decide +kernel)) dX0_reasonOfShutter_61 ?_
        refine lv_iload_n hx hb dX0_reasonOfShutter_64 rfl (lv_at hl 3 rfl) ?_
        refine xlT_153 hx hb hK hP (vp_in_iff.mpr (by have h9 : w.toInt = w.toInt := rfl; omega)) dX0_reasonOfShutter_65 (fun x10 ex10 => ?_)
        have rx10 : 0 ≤ x10.toInt ∧ x10.toInt ≤ 1 := by rw [ex10]; exact hI.2 153 _
        refine lv_if_eq (tgt := 73) hx hb dX0_reasonOfShutter_66 (by decide) (fun c11 => ?_) (fun c11 => ?_)
        · have f11 := (ti_eq (a := x10.toInt) (b := 0) rfl (by decide)).mp c11
          refine lv_bipush (v := 8) hx hb dX0_reasonOfShutter_73 (by decide) ?_
          exact ro_iret hx hb hr hlocks hS dX0_reasonOfShutter_75 trivial
        · have f11 := mt (ti_eq (a := x10.toInt) (b := 0) rfl (by decide)).mpr c11
          refine lv_iconst (v := 0) hx hb dX0_reasonOfShutter_69 (by decide) ?_
          refine lv_goto (tgt := 75) hx hb dX0_reasonOfShutter_70 (by decide) ?_
          exact ro_iret hx hb hr hlocks hS dX0_reasonOfShutter_75 trivial
      · have f9 := mt (ti_eq (a := r8.toInt) (b := 0) rfl (by decide)).mpr c9
        refine lv_iload_n hx hb dX0_reasonOfShutter_55 rfl (lv_at hl 0 rfl) ?_
        exact ro_iret hx hb hr hlocks hS dX0_reasonOfShutter_56 trivial
    · have f4 := (ti_eq (a := r3.toInt) (b := 0) rfl (by decide)).mp c4
      refine lv_bipush (v := 12) hx hb dX0_reasonOfShutter_25 (by decide) ?_
      exact ro_iret hx hb hr hlocks hS dX0_reasonOfShutter_27 trivial
  · have f2 := (ti_eq (a := x1.toInt) (b := 0) rfl (by decide)).mp c2
    refine lv_iconst (v := 4) hx hb dX0_reasonOfShutter_12 (by decide) ?_
    exact ro_iret hx hb hr hlocks hS dX0_reasonOfShutter_13 trivial

def wm_X0_reasonOfKey_TA : List Cond := .code yX0_reasonOfKey cX0_reasonOfKey 3 (some .int) :: (([.methodLink RX0 49 yX0_isHeld, .instanceMethod yX0_isHeld, .selects RX0 yX0_isHeld yX0_isHeld, .initialized RX0, .code yX0_isHeld cX0_isHeld 2 (some .boolean), .fieldLink RX0 33 "TalePlay$Acts" "scene" "LTalePlay$Scene;", .fieldLink RX0 38 "TalePlay$Acts" "player" "I", .methodLink RX0 74 yX6_lies, .instanceMethod yX6_lies, .selects RX6 yX6_lies yX6_lies, .initialized RX6, .code yX6_lies cX6_lies 4 (some .boolean), .fieldLink RX6 9 "TalePlay$Scene" "cells" "[I", .fieldLink RX0 15 "TalePlay$Acts" "book" "LTalePlay$Book;", .methodLink RX0 144 yX1_keyOf, .instanceMethod yX1_keyOf, .selects RX1 yX1_keyOf yX1_keyOf, .initialized RX1, .code yX1_keyOf cX1_keyOf 3 (some .int), .fieldLink RX1 37 "TalePlay$Book" "keyBy" "[I", .fieldLink RX1 15 "TalePlay$Book" "as" "[I"] : List Cond) ++ wsX00 ++ wsX60 ++ wsX10)
set_option maxRecDepth 20000 in
theorem gm_X0_reasonOfKey_TA_X0_isHeld_TA_49 : GoodIn wm_X0_reasonOfKey_TA (wsV RX0 49 RX0 yX0_isHeld wm_X0_isHeld_TA) := goodIn_app (goodIn_of _ (by decide +kernel)) (goodIn_r _ [5, 6, 7, 8, 9, 10, 11, 12, 13, 22, 23, 24, 25, 26, 27, 28, 29, 30] rfl (by decide +kernel))
set_option maxRecDepth 20000 in
theorem gm_X0_reasonOfKey_TA_X1_keyOf_144 : GoodIn wm_X0_reasonOfKey_TA (wsV RX0 144 RX1 yX1_keyOf wm_X1_keyOf) := goodIn_app (goodIn_of _ (by decide +kernel)) (goodIn_r _ [19, 20, 21, 31, 32, 33, 34, 35, 36, 37, 38, 39, 40, 41, 42, 43, 44, 45] rfl (by decide +kernel))
set_option maxHeartbeats 4000000 in
set_option maxRecDepth 100000 in
theorem x_X0_reasonOfKey_TA (l : Launch) (D : va_G) (sz : Nat) (sk : Value) (a : Nat → Nat) (t : Nat → ClassId) (i : Nat → Int32) (q : Int64) (c : Nat → Nat → Int32) (d : Nat → Nat → Int64) (w1 : Int32) (w2 : Int32) (hI : xInv i c) (hw1 : 0 ≤ w1.toInt ∧ w1.toInt ≤ 29) (hw2 : 0 ≤ w2.toInt ∧ w2.toInt ≤ 29) : Met l yX0_reasonOfKey wm_X0_reasonOfKey_TA ({ frames := 2, cells := 0, slots := 0, locals := 44 }) (va_Pc [.ref (a 155), .int w1, .int w2] (yA (a 186) D sz (xwT sk a t i q c d) (xtT t))) (va_Qi (fun (r : Int32) (_ : Unit) => (0 ≤ r.toInt ∧ r.toInt ≤ 18)) oA (ro sz)) 0 0 (ro sz) := by
  refine Met.ofW (cc := cX0_reasonOfKey) (maxL := 3) (ret := (some .int)) (by decide) rfl ?_
  intro p e s m args below meth cd s₁ B hml hv
  obtain ⟨rfl, ⟨hsz, hP, hK⟩, hN, hZ⟩ := hv
  have hx := B.exec
  have hb := B.bytes
  have hr := B.returns
  have hts := atoms_spec (ws := wm_X0_reasonOfKey_TA) B.pre
  have hown : s.vm.findClass RX0 = some m.cls := findClass_of_methodNamed B.named
  have hlocks := B.notSynchronized
  subst hsz
  have hA : ∀ q : Nat, s.heap.size ≤ q → ro s.heap.size q := fun _ h => h
  have hS : va_S (ro s.heap.size) s.heap s.heap [] := va_S.rf
  have hl := lv_entry ([.ref (a 155), .int w1, .int w2]) (n := 3) (Nat.le_of_ble_eq_true rfl)
  rw [lg_entry_eq]
  generalize (lg_sl ([.ref (a 155), .int w1, .int w2]) ++ List.replicate (3 - (lg_sl ([.ref (a 155), .int w1, .int w2])).length) Slot.unset).toArray = ls at hl ⊢
  have hl : lv_has ls 3 [(0, .ref (a 155)), (1, .int w1), (2, .int w2)] := hl
  refine lv_aload_n hx hb dX0_reasonOfKey_0 rfl (lv_at hl 0 rfl) ?_
  refine lv_iload_n hx hb dX0_reasonOfKey_1 rfl (lv_at hl 2 rfl) ?_
  refine ro_calli (va_runV (As := [.int w2]) (rest := []) ⟨hx, hb, hml, hown, hts⟩ (x_X0_isHeld_TA l D s.heap.size sk a t i q c d w2 hI (show 0 ≤ w2.toInt ∧ w2.toInt ≤ 29 from by omega)) (cwV 1 hts gm_X0_reasonOfKey_TA_X0_isHeld_TA_49 rfl rfl rfl (by decide +kernel) ⟨Nat.le_of_ble_eq_true rfl, Nat.le_of_ble_eq_true rfl⟩) (yA_V hN (xZ_k hZ hS hA) hK hP (ci := 0) (q0 := 42) rfl rfl) rfl rfl hl.1 rfl (lv_room (Nat.le_of_ble_eq_true rfl)) dX0_reasonOfKey_2 ⟨Nat.le_of_ble_eq_true rfl, Nat.le_of_ble_eq_true rfl⟩) hS hA hP (fun r1 u1 H locs hw1 hP hS => ?_)
  have hw1 : (0 ≤ r1.toInt ∧ r1.toInt ≤ 1) := hw1
  refine lv_if_ne (tgt := 11) hx hb dX0_reasonOfKey_5 (by decide) (fun c2 => ?_) (fun c2 => ?_)
  · have f2 := mt (ti_eq (a := r1.toInt) (b := 0) rfl (by decide)).mpr c2
    refine lv_aload_n hx hb dX0_reasonOfKey_11 rfl (lv_at hl 0 rfl) ?_
    refine xgT_TA_book hx hb hts (fun _ h => List.mem_cons_of_mem _ (List.mem_append_left _ (List.mem_append_left _ (List.mem_append_right _ h)))) hown hK hP (hts (.fieldLink RX0 15 "TalePlay$Acts" "book" "LTalePlay$Book;") (by decide +kernel)) dX0_reasonOfKey_12 ?_
    refine lv_iload_n hx hb dX0_reasonOfKey_15 rfl (lv_at hl 1 rfl) ?_
    refine ro_calli (va_runV (As := [.int w1]) (rest := []) ⟨hx, hb, hml, hown, hts⟩ (x_X1_keyOf l D H.size .null a t i q c d w1 hI (show 0 ≤ w1.toInt ∧ w1.toInt ≤ 29 from by omega)) (cwV 1 hts gm_X0_reasonOfKey_TA_X1_keyOf_144 rfl rfl rfl (by decide +kernel) ⟨Nat.le_of_ble_eq_true rfl, Nat.le_of_ble_eq_true rfl⟩) (yA_V hN (xZ_k hZ hS hA) (xkT_B hK) (xuT_B (sk := sk) hP) (ci := 1) (q0 := 6) rfl rfl) rfl rfl hl.1 rfl (lv_room (Nat.le_of_ble_eq_true rfl)) dX0_reasonOfKey_16 ⟨Nat.le_of_ble_eq_true rfl, Nat.le_of_ble_eq_true rfl⟩) hS hA hP (fun r3 u3 H locs hw3 hP hS => ?_)
    have hw3 : (r3.toInt = -9 ∨ (0 ≤ r3.toInt ∧ r3.toInt ≤ 29)) := hw3
    refine lv_iload_n hx hb dX0_reasonOfKey_19 rfl (lv_at hl 2 rfl) ?_
    refine lv_icmp_ne (tgt := 27) hx hb dX0_reasonOfKey_20 (by decide) (fun c4 => ?_) (fun c4 => ?_)
    · have f4 := mt (ti_eq (a := r3.toInt) (b := w2.toInt) rfl rfl).mpr c4
      refine lv_bipush (v := 18) hx hb dX0_reasonOfKey_27 (by decide) ?_
      exact ro_iret hx hb hr hlocks hS dX0_reasonOfKey_29 (show 0 ≤ (18 : Int32).toInt ∧ (18 : Int32).toInt ≤ 18 from by have h9 : (18 : Int32).toInt = 18 := (by decide); omega)
    · have f4 := (ti_eq (a := r3.toInt) (b := w2.toInt) rfl rfl).mp c4
      refine lv_iconst (v := 0) hx hb dX0_reasonOfKey_23 (by decide) ?_
      refine lv_goto (tgt := 29) hx hb dX0_reasonOfKey_24 (by decide) ?_
      exact ro_iret hx hb hr hlocks hS dX0_reasonOfKey_29 (show 0 ≤ (0 : Int32).toInt ∧ (0 : Int32).toInt ≤ 18 from by have h9 : (0 : Int32).toInt = 0 := (by decide); omega)
  · have f2 := (ti_eq (a := r1.toInt) (b := 0) rfl (by decide)).mp c2
    refine lv_bipush (v := 11) hx hb dX0_reasonOfKey_8 (by decide) ?_
    exact ro_iret hx hb hr hlocks hS dX0_reasonOfKey_10 (show 0 ≤ (11 : Int32).toInt ∧ (11 : Int32).toInt ≤ 18 from by have h9 : (11 : Int32).toInt = 11 := (by decide); omega)

def wm_X0_reasonToWear_TA : List Cond := .code yX0_reasonToWear cX0_reasonToWear 2 (some .int) :: (([.methodLink RX0 49 yX0_isHeld, .instanceMethod yX0_isHeld, .selects RX0 yX0_isHeld yX0_isHeld, .initialized RX0, .code yX0_isHeld cX0_isHeld 2 (some .boolean), .fieldLink RX0 33 "TalePlay$Acts" "scene" "LTalePlay$Scene;", .fieldLink RX0 38 "TalePlay$Acts" "player" "I", .methodLink RX0 74 yX6_lies, .instanceMethod yX6_lies, .selects RX6 yX6_lies yX6_lies, .initialized RX6, .code yX6_lies cX6_lies 4 (some .boolean), .fieldLink RX6 9 "TalePlay$Scene" "cells" "[I", .methodLink RX0 104 yX6_has, .instanceMethod yX6_has, .selects RX6 yX6_has yX6_has, .code yX6_has cX6_has 3 (some .boolean)] : List Cond) ++ wsX00 ++ wsX60)
set_option maxRecDepth 20000 in
theorem gm_X0_reasonToWear_TA_X0_isHeld_TA_49 : GoodIn wm_X0_reasonToWear_TA (wsV RX0 49 RX0 yX0_isHeld wm_X0_isHeld_TA) := goodIn_app (goodIn_of _ (by decide +kernel)) (goodIn_r _ [5, 6, 7, 8, 9, 10, 11, 12, 13, 18, 19, 20, 21, 22, 23, 24, 25, 26] rfl (by decide +kernel))
set_option maxRecDepth 20000 in
theorem gm_X0_reasonToWear_TA_X6_has_TS_104 : GoodIn wm_X0_reasonToWear_TA (wsV RX0 104 RX6 yX6_has wm_X6_has_TS) := goodIn_app (goodIn_of _ (by decide +kernel)) (goodIn_r _ [17, 13, 25, 26] rfl (by decide +kernel))
set_option maxHeartbeats 4000000 in
set_option maxRecDepth 100000 in
theorem x_X0_reasonToWear_TA (l : Launch) (D : va_G) (sz : Nat) (sk : Value) (a : Nat → Nat) (t : Nat → ClassId) (i : Nat → Int32) (q : Int64) (c : Nat → Nat → Int32) (d : Nat → Nat → Int64) (w : Int32) (hI : xInv i c) (hw : 0 ≤ w.toInt ∧ w.toInt ≤ 29) : Met l yX0_reasonToWear wm_X0_reasonToWear_TA ({ frames := 2, cells := 0, slots := 0, locals := 44 }) (va_Pc [.ref (a 155), .int w] (yA (a 186) D sz (xwT sk a t i q c d) (xtT t))) (va_Qi (fun (r : Int32) (_ : Unit) => (0 ≤ r.toInt ∧ r.toInt ≤ 19)) oA (ro sz)) 0 0 (ro sz) := by
  refine Met.ofW (cc := cX0_reasonToWear) (maxL := 2) (ret := (some .int)) (by decide) rfl ?_
  intro p e s m args below meth cd s₁ B hml hv
  obtain ⟨rfl, ⟨hsz, hP, hK⟩, hN, hZ⟩ := hv
  have hx := B.exec
  have hb := B.bytes
  have hr := B.returns
  have hts := atoms_spec (ws := wm_X0_reasonToWear_TA) B.pre
  have hown : s.vm.findClass RX0 = some m.cls := findClass_of_methodNamed B.named
  have hlocks := B.notSynchronized
  subst hsz
  have hA : ∀ q : Nat, s.heap.size ≤ q → ro s.heap.size q := fun _ h => h
  have hS : va_S (ro s.heap.size) s.heap s.heap [] := va_S.rf
  have hl := lv_entry ([.ref (a 155), .int w]) (n := 2) (Nat.le_of_ble_eq_true rfl)
  rw [lg_entry_eq]
  generalize (lg_sl ([.ref (a 155), .int w]) ++ List.replicate (2 - (lg_sl ([.ref (a 155), .int w])).length) Slot.unset).toArray = ls at hl ⊢
  have hl : lv_has ls 2 [(0, .ref (a 155)), (1, .int w)] := hl
  refine lv_aload_n hx hb dX0_reasonToWear_0 rfl (lv_at hl 0 rfl) ?_
  refine lv_iload_n hx hb dX0_reasonToWear_1 rfl (lv_at hl 1 rfl) ?_
  refine ro_calli (va_runV (As := [.int w]) (rest := []) ⟨hx, hb, hml, hown, hts⟩ (x_X0_isHeld_TA l D s.heap.size sk a t i q c d w hI (show 0 ≤ w.toInt ∧ w.toInt ≤ 29 from by omega)) (cwV 1 hts gm_X0_reasonToWear_TA_X0_isHeld_TA_49 rfl rfl rfl (by decide +kernel) ⟨Nat.le_of_ble_eq_true rfl, Nat.le_of_ble_eq_true rfl⟩) (yA_V hN (xZ_k hZ hS hA) hK hP (ci := 0) (q0 := 42) rfl rfl) rfl rfl hl.1 rfl (lv_room (Nat.le_of_ble_eq_true rfl)) dX0_reasonToWear_2 ⟨Nat.le_of_ble_eq_true rfl, Nat.le_of_ble_eq_true rfl⟩) hS hA hP (fun r1 u1 H locs hw1 hP hS => ?_)
  have hw1 : (0 ≤ r1.toInt ∧ r1.toInt ≤ 1) := hw1
  refine lv_if_ne (tgt := 11) hx hb dX0_reasonToWear_5 (by decide) (fun c2 => ?_) (fun c2 => ?_)
  · have f2 := mt (ti_eq (a := r1.toInt) (b := 0) rfl (by decide)).mpr c2
    refine lv_aload_n hx hb dX0_reasonToWear_11 rfl (lv_at hl 0 rfl) ?_
    refine xgT_TA_scene hx hb hts (fun _ h => List.mem_cons_of_mem _ (List.mem_append_left _ (List.mem_append_right _ h))) hown hK hP (hts (.fieldLink RX0 33 "TalePlay$Acts" "scene" "LTalePlay$Scene;") (by decide +kernel)) dX0_reasonToWear_12 ?_
    refine lv_iload_n hx hb dX0_reasonToWear_15 rfl (lv_at hl 1 rfl) ?_
    refine lv_iconst (v := 4) hx hb dX0_reasonToWear_16 (by decide) ?_
    refine ro_calli (va_runV (As := [.int w, .int 4]) (rest := []) ⟨hx, hb, hml, hown, hts⟩ (x_X6_has_TS l D H.size .null a t i q c d w 4 hI (show 0 ≤ w.toInt ∧ w.toInt ≤ 29 from by have h91 : (4 : Int32).toInt = 4 := (by decide); omega) (show 0 ≤ 4 ∧ 4 ≤ 5 from by have h91 : (4 : Int32).toInt = 4 := (by decide); omega)) (cwV 2 hts gm_X0_reasonToWear_TA_X6_has_TS_104 rfl rfl rfl (by decide +kernel) ⟨Nat.le_of_ble_eq_true rfl, Nat.le_of_ble_eq_true rfl⟩) (yA_V hN (xZ_k hZ hS hA) (xkT_P1 hK) (xuT_P1 (sk := sk) hP) (ci := 6) (q0 := 0) rfl rfl) rfl rfl hl.1 rfl (lv_room (Nat.le_of_ble_eq_true rfl)) dX0_reasonToWear_17 ⟨Nat.le_of_ble_eq_true rfl, Nat.le_of_ble_eq_true rfl⟩) hS hA hP (fun r3 u3 H locs hw3 hP hS => ?_)
    have hw3 : (0 ≤ r3.toInt ∧ r3.toInt ≤ 1) := hw3
    refine lv_if_eq (tgt := 27) hx hb dX0_reasonToWear_20 (by decide) (fun c4 => ?_) (fun c4 => ?_)
    · have f4 := (ti_eq (a := r3.toInt) (b := 0) rfl (by decide)).mp c4
      refine lv_bipush (v := 19) hx hb dX0_reasonToWear_27 (by decide) ?_
      exact ro_iret hx hb hr hlocks hS dX0_reasonToWear_29 (show 0 ≤ (19 : Int32).toInt ∧ (19 : Int32).toInt ≤ 19 from by have h9 : (19 : Int32).toInt = 19 := (by decide); omega)
    · have f4 := mt (ti_eq (a := r3.toInt) (b := 0) rfl (by decide)).mpr c4
      refine lv_iconst (v := 0) hx hb dX0_reasonToWear_23 (by decide) ?_
      refine lv_goto (tgt := 29) hx hb dX0_reasonToWear_24 (by decide) ?_
      exact ro_iret hx hb hr hlocks hS dX0_reasonToWear_29 (show 0 ≤ (0 : Int32).toInt ∧ (0 : Int32).toInt ≤ 19 from by have h9 : (0 : Int32).toInt = 0 := (by decide); omega)
  · have f2 := (ti_eq (a := r1.toInt) (b := 0) rfl (by decide)).mp c2
    refine lv_bipush (v := 11) hx hb dX0_reasonToWear_8 (by decide) ?_
    exact ro_iret hx hb hr hlocks hS dX0_reasonToWear_10 (show 0 ≤ (11 : Int32).toInt ∧ (11 : Int32).toInt ≤ 19 from by have h9 : (11 : Int32).toInt = 11 := (by decide); omega)

def wm_X0_reasonToEnter_TA : List Cond := .code yX0_reasonToEnter cX0_reasonToEnter 3 (some .int) :: (([.fieldLink RX0 34 "TalePlay$Acts" "sight" "LTalePlay$Sight;", .fieldLink RX0 108 "TalePlay$Sight" "seen" "[Z", .fieldLink RX0 9 "TalePlay$Acts" "world" "LTalePlay$World;", .methodLink RX0 86 yX10_sortOf, .instanceMethod yX10_sortOf, .selects RX10 yX10_sortOf yX10_sortOf, .initialized RX10, .code yX10_sortOf cX10_sortOf 2 (some .int), .fieldLink RX10 37 "TalePlay$World" "objects" "I", .fieldLink RX10 15 "TalePlay$World" "sorts" "[I", .fieldLink RX10 21 "TalePlay$World" "kindOf" "[I", .fieldLink RX0 33 "TalePlay$Acts" "scene" "LTalePlay$Scene;", .fieldLink RX0 38 "TalePlay$Acts" "player" "I", .methodLink RX0 112 yX6_isUp, .instanceMethod yX6_isUp, .selects RX6 yX6_isUp yX6_isUp, .initialized RX6, .code yX6_isUp cX6_isUp 5 (some .boolean), .methodLink RX6 25 yX6_holderOf, .instanceMethod yX6_holderOf, .selects RX6 yX6_holderOf yX6_holderOf, .code yX6_holderOf cX6_holderOf 3 (some .int), .fieldLink RX6 9 "TalePlay$Scene" "cells" "[I", .fieldLink RX0 118 "TalePlay$Sight" "reached" "[Z", .methodLink RX0 83 yX6_holderOf, .methodLink RX0 104 yX6_has, .instanceMethod yX6_has, .selects RX6 yX6_has yX6_has, .code yX6_has cX6_has 3 (some .boolean)] : List Cond) ++ wsX00 ++ wsX80 ++ wsX100 ++ wsX60)
set_option maxRecDepth 20000 in
theorem gm_X0_reasonToEnter_TA_X10_sortOf_86 : GoodIn wm_X0_reasonToEnter_TA (wsV RX0 86 RX10 yX10_sortOf wm_X10_sortOf) := goodIn_app (goodIn_of _ (by decide +kernel)) (goodIn_r _ [8, 9, 10, 11, 43, 44, 45, 46, 47, 48, 49] rfl (by decide +kernel))
set_option maxRecDepth 20000 in
theorem gm_X0_reasonToEnter_TA_X6_isUp_TS_112 : GoodIn wm_X0_reasonToEnter_TA (wsV RX0 112 RX6 yX6_isUp wm_X6_isUp_TS) := goodIn_app (goodIn_of _ (by decide +kernel)) (goodIn_r _ [18, 19, 20, 21, 17, 22, 23, 50, 51] rfl (by decide +kernel))
set_option maxRecDepth 20000 in
theorem gm_X0_reasonToEnter_TA_X6_holderOf_TS_83 : GoodIn wm_X0_reasonToEnter_TA (wsV RX0 83 RX6 yX6_holderOf wm_X6_holderOf_TS) := goodIn_app (goodIn_of _ (by decide +kernel)) (goodIn_r _ [22, 23, 50, 51] rfl (by decide +kernel))
set_option maxRecDepth 20000 in
theorem gm_X0_reasonToEnter_TA_X6_has_TS_104 : GoodIn wm_X0_reasonToEnter_TA (wsV RX0 104 RX6 yX6_has wm_X6_has_TS) := goodIn_app (goodIn_of _ (by decide +kernel)) (goodIn_r _ [29, 23, 50, 51] rfl (by decide +kernel))
set_option maxHeartbeats 4000000 in
set_option maxRecDepth 100000 in
theorem x_X0_reasonToEnter_TA (l : Launch) (D : va_G) (sz : Nat) (sk : Value) (a : Nat → Nat) (t : Nat → ClassId) (i : Nat → Int32) (q : Int64) (c : Nat → Nat → Int32) (d : Nat → Nat → Int64) (w : Int32) (hI : xInv i c) (hw : 0 ≤ w.toInt ∧ w.toInt ≤ 29) (hpl : 0 ≤ (i 156).toInt ∧ (i 156).toInt ≤ 29) : Met l yX0_reasonToEnter wm_X0_reasonToEnter_TA ({ frames := 2, cells := 0, slots := 0, locals := 46 }) (va_Pc [.ref (a 155), .int w] (yA (a 186) D sz (xwT sk a t i q c d) (xtT t))) (va_Qi (fun (r : Int32) (_ : Unit) => (0 ≤ r.toInt ∧ r.toInt ≤ 20)) oA (ro sz)) 0 0 (ro sz) := by
  refine Met.ofW (cc := cX0_reasonToEnter) (maxL := 3) (ret := (some .int)) (by decide) rfl ?_
  intro p e s m args below meth cd s₁ B hml hv
  obtain ⟨rfl, ⟨hsz, hP, hK⟩, hN, hZ⟩ := hv
  have hx := B.exec
  have hb := B.bytes
  have hr := B.returns
  have hts := atoms_spec (ws := wm_X0_reasonToEnter_TA) B.pre
  have hown : s.vm.findClass RX0 = some m.cls := findClass_of_methodNamed B.named
  have hlocks := B.notSynchronized
  subst hsz
  have hA : ∀ q : Nat, s.heap.size ≤ q → ro s.heap.size q := fun _ h => h
  have hS : va_S (ro s.heap.size) s.heap s.heap [] := va_S.rf
  have hl := lv_entry ([.ref (a 155), .int w]) (n := 3) (Nat.le_of_ble_eq_true rfl)
  rw [lg_entry_eq]
  generalize (lg_sl ([.ref (a 155), .int w]) ++ List.replicate (3 - (lg_sl ([.ref (a 155), .int w])).length) Slot.unset).toArray = ls at hl ⊢
  have hl : lv_has ls 3 [(0, .ref (a 155)), (1, .int w)] := hl
  refine lv_aload_n hx hb dX0_reasonToEnter_0 rfl (lv_at hl 0 rfl) ?_
  refine xgT_TA_sight hx hb hts (fun _ h => List.mem_cons_of_mem _ (List.mem_append_left _ (List.mem_append_left _ (List.mem_append_left _ (List.mem_append_right _ h))))) hown hK hP (hts (.fieldLink RX0 34 "TalePlay$Acts" "sight" "LTalePlay$Sight;") (by decide +kernel)) dX0_reasonToEnter_1 ?_
  refine xgT_TG_seen hx hb hts (fun _ h => List.mem_cons_of_mem _ (List.mem_append_left _ (List.mem_append_left _ (List.mem_append_right _ h)))) hown hK hP (hts (.fieldLink RX0 108 "TalePlay$Sight" "seen" "[Z") (by decide +kernel)) dX0_reasonToEnter_4 ?_
  refine lv_iload_n hx hb dX0_reasonToEnter_7 rfl (lv_at hl 1 rfl) ?_
  refine xlT_152 hx hb hK hP (vp_in_iff.mpr (by have h9 : w.toInt = w.toInt := rfl; omega)) dX0_reasonToEnter_8 (fun x1 ex1 => ?_)
  have rx1 : 0 ≤ x1.toInt ∧ x1.toInt ≤ 1 := by rw [ex1]; exact hI.2 152 _
  refine lv_if_ne (tgt := 14) hx hb dX0_reasonToEnter_9 (by decide) (fun c2 => ?_) (fun c2 => ?_)
  · have f2 := mt (ti_eq (a := x1.toInt) (b := 0) rfl (by decide)).mpr c2
    refine lv_aload_n hx hb dX0_reasonToEnter_14 rfl (lv_at hl 0 rfl) ?_
    refine xgT_TA_world hx hb hts (fun _ h => List.mem_cons_of_mem _ (List.mem_append_left _ (List.mem_append_left _ (List.mem_append_left _ (List.mem_append_right _ h))))) hown hK hP (hts (.fieldLink RX0 9 "TalePlay$Acts" "world" "LTalePlay$World;") (by decide +kernel)) dX0_reasonToEnter_15 ?_
    refine lv_iload_n hx hb dX0_reasonToEnter_18 rfl (lv_at hl 1 rfl) ?_
    have rb111_i : 0 ≤ (i 111).toInt ∧ (i 111).toInt ≤ 30 := hI.1 111
    refine ro_calli (va_runV (As := [.int w]) (rest := []) ⟨hx, hb, hml, hown, hts⟩ (x_X10_sortOf l D s.heap.size .null a t i q c d w hI ) (cwV 1 hts gm_X0_reasonToEnter_TA_X10_sortOf_86 rfl rfl rfl (by decide +kernel) ⟨Nat.le_of_ble_eq_true rfl, Nat.le_of_ble_eq_true rfl⟩) (yA_V hN (xZ_k hZ hS hA) (xkT_W hK) (xuT_W (sk := sk) hP) (ci := 10) (q0 := 0) rfl rfl) rfl rfl hl.1 rfl (lv_room (Nat.le_of_ble_eq_true rfl)) dX0_reasonToEnter_19 ⟨Nat.le_of_ble_eq_true rfl, Nat.le_of_ble_eq_true rfl⟩) hS hA hP (fun r3 u3 H locs hw3 hP hS => ?_)
    have hw3 : ((r3.toInt = -9 ∧ ¬ (0 ≤ w.toInt ∧ w.toInt < (i 111).toInt)) ∨ (0 ≤ r3.toInt ∧ r3.toInt ≤ 5 ∧ 0 ≤ w.toInt ∧ w.toInt < (i 111).toInt)) := hw3
    refine lv_istore_n (lv' := [(2, .int r3), (0, .ref (a 155)), (1, .int w)]) hx hb dX0_reasonToEnter_22 rfl hl (by decide) rfl (fun ls hl => ?_)
    refine lv_iload_n hx hb dX0_reasonToEnter_23 rfl (lv_at hl 0 rfl) ?_
    refine lv_iconst (v := 3) hx hb dX0_reasonToEnter_24 (by decide) ?_
    have jn4 : ∀ (H : Heap) (locs : List Loc) (ls : Array Slot), va_P D vwCl (xwT sk a t i q c d) H → va_S (ro s.heap.size) s.heap H locs → lv_has ls 3 [(2, .int r3), (0, .ref (a 155)), (1, .int w)] → W p l e (headSpec wm_X0_reasonToEnter_TA ({ frames := 2, cells := 0, slots := 0, locals := 46 })).room s m ([.ref (a 155), .int w] : List Value).toArray below meth cd H locs 0 0 (MQ below (va_Qi (fun (r : Int32) (_ : Unit) => (0 ≤ r.toInt ∧ r.toInt ≤ 20)) oA (ro s.heap.size)) ([.ref (a 155), .int w] : List Value).toArray s 0 0 (ro s.heap.size)) (F0 m 36 ls []) := by
      intro H locs ls hP hS hl
      refine lv_aload_n hx hb dX0_reasonToEnter_36 rfl (lv_at hl 1 rfl) ?_
      refine xgT_TA_scene hx hb hts (fun _ h => List.mem_cons_of_mem _ (List.mem_append_left _ (List.mem_append_left _ (List.mem_append_left _ (List.mem_append_right _ h))))) hown hK hP (hts (.fieldLink RX0 33 "TalePlay$Acts" "scene" "LTalePlay$Scene;") (by decide +kernel)) dX0_reasonToEnter_37 ?_
      refine lv_aload_n hx hb dX0_reasonToEnter_40 rfl (lv_at hl 1 rfl) ?_
      refine xgT_TA_player (v := (i 156)) rfl hx hb hts (fun _ h => List.mem_cons_of_mem _ (List.mem_append_left _ (List.mem_append_left _ (List.mem_append_left _ (List.mem_append_right _ h))))) hown hK hP (hts (.fieldLink RX0 38 "TalePlay$Acts" "player" "I") (by decide +kernel)) dX0_reasonToEnter_41 ?_
      have rb156_i : (i 156).toInt = -9 ∨ (0 ≤ (i 156).toInt ∧ (i 156).toInt ≤ 29) := hI.1 156
      refine lv_iload_n hx hb dX0_reasonToEnter_44 rfl (lv_at hl 2 rfl) ?_
      refine ro_calli (va_runV (As := [.int (i 156), .int w]) (rest := []) ⟨hx, hb, hml, hown, hts⟩ (x_X6_isUp_TS l D H.size .null a t i q c d (i 156) w hI (show 0 ≤ w.toInt ∧ w.toInt ≤ 29 from by omega)) (cwV 2 hts gm_X0_reasonToEnter_TA_X6_isUp_TS_112 rfl rfl rfl (by decide +kernel) ⟨Nat.le_of_ble_eq_true rfl, Nat.le_of_ble_eq_true rfl⟩) (yA_V hN (xZ_k hZ hS hA) (xkT_P1 hK) (xuT_P1 (sk := sk) hP) (ci := 6) (q0 := 0) rfl rfl) rfl rfl hl.1 rfl (lv_room (Nat.le_of_ble_eq_true rfl)) dX0_reasonToEnter_45 ⟨Nat.le_of_ble_eq_true rfl, Nat.le_of_ble_eq_true rfl⟩) hS hA hP (fun r5 u5 H locs hw5 hP hS => ?_)
      have hw5 : (0 ≤ r5.toInt ∧ r5.toInt ≤ 1) := hw5
      refine lv_if_eq (tgt := 54) hx hb dX0_reasonToEnter_48 (by decide) (fun c6 => ?_) (fun c6 => ?_)
      · have f6 := (ti_eq (a := r5.toInt) (b := 0) rfl (by decide)).mp c6
        refine lv_iload_n hx hb dX0_reasonToEnter_54 rfl (lv_at hl 0 rfl) ?_
        refine lv_iconst (v := 3) hx hb dX0_reasonToEnter_55 (by decide) ?_
        have jn7 : ∀ (H : Heap) (locs : List Loc) (ls : Array Slot), va_P D vwCl (xwT sk a t i q c d) H → va_S (ro s.heap.size) s.heap H locs → lv_has ls 3 [(2, .int r3), (0, .ref (a 155)), (1, .int w)] → W p l e (headSpec wm_X0_reasonToEnter_TA ({ frames := 2, cells := 0, slots := 0, locals := 46 })).room s m ([.ref (a 155), .int w] : List Value).toArray below meth cd H locs 0 0 (MQ below (va_Qi (fun (r : Int32) (_ : Unit) => (0 ≤ r.toInt ∧ r.toInt ≤ 20)) oA (ro s.heap.size)) ([.ref (a 155), .int w] : List Value).toArray s 0 0 (ro s.heap.size)) (F0 m 73 ls []) := by
          intro H locs ls hP hS hl
          refine lv_aload_n hx hb dX0_reasonToEnter_73 rfl (lv_at hl 1 rfl) ?_
          refine xgT_TA_sight hx hb hts (fun _ h => List.mem_cons_of_mem _ (List.mem_append_left _ (List.mem_append_left _ (List.mem_append_left _ (List.mem_append_right _ h))))) hown hK hP (hts (.fieldLink RX0 34 "TalePlay$Acts" "sight" "LTalePlay$Sight;") (by decide +kernel)) dX0_reasonToEnter_74 ?_
          refine xgT_TG_reached hx hb hts (fun _ h => List.mem_cons_of_mem _ (List.mem_append_left _ (List.mem_append_left _ (List.mem_append_right _ h)))) hown hK hP (hts (.fieldLink RX0 118 "TalePlay$Sight" "reached" "[Z") (by decide +kernel)) dX0_reasonToEnter_77 ?_
          refine lv_iload_n hx hb dX0_reasonToEnter_80 rfl (lv_at hl 2 rfl) ?_
          refine xlT_153 hx hb hK hP (vp_in_iff.mpr (by have h9 : w.toInt = w.toInt := rfl; omega)) dX0_reasonToEnter_81 (fun x8 ex8 => ?_)
          have rx8 : 0 ≤ x8.toInt ∧ x8.toInt ≤ 1 := by rw [ex8]; exact hI.2 153 _
          refine lv_if_ne (tgt := 88) hx hb dX0_reasonToEnter_82 (by decide) (fun c9 => ?_) (fun c9 => ?_)
          · have f9 := mt (ti_eq (a := x8.toInt) (b := 0) rfl (by decide)).mpr c9
            refine lv_aload_n hx hb dX0_reasonToEnter_88 rfl (lv_at hl 1 rfl) ?_
            refine xgT_TA_scene hx hb hts (fun _ h => List.mem_cons_of_mem _ (List.mem_append_left _ (List.mem_append_left _ (List.mem_append_left _ (List.mem_append_right _ h))))) hown hK hP (hts (.fieldLink RX0 33 "TalePlay$Acts" "scene" "LTalePlay$Scene;") (by decide +kernel)) dX0_reasonToEnter_89 ?_
            refine lv_aload_n hx hb dX0_reasonToEnter_92 rfl (lv_at hl 1 rfl) ?_
            refine xgT_TA_player (v := (i 156)) rfl hx hb hts (fun _ h => List.mem_cons_of_mem _ (List.mem_append_left _ (List.mem_append_left _ (List.mem_append_left _ (List.mem_append_right _ h))))) hown hK hP (hts (.fieldLink RX0 38 "TalePlay$Acts" "player" "I") (by decide +kernel)) dX0_reasonToEnter_93 ?_
            refine ro_calli (va_runV (As := [.int (i 156)]) (rest := []) ⟨hx, hb, hml, hown, hts⟩ (x_X6_holderOf_TS l D H.size .null a t i q c d (i 156) hI (show 0 ≤ (i 156).toInt ∧ (i 156).toInt ≤ 29 from by omega)) (cwV 1 hts gm_X0_reasonToEnter_TA_X6_holderOf_TS_83 rfl rfl rfl (by decide +kernel) ⟨Nat.le_of_ble_eq_true rfl, Nat.le_of_ble_eq_true rfl⟩) (yA_V hN (xZ_k hZ hS hA) (xkT_P1 hK) (xuT_P1 (sk := sk) hP) (ci := 6) (q0 := 0) rfl rfl) rfl rfl hl.1 rfl (lv_room (Nat.le_of_ble_eq_true rfl)) dX0_reasonToEnter_96 ⟨Nat.le_of_ble_eq_true rfl, Nat.le_of_ble_eq_true rfl⟩) hS hA hP (fun r10 u10 H locs hw10 hP hS => ?_)
            have hw10 : ((r10.toInt = -9 ∧ (c 150 (i 156).toNatClampNeg).toInt % 256 = 255) ∨ (0 ≤ r10.toInt ∧ r10.toInt ≤ 29 ∧ ¬ (c 150 (i 156).toNatClampNeg).toInt % 256 = 255 ∧ r10.toInt = (c 150 (i 156).toNatClampNeg).toInt / 8 % 32)) := hw10
            refine lv_iload_n hx hb dX0_reasonToEnter_99 rfl (lv_at hl 2 rfl) ?_
            refine lv_icmp_ne (tgt := 108) hx hb dX0_reasonToEnter_100 (by decide) (fun c11 => ?_) (fun c11 => ?_)
            · have f11 := mt (ti_eq (a := r10.toInt) (b := w.toInt) rfl rfl).mpr c11
              refine lv_iconst (v := 0) hx hb dX0_reasonToEnter_108 (by decide) ?_
              exact ro_iret hx hb hr hlocks hS dX0_reasonToEnter_109 (show 0 ≤ (0 : Int32).toInt ∧ (0 : Int32).toInt ≤ 20 from by have h9 : (0 : Int32).toInt = 0 := (by decide); omega)
            · have f11 := (ti_eq (a := r10.toInt) (b := w.toInt) rfl rfl).mp c11
              refine lv_bipush (v := 20) hx hb dX0_reasonToEnter_103 (by decide) ?_
              refine lv_goto (tgt := 109) hx hb dX0_reasonToEnter_105 (by decide) ?_
              exact ro_iret hx hb hr hlocks hS dX0_reasonToEnter_109 (show 0 ≤ (20 : Int32).toInt ∧ (20 : Int32).toInt ≤ 20 from by have h9 : (20 : Int32).toInt = 20 := (by decide); omega)
          · have f9 := (ti_eq (a := x8.toInt) (b := 0) rfl (by decide)).mp c9
            refine lv_bipush (v := 8) hx hb dX0_reasonToEnter_85 (by decide) ?_
            exact ro_iret hx hb hr hlocks hS dX0_reasonToEnter_87 (show 0 ≤ (8 : Int32).toInt ∧ (8 : Int32).toInt ≤ 20 from by have h9 : (8 : Int32).toInt = 8 := (by decide); omega)
        refine lv_icmp_ne (tgt := 73) hx hb dX0_reasonToEnter_56 (by decide) (fun c12 => ?_) (fun c12 => ?_)
        · have f12 := mt (ti_eq (a := r3.toInt) (b := 3) rfl (by decide)).mpr c12
          exact jn7    _ _ _ hP hS (lv_sub hl [0, 1, 2] rfl)
        · have f12 := (ti_eq (a := r3.toInt) (b := 3) rfl (by decide)).mp c12
          refine lv_aload_n hx hb dX0_reasonToEnter_59 rfl (lv_at hl 1 rfl) ?_
          refine xgT_TA_scene hx hb hts (fun _ h => List.mem_cons_of_mem _ (List.mem_append_left _ (List.mem_append_left _ (List.mem_append_left _ (List.mem_append_right _ h))))) hown hK hP (hts (.fieldLink RX0 33 "TalePlay$Acts" "scene" "LTalePlay$Scene;") (by decide +kernel)) dX0_reasonToEnter_60 ?_
          refine lv_iload_n hx hb dX0_reasonToEnter_63 rfl (lv_at hl 2 rfl) ?_
          refine lv_iconst (v := 0) hx hb dX0_reasonToEnter_64 (by decide) ?_
          refine ro_calli (va_runV (As := [.int w, .int 0]) (rest := []) ⟨hx, hb, hml, hown, hts⟩ (x_X6_has_TS l D H.size .null a t i q c d w 0 hI (show 0 ≤ w.toInt ∧ w.toInt ≤ 29 from by have h91 : (0 : Int32).toInt = 0 := (by decide); omega) (show 0 ≤ 0 ∧ 0 ≤ 5 from by have h91 : (0 : Int32).toInt = 0 := (by decide); omega)) (cwV 2 hts gm_X0_reasonToEnter_TA_X6_has_TS_104 rfl rfl rfl (by decide +kernel) ⟨Nat.le_of_ble_eq_true rfl, Nat.le_of_ble_eq_true rfl⟩) (yA_V hN (xZ_k hZ hS hA) (xkT_P1 hK) (xuT_P1 (sk := sk) hP) (ci := 6) (q0 := 0) rfl rfl) rfl rfl hl.1 rfl (lv_room (Nat.le_of_ble_eq_true rfl)) dX0_reasonToEnter_65 ⟨Nat.le_of_ble_eq_true rfl, Nat.le_of_ble_eq_true rfl⟩) hS hA hP (fun r13 u13 H locs hw13 hP hS => ?_)
          have hw13 : (0 ≤ r13.toInt ∧ r13.toInt ≤ 1) := hw13
          refine lv_if_ne (tgt := 73) hx hb dX0_reasonToEnter_68 (by decide) (fun c14 => ?_) (fun c14 => ?_)
          · have f14 := mt (ti_eq (a := r13.toInt) (b := 0) rfl (by decide)).mpr c14
            exact jn7    _ _ _ hP hS (lv_sub hl [0, 1, 2] rfl)
          · have f14 := (ti_eq (a := r13.toInt) (b := 0) rfl (by decide)).mp c14
            refine lv_iconst (v := 3) hx hb dX0_reasonToEnter_71 (by decide) ?_
            exact ro_iret hx hb hr hlocks hS dX0_reasonToEnter_72 (show 0 ≤ (3 : Int32).toInt ∧ (3 : Int32).toInt ≤ 20 from by have h9 : (3 : Int32).toInt = 3 := (by decide); omega)
      · have f6 := mt (ti_eq (a := r5.toInt) (b := 0) rfl (by decide)).mpr c6
        refine lv_bipush (v := 13) hx hb dX0_reasonToEnter_51 (by decide) ?_
        exact ro_iret hx hb hr hlocks hS dX0_reasonToEnter_53 (show 0 ≤ (13 : Int32).toInt ∧ (13 : Int32).toInt ≤ 20 from by have h9 : (13 : Int32).toInt = 13 := (by decide); omega)
    refine lv_icmp_eq (tgt := 36) hx hb dX0_reasonToEnter_25 (by decide) (fun c15 => ?_) (fun c15 => ?_)
    · have f15 := (ti_eq (a := r3.toInt) (b := 3) rfl (by decide)).mp c15
      exact jn4    _ _ _ hP hS (lv_sub hl [0, 1, 2] rfl)
    · have f15 := mt (ti_eq (a := r3.toInt) (b := 3) rfl (by decide)).mpr c15
      refine lv_iload_n hx hb dX0_reasonToEnter_28 rfl (lv_at hl 0 rfl) ?_
      refine lv_iconst (v := 4) hx hb dX0_reasonToEnter_29 (by decide) ?_
      refine lv_icmp_eq (tgt := 36) hx hb dX0_reasonToEnter_30 (by decide) (fun c16 => ?_) (fun c16 => ?_)
      · have f16 := (ti_eq (a := r3.toInt) (b := 4) rfl (by decide)).mp c16
        exact jn4    _ _ _ hP hS (lv_sub hl [0, 1, 2] rfl)
      · have f16 := mt (ti_eq (a := r3.toInt) (b := 4) rfl (by decide)).mpr c16
        refine lv_bipush (v := 12) hx hb dX0_reasonToEnter_33 (by decide) ?_
        exact ro_iret hx hb hr hlocks hS dX0_reasonToEnter_35 (show 0 ≤ (12 : Int32).toInt ∧ (12 : Int32).toInt ≤ 20 from by have h9 : (12 : Int32).toInt = 12 := (by decide); omega)
  · have f2 := (ti_eq (a := x1.toInt) (b := 0) rfl (by decide)).mp c2
    refine lv_iconst (v := 4) hx hb dX0_reasonToEnter_12 (by decide) ?_
    exact ro_iret hx hb hr hlocks hS dX0_reasonToEnter_13 (show 0 ≤ (4 : Int32).toInt ∧ (4 : Int32).toInt ≤ 20 from by have h9 : (4 : Int32).toInt = 4 := (by decide); omega)

def wm_X0_isHeld_SA : List Cond := .code yX0_isHeld cX0_isHeld 2 (some .boolean) :: (([.fieldLink RX0 33 "TalePlay$Acts" "scene" "LTalePlay$Scene;", .fieldLink RX0 38 "TalePlay$Acts" "player" "I", .methodLink RX0 74 yX6_lies, .instanceMethod yX6_lies, .selects RX6 yX6_lies yX6_lies, .initialized RX6, .code yX6_lies cX6_lies 4 (some .boolean), .fieldLink RX6 9 "TalePlay$Scene" "cells" "[I"] : List Cond) ++ wsX00 ++ wsX60)
set_option maxRecDepth 20000 in
theorem gm_X0_isHeld_SA_X6_lies_SS_74 : GoodIn wm_X0_isHeld_SA (wsV RX0 74 RX6 yX6_lies wm_X6_lies_SS) := goodIn_app (goodIn_of _ (by decide +kernel)) (goodIn_r _ [7, 8, 16, 17] rfl (by decide +kernel))
set_option maxHeartbeats 4000000 in
set_option maxRecDepth 100000 in
theorem x_X0_isHeld_SA (l : Launch) (D : va_G) (sz : Nat) (sk : Value) (a : Nat → Nat) (t : Nat → ClassId) (i : Nat → Int32) (q : Int64) (c : Nat → Nat → Int32) (d : Nat → Nat → Int64) (w : Int32) (hI : xInv i c) (hw : 0 ≤ w.toInt ∧ w.toInt ≤ 29) : Met l yX0_isHeld wm_X0_isHeld_SA ({ frames := 1, cells := 0, slots := 0, locals := 23 }) (va_Pc [.ref (a 184), .int w] (yA (a 186) D sz (xwS sk a t i q c d) (xtS t))) (va_Qi (fun (r : Int32) (_ : Unit) => (0 ≤ r.toInt ∧ r.toInt ≤ 1)) oA (ro sz)) 0 0 (ro sz) := by
  refine Met.ofW (cc := cX0_isHeld) (maxL := 2) (ret := (some .boolean)) (by decide) rfl ?_
  intro p e s m args below meth cd s₁ B hml hv
  obtain ⟨rfl, ⟨hsz, hP, hK⟩, hN, hZ⟩ := hv
  have hx := B.exec
  have hb := B.bytes
  have hr := B.returns
  have hts := atoms_spec (ws := wm_X0_isHeld_SA) B.pre
  have hown : s.vm.findClass RX0 = some m.cls := findClass_of_methodNamed B.named
  have hlocks := B.notSynchronized
  subst hsz
  have hA : ∀ q : Nat, s.heap.size ≤ q → ro s.heap.size q := fun _ h => h
  have hS : va_S (ro s.heap.size) s.heap s.heap [] := va_S.rf
  have hl := lv_entry ([.ref (a 184), .int w]) (n := 2) (Nat.le_of_ble_eq_true rfl)
  rw [lg_entry_eq]
  generalize (lg_sl ([.ref (a 184), .int w]) ++ List.replicate (2 - (lg_sl ([.ref (a 184), .int w])).length) Slot.unset).toArray = ls at hl ⊢
  have hl : lv_has ls 2 [(0, .ref (a 184)), (1, .int w)] := hl
  refine lv_aload_n hx hb dX0_isHeld_0 rfl (lv_at hl 0 rfl) ?_
  refine xgS_SA_scene hx hb hts (fun _ h => List.mem_cons_of_mem _ (List.mem_append_left _ (List.mem_append_right _ h))) hown hK hP (hts (.fieldLink RX0 33 "TalePlay$Acts" "scene" "LTalePlay$Scene;") (by decide +kernel)) dX0_isHeld_1 ?_
  refine lv_iload_n hx hb dX0_isHeld_4 rfl (lv_at hl 1 rfl) ?_
  refine lv_iconst (v := 2) hx hb dX0_isHeld_5 (by decide) ?_
  refine lv_aload_n hx hb dX0_isHeld_6 rfl (lv_at hl 0 rfl) ?_
  refine xgS_SA_player (v := (i 185)) rfl hx hb hts (fun _ h => List.mem_cons_of_mem _ (List.mem_append_left _ (List.mem_append_right _ h))) hown hK hP (hts (.fieldLink RX0 38 "TalePlay$Acts" "player" "I") (by decide +kernel)) dX0_isHeld_7 ?_
  have rb185_i : (i 185).toInt = -9 ∨ (0 ≤ (i 185).toInt ∧ (i 185).toInt ≤ 29) := hI.1 185
  refine ro_calli (va_runV (As := [.int w, .int 2, .int (i 185)]) (rest := []) ⟨hx, hb, hml, hown, hts⟩ (x_X6_lies_SS l D s.heap.size .null a t i q c d w 2 (i 185) hI (show 0 ≤ w.toInt ∧ w.toInt ≤ 29 from by have h91 : (2 : Int32).toInt = 2 := (by decide); omega)) (cwV 3 hts gm_X0_isHeld_SA_X6_lies_SS_74 rfl rfl rfl (by decide +kernel) ⟨Nat.le_of_ble_eq_true rfl, Nat.le_of_ble_eq_true rfl⟩) (yA_V hN (xZ_k hZ hS hA) (xkS_P2 hK) (xuS_P2 (sk := sk) hP) (ci := 6) (q0 := 0) rfl rfl) rfl rfl hl.1 rfl (lv_room (Nat.le_of_ble_eq_true rfl)) dX0_isHeld_10 ⟨Nat.le_of_ble_eq_true rfl, Nat.le_of_ble_eq_true rfl⟩) hS hA hP (fun r1 u1 H locs hw1 hP hS => ?_)
  have hw1 : (0 ≤ r1.toInt ∧ r1.toInt ≤ 1) := hw1
  exact ro_zret hx hb hr hlocks hS (nb_n (show 0 ≤ r1.toInt ∧ r1.toInt ≤ 1 from by omega)) dX0_isHeld_13 (show 0 ≤ r1.toInt ∧ r1.toInt ≤ 1 from by omega)

def wm_X0_isByRoom_SA : List Cond := .code yX0_isByRoom cX0_isByRoom 1 (some .boolean) :: (([.fieldLink RX0 33 "TalePlay$Acts" "scene" "LTalePlay$Scene;", .fieldLink RX0 38 "TalePlay$Acts" "player" "I", .methodLink RX0 80 yX6_formOf, .instanceMethod yX6_formOf, .selects RX6 yX6_formOf yX6_formOf, .initialized RX6, .code yX6_formOf cX6_formOf 3 (some .int), .fieldLink RX6 9 "TalePlay$Scene" "cells" "[I", .fieldLink RX0 9 "TalePlay$Acts" "world" "LTalePlay$World;", .methodLink RX0 83 yX6_holderOf, .instanceMethod yX6_holderOf, .selects RX6 yX6_holderOf yX6_holderOf, .code yX6_holderOf cX6_holderOf 3 (some .int), .methodLink RX0 86 yX10_sortOf, .instanceMethod yX10_sortOf, .selects RX10 yX10_sortOf yX10_sortOf, .initialized RX10, .code yX10_sortOf cX10_sortOf 2 (some .int), .fieldLink RX10 37 "TalePlay$World" "objects" "I", .fieldLink RX10 15 "TalePlay$World" "sorts" "[I", .fieldLink RX10 21 "TalePlay$World" "kindOf" "[I"] : List Cond) ++ wsX00 ++ wsX60 ++ wsX100)
set_option maxRecDepth 20000 in
theorem gm_X0_isByRoom_SA_X6_formOf_SS_80 : GoodIn wm_X0_isByRoom_SA (wsV RX0 80 RX6 yX6_formOf wm_X6_formOf_SS) := goodIn_app (goodIn_of _ (by decide +kernel)) (goodIn_r _ [7, 8, 29, 30] rfl (by decide +kernel))
set_option maxRecDepth 20000 in
theorem gm_X0_isByRoom_SA_X6_holderOf_SS_83 : GoodIn wm_X0_isByRoom_SA (wsV RX0 83 RX6 yX6_holderOf wm_X6_holderOf_SS) := goodIn_app (goodIn_of _ (by decide +kernel)) (goodIn_r _ [13, 8, 29, 30] rfl (by decide +kernel))
set_option maxRecDepth 20000 in
theorem gm_X0_isByRoom_SA_X10_sortOf_86 : GoodIn wm_X0_isByRoom_SA (wsV RX0 86 RX10 yX10_sortOf wm_X10_sortOf) := goodIn_app (goodIn_of _ (by decide +kernel)) (goodIn_r _ [18, 19, 20, 21, 31, 32, 33, 34, 35, 36, 37] rfl (by decide +kernel))
set_option maxHeartbeats 4000000 in
set_option maxRecDepth 100000 in
theorem x_X0_isByRoom_SA (l : Launch) (D : va_G) (sz : Nat) (sk : Value) (a : Nat → Nat) (t : Nat → ClassId) (i : Nat → Int32) (q : Int64) (c : Nat → Nat → Int32) (d : Nat → Nat → Int64) (hI : xInv i c) (hpl : 0 ≤ (i 185).toInt ∧ (i 185).toInt ≤ 29) : Met l yX0_isByRoom wm_X0_isByRoom_SA ({ frames := 1, cells := 0, slots := 0, locals := 22 }) (va_Pc [.ref (a 184)] (yA (a 186) D sz (xwS sk a t i q c d) (xtS t))) (va_Qi (fun (r : Int32) (_ : Unit) => ((0 ≤ r.toInt ∧ r.toInt ≤ 1) ∧ (Im (r.toInt = 1) (¬ (c 179 (i 185).toNatClampNeg).toInt % 256 = 255)))) oA (ro sz)) 0 0 (ro sz) := by
  refine Met.ofW (cc := cX0_isByRoom) (maxL := 1) (ret := (some .boolean)) (by decide) rfl ?_
  intro p e s m args below meth cd s₁ B hml hv
  obtain ⟨rfl, ⟨hsz, hP, hK⟩, hN, hZ⟩ := hv
  have hx := B.exec
  have hb := B.bytes
  have hr := B.returns
  have hts := atoms_spec (ws := wm_X0_isByRoom_SA) B.pre
  have hown : s.vm.findClass RX0 = some m.cls := findClass_of_methodNamed B.named
  have hlocks := B.notSynchronized
  subst hsz
  have hA : ∀ q : Nat, s.heap.size ≤ q → ro s.heap.size q := fun _ h => h
  have hS : va_S (ro s.heap.size) s.heap s.heap [] := va_S.rf
  have hl := lv_entry ([.ref (a 184)]) (n := 1) (Nat.le_of_ble_eq_true rfl)
  rw [lg_entry_eq]
  generalize (lg_sl ([.ref (a 184)]) ++ List.replicate (1 - (lg_sl ([.ref (a 184)])).length) Slot.unset).toArray = ls at hl ⊢
  have hl : lv_has ls 1 [(0, .ref (a 184))] := hl
  refine lv_aload_n hx hb dX0_isByRoom_0 rfl (lv_at hl 0 rfl) ?_
  refine xgS_SA_scene hx hb hts (fun _ h => List.mem_cons_of_mem _ (List.mem_append_left _ (List.mem_append_left _ (List.mem_append_right _ h)))) hown hK hP (hts (.fieldLink RX0 33 "TalePlay$Acts" "scene" "LTalePlay$Scene;") (by decide +kernel)) dX0_isByRoom_1 ?_
  refine lv_aload_n hx hb dX0_isByRoom_4 rfl (lv_at hl 0 rfl) ?_
  refine xgS_SA_player (v := (i 185)) rfl hx hb hts (fun _ h => List.mem_cons_of_mem _ (List.mem_append_left _ (List.mem_append_left _ (List.mem_append_right _ h)))) hown hK hP (hts (.fieldLink RX0 38 "TalePlay$Acts" "player" "I") (by decide +kernel)) dX0_isByRoom_5 ?_
  have rb185_i : (i 185).toInt = -9 ∨ (0 ≤ (i 185).toInt ∧ (i 185).toInt ≤ 29) := hI.1 185
  refine ro_calli (va_runV (As := [.int (i 185)]) (rest := []) ⟨hx, hb, hml, hown, hts⟩ (x_X6_formOf_SS l D s.heap.size .null a t i q c d (i 185) hI (show 0 ≤ (i 185).toInt ∧ (i 185).toInt ≤ 29 from by omega)) (cwV 1 hts gm_X0_isByRoom_SA_X6_formOf_SS_80 rfl rfl rfl (by decide +kernel) ⟨Nat.le_of_ble_eq_true rfl, Nat.le_of_ble_eq_true rfl⟩) (yA_V hN (xZ_k hZ hS hA) (xkS_P2 hK) (xuS_P2 (sk := sk) hP) (ci := 6) (q0 := 0) rfl rfl) rfl rfl hl.1 rfl (lv_room (Nat.le_of_ble_eq_true rfl)) dX0_isByRoom_8 ⟨Nat.le_of_ble_eq_true rfl, Nat.le_of_ble_eq_true rfl⟩) hS hA hP (fun r1 u1 H locs hw1 hP hS => ?_)
  have hw1 : ((r1.toInt = -9 ∧ (c 179 (i 185).toNatClampNeg).toInt % 256 = 255) ∨ (0 ≤ r1.toInt ∧ r1.toInt ≤ 4 ∧ ¬ (c 179 (i 185).toNatClampNeg).toInt % 256 = 255 ∧ r1.toInt = (c 179 (i 185).toNatClampNeg).toInt % 8)) := hw1
  refine lv_if_ne (tgt := 39) hx hb dX0_isByRoom_11 (by decide) (fun c2 => ?_) (fun c2 => ?_)
  · have f2 := mt (ti_eq (a := r1.toInt) (b := 0) rfl (by decide)).mpr c2
    refine lv_iconst (v := 0) hx hb dX0_isByRoom_39 (by decide) ?_
    exact ro_zret hx hb hr hlocks hS rfl dX0_isByRoom_40 ⟨(show 0 ≤ (0 : Int32).toInt ∧ (0 : Int32).toInt ≤ 1 from by have h9 : (0 : Int32).toInt = 0 := (by decide); omega), (show Im ((0 : Int32).toInt = 1) (¬ (c 179 (i 185).toNatClampNeg).toInt % 256 = 255) from fun h9 => absurd h9 (by decide))⟩
  · have f2 := (ti_eq (a := r1.toInt) (b := 0) rfl (by decide)).mp c2
    refine lv_aload_n hx hb dX0_isByRoom_14 rfl (lv_at hl 0 rfl) ?_
    refine xgS_SA_world hx hb hts (fun _ h => List.mem_cons_of_mem _ (List.mem_append_left _ (List.mem_append_left _ (List.mem_append_right _ h)))) hown hK hP (hts (.fieldLink RX0 9 "TalePlay$Acts" "world" "LTalePlay$World;") (by decide +kernel)) dX0_isByRoom_15 ?_
    refine lv_aload_n hx hb dX0_isByRoom_18 rfl (lv_at hl 0 rfl) ?_
    refine xgS_SA_scene hx hb hts (fun _ h => List.mem_cons_of_mem _ (List.mem_append_left _ (List.mem_append_left _ (List.mem_append_right _ h)))) hown hK hP (hts (.fieldLink RX0 33 "TalePlay$Acts" "scene" "LTalePlay$Scene;") (by decide +kernel)) dX0_isByRoom_19 ?_
    refine lv_aload_n hx hb dX0_isByRoom_22 rfl (lv_at hl 0 rfl) ?_
    refine xgS_SA_player (v := (i 185)) rfl hx hb hts (fun _ h => List.mem_cons_of_mem _ (List.mem_append_left _ (List.mem_append_left _ (List.mem_append_right _ h)))) hown hK hP (hts (.fieldLink RX0 38 "TalePlay$Acts" "player" "I") (by decide +kernel)) dX0_isByRoom_23 ?_
    refine ro_calli (va_runV (As := [.int (i 185)]) (rest := [.ref (a 104)]) ⟨hx, hb, hml, hown, hts⟩ (x_X6_holderOf_SS l D H.size .null a t i q c d (i 185) hI (show 0 ≤ (i 185).toInt ∧ (i 185).toInt ≤ 29 from by omega)) (cwV 1 hts gm_X0_isByRoom_SA_X6_holderOf_SS_83 rfl rfl rfl (by decide +kernel) ⟨Nat.le_of_ble_eq_true rfl, Nat.le_of_ble_eq_true rfl⟩) (yA_V hN (xZ_k hZ hS hA) (xkS_P2 hK) (xuS_P2 (sk := sk) hP) (ci := 6) (q0 := 0) rfl rfl) rfl rfl hl.1 rfl (lv_room (Nat.le_of_ble_eq_true rfl)) dX0_isByRoom_26 ⟨Nat.le_of_ble_eq_true rfl, Nat.le_of_ble_eq_true rfl⟩) hS hA hP (fun r3 u3 H locs hw3 hP hS => ?_)
    have hw3 : ((r3.toInt = -9 ∧ (c 179 (i 185).toNatClampNeg).toInt % 256 = 255) ∨ (0 ≤ r3.toInt ∧ r3.toInt ≤ 29 ∧ ¬ (c 179 (i 185).toNatClampNeg).toInt % 256 = 255 ∧ r3.toInt = (c 179 (i 185).toNatClampNeg).toInt / 8 % 32)) := hw3
    have rb111_i : 0 ≤ (i 111).toInt ∧ (i 111).toInt ≤ 30 := hI.1 111
    refine ro_calli (va_runV (As := [.int r3]) (rest := []) ⟨hx, hb, hml, hown, hts⟩ (x_X10_sortOf l D H.size .null a t i q c d r3 hI ) (cwV 1 hts gm_X0_isByRoom_SA_X10_sortOf_86 rfl rfl rfl (by decide +kernel) ⟨Nat.le_of_ble_eq_true rfl, Nat.le_of_ble_eq_true rfl⟩) (yA_V hN (xZ_k hZ hS hA) (xkS_W hK) (xuS_W (sk := sk) hP) (ci := 10) (q0 := 0) rfl rfl) rfl rfl hl.1 rfl (lv_room (Nat.le_of_ble_eq_true rfl)) dX0_isByRoom_29 ⟨Nat.le_of_ble_eq_true rfl, Nat.le_of_ble_eq_true rfl⟩) hS hA hP (fun r4 u4 H locs hw4 hP hS => ?_)
    have hw4 : ((r4.toInt = -9 ∧ ¬ (0 ≤ r3.toInt ∧ r3.toInt < (i 111).toInt)) ∨ (0 ≤ r4.toInt ∧ r4.toInt ≤ 5 ∧ 0 ≤ r3.toInt ∧ r3.toInt < (i 111).toInt)) := hw4
    refine lv_if_ne (tgt := 39) hx hb dX0_isByRoom_32 (by decide) (fun c5 => ?_) (fun c5 => ?_)
    · have f5 := mt (ti_eq (a := r4.toInt) (b := 0) rfl (by decide)).mpr c5
      refine lv_iconst (v := 0) hx hb dX0_isByRoom_39 (by decide) ?_
      exact ro_zret hx hb hr hlocks hS rfl dX0_isByRoom_40 ⟨(show 0 ≤ (0 : Int32).toInt ∧ (0 : Int32).toInt ≤ 1 from by have h9 : (0 : Int32).toInt = 0 := (by decide); omega), (show Im ((0 : Int32).toInt = 1) (¬ (c 179 (i 185).toNatClampNeg).toInt % 256 = 255) from fun h9 => absurd h9 (by decide))⟩
    · have f5 := (ti_eq (a := r4.toInt) (b := 0) rfl (by decide)).mp c5
      refine lv_iconst (v := 1) hx hb dX0_isByRoom_35 (by decide) ?_
      refine lv_goto (tgt := 40) hx hb dX0_isByRoom_36 (by decide) ?_
      exact ro_zret hx hb hr hlocks hS rfl dX0_isByRoom_40 ⟨(show 0 ≤ (1 : Int32).toInt ∧ (1 : Int32).toInt ≤ 1 from by have h9 : (1 : Int32).toInt = 1 := (by decide); omega), (show Im ((1 : Int32).toInt = 1) (¬ (c 179 (i 185).toNatClampNeg).toInt % 256 = 255) from fun _ => by omega)⟩

def wm_X0_isAnothers_SA : List Cond := .code yX0_isAnothers cX0_isAnothers 4 (some .boolean) :: (([.fieldLink RX0 33 "TalePlay$Acts" "scene" "LTalePlay$Scene;", .methodLink RX0 83 yX6_holderOf, .instanceMethod yX6_holderOf, .selects RX6 yX6_holderOf yX6_holderOf, .initialized RX6, .code yX6_holderOf cX6_holderOf 3 (some .int), .fieldLink RX6 9 "TalePlay$Scene" "cells" "[I", .fieldLink RX0 38 "TalePlay$Acts" "player" "I", .fieldLink RX0 9 "TalePlay$Acts" "world" "LTalePlay$World;", .methodLink RX0 86 yX10_sortOf, .instanceMethod yX10_sortOf, .selects RX10 yX10_sortOf yX10_sortOf, .initialized RX10, .code yX10_sortOf cX10_sortOf 2 (some .int), .fieldLink RX10 37 "TalePlay$World" "objects" "I", .fieldLink RX10 15 "TalePlay$World" "sorts" "[I", .fieldLink RX10 21 "TalePlay$World" "kindOf" "[I"] : List Cond) ++ wsX00 ++ wsX60 ++ wsX100)
set_option maxRecDepth 20000 in
theorem gm_X0_isAnothers_SA_X6_holderOf_SS_83 : GoodIn wm_X0_isAnothers_SA (wsV RX0 83 RX6 yX6_holderOf wm_X6_holderOf_SS) := goodIn_app (goodIn_of _ (by decide +kernel)) (goodIn_r _ [6, 7, 25, 26] rfl (by decide +kernel))
set_option maxRecDepth 20000 in
theorem gm_X0_isAnothers_SA_X10_sortOf_86 : GoodIn wm_X0_isAnothers_SA (wsV RX0 86 RX10 yX10_sortOf wm_X10_sortOf) := goodIn_app (goodIn_of _ (by decide +kernel)) (goodIn_r _ [14, 15, 16, 17, 27, 28, 29, 30, 31, 32, 33] rfl (by decide +kernel))
set_option maxHeartbeats 4000000 in
set_option maxRecDepth 100000 in
theorem x_X0_isAnothers_SA (l : Launch) (D : va_G) (sz : Nat) (sk : Value) (a : Nat → Nat) (t : Nat → ClassId) (i : Nat → Int32) (q : Int64) (c : Nat → Nat → Int32) (d : Nat → Nat → Int64) (w : Int32) (hI : xInv i c) (hw : 0 ≤ w.toInt ∧ w.toInt ≤ 29) : Met l yX0_isAnothers wm_X0_isAnothers_SA ({ frames := 1, cells := 0, slots := 0, locals := 22 }) (va_Pc [.ref (a 184), .int w] (yA (a 186) D sz (xwS sk a t i q c d) (xtS t))) (va_Qi (fun (r : Int32) (_ : Unit) => (0 ≤ r.toInt ∧ r.toInt ≤ 1)) oA (ro sz)) 0 0 (ro sz) := by
  refine Met.ofW (cc := cX0_isAnothers) (maxL := 4) (ret := (some .boolean)) (by decide) rfl ?_
  intro p e s m args below meth cd s₁ B hml hv
  obtain ⟨rfl, ⟨hsz, hP, hK⟩, hN, hZ⟩ := hv
  have hx := B.exec
  have hb := B.bytes
  have hr := B.returns
  have hts := atoms_spec (ws := wm_X0_isAnothers_SA) B.pre
  have hown : s.vm.findClass RX0 = some m.cls := findClass_of_methodNamed B.named
  have hlocks := B.notSynchronized
  subst hsz
  have hA : ∀ q : Nat, s.heap.size ≤ q → ro s.heap.size q := fun _ h => h
  have hS : va_S (ro s.heap.size) s.heap s.heap [] := va_S.rf
  have hl := lv_entry ([.ref (a 184), .int w]) (n := 4) (Nat.le_of_ble_eq_true rfl)
  rw [lg_entry_eq]
  generalize (lg_sl ([.ref (a 184), .int w]) ++ List.replicate (4 - (lg_sl ([.ref (a 184), .int w])).length) Slot.unset).toArray = ls at hl ⊢
  have hl : lv_has ls 4 [(0, .ref (a 184)), (1, .int w)] := hl
  refine lv_aload_n hx hb dX0_isAnothers_0 rfl (lv_at hl 0 rfl) ?_
  refine xgS_SA_scene hx hb hts (fun _ h => List.mem_cons_of_mem _ (List.mem_append_left _ (List.mem_append_left _ (List.mem_append_right _ h)))) hown hK hP (hts (.fieldLink RX0 33 "TalePlay$Acts" "scene" "LTalePlay$Scene;") (by decide +kernel)) dX0_isAnothers_1 ?_
  refine lv_iload_n hx hb dX0_isAnothers_4 rfl (lv_at hl 1 rfl) ?_
  refine ro_calli (va_runV (As := [.int w]) (rest := []) ⟨hx, hb, hml, hown, hts⟩ (x_X6_holderOf_SS l D s.heap.size .null a t i q c d w hI (show 0 ≤ w.toInt ∧ w.toInt ≤ 29 from by omega)) (cwV 1 hts gm_X0_isAnothers_SA_X6_holderOf_SS_83 rfl rfl rfl (by decide +kernel) ⟨Nat.le_of_ble_eq_true rfl, Nat.le_of_ble_eq_true rfl⟩) (yA_V hN (xZ_k hZ hS hA) (xkS_P2 hK) (xuS_P2 (sk := sk) hP) (ci := 6) (q0 := 0) rfl rfl) rfl rfl hl.1 rfl (lv_room (Nat.le_of_ble_eq_true rfl)) dX0_isAnothers_5 ⟨Nat.le_of_ble_eq_true rfl, Nat.le_of_ble_eq_true rfl⟩) hS hA hP (fun r1 u1 H locs hw1 hP hS => ?_)
  have hw1 : ((r1.toInt = -9 ∧ (c 179 w.toNatClampNeg).toInt % 256 = 255) ∨ (0 ≤ r1.toInt ∧ r1.toInt ≤ 29 ∧ ¬ (c 179 w.toNatClampNeg).toInt % 256 = 255 ∧ r1.toInt = (c 179 w.toNatClampNeg).toInt / 8 % 32)) := hw1
  refine lv_istore_n (lv' := [(2, .int r1), (0, .ref (a 184)), (1, .int w)]) hx hb dX0_isAnothers_8 rfl hl (by decide) rfl (fun ls hl => ?_)
  refine lv_iconst (v := 0) hx hb dX0_isAnothers_9 (by decide) ?_
  refine lv_istore_n (lv' := [(3, .int 0), (2, .int r1), (0, .ref (a 184)), (1, .int w)]) hx hb dX0_isAnothers_10 rfl hl (by decide) rfl (fun ls hl => ?_)
  have lp2 : ∀ (fu : Nat) (y2_3 : Int32) (y2_2 : Int32), (0 ≤ y2_3.toInt ∧ y2_3.toInt ≤ 30) → (y2_2.toInt = -9 ∨ (0 ≤ y2_2.toInt ∧ y2_2.toInt ≤ 29)) → (30 - y2_3.toInt).toNat < fu → ∀ (H : Heap) (locs : List Loc) (ls : Array Slot), va_P D vwCl (xwS sk a t i q c d) H → va_S (ro s.heap.size) s.heap H locs → lv_has ls 4 [(3, .int y2_3), (2, .int y2_2), (0, .ref (a 184)), (1, .int w)] → W p l e (headSpec wm_X0_isAnothers_SA ({ frames := 1, cells := 0, slots := 0, locals := 22 })).room s m ([.ref (a 184), .int w] : List Value).toArray below meth cd H locs 0 0 (MQ below (va_Qi (fun (r : Int32) (_ : Unit) => (0 ≤ r.toInt ∧ r.toInt ≤ 1)) oA (ro s.heap.size)) ([.ref (a 184), .int w] : List Value).toArray s 0 0 (ro s.heap.size)) (F0 m 11 ls []) := by
    intro fu
    induction fu with
    | zero => intro y2_3 y2_2 hy2_3 hy2_2 hm; exact absurd hm (Nat.not_lt_zero _)
    | succ fu ih =>
      intro y2_3 y2_2 hy2_3 hy2_2 hm H locs ls hP hS hl
      have ih2 := ih
      refine lv_iload_n hx hb dX0_isAnothers_11 rfl (lv_at hl 0 rfl) ?_
      refine lv_bipush (v := 30) hx hb dX0_isAnothers_12 (by decide) ?_
      refine lv_icmp_ge (tgt := 60) hx hb dX0_isAnothers_14 (by decide) (fun c3 => ?_) (fun c3 => ?_)
      · have f3 := (ti_le (a := 30) (b := y2_3.toInt) (by decide) rfl).mp c3
        refine lv_iconst (v := 0) hx hb dX0_isAnothers_60 (by decide) ?_
        exact ro_zret hx hb hr hlocks hS rfl dX0_isAnothers_61 (show 0 ≤ (0 : Int32).toInt ∧ (0 : Int32).toInt ≤ 1 from by have h9 : (0 : Int32).toInt = 0 := (by decide); omega)
      · have f3 := mt (ti_le (a := 30) (b := y2_3.toInt) (by decide) rfl).mpr c3
        refine lv_iload_n hx hb dX0_isAnothers_17 rfl (lv_at hl 1 rfl) ?_
        refine lv_bipush (v := (-9)) hx hb dX0_isAnothers_18 (by decide) ?_
        refine lv_icmp_eq (tgt := 60) hx hb dX0_isAnothers_20 (by decide) (fun c4 => ?_) (fun c4 => ?_)
        · have f4 := (ti_eq (a := y2_2.toInt) (b := (-9)) rfl (by decide)).mp c4
          refine lv_iconst (v := 0) hx hb dX0_isAnothers_60 (by decide) ?_
          exact ro_zret hx hb hr hlocks hS rfl dX0_isAnothers_61 (show 0 ≤ (0 : Int32).toInt ∧ (0 : Int32).toInt ≤ 1 from by have h9 : (0 : Int32).toInt = 0 := (by decide); omega)
        · have f4 := mt (ti_eq (a := y2_2.toInt) (b := (-9)) rfl (by decide)).mpr c4
          refine lv_iload_n hx hb dX0_isAnothers_23 rfl (lv_at hl 1 rfl) ?_
          refine lv_aload_n hx hb dX0_isAnothers_24 rfl (lv_at hl 2 rfl) ?_
          refine xgS_SA_player (v := (i 185)) rfl hx hb hts (fun _ h => List.mem_cons_of_mem _ (List.mem_append_left _ (List.mem_append_left _ (List.mem_append_right _ h)))) hown hK hP (hts (.fieldLink RX0 38 "TalePlay$Acts" "player" "I") (by decide +kernel)) dX0_isAnothers_25 ?_
          have rb185_i : (i 185).toInt = -9 ∨ (0 ≤ (i 185).toInt ∧ (i 185).toInt ≤ 29) := hI.1 185
          have jn5 : ∀ (H : Heap) (locs : List Loc) (ls : Array Slot), va_P D vwCl (xwS sk a t i q c d) H → va_S (ro s.heap.size) s.heap H locs → lv_has ls 4 [(3, .int y2_3), (2, .int y2_2), (0, .ref (a 184)), (1, .int w)] → W p l e (headSpec wm_X0_isAnothers_SA ({ frames := 1, cells := 0, slots := 0, locals := 22 })).room s m ([.ref (a 184), .int w] : List Value).toArray below meth cd H locs 0 0 (MQ below (va_Qi (fun (r : Int32) (_ : Unit) => (0 ≤ r.toInt ∧ r.toInt ≤ 1)) oA (ro s.heap.size)) ([.ref (a 184), .int w] : List Value).toArray s 0 0 (ro s.heap.size)) (F0 m 45 ls []) := by
            intro H locs ls hP hS hl
            refine lv_aload_n hx hb dX0_isAnothers_45 rfl (lv_at hl 2 rfl) ?_
            refine xgS_SA_scene hx hb hts (fun _ h => List.mem_cons_of_mem _ (List.mem_append_left _ (List.mem_append_left _ (List.mem_append_right _ h)))) hown hK hP (hts (.fieldLink RX0 33 "TalePlay$Acts" "scene" "LTalePlay$Scene;") (by decide +kernel)) dX0_isAnothers_46 ?_
            refine lv_iload_n hx hb dX0_isAnothers_49 rfl (lv_at hl 1 rfl) ?_
            refine ro_calli (va_runV (As := [.int y2_2]) (rest := []) ⟨hx, hb, hml, hown, hts⟩ (x_X6_holderOf_SS l D H.size .null a t i q c d y2_2 hI (show 0 ≤ y2_2.toInt ∧ y2_2.toInt ≤ 29 from by omega)) (cwV 1 hts gm_X0_isAnothers_SA_X6_holderOf_SS_83 rfl rfl rfl (by decide +kernel) ⟨Nat.le_of_ble_eq_true rfl, Nat.le_of_ble_eq_true rfl⟩) (yA_V hN (xZ_k hZ hS hA) (xkS_P2 hK) (xuS_P2 (sk := sk) hP) (ci := 6) (q0 := 0) rfl rfl) rfl rfl hl.1 rfl (lv_room (Nat.le_of_ble_eq_true rfl)) dX0_isAnothers_50 ⟨Nat.le_of_ble_eq_true rfl, Nat.le_of_ble_eq_true rfl⟩) hS hA hP (fun r6 u6 H locs hw6 hP hS => ?_)
            have hw6 : ((r6.toInt = -9 ∧ (c 179 y2_2.toNatClampNeg).toInt % 256 = 255) ∨ (0 ≤ r6.toInt ∧ r6.toInt ≤ 29 ∧ ¬ (c 179 y2_2.toNatClampNeg).toInt % 256 = 255 ∧ r6.toInt = (c 179 y2_2.toNatClampNeg).toInt / 8 % 32)) := hw6
            refine lv_istore_n (lv' := [(2, .int r6), (3, .int y2_3), (0, .ref (a 184)), (1, .int w)]) hx hb dX0_isAnothers_53 rfl hl (by decide) rfl (fun ls hl => ?_)
            obtain ⟨x7, ex7⟩ : ∃ y : Int32, y = y2_3 + 1 := ⟨_, rfl⟩
            have tx7 := ti_add (a := y2_3.toInt) (b := 1) ex7 rfl (by decide) (by omega) (by omega)
            refine lv_iinc (v := x7) (lv' := [(3, .int x7), (2, .int r6), (0, .ref (a 184)), (1, .int w)]) hx hb dX0_isAnothers_54 hl (k := 1) rfl (by rw [ex7]; rfl) (by decide) rfl (fun ls hl => ?_)
            refine lv_goto (tgt := 11) hx hb dX0_isAnothers_57 (by decide) ?_
            exact ih2 x7 r6 (show 0 ≤ x7.toInt ∧ x7.toInt ≤ 30 from by have h50 : x7.toInt = (y2_3.toInt + 1) := tx7; omega) (show r6.toInt = -9 ∨ (0 ≤ r6.toInt ∧ r6.toInt ≤ 29) from by have h50 : x7.toInt = (y2_3.toInt + 1) := tx7; omega) (by have h50 : x7.toInt = (y2_3.toInt + 1) := tx7; omega) _ _ _ hP hS (lv_sub hl [0, 1, 2, 3] rfl)
          refine lv_icmp_eq (tgt := 45) hx hb dX0_isAnothers_28 (by decide) (fun c8 => ?_) (fun c8 => ?_)
          · have f8 := (ti_eq (a := y2_2.toInt) (b := (i 185).toInt) rfl rfl).mp c8
            exact jn5    _ _ _ hP hS (lv_sub hl [0, 1, 2, 3] rfl)
          · have f8 := mt (ti_eq (a := y2_2.toInt) (b := (i 185).toInt) rfl rfl).mpr c8
            refine lv_aload_n hx hb dX0_isAnothers_31 rfl (lv_at hl 2 rfl) ?_
            refine xgS_SA_world hx hb hts (fun _ h => List.mem_cons_of_mem _ (List.mem_append_left _ (List.mem_append_left _ (List.mem_append_right _ h)))) hown hK hP (hts (.fieldLink RX0 9 "TalePlay$Acts" "world" "LTalePlay$World;") (by decide +kernel)) dX0_isAnothers_32 ?_
            refine lv_iload_n hx hb dX0_isAnothers_35 rfl (lv_at hl 1 rfl) ?_
            have rb111_i : 0 ≤ (i 111).toInt ∧ (i 111).toInt ≤ 30 := hI.1 111
            refine ro_calli (va_runV (As := [.int y2_2]) (rest := []) ⟨hx, hb, hml, hown, hts⟩ (x_X10_sortOf l D H.size .null a t i q c d y2_2 hI ) (cwV 1 hts gm_X0_isAnothers_SA_X10_sortOf_86 rfl rfl rfl (by decide +kernel) ⟨Nat.le_of_ble_eq_true rfl, Nat.le_of_ble_eq_true rfl⟩) (yA_V hN (xZ_k hZ hS hA) (xkS_W hK) (xuS_W (sk := sk) hP) (ci := 10) (q0 := 0) rfl rfl) rfl rfl hl.1 rfl (lv_room (Nat.le_of_ble_eq_true rfl)) dX0_isAnothers_36 ⟨Nat.le_of_ble_eq_true rfl, Nat.le_of_ble_eq_true rfl⟩) hS hA hP (fun r9 u9 H locs hw9 hP hS => ?_)
            have hw9 : ((r9.toInt = -9 ∧ ¬ (0 ≤ y2_2.toInt ∧ y2_2.toInt < (i 111).toInt)) ∨ (0 ≤ r9.toInt ∧ r9.toInt ≤ 5 ∧ 0 ≤ y2_2.toInt ∧ y2_2.toInt < (i 111).toInt)) := hw9
            refine lv_iconst (v := 5) hx hb dX0_isAnothers_39 (by decide) ?_
            refine lv_icmp_ne (tgt := 45) hx hb dX0_isAnothers_40 (by decide) (fun c10 => ?_) (fun c10 => ?_)
            · have f10 := mt (ti_eq (a := r9.toInt) (b := 5) rfl (by decide)).mpr c10
              exact jn5    _ _ _ hP hS (lv_sub hl [0, 1, 2, 3] rfl)
            · have f10 := (ti_eq (a := r9.toInt) (b := 5) rfl (by decide)).mp c10
              refine lv_iconst (v := 1) hx hb dX0_isAnothers_43 (by decide) ?_
              exact ro_zret hx hb hr hlocks hS rfl dX0_isAnothers_44 (show 0 ≤ (1 : Int32).toInt ∧ (1 : Int32).toInt ≤ 1 from by have h9 : (1 : Int32).toInt = 1 := (by decide); omega)
  exact lp2 _ (0 : Int32) r1 (show 0 ≤ (0 : Int32).toInt ∧ (0 : Int32).toInt ≤ 30 from by have h50 : (0 : Int32).toInt = 0 := (by decide); omega) (show r1.toInt = -9 ∨ (0 ≤ r1.toInt ∧ r1.toInt ≤ 29) from by have h50 : (0 : Int32).toInt = 0 := (by decide); omega) (Nat.lt_succ_self _) _ _ _ hP hS (lv_sub hl [0, 1, 2, 3] rfl)

def wm_X0_reasonToPut_SA : List Cond := .code yX0_reasonToPut cX0_reasonToPut 4 (some .int) :: (([.fieldLink RX0 34 "TalePlay$Acts" "sight" "LTalePlay$Sight;", .fieldLink RX0 108 "TalePlay$Sight" "seen" "[Z", .fieldLink RX0 9 "TalePlay$Acts" "world" "LTalePlay$World;", .methodLink RX0 86 yX10_sortOf, .instanceMethod yX10_sortOf, .selects RX10 yX10_sortOf yX10_sortOf, .initialized RX10, .code yX10_sortOf cX10_sortOf 2 (some .int), .fieldLink RX10 37 "TalePlay$World" "objects" "I", .fieldLink RX10 15 "TalePlay$World" "sorts" "[I", .fieldLink RX10 21 "TalePlay$World" "kindOf" "[I", .fieldLink RX0 33 "TalePlay$Acts" "scene" "LTalePlay$Scene;", .methodLink RX0 112 yX6_isUp, .instanceMethod yX6_isUp, .selects RX6 yX6_isUp yX6_isUp, .initialized RX6, .code yX6_isUp cX6_isUp 5 (some .boolean), .methodLink RX6 25 yX6_holderOf, .instanceMethod yX6_holderOf, .selects RX6 yX6_holderOf yX6_holderOf, .code yX6_holderOf cX6_holderOf 3 (some .int), .fieldLink RX6 9 "TalePlay$Scene" "cells" "[I", .fieldLink RX0 118 "TalePlay$Sight" "reached" "[Z", .methodLink RX0 134 yX6_countOf, .instanceMethod yX6_countOf, .selects RX6 yX6_countOf yX6_countOf, .code yX6_countOf cX6_countOf 5 (some .int), .fieldLink RX6 15 "TalePlay$Scene" "world" "LTalePlay$World;", .fieldLink RX6 34 "TalePlay$World" "objects" "I", .methodLink RX6 38 yX6_lies, .instanceMethod yX6_lies, .selects RX6 yX6_lies yX6_lies, .code yX6_lies cX6_lies 4 (some .boolean), .methodLink RX0 104 yX6_has, .instanceMethod yX6_has, .selects RX6 yX6_has yX6_has, .code yX6_has cX6_has 3 (some .boolean)] : List Cond) ++ wsX00 ++ wsX80 ++ wsX100 ++ wsX60)
set_option maxRecDepth 20000 in
theorem gm_X0_reasonToPut_SA_X10_sortOf_86 : GoodIn wm_X0_reasonToPut_SA (wsV RX0 86 RX10 yX10_sortOf wm_X10_sortOf) := goodIn_app (goodIn_of _ (by decide +kernel)) (goodIn_r _ [8, 9, 10, 11, 51, 52, 53, 54, 55, 56, 57] rfl (by decide +kernel))
set_option maxRecDepth 20000 in
theorem gm_X0_reasonToPut_SA_X6_isUp_SS_112 : GoodIn wm_X0_reasonToPut_SA (wsV RX0 112 RX6 yX6_isUp wm_X6_isUp_SS) := goodIn_app (goodIn_of _ (by decide +kernel)) (goodIn_r _ [17, 18, 19, 20, 16, 21, 22, 58, 59] rfl (by decide +kernel))
set_option maxRecDepth 20000 in
theorem gm_X0_reasonToPut_SA_X6_countOf_SS_134 : GoodIn wm_X0_reasonToPut_SA (wsV RX0 134 RX6 yX6_countOf wm_X6_countOf_SS) := goodIn_app (goodIn_of _ (by decide +kernel)) (goodIn_r _ [27, 28, 29, 30, 31, 32, 16, 33, 22, 58, 59, 51, 52, 53, 54, 55, 56, 57] rfl (by decide +kernel))
set_option maxRecDepth 20000 in
theorem gm_X0_reasonToPut_SA_X6_has_SS_104 : GoodIn wm_X0_reasonToPut_SA (wsV RX0 104 RX6 yX6_has wm_X6_has_SS) := goodIn_app (goodIn_of _ (by decide +kernel)) (goodIn_r _ [37, 22, 58, 59] rfl (by decide +kernel))
set_option maxHeartbeats 4000000 in
set_option maxRecDepth 100000 in
theorem x_X0_reasonToPut_SA (l : Launch) (D : va_G) (sz : Nat) (sk : Value) (a : Nat → Nat) (t : Nat → ClassId) (i : Nat → Int32) (q : Int64) (c : Nat → Nat → Int32) (d : Nat → Nat → Int64) (w1 : Int32) (f : Int32) (w2 : Int32) (hI : xInv i c) (hw1 : 0 ≤ w1.toInt ∧ w1.toInt ≤ 29) (hw2 : 0 ≤ w2.toInt ∧ w2.toInt ≤ 29) : Met l yX0_reasonToPut wm_X0_reasonToPut_SA ({ frames := 2, cells := 0, slots := 0, locals := 47 }) (va_Pc [.ref (a 184), .int w1, .int f, .int w2] (yA (a 186) D sz (xwS sk a t i q c d) (xtS t))) (va_Qi (fun (r : Int32) (_ : Unit) => (0 ≤ r.toInt ∧ r.toInt ≤ 14)) oA (ro sz)) 0 0 (ro sz) := by
  refine Met.ofW (cc := cX0_reasonToPut) (maxL := 4) (ret := (some .int)) (by decide) rfl ?_
  intro p e s m args below meth cd s₁ B hml hv
  obtain ⟨rfl, ⟨hsz, hP, hK⟩, hN, hZ⟩ := hv
  have hx := B.exec
  have hb := B.bytes
  have hr := B.returns
  have hts := atoms_spec (ws := wm_X0_reasonToPut_SA) B.pre
  have hown : s.vm.findClass RX0 = some m.cls := findClass_of_methodNamed B.named
  have hlocks := B.notSynchronized
  subst hsz
  have hA : ∀ q : Nat, s.heap.size ≤ q → ro s.heap.size q := fun _ h => h
  have hS : va_S (ro s.heap.size) s.heap s.heap [] := va_S.rf
  have hl := lv_entry ([.ref (a 184), .int w1, .int f, .int w2]) (n := 4) (Nat.le_of_ble_eq_true rfl)
  rw [lg_entry_eq]
  generalize (lg_sl ([.ref (a 184), .int w1, .int f, .int w2]) ++ List.replicate (4 - (lg_sl ([.ref (a 184), .int w1, .int f, .int w2])).length) Slot.unset).toArray = ls at hl ⊢
  have hl : lv_has ls 4 [(0, .ref (a 184)), (1, .int w1), (2, .int f), (3, .int w2)] := hl
  refine lv_aload_n hx hb dX0_reasonToPut_0 rfl (lv_at hl 0 rfl) ?_
  refine xgS_SA_sight hx hb hts (fun _ h => List.mem_cons_of_mem _ (List.mem_append_left _ (List.mem_append_left _ (List.mem_append_left _ (List.mem_append_right _ h))))) hown hK hP (hts (.fieldLink RX0 34 "TalePlay$Acts" "sight" "LTalePlay$Sight;") (by decide +kernel)) dX0_reasonToPut_1 ?_
  refine xgS_SG_seen hx hb hts (fun _ h => List.mem_cons_of_mem _ (List.mem_append_left _ (List.mem_append_left _ (List.mem_append_right _ h)))) hown hK hP (hts (.fieldLink RX0 108 "TalePlay$Sight" "seen" "[Z") (by decide +kernel)) dX0_reasonToPut_4 ?_
  refine lv_iload_n hx hb dX0_reasonToPut_7 rfl (lv_at hl 3 rfl) ?_
  refine xlS_181 hx hb hK hP (vp_in_iff.mpr (by have h9 : w2.toInt = w2.toInt := rfl; omega)) dX0_reasonToPut_8 (fun x1 ex1 => ?_)
  have rx1 : 0 ≤ x1.toInt ∧ x1.toInt ≤ 1 := by rw [ex1]; exact hI.2 181 _
  refine lv_if_ne (tgt := 14) hx hb dX0_reasonToPut_9 (by decide) (fun c2 => ?_) (fun c2 => ?_)
  · have f2 := mt (ti_eq (a := x1.toInt) (b := 0) rfl (by decide)).mpr c2
    refine lv_aload_n hx hb dX0_reasonToPut_14 rfl (lv_at hl 0 rfl) ?_
    refine xgS_SA_world hx hb hts (fun _ h => List.mem_cons_of_mem _ (List.mem_append_left _ (List.mem_append_left _ (List.mem_append_left _ (List.mem_append_right _ h))))) hown hK hP (hts (.fieldLink RX0 9 "TalePlay$Acts" "world" "LTalePlay$World;") (by decide +kernel)) dX0_reasonToPut_15 ?_
    refine lv_iload_n hx hb dX0_reasonToPut_18 rfl (lv_at hl 3 rfl) ?_
    have rb111_i : 0 ≤ (i 111).toInt ∧ (i 111).toInt ≤ 30 := hI.1 111
    refine ro_calli (va_runV (As := [.int w2]) (rest := []) ⟨hx, hb, hml, hown, hts⟩ (x_X10_sortOf l D s.heap.size .null a t i q c d w2 hI ) (cwV 1 hts gm_X0_reasonToPut_SA_X10_sortOf_86 rfl rfl rfl (by decide +kernel) ⟨Nat.le_of_ble_eq_true rfl, Nat.le_of_ble_eq_true rfl⟩) (yA_V hN (xZ_k hZ hS hA) (xkS_W hK) (xuS_W (sk := sk) hP) (ci := 10) (q0 := 0) rfl rfl) rfl rfl hl.1 rfl (lv_room (Nat.le_of_ble_eq_true rfl)) dX0_reasonToPut_19 ⟨Nat.le_of_ble_eq_true rfl, Nat.le_of_ble_eq_true rfl⟩) hS hA hP (fun r3 u3 H locs hw3 hP hS => ?_)
    have hw3 : ((r3.toInt = -9 ∧ ¬ (0 ≤ w2.toInt ∧ w2.toInt < (i 111).toInt)) ∨ (0 ≤ r3.toInt ∧ r3.toInt ≤ 5 ∧ 0 ≤ w2.toInt ∧ w2.toInt < (i 111).toInt)) := hw3
    refine lv_iload_n hx hb dX0_reasonToPut_22 rfl (lv_at hl 2 rfl) ?_
    have jn4 : ∀ (z4_0 : Int32), (z4_0.toInt = 3 ∨ z4_0.toInt = 4) → ∀ (H : Heap) (locs : List Loc) (ls : Array Slot), va_P D vwCl (xwS sk a t i q c d) H → va_S (ro s.heap.size) s.heap H locs → lv_has ls 4 [(0, .ref (a 184)), (1, .int w1), (2, .int f), (3, .int w2)] → W p l e (headSpec wm_X0_reasonToPut_SA ({ frames := 2, cells := 0, slots := 0, locals := 47 })).room s m ([.ref (a 184), .int w1, .int f, .int w2] : List Value).toArray below meth cd H locs 0 0 (MQ below (va_Qi (fun (r : Int32) (_ : Unit) => (0 ≤ r.toInt ∧ r.toInt ≤ 14)) oA (ro s.heap.size)) ([.ref (a 184), .int w1, .int f, .int w2] : List Value).toArray s 0 0 (ro s.heap.size)) (F0 m 31 ls [.int z4_0, .int r3]) := by
      intro z4_0 hs4_0 H locs ls hP hS hl
      refine lv_icmp_eq (tgt := 37) hx hb dX0_reasonToPut_31 (by decide) (fun c5 => ?_) (fun c5 => ?_)
      · have f5 := (ti_eq (a := r3.toInt) (b := z4_0.toInt) rfl rfl).mp c5
        refine lv_iload_n hx hb dX0_reasonToPut_37 rfl (lv_at hl 3 rfl) ?_
        refine lv_iload_n hx hb dX0_reasonToPut_38 rfl (lv_at hl 1 rfl) ?_
        refine lv_icmp_eq (tgt := 54) hx hb dX0_reasonToPut_39 (by decide) (fun c6 => ?_) (fun c6 => ?_)
        · have f6 := (ti_eq (a := w2.toInt) (b := w1.toInt) rfl rfl).mp c6
          refine lv_bipush (v := 13) hx hb dX0_reasonToPut_54 (by decide) ?_
          exact ro_iret hx hb hr hlocks hS dX0_reasonToPut_56 (show 0 ≤ (13 : Int32).toInt ∧ (13 : Int32).toInt ≤ 14 from by have h9 : (13 : Int32).toInt = 13 := (by decide); omega)
        · have f6 := mt (ti_eq (a := w2.toInt) (b := w1.toInt) rfl rfl).mpr c6
          refine lv_aload_n hx hb dX0_reasonToPut_42 rfl (lv_at hl 0 rfl) ?_
          refine xgS_SA_scene hx hb hts (fun _ h => List.mem_cons_of_mem _ (List.mem_append_left _ (List.mem_append_left _ (List.mem_append_left _ (List.mem_append_right _ h))))) hown hK hP (hts (.fieldLink RX0 33 "TalePlay$Acts" "scene" "LTalePlay$Scene;") (by decide +kernel)) dX0_reasonToPut_43 ?_
          refine lv_iload_n hx hb dX0_reasonToPut_46 rfl (lv_at hl 1 rfl) ?_
          refine lv_iload_n hx hb dX0_reasonToPut_47 rfl (lv_at hl 3 rfl) ?_
          refine ro_calli (va_runV (As := [.int w1, .int w2]) (rest := []) ⟨hx, hb, hml, hown, hts⟩ (x_X6_isUp_SS l D H.size .null a t i q c d w1 w2 hI (show 0 ≤ w2.toInt ∧ w2.toInt ≤ 29 from by omega)) (cwV 2 hts gm_X0_reasonToPut_SA_X6_isUp_SS_112 rfl rfl rfl (by decide +kernel) ⟨Nat.le_of_ble_eq_true rfl, Nat.le_of_ble_eq_true rfl⟩) (yA_V hN (xZ_k hZ hS hA) (xkS_P2 hK) (xuS_P2 (sk := sk) hP) (ci := 6) (q0 := 0) rfl rfl) rfl rfl hl.1 rfl (lv_room (Nat.le_of_ble_eq_true rfl)) dX0_reasonToPut_48 ⟨Nat.le_of_ble_eq_true rfl, Nat.le_of_ble_eq_true rfl⟩) hS hA hP (fun r7 u7 H locs hw7 hP hS => ?_)
          have hw7 : (0 ≤ r7.toInt ∧ r7.toInt ≤ 1) := hw7
          refine lv_if_eq (tgt := 57) hx hb dX0_reasonToPut_51 (by decide) (fun c8 => ?_) (fun c8 => ?_)
          · have f8 := (ti_eq (a := r7.toInt) (b := 0) rfl (by decide)).mp c8
            refine lv_iload_n hx hb dX0_reasonToPut_57 rfl (lv_at hl 2 rfl) ?_
            have jn9 : ∀ (H : Heap) (locs : List Loc) (ls : Array Slot), va_P D vwCl (xwS sk a t i q c d) H → va_S (ro s.heap.size) s.heap H locs → lv_has ls 4 [(0, .ref (a 184)), (1, .int w1), (2, .int f), (3, .int w2)] → W p l e (headSpec wm_X0_reasonToPut_SA ({ frames := 2, cells := 0, slots := 0, locals := 47 })).room s m ([.ref (a 184), .int w1, .int f, .int w2] : List Value).toArray below meth cd H locs 0 0 (MQ below (va_Qi (fun (r : Int32) (_ : Unit) => (0 ≤ r.toInt ∧ r.toInt ≤ 14)) oA (ro s.heap.size)) ([.ref (a 184), .int w1, .int f, .int w2] : List Value).toArray s 0 0 (ro s.heap.size)) (F0 m 75 ls []) := by
              intro H locs ls hP hS hl
              refine lv_aload_n hx hb dX0_reasonToPut_75 rfl (lv_at hl 0 rfl) ?_
              refine xgS_SA_sight hx hb hts (fun _ h => List.mem_cons_of_mem _ (List.mem_append_left _ (List.mem_append_left _ (List.mem_append_left _ (List.mem_append_right _ h))))) hown hK hP (hts (.fieldLink RX0 34 "TalePlay$Acts" "sight" "LTalePlay$Sight;") (by decide +kernel)) dX0_reasonToPut_76 ?_
              refine xgS_SG_reached hx hb hts (fun _ h => List.mem_cons_of_mem _ (List.mem_append_left _ (List.mem_append_left _ (List.mem_append_right _ h)))) hown hK hP (hts (.fieldLink RX0 118 "TalePlay$Sight" "reached" "[Z") (by decide +kernel)) dX0_reasonToPut_79 ?_
              refine lv_iload_n hx hb dX0_reasonToPut_82 rfl (lv_at hl 3 rfl) ?_
              refine xlS_182 hx hb hK hP (vp_in_iff.mpr (by have h9 : w2.toInt = w2.toInt := rfl; omega)) dX0_reasonToPut_83 (fun x10 ex10 => ?_)
              have rx10 : 0 ≤ x10.toInt ∧ x10.toInt ≤ 1 := by rw [ex10]; exact hI.2 182 _
              refine lv_if_ne (tgt := 90) hx hb dX0_reasonToPut_84 (by decide) (fun c11 => ?_) (fun c11 => ?_)
              · have f11 := mt (ti_eq (a := x10.toInt) (b := 0) rfl (by decide)).mpr c11
                refine lv_aload_n hx hb dX0_reasonToPut_90 rfl (lv_at hl 0 rfl) ?_
                refine xgS_SA_scene hx hb hts (fun _ h => List.mem_cons_of_mem _ (List.mem_append_left _ (List.mem_append_left _ (List.mem_append_left _ (List.mem_append_right _ h))))) hown hK hP (hts (.fieldLink RX0 33 "TalePlay$Acts" "scene" "LTalePlay$Scene;") (by decide +kernel)) dX0_reasonToPut_91 ?_
                refine lv_iload_n hx hb dX0_reasonToPut_94 rfl (lv_at hl 2 rfl) ?_
                refine lv_iload_n hx hb dX0_reasonToPut_95 rfl (lv_at hl 3 rfl) ?_
                refine ro_calli (va_runV (As := [.int f, .int w2]) (rest := []) ⟨hx, hb, hml, hown, hts⟩ (x_X6_countOf_SS l D H.size .null a t i q c d f w2 hI ) (cwV 2 hts gm_X0_reasonToPut_SA_X6_countOf_SS_134 rfl rfl rfl (by decide +kernel) ⟨Nat.le_of_ble_eq_true rfl, Nat.le_of_ble_eq_true rfl⟩) (yA_V hN (xZ_k hZ hS hA) (xkS_Q2 hK) (xuS_Q2 (sk := sk) hP) (ci := 6) (q0 := 0) rfl rfl) rfl rfl hl.1 rfl (lv_room (Nat.le_of_ble_eq_true rfl)) dX0_reasonToPut_96 ⟨Nat.le_of_ble_eq_true rfl, Nat.le_of_ble_eq_true rfl⟩) hS hA hP (fun r12 u12 H locs hw12 hP hS => ?_)
                have hw12 : (0 ≤ r12.toInt ∧ r12.toInt ≤ 30) := hw12
                refine lv_bipush (v := 8) hx hb dX0_reasonToPut_99 (by decide) ?_
                refine lv_icmp_lt (tgt := 109) hx hb dX0_reasonToPut_101 (by decide) (fun c13 => ?_) (fun c13 => ?_)
                · have f13 := (ti_lt (a := r12.toInt) (b := 8) rfl (by decide)).mp c13
                  refine lv_iconst (v := 0) hx hb dX0_reasonToPut_109 (by decide) ?_
                  exact ro_iret hx hb hr hlocks hS dX0_reasonToPut_110 (show 0 ≤ (0 : Int32).toInt ∧ (0 : Int32).toInt ≤ 14 from by have h9 : (0 : Int32).toInt = 0 := (by decide); omega)
                · have f13 := mt (ti_lt (a := r12.toInt) (b := 8) rfl (by decide)).mpr c13
                  refine lv_bipush (v := 14) hx hb dX0_reasonToPut_104 (by decide) ?_
                  refine lv_goto (tgt := 110) hx hb dX0_reasonToPut_106 (by decide) ?_
                  exact ro_iret hx hb hr hlocks hS dX0_reasonToPut_110 (show 0 ≤ (14 : Int32).toInt ∧ (14 : Int32).toInt ≤ 14 from by have h9 : (14 : Int32).toInt = 14 := (by decide); omega)
              · have f11 := (ti_eq (a := x10.toInt) (b := 0) rfl (by decide)).mp c11
                refine lv_bipush (v := 8) hx hb dX0_reasonToPut_87 (by decide) ?_
                exact ro_iret hx hb hr hlocks hS dX0_reasonToPut_89 (show 0 ≤ (8 : Int32).toInt ∧ (8 : Int32).toInt ≤ 14 from by have h9 : (8 : Int32).toInt = 8 := (by decide); omega)
            refine lv_if_ne (tgt := 75) hx hb dX0_reasonToPut_58 (by decide) (fun c14 => ?_) (fun c14 => ?_)
            · have f14 := mt (ti_eq (a := f.toInt) (b := 0) rfl (by decide)).mpr c14
              exact jn9    _ _ _ hP hS (lv_sub hl [0, 1, 2, 3] rfl)
            · have f14 := (ti_eq (a := f.toInt) (b := 0) rfl (by decide)).mp c14
              refine lv_aload_n hx hb dX0_reasonToPut_61 rfl (lv_at hl 0 rfl) ?_
              refine xgS_SA_scene hx hb hts (fun _ h => List.mem_cons_of_mem _ (List.mem_append_left _ (List.mem_append_left _ (List.mem_append_left _ (List.mem_append_right _ h))))) hown hK hP (hts (.fieldLink RX0 33 "TalePlay$Acts" "scene" "LTalePlay$Scene;") (by decide +kernel)) dX0_reasonToPut_62 ?_
              refine lv_iload_n hx hb dX0_reasonToPut_65 rfl (lv_at hl 3 rfl) ?_
              refine lv_iconst (v := 0) hx hb dX0_reasonToPut_66 (by decide) ?_
              refine ro_calli (va_runV (As := [.int w2, .int 0]) (rest := []) ⟨hx, hb, hml, hown, hts⟩ (x_X6_has_SS l D H.size .null a t i q c d w2 0 hI (show 0 ≤ w2.toInt ∧ w2.toInt ≤ 29 from by have h91 : (0 : Int32).toInt = 0 := (by decide); omega) (show 0 ≤ 0 ∧ 0 ≤ 5 from by have h91 : (0 : Int32).toInt = 0 := (by decide); omega)) (cwV 2 hts gm_X0_reasonToPut_SA_X6_has_SS_104 rfl rfl rfl (by decide +kernel) ⟨Nat.le_of_ble_eq_true rfl, Nat.le_of_ble_eq_true rfl⟩) (yA_V hN (xZ_k hZ hS hA) (xkS_P2 hK) (xuS_P2 (sk := sk) hP) (ci := 6) (q0 := 0) rfl rfl) rfl rfl hl.1 rfl (lv_room (Nat.le_of_ble_eq_true rfl)) dX0_reasonToPut_67 ⟨Nat.le_of_ble_eq_true rfl, Nat.le_of_ble_eq_true rfl⟩) hS hA hP (fun r15 u15 H locs hw15 hP hS => ?_)
              have hw15 : (0 ≤ r15.toInt ∧ r15.toInt ≤ 1) := hw15
              refine lv_if_ne (tgt := 75) hx hb dX0_reasonToPut_70 (by decide) (fun c16 => ?_) (fun c16 => ?_)
              · have f16 := mt (ti_eq (a := r15.toInt) (b := 0) rfl (by decide)).mpr c16
                exact jn9    _ _ _ hP hS (lv_sub hl [0, 1, 2, 3] rfl)
              · have f16 := (ti_eq (a := r15.toInt) (b := 0) rfl (by decide)).mp c16
                refine lv_iconst (v := 3) hx hb dX0_reasonToPut_73 (by decide) ?_
                exact ro_iret hx hb hr hlocks hS dX0_reasonToPut_74 (show 0 ≤ (3 : Int32).toInt ∧ (3 : Int32).toInt ≤ 14 from by have h9 : (3 : Int32).toInt = 3 := (by decide); omega)
          · have f8 := mt (ti_eq (a := r7.toInt) (b := 0) rfl (by decide)).mpr c8
            refine lv_bipush (v := 13) hx hb dX0_reasonToPut_54 (by decide) ?_
            exact ro_iret hx hb hr hlocks hS dX0_reasonToPut_56 (show 0 ≤ (13 : Int32).toInt ∧ (13 : Int32).toInt ≤ 14 from by have h9 : (13 : Int32).toInt = 13 := (by decide); omega)
      · have f5 := mt (ti_eq (a := r3.toInt) (b := z4_0.toInt) rfl rfl).mpr c5
        refine lv_bipush (v := 12) hx hb dX0_reasonToPut_34 (by decide) ?_
        exact ro_iret hx hb hr hlocks hS dX0_reasonToPut_36 (show 0 ≤ (12 : Int32).toInt ∧ (12 : Int32).toInt ≤ 14 from by have h9 : (12 : Int32).toInt = 12 := (by decide); omega)
    refine lv_if_ne (tgt := 30) hx hb dX0_reasonToPut_23 (by decide) (fun c17 => ?_) (fun c17 => ?_)
    · have f17 := mt (ti_eq (a := f.toInt) (b := 0) rfl (by decide)).mpr c17
      refine lv_iconst (v := 4) hx hb dX0_reasonToPut_30 (by decide) ?_
      exact jn4  (4 : Int32) (show (4 : Int32).toInt = 3 ∨ (4 : Int32).toInt = 4 from by have h54 : (4 : Int32).toInt = 4 := (by decide); omega) _ _ _ hP hS (lv_sub hl [0, 1, 2, 3] rfl)
    · have f17 := (ti_eq (a := f.toInt) (b := 0) rfl (by decide)).mp c17
      refine lv_iconst (v := 3) hx hb dX0_reasonToPut_26 (by decide) ?_
      refine lv_goto (tgt := 31) hx hb dX0_reasonToPut_27 (by decide) ?_
      exact jn4  (3 : Int32) (show (3 : Int32).toInt = 3 ∨ (3 : Int32).toInt = 4 from by have h54 : (3 : Int32).toInt = 3 := (by decide); omega) _ _ _ hP hS (lv_sub hl [0, 1, 2, 3] rfl)
  · have f2 := (ti_eq (a := x1.toInt) (b := 0) rfl (by decide)).mp c2
    refine lv_iconst (v := 4) hx hb dX0_reasonToPut_12 (by decide) ?_
    exact ro_iret hx hb hr hlocks hS dX0_reasonToPut_13 (show 0 ≤ (4 : Int32).toInt ∧ (4 : Int32).toInt ≤ 14 from by have h9 : (4 : Int32).toInt = 4 := (by decide); omega)

def wm_X0_reasonOfShutter_SA : List Cond := .code yX0_reasonOfShutter cX0_reasonOfShutter 4 (some .int) :: (([.fieldLink RX0 34 "TalePlay$Acts" "sight" "LTalePlay$Sight;", .fieldLink RX0 108 "TalePlay$Sight" "seen" "[Z", .fieldLink RX0 9 "TalePlay$Acts" "world" "LTalePlay$World;", .methodLink RX0 137 yX10_isShutter, .instanceMethod yX10_isShutter, .selects RX10 yX10_isShutter yX10_isShutter, .initialized RX10, .code yX10_isShutter cX10_isShutter 3 (some .boolean), .methodLink RX10 40 yX10_sortOf, .instanceMethod yX10_sortOf, .selects RX10 yX10_sortOf yX10_sortOf, .code yX10_sortOf cX10_sortOf 2 (some .int), .fieldLink RX10 37 "TalePlay$World" "objects" "I", .fieldLink RX10 15 "TalePlay$World" "sorts" "[I", .fieldLink RX10 21 "TalePlay$World" "kindOf" "[I", .fieldLink RX0 33 "TalePlay$Acts" "scene" "LTalePlay$Scene;", .methodLink RX0 104 yX6_has, .instanceMethod yX6_has, .selects RX6 yX6_has yX6_has, .initialized RX6, .code yX6_has cX6_has 3 (some .boolean), .fieldLink RX6 9 "TalePlay$Scene" "cells" "[I", .methodLink RX0 140 yX0_reasonOfLeaf, .static yX0_reasonOfLeaf, .initialized RX0, .code yX0_reasonOfLeaf cX0_reasonOfLeaf 3 (some .int), .fieldLink RX0 118 "TalePlay$Sight" "reached" "[Z"] : List Cond) ++ wsX00 ++ wsX80 ++ wsX100 ++ wsX60)
set_option maxRecDepth 20000 in
theorem gm_X0_reasonOfShutter_SA_X10_isShutter_137 : GoodIn wm_X0_reasonOfShutter_SA (wsV RX0 137 RX10 yX10_isShutter wm_X10_isShutter) := goodIn_app (goodIn_of _ (by decide +kernel)) (goodIn_r _ [8, 9, 10, 11, 7, 12, 13, 14, 15, 41, 42, 43, 44, 45, 46, 47] rfl (by decide +kernel))
set_option maxRecDepth 20000 in
theorem gm_X0_reasonOfShutter_SA_X6_has_SS_104 : GoodIn wm_X0_reasonOfShutter_SA (wsV RX0 104 RX6 yX6_has wm_X6_has_SS) := goodIn_app (goodIn_of _ (by decide +kernel)) (goodIn_r _ [21, 22, 48, 49] rfl (by decide +kernel))
set_option maxRecDepth 20000 in
theorem gm_X0_reasonOfShutter_SA_X0_reasonOfLeaf_140 : GoodIn wm_X0_reasonOfShutter_SA (va_wsS RX0 140 yX0_reasonOfLeaf wm_X0_reasonOfLeaf) := goodIn_app (goodIn_of _ (by decide +kernel)) (goodIn_r _ [26] rfl (by decide +kernel))
set_option maxHeartbeats 4000000 in
set_option maxRecDepth 100000 in
theorem x_X0_reasonOfShutter_SA (l : Launch) (D : va_G) (sz : Nat) (sk : Value) (a : Nat → Nat) (t : Nat → ClassId) (i : Nat → Int32) (q : Int64) (c : Nat → Nat → Int32) (d : Nat → Nat → Int64) (v1 : Int32) (w : Int32) (hI : xInv i c) (hw : 0 ≤ w.toInt ∧ w.toInt ≤ 29) : Met l yX0_reasonOfShutter wm_X0_reasonOfShutter_SA ({ frames := 2, cells := 0, slots := 0, locals := 43 }) (va_Pc [.ref (a 184), .int v1, .int w] (yA (a 186) D sz (xwS sk a t i q c d) (xtS t))) (va_Qi (fun (r : Int32) (_ : Unit) => True) oA (ro sz)) 0 0 (ro sz) := by
  refine Met.ofW (cc := cX0_reasonOfShutter) (maxL := 4) (ret := (some .int)) (by decide) rfl ?_
  intro p e s m args below meth cd s₁ B hml hv
  obtain ⟨rfl, ⟨hsz, hP, hK⟩, hN, hZ⟩ := hv
  have hx := B.exec
  have hb := B.bytes
  have hr := B.returns
  have hts := atoms_spec (ws := wm_X0_reasonOfShutter_SA) B.pre
  have hown : s.vm.findClass RX0 = some m.cls := findClass_of_methodNamed B.named
  have hlocks := B.notSynchronized
  subst hsz
  have hA : ∀ q : Nat, s.heap.size ≤ q → ro s.heap.size q := fun _ h => h
  have hS : va_S (ro s.heap.size) s.heap s.heap [] := va_S.rf
  have hl := lv_entry ([.ref (a 184), .int v1, .int w]) (n := 4) (Nat.le_of_ble_eq_true rfl)
  rw [lg_entry_eq]
  generalize (lg_sl ([.ref (a 184), .int v1, .int w]) ++ List.replicate (4 - (lg_sl ([.ref (a 184), .int v1, .int w])).length) Slot.unset).toArray = ls at hl ⊢
  have hl : lv_has ls 4 [(0, .ref (a 184)), (1, .int v1), (2, .int w)] := hl
  refine lv_aload_n hx hb dX0_reasonOfShutter_0 rfl (lv_at hl 0 rfl) ?_
  refine xgS_SA_sight hx hb hts (fun _ h => List.mem_cons_of_mem _ (List.mem_append_left _ (List.mem_append_left _ (List.mem_append_left _ (List.mem_append_right _ h))))) hown hK hP (hts (.fieldLink RX0 34 "TalePlay$Acts" "sight" "LTalePlay$Sight;") (by decide +kernel)) dX0_reasonOfShutter_1 ?_
  refine xgS_SG_seen hx hb hts (fun _ h => List.mem_cons_of_mem _ (List.mem_append_left _ (List.mem_append_left _ (List.mem_append_right _ h)))) hown hK hP (hts (.fieldLink RX0 108 "TalePlay$Sight" "seen" "[Z") (by decide +kernel)) dX0_reasonOfShutter_4 ?_
  refine lv_iload_n hx hb dX0_reasonOfShutter_7 rfl (lv_at hl 2 rfl) ?_
  refine xlS_181 hx hb hK hP (vp_in_iff.mpr (by have h9 : w.toInt = w.toInt := rfl; omega)) dX0_reasonOfShutter_8 (fun x1 ex1 => ?_)
  have rx1 : 0 ≤ x1.toInt ∧ x1.toInt ≤ 1 := by rw [ex1]; exact hI.2 181 _
  refine lv_if_ne (tgt := 14) hx hb dX0_reasonOfShutter_9 (by decide) (fun c2 => ?_) (fun c2 => ?_)
  · have f2 := mt (ti_eq (a := x1.toInt) (b := 0) rfl (by decide)).mpr c2
    refine lv_aload_n hx hb dX0_reasonOfShutter_14 rfl (lv_at hl 0 rfl) ?_
    refine xgS_SA_world hx hb hts (fun _ h => List.mem_cons_of_mem _ (List.mem_append_left _ (List.mem_append_left _ (List.mem_append_left _ (List.mem_append_right _ h))))) hown hK hP (hts (.fieldLink RX0 9 "TalePlay$Acts" "world" "LTalePlay$World;") (by decide +kernel)) dX0_reasonOfShutter_15 ?_
    refine lv_iload_n hx hb dX0_reasonOfShutter_18 rfl (lv_at hl 2 rfl) ?_
    refine ro_calli (va_runV (As := [.int w]) (rest := []) ⟨hx, hb, hml, hown, hts⟩ (x_X10_isShutter l D s.heap.size .null a t i q c d w hI ) (cwV 1 hts gm_X0_reasonOfShutter_SA_X10_isShutter_137 rfl rfl rfl (by decide +kernel) ⟨Nat.le_of_ble_eq_true rfl, Nat.le_of_ble_eq_true rfl⟩) (yA_V hN (xZ_k hZ hS hA) (xkS_W hK) (xuS_W (sk := sk) hP) (ci := 10) (q0 := 0) rfl rfl) rfl rfl hl.1 rfl (lv_room (Nat.le_of_ble_eq_true rfl)) dX0_reasonOfShutter_19 ⟨Nat.le_of_ble_eq_true rfl, Nat.le_of_ble_eq_true rfl⟩) hS hA hP (fun r3 u3 H locs hw3 hP hS => ?_)
    have hw3 : (0 ≤ r3.toInt ∧ r3.toInt ≤ 1) := hw3
    refine lv_if_ne (tgt := 28) hx hb dX0_reasonOfShutter_22 (by decide) (fun c4 => ?_) (fun c4 => ?_)
    · have f4 := mt (ti_eq (a := r3.toInt) (b := 0) rfl (by decide)).mpr c4
      refine lv_iload_n hx hb dX0_reasonOfShutter_28 rfl (lv_at hl 1 rfl) ?_
      refine lv_aload_n hx hb dX0_reasonOfShutter_29 rfl (lv_at hl 0 rfl) ?_
      refine xgS_SA_scene hx hb hts (fun _ h => List.mem_cons_of_mem _ (List.mem_append_left _ (List.mem_append_left _ (List.mem_append_left _ (List.mem_append_right _ h))))) hown hK hP (hts (.fieldLink RX0 33 "TalePlay$Acts" "scene" "LTalePlay$Scene;") (by decide +kernel)) dX0_reasonOfShutter_30 ?_
      refine lv_iload_n hx hb dX0_reasonOfShutter_33 rfl (lv_at hl 2 rfl) ?_
      refine lv_iconst (v := 0) hx hb dX0_reasonOfShutter_34 (by decide) ?_
      refine ro_calli (va_runV (As := [.int w, .int 0]) (rest := [.int v1]) ⟨hx, hb, hml, hown, hts⟩ (x_X6_has_SS l D H.size .null a t i q c d w 0 hI (show 0 ≤ w.toInt ∧ w.toInt ≤ 29 from by have h91 : (0 : Int32).toInt = 0 := (by decide); omega) (show 0 ≤ 0 ∧ 0 ≤ 5 from by have h91 : (0 : Int32).toInt = 0 := (by decide); omega)) (cwV 2 hts gm_X0_reasonOfShutter_SA_X6_has_SS_104 rfl rfl rfl (by decide +kernel) ⟨Nat.le_of_ble_eq_true rfl, Nat.le_of_ble_eq_true rfl⟩) (yA_V hN (xZ_k hZ hS hA) (xkS_P2 hK) (xuS_P2 (sk := sk) hP) (ci := 6) (q0 := 0) rfl rfl) rfl rfl hl.1 rfl (lv_room (Nat.le_of_ble_eq_true rfl)) dX0_reasonOfShutter_35 ⟨Nat.le_of_ble_eq_true rfl, Nat.le_of_ble_eq_true rfl⟩) hS hA hP (fun r5 u5 H locs hw5 hP hS => ?_)
      have hw5 : (0 ≤ r5.toInt ∧ r5.toInt ≤ 1) := hw5
      refine lv_aload_n hx hb dX0_reasonOfShutter_38 rfl (lv_at hl 0 rfl) ?_
      refine xgS_SA_scene hx hb hts (fun _ h => List.mem_cons_of_mem _ (List.mem_append_left _ (List.mem_append_left _ (List.mem_append_left _ (List.mem_append_right _ h))))) hown hK hP (hts (.fieldLink RX0 33 "TalePlay$Acts" "scene" "LTalePlay$Scene;") (by decide +kernel)) dX0_reasonOfShutter_39 ?_
      refine lv_iload_n hx hb dX0_reasonOfShutter_42 rfl (lv_at hl 2 rfl) ?_
      refine lv_iconst (v := 1) hx hb dX0_reasonOfShutter_43 (by decide) ?_
      refine ro_calli (va_runV (As := [.int w, .int 1]) (rest := [.int r5, .int v1]) ⟨hx, hb, hml, hown, hts⟩ (x_X6_has_SS l D H.size .null a t i q c d w 1 hI (show 0 ≤ w.toInt ∧ w.toInt ≤ 29 from by have h91 : (1 : Int32).toInt = 1 := (by decide); omega) (show 0 ≤ 1 ∧ 1 ≤ 5 from by have h91 : (1 : Int32).toInt = 1 := (by decide); omega)) (cwV 2 hts gm_X0_reasonOfShutter_SA_X6_has_SS_104 rfl rfl rfl (by decide +kernel) ⟨Nat.le_of_ble_eq_true rfl, Nat.le_of_ble_eq_true rfl⟩) (yA_V hN (xZ_k hZ hS hA) (xkS_P2 hK) (xuS_P2 (sk := sk) hP) (ci := 6) (q0 := 0) rfl rfl) rfl rfl hl.1 rfl (lv_room (Nat.le_of_ble_eq_true rfl)) dX0_reasonOfShutter_44 ⟨Nat.le_of_ble_eq_true rfl, Nat.le_of_ble_eq_true rfl⟩) hS hA hP (fun r6 u6 H locs hw6 hP hS => ?_)
      have hw6 : (0 ≤ r6.toInt ∧ r6.toInt ≤ 1) := hw6
      have hPc := hP.sub (ws' := []) [] rfl
      have hKc := hK.sub (tys' := []) [] rfl
      refine ro_calli (va_runS (As := [.int v1, .int r5, .int r6]) (rest := []) ⟨hx, hb, hml, hown, hts⟩ (c_X0_reasonOfLeaf l D H.size v1 r5 r6) (va_cwS 3 hts gm_X0_reasonOfShutter_SA_X0_reasonOfLeaf_140 rfl rfl rfl (by decide +kernel) ⟨Nat.le_of_ble_eq_true rfl, Nat.le_of_ble_eq_true rfl⟩) (pA_S hKc hPc) rfl rfl hl.1 rfl (lv_room (Nat.le_of_ble_eq_true rfl)) dX0_reasonOfShutter_47 ⟨Nat.le_of_ble_eq_true rfl, Nat.le_of_ble_eq_true rfl⟩) hS hA hP (fun r8 u8 H locs hw8 hP hS => ?_)
      refine lv_istore_n (lv' := [(3, .int r8), (0, .ref (a 184)), (1, .int v1), (2, .int w)]) hx hb dX0_reasonOfShutter_50 rfl hl (by decide) rfl (fun ls hl => ?_)
      refine lv_iload_n hx hb dX0_reasonOfShutter_51 rfl (lv_at hl 0 rfl) ?_
      refine lv_if_eq (tgt := 57) hx hb dX0_reasonOfShutter_52 (by decide) (fun c9 => ?_) (fun c9 => ?_)
      · have f9 := (ti_eq (a := r8.toInt) (b := 0) rfl (by decide)).mp c9
        refine lv_aload_n hx hb dX0_reasonOfShutter_57 rfl (lv_at hl 1 rfl) ?_
        refine xgS_SA_sight hx hb hts (fun _ h => List.mem_cons_of_mem _ (List.mem_append_left _ (List.mem_append_left _ (List.mem_append_left _ (List.mem_append_right _ h))))) hown hK hP (hts (.fieldLink RX0 34 "TalePlay$Acts" "sight" "LTalePlay$Sight;") (by decide +kernel)) dX0_reasonOfShutter_58 ?_
        refine xgS_SG_reached hx hb hts (fun _ h => List.mem_cons_of_mem _ (List.mem_append_left _ (List.mem_append_left _ (List.mem_append_right _ h)))) hown hK hP (hts (.fieldLink RX0 118 "TalePlay$Sight" "reached" "[Z") (by decide +kernel)) dX0_reasonOfShutter_61 ?_
        refine lv_iload_n hx hb dX0_reasonOfShutter_64 rfl (lv_at hl 3 rfl) ?_
        refine xlS_182 hx hb hK hP (vp_in_iff.mpr (by have h9 : w.toInt = w.toInt := rfl; omega)) dX0_reasonOfShutter_65 (fun x10 ex10 => ?_)
        have rx10 : 0 ≤ x10.toInt ∧ x10.toInt ≤ 1 := by rw [ex10]; exact hI.2 182 _
        refine lv_if_eq (tgt := 73) hx hb dX0_reasonOfShutter_66 (by decide) (fun c11 => ?_) (fun c11 => ?_)
        · have f11 := (ti_eq (a := x10.toInt) (b := 0) rfl (by decide)).mp c11
          refine lv_bipush (v := 8) hx hb dX0_reasonOfShutter_73 (by decide) ?_
          exact ro_iret hx hb hr hlocks hS dX0_reasonOfShutter_75 trivial
        · have f11 := mt (ti_eq (a := x10.toInt) (b := 0) rfl (by decide)).mpr c11
          refine lv_iconst (v := 0) hx hb dX0_reasonOfShutter_69 (by decide) ?_
          refine lv_goto (tgt := 75) hx hb dX0_reasonOfShutter_70 (by decide) ?_
          exact ro_iret hx hb hr hlocks hS dX0_reasonOfShutter_75 trivial
      · have f9 := mt (ti_eq (a := r8.toInt) (b := 0) rfl (by decide)).mpr c9
        refine lv_iload_n hx hb dX0_reasonOfShutter_55 rfl (lv_at hl 0 rfl) ?_
        exact ro_iret hx hb hr hlocks hS dX0_reasonOfShutter_56 trivial
    · have f4 := (ti_eq (a := r3.toInt) (b := 0) rfl (by decide)).mp c4
      refine lv_bipush (v := 12) hx hb dX0_reasonOfShutter_25 (by decide) ?_
      exact ro_iret hx hb hr hlocks hS dX0_reasonOfShutter_27 trivial
  · have f2 := (ti_eq (a := x1.toInt) (b := 0) rfl (by decide)).mp c2
    refine lv_iconst (v := 4) hx hb dX0_reasonOfShutter_12 (by decide) ?_
    exact ro_iret hx hb hr hlocks hS dX0_reasonOfShutter_13 trivial

def wm_X0_reasonOfKey_SA : List Cond := .code yX0_reasonOfKey cX0_reasonOfKey 3 (some .int) :: (([.methodLink RX0 49 yX0_isHeld, .instanceMethod yX0_isHeld, .selects RX0 yX0_isHeld yX0_isHeld, .initialized RX0, .code yX0_isHeld cX0_isHeld 2 (some .boolean), .fieldLink RX0 33 "TalePlay$Acts" "scene" "LTalePlay$Scene;", .fieldLink RX0 38 "TalePlay$Acts" "player" "I", .methodLink RX0 74 yX6_lies, .instanceMethod yX6_lies, .selects RX6 yX6_lies yX6_lies, .initialized RX6, .code yX6_lies cX6_lies 4 (some .boolean), .fieldLink RX6 9 "TalePlay$Scene" "cells" "[I", .fieldLink RX0 15 "TalePlay$Acts" "book" "LTalePlay$Book;", .methodLink RX0 144 yX1_keyOf, .instanceMethod yX1_keyOf, .selects RX1 yX1_keyOf yX1_keyOf, .initialized RX1, .code yX1_keyOf cX1_keyOf 3 (some .int), .fieldLink RX1 37 "TalePlay$Book" "keyBy" "[I", .fieldLink RX1 15 "TalePlay$Book" "as" "[I"] : List Cond) ++ wsX00 ++ wsX60 ++ wsX10)
set_option maxRecDepth 20000 in
theorem gm_X0_reasonOfKey_SA_X0_isHeld_SA_49 : GoodIn wm_X0_reasonOfKey_SA (wsV RX0 49 RX0 yX0_isHeld wm_X0_isHeld_SA) := goodIn_app (goodIn_of _ (by decide +kernel)) (goodIn_r _ [5, 6, 7, 8, 9, 10, 11, 12, 13, 22, 23, 24, 25, 26, 27, 28, 29, 30] rfl (by decide +kernel))
set_option maxRecDepth 20000 in
theorem gm_X0_reasonOfKey_SA_X1_keyOf_144 : GoodIn wm_X0_reasonOfKey_SA (wsV RX0 144 RX1 yX1_keyOf wm_X1_keyOf) := goodIn_app (goodIn_of _ (by decide +kernel)) (goodIn_r _ [19, 20, 21, 31, 32, 33, 34, 35, 36, 37, 38, 39, 40, 41, 42, 43, 44, 45] rfl (by decide +kernel))
set_option maxHeartbeats 4000000 in
set_option maxRecDepth 100000 in
theorem x_X0_reasonOfKey_SA (l : Launch) (D : va_G) (sz : Nat) (sk : Value) (a : Nat → Nat) (t : Nat → ClassId) (i : Nat → Int32) (q : Int64) (c : Nat → Nat → Int32) (d : Nat → Nat → Int64) (w1 : Int32) (w2 : Int32) (hI : xInv i c) (hw1 : 0 ≤ w1.toInt ∧ w1.toInt ≤ 29) (hw2 : 0 ≤ w2.toInt ∧ w2.toInt ≤ 29) : Met l yX0_reasonOfKey wm_X0_reasonOfKey_SA ({ frames := 2, cells := 0, slots := 0, locals := 44 }) (va_Pc [.ref (a 184), .int w1, .int w2] (yA (a 186) D sz (xwS sk a t i q c d) (xtS t))) (va_Qi (fun (r : Int32) (_ : Unit) => (0 ≤ r.toInt ∧ r.toInt ≤ 18)) oA (ro sz)) 0 0 (ro sz) := by
  refine Met.ofW (cc := cX0_reasonOfKey) (maxL := 3) (ret := (some .int)) (by decide) rfl ?_
  intro p e s m args below meth cd s₁ B hml hv
  obtain ⟨rfl, ⟨hsz, hP, hK⟩, hN, hZ⟩ := hv
  have hx := B.exec
  have hb := B.bytes
  have hr := B.returns
  have hts := atoms_spec (ws := wm_X0_reasonOfKey_SA) B.pre
  have hown : s.vm.findClass RX0 = some m.cls := findClass_of_methodNamed B.named
  have hlocks := B.notSynchronized
  subst hsz
  have hA : ∀ q : Nat, s.heap.size ≤ q → ro s.heap.size q := fun _ h => h
  have hS : va_S (ro s.heap.size) s.heap s.heap [] := va_S.rf
  have hl := lv_entry ([.ref (a 184), .int w1, .int w2]) (n := 3) (Nat.le_of_ble_eq_true rfl)
  rw [lg_entry_eq]
  generalize (lg_sl ([.ref (a 184), .int w1, .int w2]) ++ List.replicate (3 - (lg_sl ([.ref (a 184), .int w1, .int w2])).length) Slot.unset).toArray = ls at hl ⊢
  have hl : lv_has ls 3 [(0, .ref (a 184)), (1, .int w1), (2, .int w2)] := hl
  refine lv_aload_n hx hb dX0_reasonOfKey_0 rfl (lv_at hl 0 rfl) ?_
  refine lv_iload_n hx hb dX0_reasonOfKey_1 rfl (lv_at hl 2 rfl) ?_
  refine ro_calli (va_runV (As := [.int w2]) (rest := []) ⟨hx, hb, hml, hown, hts⟩ (x_X0_isHeld_SA l D s.heap.size .null a t i q c d w2 hI (show 0 ≤ w2.toInt ∧ w2.toInt ≤ 29 from by omega)) (cwV 1 hts gm_X0_reasonOfKey_SA_X0_isHeld_SA_49 rfl rfl rfl (by decide +kernel) ⟨Nat.le_of_ble_eq_true rfl, Nat.le_of_ble_eq_true rfl⟩) (yA_V hN (xZ_k hZ hS hA) hK hP (ci := 0) (q0 := 43) rfl rfl) rfl rfl hl.1 rfl (lv_room (Nat.le_of_ble_eq_true rfl)) dX0_reasonOfKey_2 ⟨Nat.le_of_ble_eq_true rfl, Nat.le_of_ble_eq_true rfl⟩) hS hA hP (fun r1 u1 H locs hw1 hP hS => ?_)
  have hw1 : (0 ≤ r1.toInt ∧ r1.toInt ≤ 1) := hw1
  refine lv_if_ne (tgt := 11) hx hb dX0_reasonOfKey_5 (by decide) (fun c2 => ?_) (fun c2 => ?_)
  · have f2 := mt (ti_eq (a := r1.toInt) (b := 0) rfl (by decide)).mpr c2
    refine lv_aload_n hx hb dX0_reasonOfKey_11 rfl (lv_at hl 0 rfl) ?_
    refine xgS_SA_book hx hb hts (fun _ h => List.mem_cons_of_mem _ (List.mem_append_left _ (List.mem_append_left _ (List.mem_append_right _ h)))) hown hK hP (hts (.fieldLink RX0 15 "TalePlay$Acts" "book" "LTalePlay$Book;") (by decide +kernel)) dX0_reasonOfKey_12 ?_
    refine lv_iload_n hx hb dX0_reasonOfKey_15 rfl (lv_at hl 1 rfl) ?_
    refine ro_calli (va_runV (As := [.int w1]) (rest := []) ⟨hx, hb, hml, hown, hts⟩ (x_X1_keyOf l D H.size .null a t i q c d w1 hI (show 0 ≤ w1.toInt ∧ w1.toInt ≤ 29 from by omega)) (cwV 1 hts gm_X0_reasonOfKey_SA_X1_keyOf_144 rfl rfl rfl (by decide +kernel) ⟨Nat.le_of_ble_eq_true rfl, Nat.le_of_ble_eq_true rfl⟩) (yA_V hN (xZ_k hZ hS hA) (xkS_B hK) (xuS_B (sk := sk) hP) (ci := 1) (q0 := 6) rfl rfl) rfl rfl hl.1 rfl (lv_room (Nat.le_of_ble_eq_true rfl)) dX0_reasonOfKey_16 ⟨Nat.le_of_ble_eq_true rfl, Nat.le_of_ble_eq_true rfl⟩) hS hA hP (fun r3 u3 H locs hw3 hP hS => ?_)
    have hw3 : (r3.toInt = -9 ∨ (0 ≤ r3.toInt ∧ r3.toInt ≤ 29)) := hw3
    refine lv_iload_n hx hb dX0_reasonOfKey_19 rfl (lv_at hl 2 rfl) ?_
    refine lv_icmp_ne (tgt := 27) hx hb dX0_reasonOfKey_20 (by decide) (fun c4 => ?_) (fun c4 => ?_)
    · have f4 := mt (ti_eq (a := r3.toInt) (b := w2.toInt) rfl rfl).mpr c4
      refine lv_bipush (v := 18) hx hb dX0_reasonOfKey_27 (by decide) ?_
      exact ro_iret hx hb hr hlocks hS dX0_reasonOfKey_29 (show 0 ≤ (18 : Int32).toInt ∧ (18 : Int32).toInt ≤ 18 from by have h9 : (18 : Int32).toInt = 18 := (by decide); omega)
    · have f4 := (ti_eq (a := r3.toInt) (b := w2.toInt) rfl rfl).mp c4
      refine lv_iconst (v := 0) hx hb dX0_reasonOfKey_23 (by decide) ?_
      refine lv_goto (tgt := 29) hx hb dX0_reasonOfKey_24 (by decide) ?_
      exact ro_iret hx hb hr hlocks hS dX0_reasonOfKey_29 (show 0 ≤ (0 : Int32).toInt ∧ (0 : Int32).toInt ≤ 18 from by have h9 : (0 : Int32).toInt = 0 := (by decide); omega)
  · have f2 := (ti_eq (a := r1.toInt) (b := 0) rfl (by decide)).mp c2
    refine lv_bipush (v := 11) hx hb dX0_reasonOfKey_8 (by decide) ?_
    exact ro_iret hx hb hr hlocks hS dX0_reasonOfKey_10 (show 0 ≤ (11 : Int32).toInt ∧ (11 : Int32).toInt ≤ 18 from by have h9 : (11 : Int32).toInt = 11 := (by decide); omega)

def wm_X0_reasonToWear_SA : List Cond := .code yX0_reasonToWear cX0_reasonToWear 2 (some .int) :: (([.methodLink RX0 49 yX0_isHeld, .instanceMethod yX0_isHeld, .selects RX0 yX0_isHeld yX0_isHeld, .initialized RX0, .code yX0_isHeld cX0_isHeld 2 (some .boolean), .fieldLink RX0 33 "TalePlay$Acts" "scene" "LTalePlay$Scene;", .fieldLink RX0 38 "TalePlay$Acts" "player" "I", .methodLink RX0 74 yX6_lies, .instanceMethod yX6_lies, .selects RX6 yX6_lies yX6_lies, .initialized RX6, .code yX6_lies cX6_lies 4 (some .boolean), .fieldLink RX6 9 "TalePlay$Scene" "cells" "[I", .methodLink RX0 104 yX6_has, .instanceMethod yX6_has, .selects RX6 yX6_has yX6_has, .code yX6_has cX6_has 3 (some .boolean)] : List Cond) ++ wsX00 ++ wsX60)
set_option maxRecDepth 20000 in
theorem gm_X0_reasonToWear_SA_X0_isHeld_SA_49 : GoodIn wm_X0_reasonToWear_SA (wsV RX0 49 RX0 yX0_isHeld wm_X0_isHeld_SA) := goodIn_app (goodIn_of _ (by decide +kernel)) (goodIn_r _ [5, 6, 7, 8, 9, 10, 11, 12, 13, 18, 19, 20, 21, 22, 23, 24, 25, 26] rfl (by decide +kernel))
set_option maxRecDepth 20000 in
theorem gm_X0_reasonToWear_SA_X6_has_SS_104 : GoodIn wm_X0_reasonToWear_SA (wsV RX0 104 RX6 yX6_has wm_X6_has_SS) := goodIn_app (goodIn_of _ (by decide +kernel)) (goodIn_r _ [17, 13, 25, 26] rfl (by decide +kernel))
set_option maxHeartbeats 4000000 in
set_option maxRecDepth 100000 in
theorem x_X0_reasonToWear_SA (l : Launch) (D : va_G) (sz : Nat) (sk : Value) (a : Nat → Nat) (t : Nat → ClassId) (i : Nat → Int32) (q : Int64) (c : Nat → Nat → Int32) (d : Nat → Nat → Int64) (w : Int32) (hI : xInv i c) (hw : 0 ≤ w.toInt ∧ w.toInt ≤ 29) : Met l yX0_reasonToWear wm_X0_reasonToWear_SA ({ frames := 2, cells := 0, slots := 0, locals := 44 }) (va_Pc [.ref (a 184), .int w] (yA (a 186) D sz (xwS sk a t i q c d) (xtS t))) (va_Qi (fun (r : Int32) (_ : Unit) => (0 ≤ r.toInt ∧ r.toInt ≤ 19)) oA (ro sz)) 0 0 (ro sz) := by
  refine Met.ofW (cc := cX0_reasonToWear) (maxL := 2) (ret := (some .int)) (by decide) rfl ?_
  intro p e s m args below meth cd s₁ B hml hv
  obtain ⟨rfl, ⟨hsz, hP, hK⟩, hN, hZ⟩ := hv
  have hx := B.exec
  have hb := B.bytes
  have hr := B.returns
  have hts := atoms_spec (ws := wm_X0_reasonToWear_SA) B.pre
  have hown : s.vm.findClass RX0 = some m.cls := findClass_of_methodNamed B.named
  have hlocks := B.notSynchronized
  subst hsz
  have hA : ∀ q : Nat, s.heap.size ≤ q → ro s.heap.size q := fun _ h => h
  have hS : va_S (ro s.heap.size) s.heap s.heap [] := va_S.rf
  have hl := lv_entry ([.ref (a 184), .int w]) (n := 2) (Nat.le_of_ble_eq_true rfl)
  rw [lg_entry_eq]
  generalize (lg_sl ([.ref (a 184), .int w]) ++ List.replicate (2 - (lg_sl ([.ref (a 184), .int w])).length) Slot.unset).toArray = ls at hl ⊢
  have hl : lv_has ls 2 [(0, .ref (a 184)), (1, .int w)] := hl
  refine lv_aload_n hx hb dX0_reasonToWear_0 rfl (lv_at hl 0 rfl) ?_
  refine lv_iload_n hx hb dX0_reasonToWear_1 rfl (lv_at hl 1 rfl) ?_
  refine ro_calli (va_runV (As := [.int w]) (rest := []) ⟨hx, hb, hml, hown, hts⟩ (x_X0_isHeld_SA l D s.heap.size .null a t i q c d w hI (show 0 ≤ w.toInt ∧ w.toInt ≤ 29 from by omega)) (cwV 1 hts gm_X0_reasonToWear_SA_X0_isHeld_SA_49 rfl rfl rfl (by decide +kernel) ⟨Nat.le_of_ble_eq_true rfl, Nat.le_of_ble_eq_true rfl⟩) (yA_V hN (xZ_k hZ hS hA) hK hP (ci := 0) (q0 := 43) rfl rfl) rfl rfl hl.1 rfl (lv_room (Nat.le_of_ble_eq_true rfl)) dX0_reasonToWear_2 ⟨Nat.le_of_ble_eq_true rfl, Nat.le_of_ble_eq_true rfl⟩) hS hA hP (fun r1 u1 H locs hw1 hP hS => ?_)
  have hw1 : (0 ≤ r1.toInt ∧ r1.toInt ≤ 1) := hw1
  refine lv_if_ne (tgt := 11) hx hb dX0_reasonToWear_5 (by decide) (fun c2 => ?_) (fun c2 => ?_)
  · have f2 := mt (ti_eq (a := r1.toInt) (b := 0) rfl (by decide)).mpr c2
    refine lv_aload_n hx hb dX0_reasonToWear_11 rfl (lv_at hl 0 rfl) ?_
    refine xgS_SA_scene hx hb hts (fun _ h => List.mem_cons_of_mem _ (List.mem_append_left _ (List.mem_append_right _ h))) hown hK hP (hts (.fieldLink RX0 33 "TalePlay$Acts" "scene" "LTalePlay$Scene;") (by decide +kernel)) dX0_reasonToWear_12 ?_
    refine lv_iload_n hx hb dX0_reasonToWear_15 rfl (lv_at hl 1 rfl) ?_
    refine lv_iconst (v := 4) hx hb dX0_reasonToWear_16 (by decide) ?_
    refine ro_calli (va_runV (As := [.int w, .int 4]) (rest := []) ⟨hx, hb, hml, hown, hts⟩ (x_X6_has_SS l D H.size .null a t i q c d w 4 hI (show 0 ≤ w.toInt ∧ w.toInt ≤ 29 from by have h91 : (4 : Int32).toInt = 4 := (by decide); omega) (show 0 ≤ 4 ∧ 4 ≤ 5 from by have h91 : (4 : Int32).toInt = 4 := (by decide); omega)) (cwV 2 hts gm_X0_reasonToWear_SA_X6_has_SS_104 rfl rfl rfl (by decide +kernel) ⟨Nat.le_of_ble_eq_true rfl, Nat.le_of_ble_eq_true rfl⟩) (yA_V hN (xZ_k hZ hS hA) (xkS_P2 hK) (xuS_P2 (sk := sk) hP) (ci := 6) (q0 := 0) rfl rfl) rfl rfl hl.1 rfl (lv_room (Nat.le_of_ble_eq_true rfl)) dX0_reasonToWear_17 ⟨Nat.le_of_ble_eq_true rfl, Nat.le_of_ble_eq_true rfl⟩) hS hA hP (fun r3 u3 H locs hw3 hP hS => ?_)
    have hw3 : (0 ≤ r3.toInt ∧ r3.toInt ≤ 1) := hw3
    refine lv_if_eq (tgt := 27) hx hb dX0_reasonToWear_20 (by decide) (fun c4 => ?_) (fun c4 => ?_)
    · have f4 := (ti_eq (a := r3.toInt) (b := 0) rfl (by decide)).mp c4
      refine lv_bipush (v := 19) hx hb dX0_reasonToWear_27 (by decide) ?_
      exact ro_iret hx hb hr hlocks hS dX0_reasonToWear_29 (show 0 ≤ (19 : Int32).toInt ∧ (19 : Int32).toInt ≤ 19 from by have h9 : (19 : Int32).toInt = 19 := (by decide); omega)
    · have f4 := mt (ti_eq (a := r3.toInt) (b := 0) rfl (by decide)).mpr c4
      refine lv_iconst (v := 0) hx hb dX0_reasonToWear_23 (by decide) ?_
      refine lv_goto (tgt := 29) hx hb dX0_reasonToWear_24 (by decide) ?_
      exact ro_iret hx hb hr hlocks hS dX0_reasonToWear_29 (show 0 ≤ (0 : Int32).toInt ∧ (0 : Int32).toInt ≤ 19 from by have h9 : (0 : Int32).toInt = 0 := (by decide); omega)
  · have f2 := (ti_eq (a := r1.toInt) (b := 0) rfl (by decide)).mp c2
    refine lv_bipush (v := 11) hx hb dX0_reasonToWear_8 (by decide) ?_
    exact ro_iret hx hb hr hlocks hS dX0_reasonToWear_10 (show 0 ≤ (11 : Int32).toInt ∧ (11 : Int32).toInt ≤ 19 from by have h9 : (11 : Int32).toInt = 11 := (by decide); omega)

def wm_X0_reasonToEnter_SA : List Cond := .code yX0_reasonToEnter cX0_reasonToEnter 3 (some .int) :: (([.fieldLink RX0 34 "TalePlay$Acts" "sight" "LTalePlay$Sight;", .fieldLink RX0 108 "TalePlay$Sight" "seen" "[Z", .fieldLink RX0 9 "TalePlay$Acts" "world" "LTalePlay$World;", .methodLink RX0 86 yX10_sortOf, .instanceMethod yX10_sortOf, .selects RX10 yX10_sortOf yX10_sortOf, .initialized RX10, .code yX10_sortOf cX10_sortOf 2 (some .int), .fieldLink RX10 37 "TalePlay$World" "objects" "I", .fieldLink RX10 15 "TalePlay$World" "sorts" "[I", .fieldLink RX10 21 "TalePlay$World" "kindOf" "[I", .fieldLink RX0 33 "TalePlay$Acts" "scene" "LTalePlay$Scene;", .fieldLink RX0 38 "TalePlay$Acts" "player" "I", .methodLink RX0 112 yX6_isUp, .instanceMethod yX6_isUp, .selects RX6 yX6_isUp yX6_isUp, .initialized RX6, .code yX6_isUp cX6_isUp 5 (some .boolean), .methodLink RX6 25 yX6_holderOf, .instanceMethod yX6_holderOf, .selects RX6 yX6_holderOf yX6_holderOf, .code yX6_holderOf cX6_holderOf 3 (some .int), .fieldLink RX6 9 "TalePlay$Scene" "cells" "[I", .fieldLink RX0 118 "TalePlay$Sight" "reached" "[Z", .methodLink RX0 83 yX6_holderOf, .methodLink RX0 104 yX6_has, .instanceMethod yX6_has, .selects RX6 yX6_has yX6_has, .code yX6_has cX6_has 3 (some .boolean)] : List Cond) ++ wsX00 ++ wsX80 ++ wsX100 ++ wsX60)
set_option maxRecDepth 20000 in
theorem gm_X0_reasonToEnter_SA_X10_sortOf_86 : GoodIn wm_X0_reasonToEnter_SA (wsV RX0 86 RX10 yX10_sortOf wm_X10_sortOf) := goodIn_app (goodIn_of _ (by decide +kernel)) (goodIn_r _ [8, 9, 10, 11, 43, 44, 45, 46, 47, 48, 49] rfl (by decide +kernel))
set_option maxRecDepth 20000 in
theorem gm_X0_reasonToEnter_SA_X6_isUp_SS_112 : GoodIn wm_X0_reasonToEnter_SA (wsV RX0 112 RX6 yX6_isUp wm_X6_isUp_SS) := goodIn_app (goodIn_of _ (by decide +kernel)) (goodIn_r _ [18, 19, 20, 21, 17, 22, 23, 50, 51] rfl (by decide +kernel))
set_option maxRecDepth 20000 in
theorem gm_X0_reasonToEnter_SA_X6_holderOf_SS_83 : GoodIn wm_X0_reasonToEnter_SA (wsV RX0 83 RX6 yX6_holderOf wm_X6_holderOf_SS) := goodIn_app (goodIn_of _ (by decide +kernel)) (goodIn_r _ [22, 23, 50, 51] rfl (by decide +kernel))
set_option maxRecDepth 20000 in
theorem gm_X0_reasonToEnter_SA_X6_has_SS_104 : GoodIn wm_X0_reasonToEnter_SA (wsV RX0 104 RX6 yX6_has wm_X6_has_SS) := goodIn_app (goodIn_of _ (by decide +kernel)) (goodIn_r _ [29, 23, 50, 51] rfl (by decide +kernel))
set_option maxHeartbeats 4000000 in
set_option maxRecDepth 100000 in
theorem x_X0_reasonToEnter_SA (l : Launch) (D : va_G) (sz : Nat) (sk : Value) (a : Nat → Nat) (t : Nat → ClassId) (i : Nat → Int32) (q : Int64) (c : Nat → Nat → Int32) (d : Nat → Nat → Int64) (w : Int32) (hI : xInv i c) (hw : 0 ≤ w.toInt ∧ w.toInt ≤ 29) (hpl : 0 ≤ (i 185).toInt ∧ (i 185).toInt ≤ 29) : Met l yX0_reasonToEnter wm_X0_reasonToEnter_SA ({ frames := 2, cells := 0, slots := 0, locals := 46 }) (va_Pc [.ref (a 184), .int w] (yA (a 186) D sz (xwS sk a t i q c d) (xtS t))) (va_Qi (fun (r : Int32) (_ : Unit) => (0 ≤ r.toInt ∧ r.toInt ≤ 20)) oA (ro sz)) 0 0 (ro sz) := by
  refine Met.ofW (cc := cX0_reasonToEnter) (maxL := 3) (ret := (some .int)) (by decide) rfl ?_
  intro p e s m args below meth cd s₁ B hml hv
  obtain ⟨rfl, ⟨hsz, hP, hK⟩, hN, hZ⟩ := hv
  have hx := B.exec
  have hb := B.bytes
  have hr := B.returns
  have hts := atoms_spec (ws := wm_X0_reasonToEnter_SA) B.pre
  have hown : s.vm.findClass RX0 = some m.cls := findClass_of_methodNamed B.named
  have hlocks := B.notSynchronized
  subst hsz
  have hA : ∀ q : Nat, s.heap.size ≤ q → ro s.heap.size q := fun _ h => h
  have hS : va_S (ro s.heap.size) s.heap s.heap [] := va_S.rf
  have hl := lv_entry ([.ref (a 184), .int w]) (n := 3) (Nat.le_of_ble_eq_true rfl)
  rw [lg_entry_eq]
  generalize (lg_sl ([.ref (a 184), .int w]) ++ List.replicate (3 - (lg_sl ([.ref (a 184), .int w])).length) Slot.unset).toArray = ls at hl ⊢
  have hl : lv_has ls 3 [(0, .ref (a 184)), (1, .int w)] := hl
  refine lv_aload_n hx hb dX0_reasonToEnter_0 rfl (lv_at hl 0 rfl) ?_
  refine xgS_SA_sight hx hb hts (fun _ h => List.mem_cons_of_mem _ (List.mem_append_left _ (List.mem_append_left _ (List.mem_append_left _ (List.mem_append_right _ h))))) hown hK hP (hts (.fieldLink RX0 34 "TalePlay$Acts" "sight" "LTalePlay$Sight;") (by decide +kernel)) dX0_reasonToEnter_1 ?_
  refine xgS_SG_seen hx hb hts (fun _ h => List.mem_cons_of_mem _ (List.mem_append_left _ (List.mem_append_left _ (List.mem_append_right _ h)))) hown hK hP (hts (.fieldLink RX0 108 "TalePlay$Sight" "seen" "[Z") (by decide +kernel)) dX0_reasonToEnter_4 ?_
  refine lv_iload_n hx hb dX0_reasonToEnter_7 rfl (lv_at hl 1 rfl) ?_
  refine xlS_181 hx hb hK hP (vp_in_iff.mpr (by have h9 : w.toInt = w.toInt := rfl; omega)) dX0_reasonToEnter_8 (fun x1 ex1 => ?_)
  have rx1 : 0 ≤ x1.toInt ∧ x1.toInt ≤ 1 := by rw [ex1]; exact hI.2 181 _
  refine lv_if_ne (tgt := 14) hx hb dX0_reasonToEnter_9 (by decide) (fun c2 => ?_) (fun c2 => ?_)
  · have f2 := mt (ti_eq (a := x1.toInt) (b := 0) rfl (by decide)).mpr c2
    refine lv_aload_n hx hb dX0_reasonToEnter_14 rfl (lv_at hl 0 rfl) ?_
    refine xgS_SA_world hx hb hts (fun _ h => List.mem_cons_of_mem _ (List.mem_append_left _ (List.mem_append_left _ (List.mem_append_left _ (List.mem_append_right _ h))))) hown hK hP (hts (.fieldLink RX0 9 "TalePlay$Acts" "world" "LTalePlay$World;") (by decide +kernel)) dX0_reasonToEnter_15 ?_
    refine lv_iload_n hx hb dX0_reasonToEnter_18 rfl (lv_at hl 1 rfl) ?_
    have rb111_i : 0 ≤ (i 111).toInt ∧ (i 111).toInt ≤ 30 := hI.1 111
    refine ro_calli (va_runV (As := [.int w]) (rest := []) ⟨hx, hb, hml, hown, hts⟩ (x_X10_sortOf l D s.heap.size .null a t i q c d w hI ) (cwV 1 hts gm_X0_reasonToEnter_SA_X10_sortOf_86 rfl rfl rfl (by decide +kernel) ⟨Nat.le_of_ble_eq_true rfl, Nat.le_of_ble_eq_true rfl⟩) (yA_V hN (xZ_k hZ hS hA) (xkS_W hK) (xuS_W (sk := sk) hP) (ci := 10) (q0 := 0) rfl rfl) rfl rfl hl.1 rfl (lv_room (Nat.le_of_ble_eq_true rfl)) dX0_reasonToEnter_19 ⟨Nat.le_of_ble_eq_true rfl, Nat.le_of_ble_eq_true rfl⟩) hS hA hP (fun r3 u3 H locs hw3 hP hS => ?_)
    have hw3 : ((r3.toInt = -9 ∧ ¬ (0 ≤ w.toInt ∧ w.toInt < (i 111).toInt)) ∨ (0 ≤ r3.toInt ∧ r3.toInt ≤ 5 ∧ 0 ≤ w.toInt ∧ w.toInt < (i 111).toInt)) := hw3
    refine lv_istore_n (lv' := [(2, .int r3), (0, .ref (a 184)), (1, .int w)]) hx hb dX0_reasonToEnter_22 rfl hl (by decide) rfl (fun ls hl => ?_)
    refine lv_iload_n hx hb dX0_reasonToEnter_23 rfl (lv_at hl 0 rfl) ?_
    refine lv_iconst (v := 3) hx hb dX0_reasonToEnter_24 (by decide) ?_
    have jn4 : ∀ (H : Heap) (locs : List Loc) (ls : Array Slot), va_P D vwCl (xwS sk a t i q c d) H → va_S (ro s.heap.size) s.heap H locs → lv_has ls 3 [(2, .int r3), (0, .ref (a 184)), (1, .int w)] → W p l e (headSpec wm_X0_reasonToEnter_SA ({ frames := 2, cells := 0, slots := 0, locals := 46 })).room s m ([.ref (a 184), .int w] : List Value).toArray below meth cd H locs 0 0 (MQ below (va_Qi (fun (r : Int32) (_ : Unit) => (0 ≤ r.toInt ∧ r.toInt ≤ 20)) oA (ro s.heap.size)) ([.ref (a 184), .int w] : List Value).toArray s 0 0 (ro s.heap.size)) (F0 m 36 ls []) := by
      intro H locs ls hP hS hl
      refine lv_aload_n hx hb dX0_reasonToEnter_36 rfl (lv_at hl 1 rfl) ?_
      refine xgS_SA_scene hx hb hts (fun _ h => List.mem_cons_of_mem _ (List.mem_append_left _ (List.mem_append_left _ (List.mem_append_left _ (List.mem_append_right _ h))))) hown hK hP (hts (.fieldLink RX0 33 "TalePlay$Acts" "scene" "LTalePlay$Scene;") (by decide +kernel)) dX0_reasonToEnter_37 ?_
      refine lv_aload_n hx hb dX0_reasonToEnter_40 rfl (lv_at hl 1 rfl) ?_
      refine xgS_SA_player (v := (i 185)) rfl hx hb hts (fun _ h => List.mem_cons_of_mem _ (List.mem_append_left _ (List.mem_append_left _ (List.mem_append_left _ (List.mem_append_right _ h))))) hown hK hP (hts (.fieldLink RX0 38 "TalePlay$Acts" "player" "I") (by decide +kernel)) dX0_reasonToEnter_41 ?_
      have rb185_i : (i 185).toInt = -9 ∨ (0 ≤ (i 185).toInt ∧ (i 185).toInt ≤ 29) := hI.1 185
      refine lv_iload_n hx hb dX0_reasonToEnter_44 rfl (lv_at hl 2 rfl) ?_
      refine ro_calli (va_runV (As := [.int (i 185), .int w]) (rest := []) ⟨hx, hb, hml, hown, hts⟩ (x_X6_isUp_SS l D H.size .null a t i q c d (i 185) w hI (show 0 ≤ w.toInt ∧ w.toInt ≤ 29 from by omega)) (cwV 2 hts gm_X0_reasonToEnter_SA_X6_isUp_SS_112 rfl rfl rfl (by decide +kernel) ⟨Nat.le_of_ble_eq_true rfl, Nat.le_of_ble_eq_true rfl⟩) (yA_V hN (xZ_k hZ hS hA) (xkS_P2 hK) (xuS_P2 (sk := sk) hP) (ci := 6) (q0 := 0) rfl rfl) rfl rfl hl.1 rfl (lv_room (Nat.le_of_ble_eq_true rfl)) dX0_reasonToEnter_45 ⟨Nat.le_of_ble_eq_true rfl, Nat.le_of_ble_eq_true rfl⟩) hS hA hP (fun r5 u5 H locs hw5 hP hS => ?_)
      have hw5 : (0 ≤ r5.toInt ∧ r5.toInt ≤ 1) := hw5
      refine lv_if_eq (tgt := 54) hx hb dX0_reasonToEnter_48 (by decide) (fun c6 => ?_) (fun c6 => ?_)
      · have f6 := (ti_eq (a := r5.toInt) (b := 0) rfl (by decide)).mp c6
        refine lv_iload_n hx hb dX0_reasonToEnter_54 rfl (lv_at hl 0 rfl) ?_
        refine lv_iconst (v := 3) hx hb dX0_reasonToEnter_55 (by decide) ?_
        have jn7 : ∀ (H : Heap) (locs : List Loc) (ls : Array Slot), va_P D vwCl (xwS sk a t i q c d) H → va_S (ro s.heap.size) s.heap H locs → lv_has ls 3 [(2, .int r3), (0, .ref (a 184)), (1, .int w)] → W p l e (headSpec wm_X0_reasonToEnter_SA ({ frames := 2, cells := 0, slots := 0, locals := 46 })).room s m ([.ref (a 184), .int w] : List Value).toArray below meth cd H locs 0 0 (MQ below (va_Qi (fun (r : Int32) (_ : Unit) => (0 ≤ r.toInt ∧ r.toInt ≤ 20)) oA (ro s.heap.size)) ([.ref (a 184), .int w] : List Value).toArray s 0 0 (ro s.heap.size)) (F0 m 73 ls []) := by
          intro H locs ls hP hS hl
          refine lv_aload_n hx hb dX0_reasonToEnter_73 rfl (lv_at hl 1 rfl) ?_
          refine xgS_SA_sight hx hb hts (fun _ h => List.mem_cons_of_mem _ (List.mem_append_left _ (List.mem_append_left _ (List.mem_append_left _ (List.mem_append_right _ h))))) hown hK hP (hts (.fieldLink RX0 34 "TalePlay$Acts" "sight" "LTalePlay$Sight;") (by decide +kernel)) dX0_reasonToEnter_74 ?_
          refine xgS_SG_reached hx hb hts (fun _ h => List.mem_cons_of_mem _ (List.mem_append_left _ (List.mem_append_left _ (List.mem_append_right _ h)))) hown hK hP (hts (.fieldLink RX0 118 "TalePlay$Sight" "reached" "[Z") (by decide +kernel)) dX0_reasonToEnter_77 ?_
          refine lv_iload_n hx hb dX0_reasonToEnter_80 rfl (lv_at hl 2 rfl) ?_
          refine xlS_182 hx hb hK hP (vp_in_iff.mpr (by have h9 : w.toInt = w.toInt := rfl; omega)) dX0_reasonToEnter_81 (fun x8 ex8 => ?_)
          have rx8 : 0 ≤ x8.toInt ∧ x8.toInt ≤ 1 := by rw [ex8]; exact hI.2 182 _
          refine lv_if_ne (tgt := 88) hx hb dX0_reasonToEnter_82 (by decide) (fun c9 => ?_) (fun c9 => ?_)
          · have f9 := mt (ti_eq (a := x8.toInt) (b := 0) rfl (by decide)).mpr c9
            refine lv_aload_n hx hb dX0_reasonToEnter_88 rfl (lv_at hl 1 rfl) ?_
            refine xgS_SA_scene hx hb hts (fun _ h => List.mem_cons_of_mem _ (List.mem_append_left _ (List.mem_append_left _ (List.mem_append_left _ (List.mem_append_right _ h))))) hown hK hP (hts (.fieldLink RX0 33 "TalePlay$Acts" "scene" "LTalePlay$Scene;") (by decide +kernel)) dX0_reasonToEnter_89 ?_
            refine lv_aload_n hx hb dX0_reasonToEnter_92 rfl (lv_at hl 1 rfl) ?_
            refine xgS_SA_player (v := (i 185)) rfl hx hb hts (fun _ h => List.mem_cons_of_mem _ (List.mem_append_left _ (List.mem_append_left _ (List.mem_append_left _ (List.mem_append_right _ h))))) hown hK hP (hts (.fieldLink RX0 38 "TalePlay$Acts" "player" "I") (by decide +kernel)) dX0_reasonToEnter_93 ?_
            refine ro_calli (va_runV (As := [.int (i 185)]) (rest := []) ⟨hx, hb, hml, hown, hts⟩ (x_X6_holderOf_SS l D H.size .null a t i q c d (i 185) hI (show 0 ≤ (i 185).toInt ∧ (i 185).toInt ≤ 29 from by omega)) (cwV 1 hts gm_X0_reasonToEnter_SA_X6_holderOf_SS_83 rfl rfl rfl (by decide +kernel) ⟨Nat.le_of_ble_eq_true rfl, Nat.le_of_ble_eq_true rfl⟩) (yA_V hN (xZ_k hZ hS hA) (xkS_P2 hK) (xuS_P2 (sk := sk) hP) (ci := 6) (q0 := 0) rfl rfl) rfl rfl hl.1 rfl (lv_room (Nat.le_of_ble_eq_true rfl)) dX0_reasonToEnter_96 ⟨Nat.le_of_ble_eq_true rfl, Nat.le_of_ble_eq_true rfl⟩) hS hA hP (fun r10 u10 H locs hw10 hP hS => ?_)
            have hw10 : ((r10.toInt = -9 ∧ (c 179 (i 185).toNatClampNeg).toInt % 256 = 255) ∨ (0 ≤ r10.toInt ∧ r10.toInt ≤ 29 ∧ ¬ (c 179 (i 185).toNatClampNeg).toInt % 256 = 255 ∧ r10.toInt = (c 179 (i 185).toNatClampNeg).toInt / 8 % 32)) := hw10
            refine lv_iload_n hx hb dX0_reasonToEnter_99 rfl (lv_at hl 2 rfl) ?_
            refine lv_icmp_ne (tgt := 108) hx hb dX0_reasonToEnter_100 (by decide) (fun c11 => ?_) (fun c11 => ?_)
            · have f11 := mt (ti_eq (a := r10.toInt) (b := w.toInt) rfl rfl).mpr c11
              refine lv_iconst (v := 0) hx hb dX0_reasonToEnter_108 (by decide) ?_
              exact ro_iret hx hb hr hlocks hS dX0_reasonToEnter_109 (show 0 ≤ (0 : Int32).toInt ∧ (0 : Int32).toInt ≤ 20 from by have h9 : (0 : Int32).toInt = 0 := (by decide); omega)
            · have f11 := (ti_eq (a := r10.toInt) (b := w.toInt) rfl rfl).mp c11
              refine lv_bipush (v := 20) hx hb dX0_reasonToEnter_103 (by decide) ?_
              refine lv_goto (tgt := 109) hx hb dX0_reasonToEnter_105 (by decide) ?_
              exact ro_iret hx hb hr hlocks hS dX0_reasonToEnter_109 (show 0 ≤ (20 : Int32).toInt ∧ (20 : Int32).toInt ≤ 20 from by have h9 : (20 : Int32).toInt = 20 := (by decide); omega)
          · have f9 := (ti_eq (a := x8.toInt) (b := 0) rfl (by decide)).mp c9
            refine lv_bipush (v := 8) hx hb dX0_reasonToEnter_85 (by decide) ?_
            exact ro_iret hx hb hr hlocks hS dX0_reasonToEnter_87 (show 0 ≤ (8 : Int32).toInt ∧ (8 : Int32).toInt ≤ 20 from by have h9 : (8 : Int32).toInt = 8 := (by decide); omega)
        refine lv_icmp_ne (tgt := 73) hx hb dX0_reasonToEnter_56 (by decide) (fun c12 => ?_) (fun c12 => ?_)
        · have f12 := mt (ti_eq (a := r3.toInt) (b := 3) rfl (by decide)).mpr c12
          exact jn7    _ _ _ hP hS (lv_sub hl [0, 1, 2] rfl)
        · have f12 := (ti_eq (a := r3.toInt) (b := 3) rfl (by decide)).mp c12
          refine lv_aload_n hx hb dX0_reasonToEnter_59 rfl (lv_at hl 1 rfl) ?_
          refine xgS_SA_scene hx hb hts (fun _ h => List.mem_cons_of_mem _ (List.mem_append_left _ (List.mem_append_left _ (List.mem_append_left _ (List.mem_append_right _ h))))) hown hK hP (hts (.fieldLink RX0 33 "TalePlay$Acts" "scene" "LTalePlay$Scene;") (by decide +kernel)) dX0_reasonToEnter_60 ?_
          refine lv_iload_n hx hb dX0_reasonToEnter_63 rfl (lv_at hl 2 rfl) ?_
          refine lv_iconst (v := 0) hx hb dX0_reasonToEnter_64 (by decide) ?_
          refine ro_calli (va_runV (As := [.int w, .int 0]) (rest := []) ⟨hx, hb, hml, hown, hts⟩ (x_X6_has_SS l D H.size .null a t i q c d w 0 hI (show 0 ≤ w.toInt ∧ w.toInt ≤ 29 from by have h91 : (0 : Int32).toInt = 0 := (by decide); omega) (show 0 ≤ 0 ∧ 0 ≤ 5 from by have h91 : (0 : Int32).toInt = 0 := (by decide); omega)) (cwV 2 hts gm_X0_reasonToEnter_SA_X6_has_SS_104 rfl rfl rfl (by decide +kernel) ⟨Nat.le_of_ble_eq_true rfl, Nat.le_of_ble_eq_true rfl⟩) (yA_V hN (xZ_k hZ hS hA) (xkS_P2 hK) (xuS_P2 (sk := sk) hP) (ci := 6) (q0 := 0) rfl rfl) rfl rfl hl.1 rfl (lv_room (Nat.le_of_ble_eq_true rfl)) dX0_reasonToEnter_65 ⟨Nat.le_of_ble_eq_true rfl, Nat.le_of_ble_eq_true rfl⟩) hS hA hP (fun r13 u13 H locs hw13 hP hS => ?_)
          have hw13 : (0 ≤ r13.toInt ∧ r13.toInt ≤ 1) := hw13
          refine lv_if_ne (tgt := 73) hx hb dX0_reasonToEnter_68 (by decide) (fun c14 => ?_) (fun c14 => ?_)
          · have f14 := mt (ti_eq (a := r13.toInt) (b := 0) rfl (by decide)).mpr c14
            exact jn7    _ _ _ hP hS (lv_sub hl [0, 1, 2] rfl)
          · have f14 := (ti_eq (a := r13.toInt) (b := 0) rfl (by decide)).mp c14
            refine lv_iconst (v := 3) hx hb dX0_reasonToEnter_71 (by decide) ?_
            exact ro_iret hx hb hr hlocks hS dX0_reasonToEnter_72 (show 0 ≤ (3 : Int32).toInt ∧ (3 : Int32).toInt ≤ 20 from by have h9 : (3 : Int32).toInt = 3 := (by decide); omega)
      · have f6 := mt (ti_eq (a := r5.toInt) (b := 0) rfl (by decide)).mpr c6
        refine lv_bipush (v := 13) hx hb dX0_reasonToEnter_51 (by decide) ?_
        exact ro_iret hx hb hr hlocks hS dX0_reasonToEnter_53 (show 0 ≤ (13 : Int32).toInt ∧ (13 : Int32).toInt ≤ 20 from by have h9 : (13 : Int32).toInt = 13 := (by decide); omega)
    refine lv_icmp_eq (tgt := 36) hx hb dX0_reasonToEnter_25 (by decide) (fun c15 => ?_) (fun c15 => ?_)
    · have f15 := (ti_eq (a := r3.toInt) (b := 3) rfl (by decide)).mp c15
      exact jn4    _ _ _ hP hS (lv_sub hl [0, 1, 2] rfl)
    · have f15 := mt (ti_eq (a := r3.toInt) (b := 3) rfl (by decide)).mpr c15
      refine lv_iload_n hx hb dX0_reasonToEnter_28 rfl (lv_at hl 0 rfl) ?_
      refine lv_iconst (v := 4) hx hb dX0_reasonToEnter_29 (by decide) ?_
      refine lv_icmp_eq (tgt := 36) hx hb dX0_reasonToEnter_30 (by decide) (fun c16 => ?_) (fun c16 => ?_)
      · have f16 := (ti_eq (a := r3.toInt) (b := 4) rfl (by decide)).mp c16
        exact jn4    _ _ _ hP hS (lv_sub hl [0, 1, 2] rfl)
      · have f16 := mt (ti_eq (a := r3.toInt) (b := 4) rfl (by decide)).mpr c16
        refine lv_bipush (v := 12) hx hb dX0_reasonToEnter_33 (by decide) ?_
        exact ro_iret hx hb hr hlocks hS dX0_reasonToEnter_35 (show 0 ≤ (12 : Int32).toInt ∧ (12 : Int32).toInt ≤ 20 from by have h9 : (12 : Int32).toInt = 12 := (by decide); omega)
  · have f2 := (ti_eq (a := x1.toInt) (b := 0) rfl (by decide)).mp c2
    refine lv_iconst (v := 4) hx hb dX0_reasonToEnter_12 (by decide) ?_
    exact ro_iret hx hb hr hlocks hS dX0_reasonToEnter_13 (show 0 ≤ (4 : Int32).toInt ∧ (4 : Int32).toInt ≤ 20 from by have h9 : (4 : Int32).toInt = 4 := (by decide); omega)

