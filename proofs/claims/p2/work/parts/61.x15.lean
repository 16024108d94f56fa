def wm_X0_reasonToGo_TA : List Cond := .code yX0_reasonToGo cX0_reasonToGo 4 (some .int) :: (([.methodLink RX0 91 yX0_isByRoom, .instanceMethod yX0_isByRoom, .selects RX0 yX0_isByRoom yX0_isByRoom, .initialized RX0, .code yX0_isByRoom cX0_isByRoom 1 (some .boolean), .fieldLink RX0 33 "TalePlay$Acts" "scene" "LTalePlay$Scene;", .fieldLink RX0 38 "TalePlay$Acts" "player" "I", .methodLink RX0 80 yX6_formOf, .instanceMethod yX6_formOf, .selects RX6 yX6_formOf yX6_formOf, .initialized RX6, .code yX6_formOf cX6_formOf 3 (some .int), .fieldLink RX6 9 "TalePlay$Scene" "cells" "[I", .fieldLink RX0 9 "TalePlay$Acts" "world" "LTalePlay$World;", .methodLink RX0 83 yX6_holderOf, .instanceMethod yX6_holderOf, .selects RX6 yX6_holderOf yX6_holderOf, .code yX6_holderOf cX6_holderOf 3 (some .int), .methodLink RX0 86 yX10_sortOf, .instanceMethod yX10_sortOf, .selects RX10 yX10_sortOf yX10_sortOf, .initialized RX10, .code yX10_sortOf cX10_sortOf 2 (some .int), .fieldLink RX10 37 "TalePlay$World" "objects" "I", .fieldLink RX10 15 "TalePlay$World" "sorts" "[I", .fieldLink RX10 21 "TalePlay$World" "kindOf" "[I", .fieldLink RX0 19 "TalePlay$Acts" "roads" "LTalePlay$Roads;", .fieldLink RX0 95 "TalePlay$Roads" "leads" "[I", .fieldLink RX0 101 "TalePlay$Roads" "doors" "[I", .methodLink RX0 104 yX6_has, .instanceMethod yX6_has, .selects RX6 yX6_has yX6_has, .code yX6_has cX6_has 3 (some .boolean)] : List Cond) ++ wsX00 ++ wsX60 ++ wsX100 ++ wsX50)
set_option maxRecDepth 20000 in
theorem gm_X0_reasonToGo_TA_X0_isByRoom_TA_91 : GoodIn wm_X0_reasonToGo_TA (wsV RX0 91 RX0 yX0_isByRoom wm_X0_isByRoom_TA) := goodIn_app (goodIn_of _ (by decide +kernel)) (goodIn_r _ [5, 6, 7, 8, 9, 10, 11, 12, 13, 14, 15, 16, 17, 18, 19, 20, 21, 22, 23, 24, 25, 26, 34, 35, 36, 37, 38, 39, 40, 41, 42, 43, 44, 45, 46, 47, 48, 49] rfl (by decide +kernel))
set_option maxRecDepth 20000 in
theorem gm_X0_reasonToGo_TA_X6_holderOf_TS_83 : GoodIn wm_X0_reasonToGo_TA (wsV RX0 83 RX6 yX6_holderOf wm_X6_holderOf_TS) := goodIn_app (goodIn_of _ (by decide +kernel)) (goodIn_r _ [18, 13, 41, 42] rfl (by decide +kernel))
set_option maxRecDepth 20000 in
theorem gm_X0_reasonToGo_TA_X6_has_TS_104 : GoodIn wm_X0_reasonToGo_TA (wsV RX0 104 RX6 yX6_has wm_X6_has_TS) := goodIn_app (goodIn_of _ (by decide +kernel)) (goodIn_r _ [33, 13, 41, 42] rfl (by decide +kernel))
set_option maxHeartbeats 4000000 in
set_option maxRecDepth 100000 in
theorem x_X0_reasonToGo_TA (l : Launch) (D : va_G) (sz : Nat) (sk : Value) (a : Nat → Nat) (t : Nat → ClassId) (i : Nat → Int32) (q : Int64) (c : Nat → Nat → Int32) (d : Nat → Nat → Int64) (w : Int32) (hI : xInv i c) (hw : 0 ≤ w.toInt ∧ w.toInt ≤ 9) (hpl : 0 ≤ (i 156).toInt ∧ (i 156).toInt ≤ 29) : Met l yX0_reasonToGo wm_X0_reasonToGo_TA ({ frames := 2, cells := 0, slots := 0, locals := 42 }) (va_Pc [.ref (a 155), .int w] (yA (a 186) D sz (xwT sk a t i q c d) (xtT t))) (va_Qi (fun (r : Int32) (_ : Unit) => ((0 ≤ r.toInt ∧ r.toInt ≤ 3) ∧ (Im (r.toInt = 0) (AG (c 150) (c 129) (i 156) w)))) oA (ro sz)) 0 0 (ro sz) := by
  refine Met.ofW (cc := cX0_reasonToGo) (maxL := 4) (ret := (some .int)) (by decide) rfl ?_
  intro p e s m args below meth cd s₁ B hml hv
  obtain ⟨rfl, ⟨hsz, hP, hK⟩, hN, hZ⟩ := hv
  have hx := B.exec
  have hb := B.bytes
  have hr := B.returns
  have hts := atoms_spec (ws := wm_X0_reasonToGo_TA) B.pre
  have hown : s.vm.findClass RX0 = some m.cls := findClass_of_methodNamed B.named
  have hlocks := B.notSynchronized
  subst hsz
  have hA : ∀ q : Nat, s.heap.size ≤ q → ro s.heap.size q := fun _ h => h
  have hS : va_S (ro s.heap.size) s.heap s.heap [] := va_S.rf
  have hl := lv_entry ([.ref (a 155), .int w]) (n := 4) (Nat.le_of_ble_eq_true rfl)
  rw [lg_entry_eq]
  generalize (lg_sl ([.ref (a 155), .int w]) ++ List.replicate (4 - (lg_sl ([.ref (a 155), .int w])).length) Slot.unset).toArray = ls at hl ⊢
  have hl : lv_has ls 4 [(0, .ref (a 155)), (1, .int w)] := hl
  refine lv_aload_n hx hb dX0_reasonToGo_0 rfl (lv_at hl 0 rfl) ?_
  have rb156_i : (i 156).toInt = -9 ∨ (0 ≤ (i 156).toInt ∧ (i 156).toInt ≤ 29) := hI.1 156
  refine ro_calli (va_runV (As := []) (rest := []) ⟨hx, hb, hml, hown, hts⟩ (x_X0_isByRoom_TA l D s.heap.size sk a t i q c d  hI (show 0 ≤ ((i 156) : Int32).toInt ∧ ((i 156) : Int32).toInt ≤ 29 from by omega)) (cwV 0 hts gm_X0_reasonToGo_TA_X0_isByRoom_TA_91 rfl rfl rfl (by decide +kernel) ⟨Nat.le_of_ble_eq_true rfl, Nat.le_of_ble_eq_true rfl⟩) (yA_V hN (xZ_k hZ hS hA) hK hP (ci := 0) (q0 := 42) rfl rfl) rfl rfl hl.1 rfl (lv_room (Nat.le_of_ble_eq_true rfl)) dX0_reasonToGo_1 ⟨Nat.le_of_ble_eq_true rfl, Nat.le_of_ble_eq_true rfl⟩) hS hA hP (fun r1 u1 H locs hw1 hP hS => ?_)
  have hw1 : ((0 ≤ r1.toInt ∧ r1.toInt ≤ 1) ∧ (Im (r1.toInt = 1) (¬ (c 150 (i 156).toNatClampNeg).toInt % 256 = 255))) := hw1
  obtain ⟨hw1, hr1_0⟩ := hw1
  have hr1_0 : Im (r1.toInt = 1) (¬ (c 150 (i 156).toNatClampNeg).toInt % 256 = 255) := hr1_0
  refine lv_if_ne (tgt := 9) hx hb dX0_reasonToGo_4 (by decide) (fun c2 => ?_) (fun c2 => ?_)
  · have f2 := mt (ti_eq (a := r1.toInt) (b := 0) rfl (by decide)).mpr c2
    have hby := hr1_0 (by omega)
    refine lv_aload_n hx hb dX0_reasonToGo_9 rfl (lv_at hl 0 rfl) ?_
    refine xgT_TA_scene hx hb hts (fun _ h => List.mem_cons_of_mem _ (List.mem_append_left _ (List.mem_append_left _ (List.mem_append_left _ (List.mem_append_right _ h))))) hown hK hP (hts (.fieldLink RX0 33 "TalePlay$Acts" "scene" "LTalePlay$Scene;") (by decide +kernel)) dX0_reasonToGo_10 ?_
    refine lv_aload_n hx hb dX0_reasonToGo_13 rfl (lv_at hl 0 rfl) ?_
    refine xgT_TA_player (v := (i 156)) rfl hx hb hts (fun _ h => List.mem_cons_of_mem _ (List.mem_append_left _ (List.mem_append_left _ (List.mem_append_left _ (List.mem_append_right _ h))))) hown hK hP (hts (.fieldLink RX0 38 "TalePlay$Acts" "player" "I") (by decide +kernel)) dX0_reasonToGo_14 ?_
    refine ro_calli (va_runV (As := [.int (i 156)]) (rest := []) ⟨hx, hb, hml, hown, hts⟩ (x_X6_holderOf_TS l D H.size .null a t i q c d (i 156) hI (show 0 ≤ (i 156).toInt ∧ (i 156).toInt ≤ 29 from by omega)) (cwV 1 hts gm_X0_reasonToGo_TA_X6_holderOf_TS_83 rfl rfl rfl (by decide +kernel) ⟨Nat.le_of_ble_eq_true rfl, Nat.le_of_ble_eq_true rfl⟩) (yA_V hN (xZ_k hZ hS hA) (xkT_P1 hK) (xuT_P1 (sk := sk) hP) (ci := 6) (q0 := 0) rfl rfl) rfl rfl hl.1 rfl (lv_room (Nat.le_of_ble_eq_true rfl)) dX0_reasonToGo_17 ⟨Nat.le_of_ble_eq_true rfl, Nat.le_of_ble_eq_true rfl⟩) hS hA hP (fun r3 u3 H locs hw3 hP hS => ?_)
    have hw3 : ((r3.toInt = -9 ∧ (c 150 (i 156).toNatClampNeg).toInt % 256 = 255) ∨ (0 ≤ r3.toInt ∧ r3.toInt ≤ 29 ∧ ¬ (c 150 (i 156).toNatClampNeg).toInt % 256 = 255 ∧ r3.toInt = (c 150 (i 156).toNatClampNeg).toInt / 8 % 32)) := hw3
    refine lv_bipush (v := 10) hx hb dX0_reasonToGo_20 (by decide) ?_
    refine lv_imul hx hb dX0_reasonToGo_22 ?_
    refine lv_topi (fun x4 ex4 => ?_)
    have tx4 := ti_mul (a := r3.toInt) (b := 10) ex4 rfl (by decide) (by omega) (by omega)
    refine lv_iload_n hx hb dX0_reasonToGo_23 rfl (lv_at hl 1 rfl) ?_
    refine lv_iadd hx hb dX0_reasonToGo_24 ?_
    refine lv_topi (fun x5 ex5 => ?_)
    have tx5 := ti_add (a := (r3.toInt * 10)) (b := w.toInt) ex5 tx4 rfl (by omega) (by omega)
    refine lv_istore_n (lv' := [(2, .int x5), (0, .ref (a 155)), (1, .int w)]) hx hb dX0_reasonToGo_25 rfl hl (by decide) rfl (fun ls hl => ?_)
    refine lv_aload_n hx hb dX0_reasonToGo_26 rfl (lv_at hl 1 rfl) ?_
    refine xgT_TA_roads hx hb hts (fun _ h => List.mem_cons_of_mem _ (List.mem_append_left _ (List.mem_append_left _ (List.mem_append_left _ (List.mem_append_right _ h))))) hown hK hP (hts (.fieldLink RX0 19 "TalePlay$Acts" "roads" "LTalePlay$Roads;") (by decide +kernel)) dX0_reasonToGo_27 ?_
    refine xgT_R_leads hx hb hts (fun _ h => List.mem_cons_of_mem _ (List.mem_append_right _ h)) hown hK hP (hts (.fieldLink RX0 95 "TalePlay$Roads" "leads" "[I") (by decide +kernel)) dX0_reasonToGo_30 ?_
    refine lv_iload_n hx hb dX0_reasonToGo_33 rfl (lv_at hl 0 rfl) ?_
    refine xlT_129 hx hb hK hP (vp_in_iff.mpr (by have h9 : x5.toInt = ((r3.toInt * 10) + w.toInt) := tx5; omega)) dX0_reasonToGo_34 (fun x6 ex6 => ?_)
    have rx6 : x6.toInt = -9 ∨ (0 ≤ x6.toInt ∧ x6.toInt ≤ 29) := by rw [ex6]; exact hI.2 129 _
    refine lv_bipush (v := (-9)) hx hb dX0_reasonToGo_35 (by decide) ?_
    refine lv_icmp_ne (tgt := 42) hx hb dX0_reasonToGo_37 (by decide) (fun c7 => ?_) (fun c7 => ?_)
    · have f7 := mt (ti_eq (a := x6.toInt) (b := (-9)) rfl (by decide)).mpr c7
      refine lv_aload_n hx hb dX0_reasonToGo_42 rfl (lv_at hl 1 rfl) ?_
      refine xgT_TA_roads hx hb hts (fun _ h => List.mem_cons_of_mem _ (List.mem_append_left _ (List.mem_append_left _ (List.mem_append_left _ (List.mem_append_right _ h))))) hown hK hP (hts (.fieldLink RX0 19 "TalePlay$Acts" "roads" "LTalePlay$Roads;") (by decide +kernel)) dX0_reasonToGo_43 ?_
      refine xgT_R_doors hx hb hts (fun _ h => List.mem_cons_of_mem _ (List.mem_append_right _ h)) hown hK hP (hts (.fieldLink RX0 101 "TalePlay$Roads" "doors" "[I") (by decide +kernel)) dX0_reasonToGo_46 ?_
      refine lv_iload_n hx hb dX0_reasonToGo_49 rfl (lv_at hl 0 rfl) ?_
      refine xlT_130 hx hb hK hP (vp_in_iff.mpr (by have h9 : x5.toInt = ((r3.toInt * 10) + w.toInt) := tx5; omega)) dX0_reasonToGo_50 (fun x8 ex8 => ?_)
      have rx8 : x8.toInt = -9 ∨ (0 ≤ x8.toInt ∧ x8.toInt ≤ 29) := by rw [ex8]; exact hI.2 130 _
      refine lv_istore_n (lv' := [(3, .int x8), (2, .int x5), (0, .ref (a 155)), (1, .int w)]) hx hb dX0_reasonToGo_51 rfl hl (by decide) rfl (fun ls hl => ?_)
      refine lv_iload_n hx hb dX0_reasonToGo_52 rfl (lv_at hl 0 rfl) ?_
      refine lv_bipush (v := (-9)) hx hb dX0_reasonToGo_53 (by decide) ?_
      refine lv_icmp_eq (tgt := 74) hx hb dX0_reasonToGo_55 (by decide) (fun c9 => ?_) (fun c9 => ?_)
      · have f9 := (ti_eq (a := x8.toInt) (b := (-9)) rfl (by decide)).mp c9
        refine lv_iconst (v := 0) hx hb dX0_reasonToGo_74 (by decide) ?_
        exact ro_iret hx hb hr hlocks hS dX0_reasonToGo_75 ⟨(show 0 ≤ (0 : Int32).toInt ∧ (0 : Int32).toInt ≤ 3 from by have h9 : (0 : Int32).toInt = 0 := (by decide); omega), (show Im ((0 : Int32).toInt = 0) (AG (c 150) (c 129) (i 156) w) from fun _ => ⟨hby, by rw [ix_n (show x5.toInt = (c 150 (i 156).toNatClampNeg).toInt / 8 % 32 * 10 + w.toInt from by have h9 : x5.toInt = ((r3.toInt * 10) + w.toInt) := tx5; omega) ex6]; omega⟩)⟩
      · have f9 := mt (ti_eq (a := x8.toInt) (b := (-9)) rfl (by decide)).mpr c9
        refine lv_aload_n hx hb dX0_reasonToGo_58 rfl (lv_at hl 2 rfl) ?_
        refine xgT_TA_scene hx hb hts (fun _ h => List.mem_cons_of_mem _ (List.mem_append_left _ (List.mem_append_left _ (List.mem_append_left _ (List.mem_append_right _ h))))) hown hK hP (hts (.fieldLink RX0 33 "TalePlay$Acts" "scene" "LTalePlay$Scene;") (by decide +kernel)) dX0_reasonToGo_59 ?_
        refine lv_iload_n hx hb dX0_reasonToGo_62 rfl (lv_at hl 0 rfl) ?_
        refine lv_iconst (v := 0) hx hb dX0_reasonToGo_63 (by decide) ?_
        refine ro_calli (va_runV (As := [.int x8, .int 0]) (rest := []) ⟨hx, hb, hml, hown, hts⟩ (x_X6_has_TS l D H.size .null a t i q c d x8 0 hI (show 0 ≤ x8.toInt ∧ x8.toInt ≤ 29 from by have h91 : (0 : Int32).toInt = 0 := (by decide); omega) (show 0 ≤ 0 ∧ 0 ≤ 5 from by have h91 : (0 : Int32).toInt = 0 := (by decide); omega)) (cwV 2 hts gm_X0_reasonToGo_TA_X6_has_TS_104 rfl rfl rfl (by decide +kernel) ⟨Nat.le_of_ble_eq_true rfl, Nat.le_of_ble_eq_true rfl⟩) (yA_V hN (xZ_k hZ hS hA) (xkT_P1 hK) (xuT_P1 (sk := sk) hP) (ci := 6) (q0 := 0) rfl rfl) rfl rfl hl.1 rfl (lv_room (Nat.le_of_ble_eq_true rfl)) dX0_reasonToGo_64 ⟨Nat.le_of_ble_eq_true rfl, Nat.le_of_ble_eq_true rfl⟩) hS hA hP (fun r10 u10 H locs hw10 hP hS => ?_)
        have hw10 : (0 ≤ r10.toInt ∧ r10.toInt ≤ 1) := hw10
        refine lv_if_ne (tgt := 74) hx hb dX0_reasonToGo_67 (by decide) (fun c11 => ?_) (fun c11 => ?_)
        · have f11 := mt (ti_eq (a := r10.toInt) (b := 0) rfl (by decide)).mpr c11
          refine lv_iconst (v := 0) hx hb dX0_reasonToGo_74 (by decide) ?_
          exact ro_iret hx hb hr hlocks hS dX0_reasonToGo_75 ⟨(show 0 ≤ (0 : Int32).toInt ∧ (0 : Int32).toInt ≤ 3 from by have h9 : (0 : Int32).toInt = 0 := (by decide); omega), (show Im ((0 : Int32).toInt = 0) (AG (c 150) (c 129) (i 156) w) from fun _ => ⟨hby, by rw [ix_n (show x5.toInt = (c 150 (i 156).toNatClampNeg).toInt / 8 % 32 * 10 + w.toInt from by have h9 : x5.toInt = ((r3.toInt * 10) + w.toInt) := tx5; omega) ex6]; omega⟩)⟩
        · have f11 := (ti_eq (a := r10.toInt) (b := 0) rfl (by decide)).mp c11
          refine lv_iconst (v := 3) hx hb dX0_reasonToGo_70 (by decide) ?_
          refine lv_goto (tgt := 75) hx hb dX0_reasonToGo_71 (by decide) ?_
          exact ro_iret hx hb hr hlocks hS dX0_reasonToGo_75 ⟨(show 0 ≤ (3 : Int32).toInt ∧ (3 : Int32).toInt ≤ 3 from by have h9 : (3 : Int32).toInt = 3 := (by decide); omega), (show Im ((3 : Int32).toInt = 0) (AG (c 150) (c 129) (i 156) w) from fun h9 => absurd h9 (by decide))⟩
    · have f7 := (ti_eq (a := x6.toInt) (b := (-9)) rfl (by decide)).mp c7
      refine lv_iconst (v := 2) hx hb dX0_reasonToGo_40 (by decide) ?_
      exact ro_iret hx hb hr hlocks hS dX0_reasonToGo_41 ⟨(show 0 ≤ (2 : Int32).toInt ∧ (2 : Int32).toInt ≤ 3 from by have h9 : (2 : Int32).toInt = 2 := (by decide); omega), (show Im ((2 : Int32).toInt = 0) (AG (c 150) (c 129) (i 156) w) from fun h9 => absurd h9 (by decide))⟩
  · have f2 := (ti_eq (a := r1.toInt) (b := 0) rfl (by decide)).mp c2
    refine lv_iconst (v := 1) hx hb dX0_reasonToGo_7 (by decide) ?_
    exact ro_iret hx hb hr hlocks hS dX0_reasonToGo_8 ⟨(show 0 ≤ (1 : Int32).toInt ∧ (1 : Int32).toInt ≤ 3 from by have h9 : (1 : Int32).toInt = 1 := (by decide); omega), (show Im ((1 : Int32).toInt = 0) (AG (c 150) (c 129) (i 156) w) from fun h9 => absurd h9 (by decide))⟩

def wm_X0_reasonToTake_TA : List Cond := .code yX0_reasonToTake cX0_reasonToTake 3 (some .int) :: (([.fieldLink RX0 34 "TalePlay$Acts" "sight" "LTalePlay$Sight;", .fieldLink RX0 108 "TalePlay$Sight" "seen" "[Z", .fieldLink RX0 38 "TalePlay$Acts" "player" "I", .fieldLink RX0 33 "TalePlay$Acts" "scene" "LTalePlay$Scene;", .methodLink RX0 112 yX6_isUp, .instanceMethod yX6_isUp, .selects RX6 yX6_isUp yX6_isUp, .initialized RX6, .code yX6_isUp cX6_isUp 5 (some .boolean), .methodLink RX6 25 yX6_holderOf, .instanceMethod yX6_holderOf, .selects RX6 yX6_holderOf yX6_holderOf, .code yX6_holderOf cX6_holderOf 3 (some .int), .fieldLink RX6 9 "TalePlay$Scene" "cells" "[I", .methodLink RX0 49 yX0_isHeld, .instanceMethod yX0_isHeld, .selects RX0 yX0_isHeld yX0_isHeld, .initialized RX0, .code yX0_isHeld cX0_isHeld 2 (some .boolean), .methodLink RX0 74 yX6_lies, .instanceMethod yX6_lies, .selects RX6 yX6_lies yX6_lies, .code yX6_lies cX6_lies 4 (some .boolean), .fieldLink RX0 9 "TalePlay$Acts" "world" "LTalePlay$World;", .methodLink RX0 115 yX10_isGoods, .instanceMethod yX10_isGoods, .selects RX10 yX10_isGoods yX10_isGoods, .initialized RX10, .code yX10_isGoods cX10_isGoods 2 (some .boolean), .methodLink RX10 44 yX10_isMovable, .instanceMethod yX10_isMovable, .selects RX10 yX10_isMovable yX10_isMovable, .code yX10_isMovable cX10_isMovable 3 (some .boolean), .methodLink RX10 40 yX10_sortOf, .instanceMethod yX10_sortOf, .selects RX10 yX10_sortOf yX10_sortOf, .code yX10_sortOf cX10_sortOf 2 (some .int), .fieldLink RX10 37 "TalePlay$World" "objects" "I", .fieldLink RX10 15 "TalePlay$World" "sorts" "[I", .fieldLink RX10 21 "TalePlay$World" "kindOf" "[I", .methodLink RX0 104 yX6_has, .instanceMethod yX6_has, .selects RX6 yX6_has yX6_has, .code yX6_has cX6_has 3 (some .boolean), .methodLink RX0 80 yX6_formOf, .instanceMethod yX6_formOf, .selects RX6 yX6_formOf yX6_formOf, .code yX6_formOf cX6_formOf 3 (some .int), .fieldLink RX0 118 "TalePlay$Sight" "reached" "[Z", .methodLink RX0 121 yX0_isAnothers, .instanceMethod yX0_isAnothers, .selects RX0 yX0_isAnothers yX0_isAnothers, .code yX0_isAnothers cX0_isAnothers 4 (some .boolean), .methodLink RX0 83 yX6_holderOf, .methodLink RX0 86 yX10_sortOf, .fieldLink RX0 23 "TalePlay$Acts" "bulks" "LTalePlay$Bulks;", .code yX2_weighBy cX2_weighBy 6 (some .int), .fieldLink RX2 15 "TalePlay$Bulks" "world" "LTalePlay$World;", .methodLink RX2 42 yX10_sortOf, .methodLink RX2 45 yX2_noteBodies, .instanceMethod yX2_noteBodies, .selects RX2 yX2_noteBodies yX2_noteBodies, .initialized RX2, .code yX2_noteBodies cX2_noteBodies 2 none, .fieldLink RX2 60 "TalePlay$Bulks" "BODIES" "[I", .methodLink RX2 63 yX2_note, .instanceMethod yX2_note, .selects RX2 yX2_note yX2_note, .code yX2_note cX2_note 2 none, .fieldLink RX2 27 "TalePlay$Bulks" "tracing" "Z", .fieldLink RX2 49 "TalePlay$World" "sizeOf" "[I", .methodLink RX2 52 yX2_weighThose, .instanceMethod yX2_weighThose, .selects RX2 yX2_weighThose yX2_weighThose, .code yX2_weighThose cX2_weighThose 7 (some .int), .fieldLink RX2 31 "TalePlay$World" "objects" "I", .methodLink RX2 56 yX6_lies, .methodLink RX2 23 yX2_weighBy, .instanceMethod yX2_weighBy, .selects RX2 yX2_weighBy yX2_weighBy] : List Cond) ++ wsX00 ++ wsX80 ++ wsX60 ++ wsX100 ++ wsX20)
set_option maxRecDepth 20000 in
theorem gm_X0_reasonToTake_TA_X6_isUp_TS_112 : GoodIn wm_X0_reasonToTake_TA (wsV RX0 112 RX6 yX6_isUp wm_X6_isUp_TS) := goodIn_app (goodIn_of _ (by decide +kernel)) (goodIn_r _ [9, 10, 11, 12, 8, 13, 14, 94, 95] rfl (by decide +kernel))
set_option maxRecDepth 20000 in
theorem gm_X0_reasonToTake_TA_X0_isHeld_TA_49 : GoodIn wm_X0_reasonToTake_TA (wsV RX0 49 RX0 yX0_isHeld wm_X0_isHeld_TA) := goodIn_app (goodIn_of _ (by decide +kernel)) (goodIn_r _ [19, 4, 3, 20, 21, 22, 8, 23, 14, 81, 82, 83, 84, 85, 86, 87, 94, 95] rfl (by decide +kernel))
set_option maxRecDepth 20000 in
theorem gm_X0_reasonToTake_TA_X10_isGoods_115 : GoodIn wm_X0_reasonToTake_TA (wsV RX0 115 RX10 yX10_isGoods wm_X10_isGoods) := goodIn_app (goodIn_of _ (by decide +kernel)) (goodIn_r _ [29, 30, 31, 32, 28, 33, 34, 35, 36, 37, 38, 39, 40, 96, 97, 98, 99, 100, 101, 102] rfl (by decide +kernel))
set_option maxRecDepth 20000 in
theorem gm_X0_reasonToTake_TA_X6_has_TS_104 : GoodIn wm_X0_reasonToTake_TA (wsV RX0 104 RX6 yX6_has wm_X6_has_TS) := goodIn_app (goodIn_of _ (by decide +kernel)) (goodIn_r _ [44, 14, 94, 95] rfl (by decide +kernel))
set_option maxRecDepth 20000 in
theorem gm_X0_reasonToTake_TA_X6_formOf_TS_80 : GoodIn wm_X0_reasonToTake_TA (wsV RX0 80 RX6 yX6_formOf wm_X6_formOf_TS) := goodIn_app (goodIn_of _ (by decide +kernel)) (goodIn_r _ [48, 14, 94, 95] rfl (by decide +kernel))
set_option maxRecDepth 20000 in
theorem gm_X0_reasonToTake_TA_X0_isAnothers_TA_121 : GoodIn wm_X0_reasonToTake_TA (wsV RX0 121 RX0 yX0_isAnothers wm_X0_isAnothers_TA) := goodIn_app (goodIn_of _ (by decide +kernel)) (goodIn_r _ [53, 4, 54, 11, 12, 8, 13, 14, 3, 24, 55, 35, 36, 28, 37, 38, 39, 40, 81, 82, 83, 84, 85, 86, 87, 94, 95, 96, 97, 98, 99, 100, 101, 102] rfl (by decide +kernel))
set_option maxRecDepth 20000 in
theorem gm_X0_reasonToTake_TA_X2_weighBy_T_124 : GoodIn wm_X0_reasonToTake_TA wm_X2_weighBy_T := goodIn_r _ [57, 58, 59, 35, 36, 28, 37, 38, 39, 40, 60, 61, 62, 63, 64, 65, 66, 67, 68, 69, 70, 71, 72, 73, 74, 75, 76, 77, 21, 22, 8, 23, 14, 78, 79, 80, 57, 103, 104, 105, 106, 96, 97, 98, 99, 100, 101, 102, 94, 95] rfl (by decide +kernel)
set_option maxRecDepth 20000 in
theorem gm_X0_reasonToTake_TA_X2_weighThose_T_130 : GoodIn wm_X0_reasonToTake_TA wm_X2_weighThose_T := goodIn_r _ [75, 58, 76, 77, 21, 22, 8, 23, 14, 78, 79, 80, 63, 57, 59, 35, 36, 28, 37, 38, 39, 40, 60, 61, 62, 64, 65, 66, 67, 68, 69, 70, 71, 72, 73, 74, 75, 103, 104, 105, 106, 96, 97, 98, 99, 100, 101, 102, 94, 95] rfl (by decide +kernel)
set_option maxHeartbeats 4000000 in
set_option maxRecDepth 100000 in
theorem x_X0_reasonToTake_TA (l : Launch) (D : va_G) (sz : Nat) (sk : Value) (a : Nat → Nat) (t : Nat → ClassId) (i : Nat → Int32) (q : Int64) (c : Nat → Nat → Int32) (d : Nat → Nat → Int64) (w : Int32) (hI : xInv i c) (hw : 0 ≤ w.toInt ∧ w.toInt ≤ 29) (hpl : 0 ≤ (i 156).toInt ∧ (i 156).toInt ≤ 29) (htr : (i 141).toInt = 0) : Met l yX0_reasonToTake wm_X0_reasonToTake_TA ({ frames := 69, cells := 0, slots := 0, locals := 1806 }) (va_Pc [.ref (a 155), .int w] (yA (a 186) D sz (xwT sk a t i q c d) (xtT t))) (va_Qi (fun (r : Int32) (_ : Unit) => (0 ≤ r.toInt ∧ r.toInt ≤ 10)) oA (ro sz)) 0 0 (ro sz) := by
  refine Met.ofW (cc := cX0_reasonToTake) (maxL := 3) (ret := (some .int)) (by decide) rfl ?_
  intro p e s m args below meth cd s₁ B hml hv
  obtain ⟨rfl, ⟨hsz, hP, hK⟩, hN, hZ⟩ := hv
  have hx := B.exec
  have hb := B.bytes
  have hr := B.returns
  have hts := atoms_spec (ws := wm_X0_reasonToTake_TA) B.pre
  have hown : s.vm.findClass RX0 = some m.cls := findClass_of_methodNamed B.named
  have hlocks := B.notSynchronized
  subst hsz
  have hA : ∀ q : Nat, s.heap.size ≤ q → ro s.heap.size q := fun _ h => h
  have hS : va_S (ro s.heap.size) s.heap s.heap [] := va_S.rf
  have hl := lv_entry ([.ref (a 155), .int w]) (n := 3) (Nat.le_of_ble_eq_true rfl)
  rw [lg_entry_eq]
  generalize (lg_sl ([.ref (a 155), .int w]) ++ List.replicate (3 - (lg_sl ([.ref (a 155), .int w])).length) Slot.unset).toArray = ls at hl ⊢
  have hl : lv_has ls 3 [(0, .ref (a 155)), (1, .int w)] := hl
  refine lv_aload_n hx hb dX0_reasonToTake_0 rfl (lv_at hl 0 rfl) ?_
  refine xgT_TA_sight hx hb hts (fun _ h => List.mem_cons_of_mem _ (List.mem_append_left _ (List.mem_append_left _ (List.mem_append_left _ (List.mem_append_left _ (List.mem_append_right _ h)))))) hown hK hP (hts (.fieldLink RX0 34 "TalePlay$Acts" "sight" "LTalePlay$Sight;") (by decide +kernel)) dX0_reasonToTake_1 ?_
  refine xgT_TG_seen hx hb hts (fun _ h => List.mem_cons_of_mem _ (List.mem_append_left _ (List.mem_append_left _ (List.mem_append_left _ (List.mem_append_right _ h))))) hown hK hP (hts (.fieldLink RX0 108 "TalePlay$Sight" "seen" "[Z") (by decide +kernel)) dX0_reasonToTake_4 ?_
  refine lv_iload_n hx hb dX0_reasonToTake_7 rfl (lv_at hl 1 rfl) ?_
  refine xlT_152 hx hb hK hP (vp_in_iff.mpr (by have h9 : w.toInt = w.toInt := rfl; omega)) dX0_reasonToTake_8 (fun x1 ex1 => ?_)
  have rx1 : 0 ≤ x1.toInt ∧ x1.toInt ≤ 1 := by rw [ex1]; exact hI.2 152 _
  refine lv_if_ne (tgt := 14) hx hb dX0_reasonToTake_9 (by decide) (fun c2 => ?_) (fun c2 => ?_)
  · have f2 := mt (ti_eq (a := x1.toInt) (b := 0) rfl (by decide)).mpr c2
    refine lv_iload_n hx hb dX0_reasonToTake_14 rfl (lv_at hl 1 rfl) ?_
    refine lv_aload_n hx hb dX0_reasonToTake_15 rfl (lv_at hl 0 rfl) ?_
    refine xgT_TA_player (v := (i 156)) rfl hx hb hts (fun _ h => List.mem_cons_of_mem _ (List.mem_append_left _ (List.mem_append_left _ (List.mem_append_left _ (List.mem_append_left _ (List.mem_append_right _ h)))))) hown hK hP (hts (.fieldLink RX0 38 "TalePlay$Acts" "player" "I") (by decide +kernel)) dX0_reasonToTake_16 ?_
    have rb156_i : (i 156).toInt = -9 ∨ (0 ≤ (i 156).toInt ∧ (i 156).toInt ≤ 29) := hI.1 156
    refine lv_icmp_eq (tgt := 37) hx hb dX0_reasonToTake_19 (by decide) (fun c3 => ?_) (fun c3 => ?_)
    · have f3 := (ti_eq (a := w.toInt) (b := (i 156).toInt) rfl rfl).mp c3
      refine lv_iconst (v := 5) hx hb dX0_reasonToTake_37 (by decide) ?_
      exact ro_iret hx hb hr hlocks hS dX0_reasonToTake_38 (show 0 ≤ (5 : Int32).toInt ∧ (5 : Int32).toInt ≤ 10 from by have h9 : (5 : Int32).toInt = 5 := (by decide); omega)
    · have f3 := mt (ti_eq (a := w.toInt) (b := (i 156).toInt) rfl rfl).mpr c3
      refine lv_aload_n hx hb dX0_reasonToTake_22 rfl (lv_at hl 0 rfl) ?_
      refine xgT_TA_scene hx hb hts (fun _ h => List.mem_cons_of_mem _ (List.mem_append_left _ (List.mem_append_left _ (List.mem_append_left _ (List.mem_append_left _ (List.mem_append_right _ h)))))) hown hK hP (hts (.fieldLink RX0 33 "TalePlay$Acts" "scene" "LTalePlay$Scene;") (by decide +kernel)) dX0_reasonToTake_23 ?_
      refine lv_iload_n hx hb dX0_reasonToTake_26 rfl (lv_at hl 1 rfl) ?_
      refine lv_aload_n hx hb dX0_reasonToTake_27 rfl (lv_at hl 0 rfl) ?_
      refine xgT_TA_player (v := (i 156)) rfl hx hb hts (fun _ h => List.mem_cons_of_mem _ (List.mem_append_left _ (List.mem_append_left _ (List.mem_append_left _ (List.mem_append_left _ (List.mem_append_right _ h)))))) hown hK hP (hts (.fieldLink RX0 38 "TalePlay$Acts" "player" "I") (by decide +kernel)) dX0_reasonToTake_28 ?_
      refine ro_calli (va_runV (As := [.int w, .int (i 156)]) (rest := []) ⟨hx, hb, hml, hown, hts⟩ (x_X6_isUp_TS l D s.heap.size .null a t i q c d w (i 156) hI (show 0 ≤ (i 156).toInt ∧ (i 156).toInt ≤ 29 from by omega)) (cwV 2 hts gm_X0_reasonToTake_TA_X6_isUp_TS_112 rfl rfl rfl (by decide +kernel) ⟨Nat.le_of_ble_eq_true rfl, Nat.le_of_ble_eq_true rfl⟩) (yA_V hN (xZ_k hZ hS hA) (xkT_P1 hK) (xuT_P1 (sk := sk) hP) (ci := 6) (q0 := 0) rfl rfl) rfl rfl hl.1 rfl (lv_room (Nat.le_of_ble_eq_true rfl)) dX0_reasonToTake_31 ⟨Nat.le_of_ble_eq_true rfl, Nat.le_of_ble_eq_true rfl⟩) hS hA hP (fun r4 u4 H locs hw4 hP hS => ?_)
      have hw4 : (0 ≤ r4.toInt ∧ r4.toInt ≤ 1) := hw4
      refine lv_if_eq (tgt := 39) hx hb dX0_reasonToTake_34 (by decide) (fun c5 => ?_) (fun c5 => ?_)
      · have f5 := (ti_eq (a := r4.toInt) (b := 0) rfl (by decide)).mp c5
        refine lv_aload_n hx hb dX0_reasonToTake_39 rfl (lv_at hl 0 rfl) ?_
        refine lv_iload_n hx hb dX0_reasonToTake_40 rfl (lv_at hl 1 rfl) ?_
        refine ro_calli (va_runV (As := [.int w]) (rest := []) ⟨hx, hb, hml, hown, hts⟩ (x_X0_isHeld_TA l D H.size sk a t i q c d w hI (show 0 ≤ w.toInt ∧ w.toInt ≤ 29 from by omega)) (cwV 1 hts gm_X0_reasonToTake_TA_X0_isHeld_TA_49 rfl rfl rfl (by decide +kernel) ⟨Nat.le_of_ble_eq_true rfl, Nat.le_of_ble_eq_true rfl⟩) (yA_V hN (xZ_k hZ hS hA) hK hP (ci := 0) (q0 := 42) rfl rfl) rfl rfl hl.1 rfl (lv_room (Nat.le_of_ble_eq_true rfl)) dX0_reasonToTake_41 ⟨Nat.le_of_ble_eq_true rfl, Nat.le_of_ble_eq_true rfl⟩) hS hA hP (fun r6 u6 H locs hw6 hP hS => ?_)
        have hw6 : (0 ≤ r6.toInt ∧ r6.toInt ≤ 1) := hw6
        refine lv_if_eq (tgt := 50) hx hb dX0_reasonToTake_44 (by decide) (fun c7 => ?_) (fun c7 => ?_)
        · have f7 := (ti_eq (a := r6.toInt) (b := 0) rfl (by decide)).mp c7
          refine lv_aload_n hx hb dX0_reasonToTake_50 rfl (lv_at hl 0 rfl) ?_
          refine xgT_TA_world hx hb hts (fun _ h => List.mem_cons_of_mem _ (List.mem_append_left _ (List.mem_append_left _ (List.mem_append_left _ (List.mem_append_left _ (List.mem_append_right _ h)))))) hown hK hP (hts (.fieldLink RX0 9 "TalePlay$Acts" "world" "LTalePlay$World;") (by decide +kernel)) dX0_reasonToTake_51 ?_
          refine lv_iload_n hx hb dX0_reasonToTake_54 rfl (lv_at hl 1 rfl) ?_
          refine ro_calli (va_runV (As := [.int w]) (rest := []) ⟨hx, hb, hml, hown, hts⟩ (x_X10_isGoods l D H.size .null a t i q c d w hI ) (cwV 1 hts gm_X0_reasonToTake_TA_X10_isGoods_115 rfl rfl rfl (by decide +kernel) ⟨Nat.le_of_ble_eq_true rfl, Nat.le_of_ble_eq_true rfl⟩) (yA_V hN (xZ_k hZ hS hA) (xkT_W hK) (xuT_W (sk := sk) hP) (ci := 10) (q0 := 0) rfl rfl) rfl rfl hl.1 rfl (lv_room (Nat.le_of_ble_eq_true rfl)) dX0_reasonToTake_55 ⟨Nat.le_of_ble_eq_true rfl, Nat.le_of_ble_eq_true rfl⟩) hS hA hP (fun r8 u8 H locs hw8 hP hS => ?_)
          have hw8 : (0 ≤ r8.toInt ∧ r8.toInt ≤ 1) := hw8
          refine lv_if_eq (tgt := 85) hx hb dX0_reasonToTake_58 (by decide) (fun c9 => ?_) (fun c9 => ?_)
          · have f9 := (ti_eq (a := r8.toInt) (b := 0) rfl (by decide)).mp c9
            refine lv_bipush (v := 7) hx hb dX0_reasonToTake_85 (by decide) ?_
            exact ro_iret hx hb hr hlocks hS dX0_reasonToTake_87 (show 0 ≤ (7 : Int32).toInt ∧ (7 : Int32).toInt ≤ 10 from by have h9 : (7 : Int32).toInt = 7 := (by decide); omega)
          · have f9 := mt (ti_eq (a := r8.toInt) (b := 0) rfl (by decide)).mpr c9
            refine lv_aload_n hx hb dX0_reasonToTake_61 rfl (lv_at hl 0 rfl) ?_
            refine xgT_TA_scene hx hb hts (fun _ h => List.mem_cons_of_mem _ (List.mem_append_left _ (List.mem_append_left _ (List.mem_append_left _ (List.mem_append_left _ (List.mem_append_right _ h)))))) hown hK hP (hts (.fieldLink RX0 33 "TalePlay$Acts" "scene" "LTalePlay$Scene;") (by decide +kernel)) dX0_reasonToTake_62 ?_
            refine lv_iload_n hx hb dX0_reasonToTake_65 rfl (lv_at hl 1 rfl) ?_
            refine lv_iconst (v := 3) hx hb dX0_reasonToTake_66 (by decide) ?_
            refine ro_calli (va_runV (As := [.int w, .int 3]) (rest := []) ⟨hx, hb, hml, hown, hts⟩ (x_X6_has_TS l D H.size .null a t i q c d w 3 hI (show 0 ≤ w.toInt ∧ w.toInt ≤ 29 from by have h91 : (3 : Int32).toInt = 3 := (by decide); omega) (show 0 ≤ 3 ∧ 3 ≤ 5 from by have h91 : (3 : Int32).toInt = 3 := (by decide); omega)) (cwV 2 hts gm_X0_reasonToTake_TA_X6_has_TS_104 rfl rfl rfl (by decide +kernel) ⟨Nat.le_of_ble_eq_true rfl, Nat.le_of_ble_eq_true rfl⟩) (yA_V hN (xZ_k hZ hS hA) (xkT_P1 hK) (xuT_P1 (sk := sk) hP) (ci := 6) (q0 := 0) rfl rfl) rfl rfl hl.1 rfl (lv_room (Nat.le_of_ble_eq_true rfl)) dX0_reasonToTake_67 ⟨Nat.le_of_ble_eq_true rfl, Nat.le_of_ble_eq_true rfl⟩) hS hA hP (fun r10 u10 H locs hw10 hP hS => ?_)
            have hw10 : (0 ≤ r10.toInt ∧ r10.toInt ≤ 1) := hw10
            refine lv_if_ne (tgt := 85) hx hb dX0_reasonToTake_70 (by decide) (fun c11 => ?_) (fun c11 => ?_)
            · have f11 := mt (ti_eq (a := r10.toInt) (b := 0) rfl (by decide)).mpr c11
              refine lv_bipush (v := 7) hx hb dX0_reasonToTake_85 (by decide) ?_
              exact ro_iret hx hb hr hlocks hS dX0_reasonToTake_87 (show 0 ≤ (7 : Int32).toInt ∧ (7 : Int32).toInt ≤ 10 from by have h9 : (7 : Int32).toInt = 7 := (by decide); omega)
            · have f11 := (ti_eq (a := r10.toInt) (b := 0) rfl (by decide)).mp c11
              refine lv_aload_n hx hb dX0_reasonToTake_73 rfl (lv_at hl 0 rfl) ?_
              refine xgT_TA_scene hx hb hts (fun _ h => List.mem_cons_of_mem _ (List.mem_append_left _ (List.mem_append_left _ (List.mem_append_left _ (List.mem_append_left _ (List.mem_append_right _ h)))))) hown hK hP (hts (.fieldLink RX0 33 "TalePlay$Acts" "scene" "LTalePlay$Scene;") (by decide +kernel)) dX0_reasonToTake_74 ?_
              refine lv_iload_n hx hb dX0_reasonToTake_77 rfl (lv_at hl 1 rfl) ?_
              refine ro_calli (va_runV (As := [.int w]) (rest := []) ⟨hx, hb, hml, hown, hts⟩ (x_X6_formOf_TS l D H.size .null a t i q c d w hI (show 0 ≤ w.toInt ∧ w.toInt ≤ 29 from by omega)) (cwV 1 hts gm_X0_reasonToTake_TA_X6_formOf_TS_80 rfl rfl rfl (by decide +kernel) ⟨Nat.le_of_ble_eq_true rfl, Nat.le_of_ble_eq_true rfl⟩) (yA_V hN (xZ_k hZ hS hA) (xkT_P1 hK) (xuT_P1 (sk := sk) hP) (ci := 6) (q0 := 0) rfl rfl) rfl rfl hl.1 rfl (lv_room (Nat.le_of_ble_eq_true rfl)) dX0_reasonToTake_78 ⟨Nat.le_of_ble_eq_true rfl, Nat.le_of_ble_eq_true rfl⟩) hS hA hP (fun r12 u12 H locs hw12 hP hS => ?_)
              have hw12 : ((r12.toInt = -9 ∧ (c 150 w.toNatClampNeg).toInt % 256 = 255) ∨ (0 ≤ r12.toInt ∧ r12.toInt ≤ 4 ∧ ¬ (c 150 w.toNatClampNeg).toInt % 256 = 255 ∧ r12.toInt = (c 150 w.toNatClampNeg).toInt % 8)) := hw12
              refine lv_iconst (v := 4) hx hb dX0_reasonToTake_81 (by decide) ?_
              refine lv_icmp_ne (tgt := 88) hx hb dX0_reasonToTake_82 (by decide) (fun c13 => ?_) (fun c13 => ?_)
              · have f13 := mt (ti_eq (a := r12.toInt) (b := 4) rfl (by decide)).mpr c13
                refine lv_aload_n hx hb dX0_reasonToTake_88 rfl (lv_at hl 0 rfl) ?_
                refine xgT_TA_sight hx hb hts (fun _ h => List.mem_cons_of_mem _ (List.mem_append_left _ (List.mem_append_left _ (List.mem_append_left _ (List.mem_append_left _ (List.mem_append_right _ h)))))) hown hK hP (hts (.fieldLink RX0 34 "TalePlay$Acts" "sight" "LTalePlay$Sight;") (by decide +kernel)) dX0_reasonToTake_89 ?_
                refine xgT_TG_reached hx hb hts (fun _ h => List.mem_cons_of_mem _ (List.mem_append_left _ (List.mem_append_left _ (List.mem_append_left _ (List.mem_append_right _ h))))) hown hK hP (hts (.fieldLink RX0 118 "TalePlay$Sight" "reached" "[Z") (by decide +kernel)) dX0_reasonToTake_92 ?_
                refine lv_iload_n hx hb dX0_reasonToTake_95 rfl (lv_at hl 1 rfl) ?_
                refine xlT_153 hx hb hK hP (vp_in_iff.mpr (by have h9 : w.toInt = w.toInt := rfl; omega)) dX0_reasonToTake_96 (fun x14 ex14 => ?_)
                have rx14 : 0 ≤ x14.toInt ∧ x14.toInt ≤ 1 := by rw [ex14]; exact hI.2 153 _
                refine lv_if_ne (tgt := 103) hx hb dX0_reasonToTake_97 (by decide) (fun c15 => ?_) (fun c15 => ?_)
                · have f15 := mt (ti_eq (a := x14.toInt) (b := 0) rfl (by decide)).mpr c15
                  refine lv_aload_n hx hb dX0_reasonToTake_103 rfl (lv_at hl 0 rfl) ?_
                  refine lv_iload_n hx hb dX0_reasonToTake_104 rfl (lv_at hl 1 rfl) ?_
                  refine ro_calli (va_runV (As := [.int w]) (rest := []) ⟨hx, hb, hml, hown, hts⟩ (x_X0_isAnothers_TA l D H.size sk a t i q c d w hI (show 0 ≤ w.toInt ∧ w.toInt ≤ 29 from by omega)) (cwV 1 hts gm_X0_reasonToTake_TA_X0_isAnothers_TA_121 rfl rfl rfl (by decide +kernel) ⟨Nat.le_of_ble_eq_true rfl, Nat.le_of_ble_eq_true rfl⟩) (yA_V hN (xZ_k hZ hS hA) hK hP (ci := 0) (q0 := 42) rfl rfl) rfl rfl hl.1 rfl (lv_room (Nat.le_of_ble_eq_true rfl)) dX0_reasonToTake_105 ⟨Nat.le_of_ble_eq_true rfl, Nat.le_of_ble_eq_true rfl⟩) hS hA hP (fun r16 u16 H locs hw16 hP hS => ?_)
                  have hw16 : (0 ≤ r16.toInt ∧ r16.toInt ≤ 1) := hw16
                  refine lv_if_eq (tgt := 114) hx hb dX0_reasonToTake_108 (by decide) (fun c17 => ?_) (fun c17 => ?_)
                  · have f17 := (ti_eq (a := r16.toInt) (b := 0) rfl (by decide)).mp c17
                    refine lv_aload_n hx hb dX0_reasonToTake_114 rfl (lv_at hl 0 rfl) ?_
                    refine xgT_TA_bulks hx hb hts (fun _ h => List.mem_cons_of_mem _ (List.mem_append_left _ (List.mem_append_left _ (List.mem_append_left _ (List.mem_append_left _ (List.mem_append_right _ h)))))) hown hK hP (hts (.fieldLink RX0 23 "TalePlay$Acts" "bulks" "LTalePlay$Bulks;") (by decide +kernel)) dX0_reasonToTake_115 ?_
                    refine lv_aload_n hx hb dX0_reasonToTake_118 rfl (lv_at hl 0 rfl) ?_
                    refine xgT_TA_scene hx hb hts (fun _ h => List.mem_cons_of_mem _ (List.mem_append_left _ (List.mem_append_left _ (List.mem_append_left _ (List.mem_append_left _ (List.mem_append_right _ h)))))) hown hK hP (hts (.fieldLink RX0 33 "TalePlay$Acts" "scene" "LTalePlay$Scene;") (by decide +kernel)) dX0_reasonToTake_119 ?_
                    refine lv_iload_n hx hb dX0_reasonToTake_122 rfl (lv_at hl 1 rfl) ?_
                    refine lv_iconst (v := 0) hx hb dX0_reasonToTake_123 (by decide) ?_
                    have rb141_i : 0 ≤ (i 141).toInt ∧ (i 141).toInt ≤ 1 := hI.1 141
                    have hN18 := hN.1
                    refine ro_calli (va_runVN (As := [.ref (a 149), .int w, .int 0]) (rest := []) ⟨hx, hb, hml, hown, hts⟩ (x0_X2_weighBy_T l D H.size .null a t i q c d w 0 hI (show 0 ≤ w.toInt ∧ w.toInt ≤ 29 from by have h91 : (0 : Int32).toInt = 0 := (by decide); omega) (show 0 = 0 from by have h91 : (0 : Int32).toInt = 0 := (by decide); omega) (show ((i 141) : Int32).toInt = 0 from by have h91 : (0 : Int32).toInt = 0 := (by decide); omega)) ⟨va_cnB 3 hts gm_X0_reasonToTake_TA_X2_weighBy_T_124 rfl rfl rfl hN18 (hts (.initialized RX2) (by decide +kernel)) (by decide +kernel) ⟨Nat.le_of_ble_eq_true rfl, Nat.le_of_ble_eq_true rfl⟩, (hts (.instanceMethod yX2_weighBy) (by decide +kernel)), (hts (.selects RX2 yX2_weighBy yX2_weighBy) (by decide +kernel))⟩ (yA_V hN (xZ_k hZ hS hA) (xkT_BT hK) (xuT_BT (sk := sk) hP) (ci := 2) (q0 := 29) rfl rfl) rfl rfl hl.1 rfl (lv_room (Nat.le_of_ble_eq_true rfl)) dX0_reasonToTake_124 ⟨Nat.le_of_ble_eq_true rfl, Nat.le_of_ble_eq_true rfl⟩) hS hA hP (fun r18 u18 H locs hw18 hP hS => ?_)
                    refine lv_aload_n hx hb dX0_reasonToTake_127 rfl (lv_at hl 0 rfl) ?_
                    refine xgT_TA_bulks hx hb hts (fun _ h => List.mem_cons_of_mem _ (List.mem_append_left _ (List.mem_append_left _ (List.mem_append_left _ (List.mem_append_left _ (List.mem_append_right _ h)))))) hown hK hP (hts (.fieldLink RX0 23 "TalePlay$Acts" "bulks" "LTalePlay$Bulks;") (by decide +kernel)) dX0_reasonToTake_128 ?_
                    refine lv_aload_n hx hb dX0_reasonToTake_131 rfl (lv_at hl 0 rfl) ?_
                    refine xgT_TA_scene hx hb hts (fun _ h => List.mem_cons_of_mem _ (List.mem_append_left _ (List.mem_append_left _ (List.mem_append_left _ (List.mem_append_left _ (List.mem_append_right _ h)))))) hown hK hP (hts (.fieldLink RX0 33 "TalePlay$Acts" "scene" "LTalePlay$Scene;") (by decide +kernel)) dX0_reasonToTake_132 ?_
                    refine lv_iconst (v := 2) hx hb dX0_reasonToTake_135 (by decide) ?_
                    refine lv_aload_n hx hb dX0_reasonToTake_136 rfl (lv_at hl 0 rfl) ?_
                    refine xgT_TA_player (v := (i 156)) rfl hx hb hts (fun _ h => List.mem_cons_of_mem _ (List.mem_append_left _ (List.mem_append_left _ (List.mem_append_left _ (List.mem_append_left _ (List.mem_append_right _ h)))))) hown hK hP (hts (.fieldLink RX0 38 "TalePlay$Acts" "player" "I") (by decide +kernel)) dX0_reasonToTake_137 ?_
                    refine lv_iconst (v := 0) hx hb dX0_reasonToTake_140 (by decide) ?_
                    have hN19 := hN.2.1
                    refine ro_calli (va_runVN (As := [.ref (a 149), .int 2, .int (i 156), .int 0]) (rest := [.int r18]) ⟨hx, hb, hml, hown, hts⟩ (x0_X2_weighThose_T l D H.size .null a t i q c d 2 (i 156) 0 hI (show 0 = 0 from by have h90 : (2 : Int32).toInt = 2 := (by decide); have h92 : (0 : Int32).toInt = 0 := (by decide); omega) (show ((i 141) : Int32).toInt = 0 from by have h90 : (2 : Int32).toInt = 2 := (by decide); have h92 : (0 : Int32).toInt = 0 := (by decide); omega)) ⟨va_cnB 4 hts gm_X0_reasonToTake_TA_X2_weighThose_T_130 rfl rfl rfl hN19 (hts (.initialized RX2) (by decide +kernel)) (by decide +kernel) ⟨Nat.le_of_ble_eq_true rfl, Nat.le_of_ble_eq_true rfl⟩, (hts (.instanceMethod yX2_weighThose) (by decide +kernel)), (hts (.selects RX2 yX2_weighThose yX2_weighThose) (by decide +kernel))⟩ (yA_V hN (xZ_k hZ hS hA) (xkT_BT hK) (xuT_BT (sk := sk) hP) (ci := 2) (q0 := 29) rfl rfl) rfl rfl hl.1 rfl (lv_room (Nat.le_of_ble_eq_true rfl)) dX0_reasonToTake_141 ⟨Nat.le_of_ble_eq_true rfl, Nat.le_of_ble_eq_true rfl⟩) hS hA hP (fun r19 u19 H locs hw19 hP hS => ?_)
                    refine lv_iadd hx hb dX0_reasonToTake_144 ?_
                    refine lv_topi (fun x20 ex20 => ?_)
                    refine lv_istore_n (lv' := [(2, .int x20), (0, .ref (a 155)), (1, .int w)]) hx hb dX0_reasonToTake_145 rfl hl (by decide) rfl (fun ls hl => ?_)
                    refine lv_iload_n hx hb dX0_reasonToTake_146 rfl (lv_at hl 0 rfl) ?_
                    refine lv_bipush (v := 100) hx hb dX0_reasonToTake_147 (by decide) ?_
                    refine lv_icmp_le (tgt := 157) hx hb dX0_reasonToTake_149 (by decide) (fun c21 => ?_) (fun c21 => ?_)
                    · have f21 := (ti_le (a := x20.toInt) (b := 100) rfl (by decide)).mp c21
                      refine lv_iconst (v := 0) hx hb dX0_reasonToTake_157 (by decide) ?_
                      exact ro_iret hx hb hr hlocks hS dX0_reasonToTake_158 (show 0 ≤ (0 : Int32).toInt ∧ (0 : Int32).toInt ≤ 10 from by have h9 : (0 : Int32).toInt = 0 := (by decide); omega)
                    · have f21 := mt (ti_le (a := x20.toInt) (b := 100) rfl (by decide)).mpr c21
                      refine lv_bipush (v := 10) hx hb dX0_reasonToTake_152 (by decide) ?_
                      refine lv_goto (tgt := 158) hx hb dX0_reasonToTake_154 (by decide) ?_
                      exact ro_iret hx hb hr hlocks hS dX0_reasonToTake_158 (show 0 ≤ (10 : Int32).toInt ∧ (10 : Int32).toInt ≤ 10 from by have h9 : (10 : Int32).toInt = 10 := (by decide); omega)
                  · have f17 := mt (ti_eq (a := r16.toInt) (b := 0) rfl (by decide)).mpr c17
                    refine lv_bipush (v := 9) hx hb dX0_reasonToTake_111 (by decide) ?_
                    exact ro_iret hx hb hr hlocks hS dX0_reasonToTake_113 (show 0 ≤ (9 : Int32).toInt ∧ (9 : Int32).toInt ≤ 10 from by have h9 : (9 : Int32).toInt = 9 := (by decide); omega)
                · have f15 := (ti_eq (a := x14.toInt) (b := 0) rfl (by decide)).mp c15
                  refine lv_bipush (v := 8) hx hb dX0_reasonToTake_100 (by decide) ?_
                  exact ro_iret hx hb hr hlocks hS dX0_reasonToTake_102 (show 0 ≤ (8 : Int32).toInt ∧ (8 : Int32).toInt ≤ 10 from by have h9 : (8 : Int32).toInt = 8 := (by decide); omega)
              · have f13 := (ti_eq (a := r12.toInt) (b := 4) rfl (by decide)).mp c13
                refine lv_bipush (v := 7) hx hb dX0_reasonToTake_85 (by decide) ?_
                exact ro_iret hx hb hr hlocks hS dX0_reasonToTake_87 (show 0 ≤ (7 : Int32).toInt ∧ (7 : Int32).toInt ≤ 10 from by have h9 : (7 : Int32).toInt = 7 := (by decide); omega)
        · have f7 := mt (ti_eq (a := r6.toInt) (b := 0) rfl (by decide)).mpr c7
          refine lv_bipush (v := 6) hx hb dX0_reasonToTake_47 (by decide) ?_
          exact ro_iret hx hb hr hlocks hS dX0_reasonToTake_49 (show 0 ≤ (6 : Int32).toInt ∧ (6 : Int32).toInt ≤ 10 from by have h9 : (6 : Int32).toInt = 6 := (by decide); omega)
      · have f5 := mt (ti_eq (a := r4.toInt) (b := 0) rfl (by decide)).mpr c5
        refine lv_iconst (v := 5) hx hb dX0_reasonToTake_37 (by decide) ?_
        exact ro_iret hx hb hr hlocks hS dX0_reasonToTake_38 (show 0 ≤ (5 : Int32).toInt ∧ (5 : Int32).toInt ≤ 10 from by have h9 : (5 : Int32).toInt = 5 := (by decide); omega)
  · have f2 := (ti_eq (a := x1.toInt) (b := 0) rfl (by decide)).mp c2
    refine lv_iconst (v := 4) hx hb dX0_reasonToTake_12 (by decide) ?_
    exact ro_iret hx hb hr hlocks hS dX0_reasonToTake_13 (show 0 ≤ (4 : Int32).toInt ∧ (4 : Int32).toInt ≤ 10 from by have h9 : (4 : Int32).toInt = 4 := (by decide); omega)

def wm_X0_reasonToLeave_TA : List Cond := .code yX0_reasonToLeave cX0_reasonToLeave 3 (some .int) :: (([.fieldLink RX0 33 "TalePlay$Acts" "scene" "LTalePlay$Scene;", .fieldLink RX0 38 "TalePlay$Acts" "player" "I", .methodLink RX0 83 yX6_holderOf, .instanceMethod yX6_holderOf, .selects RX6 yX6_holderOf yX6_holderOf, .initialized RX6, .code yX6_holderOf cX6_holderOf 3 (some .int), .fieldLink RX6 9 "TalePlay$Scene" "cells" "[I", .methodLink RX0 91 yX0_isByRoom, .instanceMethod yX0_isByRoom, .selects RX0 yX0_isByRoom yX0_isByRoom, .initialized RX0, .code yX0_isByRoom cX0_isByRoom 1 (some .boolean), .methodLink RX0 80 yX6_formOf, .instanceMethod yX6_formOf, .selects RX6 yX6_formOf yX6_formOf, .code yX6_formOf cX6_formOf 3 (some .int), .fieldLink RX0 9 "TalePlay$Acts" "world" "LTalePlay$World;", .methodLink RX0 86 yX10_sortOf, .instanceMethod yX10_sortOf, .selects RX10 yX10_sortOf yX10_sortOf, .initialized RX10, .code yX10_sortOf cX10_sortOf 2 (some .int), .fieldLink RX10 37 "TalePlay$World" "objects" "I", .fieldLink RX10 15 "TalePlay$World" "sorts" "[I", .fieldLink RX10 21 "TalePlay$World" "kindOf" "[I", .methodLink RX0 104 yX6_has, .instanceMethod yX6_has, .selects RX6 yX6_has yX6_has, .code yX6_has cX6_has 3 (some .boolean)] : List Cond) ++ wsX00 ++ wsX60 ++ wsX100)
set_option maxRecDepth 20000 in
theorem gm_X0_reasonToLeave_TA_X6_holderOf_TS_83 : GoodIn wm_X0_reasonToLeave_TA (wsV RX0 83 RX6 yX6_holderOf wm_X6_holderOf_TS) := goodIn_app (goodIn_of _ (by decide +kernel)) (goodIn_r _ [7, 8, 38, 39] rfl (by decide +kernel))
set_option maxRecDepth 20000 in
theorem gm_X0_reasonToLeave_TA_X0_isByRoom_TA_91 : GoodIn wm_X0_reasonToLeave_TA (wsV RX0 91 RX0 yX0_isByRoom wm_X0_isByRoom_TA) := goodIn_app (goodIn_of _ (by decide +kernel)) (goodIn_r _ [13, 1, 2, 14, 15, 16, 6, 17, 8, 18, 3, 4, 5, 7, 19, 20, 21, 22, 23, 24, 25, 26, 31, 32, 33, 34, 35, 36, 37, 38, 39, 40, 41, 42, 43, 44, 45, 46] rfl (by decide +kernel))
set_option maxRecDepth 20000 in
theorem gm_X0_reasonToLeave_TA_X10_sortOf_86 : GoodIn wm_X0_reasonToLeave_TA (wsV RX0 86 RX10 yX10_sortOf wm_X10_sortOf) := goodIn_app (goodIn_of _ (by decide +kernel)) (goodIn_r _ [23, 24, 25, 26, 40, 41, 42, 43, 44, 45, 46] rfl (by decide +kernel))
set_option maxRecDepth 20000 in
theorem gm_X0_reasonToLeave_TA_X6_formOf_TS_80 : GoodIn wm_X0_reasonToLeave_TA (wsV RX0 80 RX6 yX6_formOf wm_X6_formOf_TS) := goodIn_app (goodIn_of _ (by decide +kernel)) (goodIn_r _ [17, 8, 38, 39] rfl (by decide +kernel))
set_option maxRecDepth 20000 in
theorem gm_X0_reasonToLeave_TA_X6_has_TS_104 : GoodIn wm_X0_reasonToLeave_TA (wsV RX0 104 RX6 yX6_has wm_X6_has_TS) := goodIn_app (goodIn_of _ (by decide +kernel)) (goodIn_r _ [30, 8, 38, 39] rfl (by decide +kernel))
set_option maxHeartbeats 4000000 in
set_option maxRecDepth 100000 in
theorem x_X0_reasonToLeave_TA (l : Launch) (D : va_G) (sz : Nat) (sk : Value) (a : Nat → Nat) (t : Nat → ClassId) (i : Nat → Int32) (q : Int64) (c : Nat → Nat → Int32) (d : Nat → Nat → Int64) (hI : xInv i c) (hpl : 0 ≤ (i 156).toInt ∧ (i 156).toInt ≤ 29) : Met l yX0_reasonToLeave wm_X0_reasonToLeave_TA ({ frames := 2, cells := 0, slots := 0, locals := 42 }) (va_Pc [.ref (a 155)] (yA (a 186) D sz (xwT sk a t i q c d) (xtT t))) (va_Qi (fun (r : Int32) (_ : Unit) => ((0 ≤ r.toInt ∧ r.toInt ≤ 21) ∧ (Im (r.toInt = 0) (AL (c 150) (i 156))))) oA (ro sz)) 0 0 (ro sz) := by
  refine Met.ofW (cc := cX0_reasonToLeave) (maxL := 3) (ret := (some .int)) (by decide) rfl ?_
  intro p e s m args below meth cd s₁ B hml hv
  obtain ⟨rfl, ⟨hsz, hP, hK⟩, hN, hZ⟩ := hv
  have hx := B.exec
  have hb := B.bytes
  have hr := B.returns
  have hts := atoms_spec (ws := wm_X0_reasonToLeave_TA) B.pre
  have hown : s.vm.findClass RX0 = some m.cls := findClass_of_methodNamed B.named
  have hlocks := B.notSynchronized
  subst hsz
  have hA : ∀ q : Nat, s.heap.size ≤ q → ro s.heap.size q := fun _ h => h
  have hS : va_S (ro s.heap.size) s.heap s.heap [] := va_S.rf
  have hl := lv_entry ([.ref (a 155)]) (n := 3) (Nat.le_of_ble_eq_true rfl)
  rw [lg_entry_eq]
  generalize (lg_sl ([.ref (a 155)]) ++ List.replicate (3 - (lg_sl ([.ref (a 155)])).length) Slot.unset).toArray = ls at hl ⊢
  have hl : lv_has ls 3 [(0, .ref (a 155))] := hl
  refine lv_aload_n hx hb dX0_reasonToLeave_0 rfl (lv_at hl 0 rfl) ?_
  refine xgT_TA_scene hx hb hts (fun _ h => List.mem_cons_of_mem _ (List.mem_append_left _ (List.mem_append_left _ (List.mem_append_right _ h)))) hown hK hP (hts (.fieldLink RX0 33 "TalePlay$Acts" "scene" "LTalePlay$Scene;") (by decide +kernel)) dX0_reasonToLeave_1 ?_
  refine lv_aload_n hx hb dX0_reasonToLeave_4 rfl (lv_at hl 0 rfl) ?_
  refine xgT_TA_player (v := (i 156)) rfl hx hb hts (fun _ h => List.mem_cons_of_mem _ (List.mem_append_left _ (List.mem_append_left _ (List.mem_append_right _ h)))) hown hK hP (hts (.fieldLink RX0 38 "TalePlay$Acts" "player" "I") (by decide +kernel)) dX0_reasonToLeave_5 ?_
  have rb156_i : (i 156).toInt = -9 ∨ (0 ≤ (i 156).toInt ∧ (i 156).toInt ≤ 29) := hI.1 156
  refine ro_calli (va_runV (As := [.int (i 156)]) (rest := []) ⟨hx, hb, hml, hown, hts⟩ (x_X6_holderOf_TS l D s.heap.size .null a t i q c d (i 156) hI (show 0 ≤ (i 156).toInt ∧ (i 156).toInt ≤ 29 from by omega)) (cwV 1 hts gm_X0_reasonToLeave_TA_X6_holderOf_TS_83 rfl rfl rfl (by decide +kernel) ⟨Nat.le_of_ble_eq_true rfl, Nat.le_of_ble_eq_true rfl⟩) (yA_V hN (xZ_k hZ hS hA) (xkT_P1 hK) (xuT_P1 (sk := sk) hP) (ci := 6) (q0 := 0) rfl rfl) rfl rfl hl.1 rfl (lv_room (Nat.le_of_ble_eq_true rfl)) dX0_reasonToLeave_8 ⟨Nat.le_of_ble_eq_true rfl, Nat.le_of_ble_eq_true rfl⟩) hS hA hP (fun r1 u1 H locs hw1 hP hS => ?_)
  have hw1 : ((r1.toInt = -9 ∧ (c 150 (i 156).toNatClampNeg).toInt % 256 = 255) ∨ (0 ≤ r1.toInt ∧ r1.toInt ≤ 29 ∧ ¬ (c 150 (i 156).toNatClampNeg).toInt % 256 = 255 ∧ r1.toInt = (c 150 (i 156).toNatClampNeg).toInt / 8 % 32)) := hw1
  refine lv_istore_n (lv' := [(1, .int r1), (0, .ref (a 155))]) hx hb dX0_reasonToLeave_11 rfl hl (by decide) rfl (fun ls hl => ?_)
  refine lv_iload_n hx hb dX0_reasonToLeave_12 rfl (lv_at hl 0 rfl) ?_
  refine lv_bipush (v := (-9)) hx hb dX0_reasonToLeave_13 (by decide) ?_
  refine lv_icmp_eq (tgt := 25) hx hb dX0_reasonToLeave_15 (by decide) (fun c2 => ?_) (fun c2 => ?_)
  · have f2 := (ti_eq (a := r1.toInt) (b := (-9)) rfl (by decide)).mp c2
    refine lv_iconst (v := 1) hx hb dX0_reasonToLeave_25 (by decide) ?_
    exact ro_iret hx hb hr hlocks hS dX0_reasonToLeave_26 ⟨(show 0 ≤ (1 : Int32).toInt ∧ (1 : Int32).toInt ≤ 21 from by have h9 : (1 : Int32).toInt = 1 := (by decide); omega), (show Im ((1 : Int32).toInt = 0) (AL (c 150) (i 156)) from fun h9 => absurd h9 (by decide))⟩
  · have f2 := mt (ti_eq (a := r1.toInt) (b := (-9)) rfl (by decide)).mpr c2
    refine lv_aload_n hx hb dX0_reasonToLeave_18 rfl (lv_at hl 1 rfl) ?_
    refine ro_calli (va_runV (As := []) (rest := []) ⟨hx, hb, hml, hown, hts⟩ (x_X0_isByRoom_TA l D H.size sk a t i q c d  hI (show 0 ≤ ((i 156) : Int32).toInt ∧ ((i 156) : Int32).toInt ≤ 29 from by omega)) (cwV 0 hts gm_X0_reasonToLeave_TA_X0_isByRoom_TA_91 rfl rfl rfl (by decide +kernel) ⟨Nat.le_of_ble_eq_true rfl, Nat.le_of_ble_eq_true rfl⟩) (yA_V hN (xZ_k hZ hS hA) hK hP (ci := 0) (q0 := 42) rfl rfl) rfl rfl hl.1 rfl (lv_room (Nat.le_of_ble_eq_true rfl)) dX0_reasonToLeave_19 ⟨Nat.le_of_ble_eq_true rfl, Nat.le_of_ble_eq_true rfl⟩) hS hA hP (fun r3 u3 H locs hw3 hP hS => ?_)
    have hw3 : ((0 ≤ r3.toInt ∧ r3.toInt ≤ 1) ∧ (Im (r3.toInt = 1) (¬ (c 150 (i 156).toNatClampNeg).toInt % 256 = 255))) := hw3
    obtain ⟨hw3, hr3_0⟩ := hw3
    have hr3_0 : Im (r3.toInt = 1) (¬ (c 150 (i 156).toNatClampNeg).toInt % 256 = 255) := hr3_0
    refine lv_if_eq (tgt := 27) hx hb dX0_reasonToLeave_22 (by decide) (fun c4 => ?_) (fun c4 => ?_)
    · have f4 := (ti_eq (a := r3.toInt) (b := 0) rfl (by decide)).mp c4
      refine lv_aload_n hx hb dX0_reasonToLeave_27 rfl (lv_at hl 1 rfl) ?_
      refine xgT_TA_world hx hb hts (fun _ h => List.mem_cons_of_mem _ (List.mem_append_left _ (List.mem_append_left _ (List.mem_append_right _ h)))) hown hK hP (hts (.fieldLink RX0 9 "TalePlay$Acts" "world" "LTalePlay$World;") (by decide +kernel)) dX0_reasonToLeave_28 ?_
      refine lv_iload_n hx hb dX0_reasonToLeave_31 rfl (lv_at hl 0 rfl) ?_
      have rb111_i : 0 ≤ (i 111).toInt ∧ (i 111).toInt ≤ 30 := hI.1 111
      refine ro_calli (va_runV (As := [.int r1]) (rest := []) ⟨hx, hb, hml, hown, hts⟩ (x_X10_sortOf l D H.size .null a t i q c d r1 hI ) (cwV 1 hts gm_X0_reasonToLeave_TA_X10_sortOf_86 rfl rfl rfl (by decide +kernel) ⟨Nat.le_of_ble_eq_true rfl, Nat.le_of_ble_eq_true rfl⟩) (yA_V hN (xZ_k hZ hS hA) (xkT_W hK) (xuT_W (sk := sk) hP) (ci := 10) (q0 := 0) rfl rfl) rfl rfl hl.1 rfl (lv_room (Nat.le_of_ble_eq_true rfl)) dX0_reasonToLeave_32 ⟨Nat.le_of_ble_eq_true rfl, Nat.le_of_ble_eq_true rfl⟩) hS hA hP (fun r5 u5 H locs hw5 hP hS => ?_)
      have hw5 : ((r5.toInt = -9 ∧ ¬ (0 ≤ r1.toInt ∧ r1.toInt < (i 111).toInt)) ∨ (0 ≤ r5.toInt ∧ r5.toInt ≤ 5 ∧ 0 ≤ r1.toInt ∧ r1.toInt < (i 111).toInt)) := hw5
      refine lv_iconst (v := 3) hx hb dX0_reasonToLeave_35 (by decide) ?_
      have jn6 : ∀ (H : Heap) (locs : List Loc) (ls : Array Slot), va_P D vwCl (xwT sk a t i q c d) H → va_S (ro s.heap.size) s.heap H locs → lv_has ls 3 [(1, .int r1), (0, .ref (a 155))] → W p l e (headSpec wm_X0_reasonToLeave_TA ({ frames := 2, cells := 0, slots := 0, locals := 42 })).room s m ([.ref (a 155)] : List Value).toArray below meth cd H locs 0 0 (MQ below (va_Qi (fun (r : Int32) (_ : Unit) => ((0 ≤ r.toInt ∧ r.toInt ≤ 21) ∧ (Im (r.toInt = 0) (AL (c 150) (i 156))))) oA (ro s.heap.size)) ([.ref (a 155)] : List Value).toArray s 0 0 (ro s.heap.size)) (F0 m 53 ls []) := by
        intro H locs ls hP hS hl
        refine lv_aload_n hx hb dX0_reasonToLeave_53 rfl (lv_at hl 1 rfl) ?_
        refine xgT_TA_scene hx hb hts (fun _ h => List.mem_cons_of_mem _ (List.mem_append_left _ (List.mem_append_left _ (List.mem_append_right _ h)))) hown hK hP (hts (.fieldLink RX0 33 "TalePlay$Acts" "scene" "LTalePlay$Scene;") (by decide +kernel)) dX0_reasonToLeave_54 ?_
        refine lv_iload_n hx hb dX0_reasonToLeave_57 rfl (lv_at hl 0 rfl) ?_
        refine ro_calli (va_runV (As := [.int r1]) (rest := []) ⟨hx, hb, hml, hown, hts⟩ (x_X6_formOf_TS l D H.size .null a t i q c d r1 hI (show 0 ≤ r1.toInt ∧ r1.toInt ≤ 29 from by omega)) (cwV 1 hts gm_X0_reasonToLeave_TA_X6_formOf_TS_80 rfl rfl rfl (by decide +kernel) ⟨Nat.le_of_ble_eq_true rfl, Nat.le_of_ble_eq_true rfl⟩) (yA_V hN (xZ_k hZ hS hA) (xkT_P1 hK) (xuT_P1 (sk := sk) hP) (ci := 6) (q0 := 0) rfl rfl) rfl rfl hl.1 rfl (lv_room (Nat.le_of_ble_eq_true rfl)) dX0_reasonToLeave_58 ⟨Nat.le_of_ble_eq_true rfl, Nat.le_of_ble_eq_true rfl⟩) hS hA hP (fun r7 u7 H locs hw7 hP hS => ?_)
        have hw7 : ((r7.toInt = -9 ∧ (c 150 r1.toNatClampNeg).toInt % 256 = 255) ∨ (0 ≤ r7.toInt ∧ r7.toInt ≤ 4 ∧ ¬ (c 150 r1.toNatClampNeg).toInt % 256 = 255 ∧ r7.toInt = (c 150 r1.toNatClampNeg).toInt % 8)) := hw7
        refine lv_istore_n (lv' := [(2, .int r7), (1, .int r1), (0, .ref (a 155))]) hx hb dX0_reasonToLeave_61 rfl hl (by decide) rfl (fun ls hl => ?_)
        refine lv_iload_n hx hb dX0_reasonToLeave_62 rfl (lv_at hl 0 rfl) ?_
        refine lv_if_eq (tgt := 71) hx hb dX0_reasonToLeave_63 (by decide) (fun c8 => ?_) (fun c8 => ?_)
        · have f8 := (ti_eq (a := r7.toInt) (b := 0) rfl (by decide)).mp c8
          refine lv_iconst (v := 0) hx hb dX0_reasonToLeave_71 (by decide) ?_
          refine lv_goto (tgt := 77) hx hb dX0_reasonToLeave_72 (by decide) ?_
          exact ro_iret hx hb hr hlocks hS dX0_reasonToLeave_77 ⟨(show 0 ≤ (0 : Int32).toInt ∧ (0 : Int32).toInt ≤ 21 from by have h9 : (0 : Int32).toInt = 0 := (by decide); omega), (show Im ((0 : Int32).toInt = 0) (AL (c 150) (i 156)) from fun _ => ⟨by omega, by rw [ix_n (f := c 150) (s := r1) (show r1.toInt = (c 150 (i 156).toNatClampNeg).toInt / 8 % 32 from by omega) rfl]; omega⟩)⟩
        · have f8 := mt (ti_eq (a := r7.toInt) (b := 0) rfl (by decide)).mpr c8
          refine lv_iload_n hx hb dX0_reasonToLeave_66 rfl (lv_at hl 0 rfl) ?_
          refine lv_iconst (v := 1) hx hb dX0_reasonToLeave_67 (by decide) ?_
          refine lv_icmp_ne (tgt := 75) hx hb dX0_reasonToLeave_68 (by decide) (fun c9 => ?_) (fun c9 => ?_)
          · have f9 := mt (ti_eq (a := r7.toInt) (b := 1) rfl (by decide)).mpr c9
            refine lv_bipush (v := 21) hx hb dX0_reasonToLeave_75 (by decide) ?_
            exact ro_iret hx hb hr hlocks hS dX0_reasonToLeave_77 ⟨(show 0 ≤ (21 : Int32).toInt ∧ (21 : Int32).toInt ≤ 21 from by have h9 : (21 : Int32).toInt = 21 := (by decide); omega), (show Im ((21 : Int32).toInt = 0) (AL (c 150) (i 156)) from fun h9 => absurd h9 (by decide))⟩
          · have f9 := (ti_eq (a := r7.toInt) (b := 1) rfl (by decide)).mp c9
            refine lv_iconst (v := 0) hx hb dX0_reasonToLeave_71 (by decide) ?_
            refine lv_goto (tgt := 77) hx hb dX0_reasonToLeave_72 (by decide) ?_
            exact ro_iret hx hb hr hlocks hS dX0_reasonToLeave_77 ⟨(show 0 ≤ (0 : Int32).toInt ∧ (0 : Int32).toInt ≤ 21 from by have h9 : (0 : Int32).toInt = 0 := (by decide); omega), (show Im ((0 : Int32).toInt = 0) (AL (c 150) (i 156)) from fun _ => ⟨by omega, by rw [ix_n (f := c 150) (s := r1) (show r1.toInt = (c 150 (i 156).toNatClampNeg).toInt / 8 % 32 from by omega) rfl]; omega⟩)⟩
      refine lv_icmp_ne (tgt := 53) hx hb dX0_reasonToLeave_36 (by decide) (fun c10 => ?_) (fun c10 => ?_)
      · have f10 := mt (ti_eq (a := r5.toInt) (b := 3) rfl (by decide)).mpr c10
        exact jn6    _ _ _ hP hS (lv_sub hl [0, 1] rfl)
      · have f10 := (ti_eq (a := r5.toInt) (b := 3) rfl (by decide)).mp c10
        refine lv_aload_n hx hb dX0_reasonToLeave_39 rfl (lv_at hl 1 rfl) ?_
        refine xgT_TA_scene hx hb hts (fun _ h => List.mem_cons_of_mem _ (List.mem_append_left _ (List.mem_append_left _ (List.mem_append_right _ h)))) hown hK hP (hts (.fieldLink RX0 33 "TalePlay$Acts" "scene" "LTalePlay$Scene;") (by decide +kernel)) dX0_reasonToLeave_40 ?_
        refine lv_iload_n hx hb dX0_reasonToLeave_43 rfl (lv_at hl 0 rfl) ?_
        refine lv_iconst (v := 0) hx hb dX0_reasonToLeave_44 (by decide) ?_
        refine ro_calli (va_runV (As := [.int r1, .int 0]) (rest := []) ⟨hx, hb, hml, hown, hts⟩ (x_X6_has_TS l D H.size .null a t i q c d r1 0 hI (show 0 ≤ r1.toInt ∧ r1.toInt ≤ 29 from by have h91 : (0 : Int32).toInt = 0 := (by decide); omega) (show 0 ≤ 0 ∧ 0 ≤ 5 from by have h91 : (0 : Int32).toInt = 0 := (by decide); omega)) (cwV 2 hts gm_X0_reasonToLeave_TA_X6_has_TS_104 rfl rfl rfl (by decide +kernel) ⟨Nat.le_of_ble_eq_true rfl, Nat.le_of_ble_eq_true rfl⟩) (yA_V hN (xZ_k hZ hS hA) (xkT_P1 hK) (xuT_P1 (sk := sk) hP) (ci := 6) (q0 := 0) rfl rfl) rfl rfl hl.1 rfl (lv_room (Nat.le_of_ble_eq_true rfl)) dX0_reasonToLeave_45 ⟨Nat.le_of_ble_eq_true rfl, Nat.le_of_ble_eq_true rfl⟩) hS hA hP (fun r11 u11 H locs hw11 hP hS => ?_)
        have hw11 : (0 ≤ r11.toInt ∧ r11.toInt ≤ 1) := hw11
        refine lv_if_ne (tgt := 53) hx hb dX0_reasonToLeave_48 (by decide) (fun c12 => ?_) (fun c12 => ?_)
        · have f12 := mt (ti_eq (a := r11.toInt) (b := 0) rfl (by decide)).mpr c12
          exact jn6    _ _ _ hP hS (lv_sub hl [0, 1] rfl)
        · have f12 := (ti_eq (a := r11.toInt) (b := 0) rfl (by decide)).mp c12
          refine lv_iconst (v := 3) hx hb dX0_reasonToLeave_51 (by decide) ?_
          exact ro_iret hx hb hr hlocks hS dX0_reasonToLeave_52 ⟨(show 0 ≤ (3 : Int32).toInt ∧ (3 : Int32).toInt ≤ 21 from by have h9 : (3 : Int32).toInt = 3 := (by decide); omega), (show Im ((3 : Int32).toInt = 0) (AL (c 150) (i 156)) from fun h9 => absurd h9 (by decide))⟩
    · have f4 := mt (ti_eq (a := r3.toInt) (b := 0) rfl (by decide)).mpr c4
      refine lv_iconst (v := 1) hx hb dX0_reasonToLeave_25 (by decide) ?_
      exact ro_iret hx hb hr hlocks hS dX0_reasonToLeave_26 ⟨(show 0 ≤ (1 : Int32).toInt ∧ (1 : Int32).toInt ≤ 21 from by have h9 : (1 : Int32).toInt = 1 := (by decide); omega), (show Im ((1 : Int32).toInt = 0) (AL (c 150) (i 156)) from fun h9 => absurd h9 (by decide))⟩

def wm_X0_reasonToGo_SA : List Cond := .code yX0_reasonToGo cX0_reasonToGo 4 (some .int) :: (([.methodLink RX0 91 yX0_isByRoom, .instanceMethod yX0_isByRoom, .selects RX0 yX0_isByRoom yX0_isByRoom, .initialized RX0, .code yX0_isByRoom cX0_isByRoom 1 (some .boolean), .fieldLink RX0 33 "TalePlay$Acts" "scene" "LTalePlay$Scene;", .fieldLink RX0 38 "TalePlay$Acts" "player" "I", .methodLink RX0 80 yX6_formOf, .instanceMethod yX6_formOf, .selects RX6 yX6_formOf yX6_formOf, .initialized RX6, .code yX6_formOf cX6_formOf 3 (some .int), .fieldLink RX6 9 "TalePlay$Scene" "cells" "[I", .fieldLink RX0 9 "TalePlay$Acts" "world" "LTalePlay$World;", .methodLink RX0 83 yX6_holderOf, .instanceMethod yX6_holderOf, .selects RX6 yX6_holderOf yX6_holderOf, .code yX6_holderOf cX6_holderOf 3 (some .int), .methodLink RX0 86 yX10_sortOf, .instanceMethod yX10_sortOf, .selects RX10 yX10_sortOf yX10_sortOf, .initialized RX10, .code yX10_sortOf cX10_sortOf 2 (some .int), .fieldLink RX10 37 "TalePlay$World" "objects" "I", .fieldLink RX10 15 "TalePlay$World" "sorts" "[I", .fieldLink RX10 21 "TalePlay$World" "kindOf" "[I", .fieldLink RX0 19 "TalePlay$Acts" "roads" "LTalePlay$Roads;", .fieldLink RX0 95 "TalePlay$Roads" "leads" "[I", .fieldLink RX0 101 "TalePlay$Roads" "doors" "[I", .methodLink RX0 104 yX6_has, .instanceMethod yX6_has, .selects RX6 yX6_has yX6_has, .code yX6_has cX6_has 3 (some .boolean)] : List Cond) ++ wsX00 ++ wsX60 ++ wsX100 ++ wsX50)
set_option maxRecDepth 20000 in
theorem gm_X0_reasonToGo_SA_X0_isByRoom_SA_91 : GoodIn wm_X0_reasonToGo_SA (wsV RX0 91 RX0 yX0_isByRoom wm_X0_isByRoom_SA) := goodIn_app (goodIn_of _ (by decide +kernel)) (goodIn_r _ [5, 6, 7, 8, 9, 10, 11, 12, 13, 14, 15, 16, 17, 18, 19, 20, 21, 22, 23, 24, 25, 26, 34, 35, 36, 37, 38, 39, 40, 41, 42, 43, 44, 45, 46, 47, 48, 49] rfl (by decide +kernel))
set_option maxRecDepth 20000 in
theorem gm_X0_reasonToGo_SA_X6_holderOf_SS_83 : GoodIn wm_X0_reasonToGo_SA (wsV RX0 83 RX6 yX6_holderOf wm_X6_holderOf_SS) := goodIn_app (goodIn_of _ (by decide +kernel)) (goodIn_r _ [18, 13, 41, 42] rfl (by decide +kernel))
set_option maxRecDepth 20000 in
theorem gm_X0_reasonToGo_SA_X6_has_SS_104 : GoodIn wm_X0_reasonToGo_SA (wsV RX0 104 RX6 yX6_has wm_X6_has_SS) := goodIn_app (goodIn_of _ (by decide +kernel)) (goodIn_r _ [33, 13, 41, 42] rfl (by decide +kernel))
set_option maxHeartbeats 4000000 in
set_option maxRecDepth 100000 in
theorem x_X0_reasonToGo_SA (l : Launch) (D : va_G) (sz : Nat) (sk : Value) (a : Nat → Nat) (t : Nat → ClassId) (i : Nat → Int32) (q : Int64) (c : Nat → Nat → Int32) (d : Nat → Nat → Int64) (w : Int32) (hI : xInv i c) (hw : 0 ≤ w.toInt ∧ w.toInt ≤ 9) (hpl : 0 ≤ (i 185).toInt ∧ (i 185).toInt ≤ 29) : Met l yX0_reasonToGo wm_X0_reasonToGo_SA ({ frames := 2, cells := 0, slots := 0, locals := 42 }) (va_Pc [.ref (a 184), .int w] (yA (a 186) D sz (xwS sk a t i q c d) (xtS t))) (va_Qi (fun (r : Int32) (_ : Unit) => ((0 ≤ r.toInt ∧ r.toInt ≤ 3) ∧ (Im (r.toInt = 0) (AG (c 179) (c 129) (i 185) w)))) oA (ro sz)) 0 0 (ro sz) := by
  refine Met.ofW (cc := cX0_reasonToGo) (maxL := 4) (ret := (some .int)) (by decide) rfl ?_
  intro p e s m args below meth cd s₁ B hml hv
  obtain ⟨rfl, ⟨hsz, hP, hK⟩, hN, hZ⟩ := hv
  have hx := B.exec
  have hb := B.bytes
  have hr := B.returns
  have hts := atoms_spec (ws := wm_X0_reasonToGo_SA) B.pre
  have hown : s.vm.findClass RX0 = some m.cls := findClass_of_methodNamed B.named
  have hlocks := B.notSynchronized
  subst hsz
  have hA : ∀ q : Nat, s.heap.size ≤ q → ro s.heap.size q := fun _ h => h
  have hS : va_S (ro s.heap.size) s.heap s.heap [] := va_S.rf
  have hl := lv_entry ([.ref (a 184), .int w]) (n := 4) (Nat.le_of_ble_eq_true rfl)
  rw [lg_entry_eq]
  generalize (lg_sl ([.ref (a 184), .int w]) ++ List.replicate (4 - (lg_sl ([.ref (a 184), .int w])).length) Slot.unset).toArray = ls at hl ⊢
  have hl : lv_has ls 4 [(0, .ref (a 184)), (1, .int w)] := hl
  refine lv_aload_n hx hb dX0_reasonToGo_0 rfl (lv_at hl 0 rfl) ?_
  have rb185_i : (i 185).toInt = -9 ∨ (0 ≤ (i 185).toInt ∧ (i 185).toInt ≤ 29) := hI.1 185
  refine ro_calli (va_runV (As := []) (rest := []) ⟨hx, hb, hml, hown, hts⟩ (x_X0_isByRoom_SA l D s.heap.size .null a t i q c d  hI (show 0 ≤ ((i 185) : Int32).toInt ∧ ((i 185) : Int32).toInt ≤ 29 from by omega)) (cwV 0 hts gm_X0_reasonToGo_SA_X0_isByRoom_SA_91 rfl rfl rfl (by decide +kernel) ⟨Nat.le_of_ble_eq_true rfl, Nat.le_of_ble_eq_true rfl⟩) (yA_V hN (xZ_k hZ hS hA) hK hP (ci := 0) (q0 := 43) rfl rfl) rfl rfl hl.1 rfl (lv_room (Nat.le_of_ble_eq_true rfl)) dX0_reasonToGo_1 ⟨Nat.le_of_ble_eq_true rfl, Nat.le_of_ble_eq_true rfl⟩) hS hA hP (fun r1 u1 H locs hw1 hP hS => ?_)
  have hw1 : ((0 ≤ r1.toInt ∧ r1.toInt ≤ 1) ∧ (Im (r1.toInt = 1) (¬ (c 179 (i 185).toNatClampNeg).toInt % 256 = 255))) := hw1
  obtain ⟨hw1, hr1_0⟩ := hw1
  have hr1_0 : Im (r1.toInt = 1) (¬ (c 179 (i 185).toNatClampNeg).toInt % 256 = 255) := hr1_0
  refine lv_if_ne (tgt := 9) hx hb dX0_reasonToGo_4 (by decide) (fun c2 => ?_) (fun c2 => ?_)
  · have f2 := mt (ti_eq (a := r1.toInt) (b := 0) rfl (by decide)).mpr c2
    have hby := hr1_0 (by omega)
    refine lv_aload_n hx hb dX0_reasonToGo_9 rfl (lv_at hl 0 rfl) ?_
    refine xgS_SA_scene hx hb hts (fun _ h => List.mem_cons_of_mem _ (List.mem_append_left _ (List.mem_append_left _ (List.mem_append_left _ (List.mem_append_right _ h))))) hown hK hP (hts (.fieldLink RX0 33 "TalePlay$Acts" "scene" "LTalePlay$Scene;") (by decide +kernel)) dX0_reasonToGo_10 ?_
    refine lv_aload_n hx hb dX0_reasonToGo_13 rfl (lv_at hl 0 rfl) ?_
    refine xgS_SA_player (v := (i 185)) rfl hx hb hts (fun _ h => List.mem_cons_of_mem _ (List.mem_append_left _ (List.mem_append_left _ (List.mem_append_left _ (List.mem_append_right _ h))))) hown hK hP (hts (.fieldLink RX0 38 "TalePlay$Acts" "player" "I") (by decide +kernel)) dX0_reasonToGo_14 ?_
    refine ro_calli (va_runV (As := [.int (i 185)]) (rest := []) ⟨hx, hb, hml, hown, hts⟩ (x_X6_holderOf_SS l D H.size .null a t i q c d (i 185) hI (show 0 ≤ (i 185).toInt ∧ (i 185).toInt ≤ 29 from by omega)) (cwV 1 hts gm_X0_reasonToGo_SA_X6_holderOf_SS_83 rfl rfl rfl (by decide +kernel) ⟨Nat.le_of_ble_eq_true rfl, Nat.le_of_ble_eq_true rfl⟩) (yA_V hN (xZ_k hZ hS hA) (xkS_P2 hK) (xuS_P2 (sk := sk) hP) (ci := 6) (q0 := 0) rfl rfl) rfl rfl hl.1 rfl (lv_room (Nat.le_of_ble_eq_true rfl)) dX0_reasonToGo_17 ⟨Nat.le_of_ble_eq_true rfl, Nat.le_of_ble_eq_true rfl⟩) hS hA hP (fun r3 u3 H locs hw3 hP hS => ?_)
    have hw3 : ((r3.toInt = -9 ∧ (c 179 (i 185).toNatClampNeg).toInt % 256 = 255) ∨ (0 ≤ r3.toInt ∧ r3.toInt ≤ 29 ∧ ¬ (c 179 (i 185).toNatClampNeg).toInt % 256 = 255 ∧ r3.toInt = (c 179 (i 185).toNatClampNeg).toInt / 8 % 32)) := hw3
    refine lv_bipush (v := 10) hx hb dX0_reasonToGo_20 (by decide) ?_
    refine lv_imul hx hb dX0_reasonToGo_22 ?_
    refine lv_topi (fun x4 ex4 => ?_)
    have tx4 := ti_mul (a := r3.toInt) (b := 10) ex4 rfl (by decide) (by omega) (by omega)
    refine lv_iload_n hx hb dX0_reasonToGo_23 rfl (lv_at hl 1 rfl) ?_
    refine lv_iadd hx hb dX0_reasonToGo_24 ?_
    refine lv_topi (fun x5 ex5 => ?_)
    have tx5 := ti_add (a := (r3.toInt * 10)) (b := w.toInt) ex5 tx4 rfl (by omega) (by omega)
    refine lv_istore_n (lv' := [(2, .int x5), (0, .ref (a 184)), (1, .int w)]) hx hb dX0_reasonToGo_25 rfl hl (by decide) rfl (fun ls hl => ?_)
    refine lv_aload_n hx hb dX0_reasonToGo_26 rfl (lv_at hl 1 rfl) ?_
    refine xgS_SA_roads hx hb hts (fun _ h => List.mem_cons_of_mem _ (List.mem_append_left _ (List.mem_append_left _ (List.mem_append_left _ (List.mem_append_right _ h))))) hown hK hP (hts (.fieldLink RX0 19 "TalePlay$Acts" "roads" "LTalePlay$Roads;") (by decide +kernel)) dX0_reasonToGo_27 ?_
    refine xgS_R_leads hx hb hts (fun _ h => List.mem_cons_of_mem _ (List.mem_append_right _ h)) hown hK hP (hts (.fieldLink RX0 95 "TalePlay$Roads" "leads" "[I") (by decide +kernel)) dX0_reasonToGo_30 ?_
    refine lv_iload_n hx hb dX0_reasonToGo_33 rfl (lv_at hl 0 rfl) ?_
    refine xlS_129 hx hb hK hP (vp_in_iff.mpr (by have h9 : x5.toInt = ((r3.toInt * 10) + w.toInt) := tx5; omega)) dX0_reasonToGo_34 (fun x6 ex6 => ?_)
    have rx6 : x6.toInt = -9 ∨ (0 ≤ x6.toInt ∧ x6.toInt ≤ 29) := by rw [ex6]; exact hI.2 129 _
    refine lv_bipush (v := (-9)) hx hb dX0_reasonToGo_35 (by decide) ?_
    refine lv_icmp_ne (tgt := 42) hx hb dX0_reasonToGo_37 (by decide) (fun c7 => ?_) (fun c7 => ?_)
    · have f7 := mt (ti_eq (a := x6.toInt) (b := (-9)) rfl (by decide)).mpr c7
      refine lv_aload_n hx hb dX0_reasonToGo_42 rfl (lv_at hl 1 rfl) ?_
      refine xgS_SA_roads hx hb hts (fun _ h => List.mem_cons_of_mem _ (List.mem_append_left _ (List.mem_append_left _ (List.mem_append_left _ (List.mem_append_right _ h))))) hown hK hP (hts (.fieldLink RX0 19 "TalePlay$Acts" "roads" "LTalePlay$Roads;") (by decide +kernel)) dX0_reasonToGo_43 ?_
      refine xgS_R_doors hx hb hts (fun _ h => List.mem_cons_of_mem _ (List.mem_append_right _ h)) hown hK hP (hts (.fieldLink RX0 101 "TalePlay$Roads" "doors" "[I") (by decide +kernel)) dX0_reasonToGo_46 ?_
      refine lv_iload_n hx hb dX0_reasonToGo_49 rfl (lv_at hl 0 rfl) ?_
      refine xlS_130 hx hb hK hP (vp_in_iff.mpr (by have h9 : x5.toInt = ((r3.toInt * 10) + w.toInt) := tx5; omega)) dX0_reasonToGo_50 (fun x8 ex8 => ?_)
      have rx8 : x8.toInt = -9 ∨ (0 ≤ x8.toInt ∧ x8.toInt ≤ 29) := by rw [ex8]; exact hI.2 130 _
      refine lv_istore_n (lv' := [(3, .int x8), (2, .int x5), (0, .ref (a 184)), (1, .int w)]) hx hb dX0_reasonToGo_51 rfl hl (by decide) rfl (fun ls hl => ?_)
      refine lv_iload_n hx hb dX0_reasonToGo_52 rfl (lv_at hl 0 rfl) ?_
      refine lv_bipush (v := (-9)) hx hb dX0_reasonToGo_53 (by decide) ?_
      refine lv_icmp_eq (tgt := 74) hx hb dX0_reasonToGo_55 (by decide) (fun c9 => ?_) (fun c9 => ?_)
      · have f9 := (ti_eq (a := x8.toInt) (b := (-9)) rfl (by decide)).mp c9
        refine lv_iconst (v := 0) hx hb dX0_reasonToGo_74 (by decide) ?_
        exact ro_iret hx hb hr hlocks hS dX0_reasonToGo_75 ⟨(show 0 ≤ (0 : Int32).toInt ∧ (0 : Int32).toInt ≤ 3 from by have h9 : (0 : Int32).toInt = 0 := (by decide); omega), (show Im ((0 : Int32).toInt = 0) (AG (c 179) (c 129) (i 185) w) from fun _ => ⟨hby, by rw [ix_n (show x5.toInt = (c 179 (i 185).toNatClampNeg).toInt / 8 % 32 * 10 + w.toInt from by have h9 : x5.toInt = ((r3.toInt * 10) + w.toInt) := tx5; omega) ex6]; omega⟩)⟩
      · have f9 := mt (ti_eq (a := x8.toInt) (b := (-9)) rfl (by decide)).mpr c9
        refine lv_aload_n hx hb dX0_reasonToGo_58 rfl (lv_at hl 2 rfl) ?_
        refine xgS_SA_scene hx hb hts (fun _ h => List.mem_cons_of_mem _ (List.mem_append_left _ (List.mem_append_left _ (List.mem_append_left _ (List.mem_append_right _ h))))) hown hK hP (hts (.fieldLink RX0 33 "TalePlay$Acts" "scene" "LTalePlay$Scene;") (by decide +kernel)) dX0_reasonToGo_59 ?_
        refine lv_iload_n hx hb dX0_reasonToGo_62 rfl (lv_at hl 0 rfl) ?_
        refine lv_iconst (v := 0) hx hb dX0_reasonToGo_63 (by decide) ?_
        refine ro_calli (va_runV (As := [.int x8, .int 0]) (rest := []) ⟨hx, hb, hml, hown, hts⟩ (x_X6_has_SS l D H.size .null a t i q c d x8 0 hI (show 0 ≤ x8.toInt ∧ x8.toInt ≤ 29 from by have h91 : (0 : Int32).toInt = 0 := (by decide); omega) (show 0 ≤ 0 ∧ 0 ≤ 5 from by have h91 : (0 : Int32).toInt = 0 := (by decide); omega)) (cwV 2 hts gm_X0_reasonToGo_SA_X6_has_SS_104 rfl rfl rfl (by decide +kernel) ⟨Nat.le_of_ble_eq_true rfl, Nat.le_of_ble_eq_true rfl⟩) (yA_V hN (xZ_k hZ hS hA) (xkS_P2 hK) (xuS_P2 (sk := sk) hP) (ci := 6) (q0 := 0) rfl rfl) rfl rfl hl.1 rfl (lv_room (Nat.le_of_ble_eq_true rfl)) dX0_reasonToGo_64 ⟨Nat.le_of_ble_eq_true rfl, Nat.le_of_ble_eq_true rfl⟩) hS hA hP (fun r10 u10 H locs hw10 hP hS => ?_)
        have hw10 : (0 ≤ r10.toInt ∧ r10.toInt ≤ 1) := hw10
        refine lv_if_ne (tgt := 74) hx hb dX0_reasonToGo_67 (by decide) (fun c11 => ?_) (fun c11 => ?_)
        · have f11 := mt (ti_eq (a := r10.toInt) (b := 0) rfl (by decide)).mpr c11
          refine lv_iconst (v := 0) hx hb dX0_reasonToGo_74 (by decide) ?_
          exact ro_iret hx hb hr hlocks hS dX0_reasonToGo_75 ⟨(show 0 ≤ (0 : Int32).toInt ∧ (0 : Int32).toInt ≤ 3 from by have h9 : (0 : Int32).toInt = 0 := (by decide); omega), (show Im ((0 : Int32).toInt = 0) (AG (c 179) (c 129) (i 185) w) from fun _ => ⟨hby, by rw [ix_n (show x5.toInt = (c 179 (i 185).toNatClampNeg).toInt / 8 % 32 * 10 + w.toInt from by have h9 : x5.toInt = ((r3.toInt * 10) + w.toInt) := tx5; omega) ex6]; omega⟩)⟩
        · have f11 := (ti_eq (a := r10.toInt) (b := 0) rfl (by decide)).mp c11
          refine lv_iconst (v := 3) hx hb dX0_reasonToGo_70 (by decide) ?_
          refine lv_goto (tgt := 75) hx hb dX0_reasonToGo_71 (by decide) ?_
          exact ro_iret hx hb hr hlocks hS dX0_reasonToGo_75 ⟨(show 0 ≤ (3 : Int32).toInt ∧ (3 : Int32).toInt ≤ 3 from by have h9 : (3 : Int32).toInt = 3 := (by decide); omega), (show Im ((3 : Int32).toInt = 0) (AG (c 179) (c 129) (i 185) w) from fun h9 => absurd h9 (by decide))⟩
    · have f7 := (ti_eq (a := x6.toInt) (b := (-9)) rfl (by decide)).mp c7
      refine lv_iconst (v := 2) hx hb dX0_reasonToGo_40 (by decide) ?_
      exact ro_iret hx hb hr hlocks hS dX0_reasonToGo_41 ⟨(show 0 ≤ (2 : Int32).toInt ∧ (2 : Int32).toInt ≤ 3 from by have h9 : (2 : Int32).toInt = 2 := (by decide); omega), (show Im ((2 : Int32).toInt = 0) (AG (c 179) (c 129) (i 185) w) from fun h9 => absurd h9 (by decide))⟩
  · have f2 := (ti_eq (a := r1.toInt) (b := 0) rfl (by decide)).mp c2
    refine lv_iconst (v := 1) hx hb dX0_reasonToGo_7 (by decide) ?_
    exact ro_iret hx hb hr hlocks hS dX0_reasonToGo_8 ⟨(show 0 ≤ (1 : Int32).toInt ∧ (1 : Int32).toInt ≤ 3 from by have h9 : (1 : Int32).toInt = 1 := (by decide); omega), (show Im ((1 : Int32).toInt = 0) (AG (c 179) (c 129) (i 185) w) from fun h9 => absurd h9 (by decide))⟩

def wm_X0_reasonToTake_SA : List Cond := .code yX0_reasonToTake cX0_reasonToTake 3 (some .int) :: (([.fieldLink RX0 34 "TalePlay$Acts" "sight" "LTalePlay$Sight;", .fieldLink RX0 108 "TalePlay$Sight" "seen" "[Z", .fieldLink RX0 38 "TalePlay$Acts" "player" "I", .fieldLink RX0 33 "TalePlay$Acts" "scene" "LTalePlay$Scene;", .methodLink RX0 112 yX6_isUp, .instanceMethod yX6_isUp, .selects RX6 yX6_isUp yX6_isUp, .initialized RX6, .code yX6_isUp cX6_isUp 5 (some .boolean), .methodLink RX6 25 yX6_holderOf, .instanceMethod yX6_holderOf, .selects RX6 yX6_holderOf yX6_holderOf, .code yX6_holderOf cX6_holderOf 3 (some .int), .fieldLink RX6 9 "TalePlay$Scene" "cells" "[I", .methodLink RX0 49 yX0_isHeld, .instanceMethod yX0_isHeld, .selects RX0 yX0_isHeld yX0_isHeld, .initialized RX0, .code yX0_isHeld cX0_isHeld 2 (some .boolean), .methodLink RX0 74 yX6_lies, .instanceMethod yX6_lies, .selects RX6 yX6_lies yX6_lies, .code yX6_lies cX6_lies 4 (some .boolean), .fieldLink RX0 9 "TalePlay$Acts" "world" "LTalePlay$World;", .methodLink RX0 115 yX10_isGoods, .instanceMethod yX10_isGoods, .selects RX10 yX10_isGoods yX10_isGoods, .initialized RX10, .code yX10_isGoods cX10_isGoods 2 (some .boolean), .methodLink RX10 44 yX10_isMovable, .instanceMethod yX10_isMovable, .selects RX10 yX10_isMovable yX10_isMovable, .code yX10_isMovable cX10_isMovable 3 (some .boolean), .methodLink RX10 40 yX10_sortOf, .instanceMethod yX10_sortOf, .selects RX10 yX10_sortOf yX10_sortOf, .code yX10_sortOf cX10_sortOf 2 (some .int), .fieldLink RX10 37 "TalePlay$World" "objects" "I", .fieldLink RX10 15 "TalePlay$World" "sorts" "[I", .fieldLink RX10 21 "TalePlay$World" "kindOf" "[I", .methodLink RX0 104 yX6_has, .instanceMethod yX6_has, .selects RX6 yX6_has yX6_has, .code yX6_has cX6_has 3 (some .boolean), .methodLink RX0 80 yX6_formOf, .instanceMethod yX6_formOf, .selects RX6 yX6_formOf yX6_formOf, .code yX6_formOf cX6_formOf 3 (some .int), .fieldLink RX0 118 "TalePlay$Sight" "reached" "[Z", .methodLink RX0 121 yX0_isAnothers, .instanceMethod yX0_isAnothers, .selects RX0 yX0_isAnothers yX0_isAnothers, .code yX0_isAnothers cX0_isAnothers 4 (some .boolean), .methodLink RX0 83 yX6_holderOf, .methodLink RX0 86 yX10_sortOf, .fieldLink RX0 23 "TalePlay$Acts" "bulks" "LTalePlay$Bulks;", .code yX2_weighBy cX2_weighBy 6 (some .int), .fieldLink RX2 15 "TalePlay$Bulks" "world" "LTalePlay$World;", .methodLink RX2 42 yX10_sortOf, .methodLink RX2 45 yX2_noteBodies, .instanceMethod yX2_noteBodies, .selects RX2 yX2_noteBodies yX2_noteBodies, .initialized RX2, .code yX2_noteBodies cX2_noteBodies 2 none, .fieldLink RX2 60 "TalePlay$Bulks" "BODIES" "[I", .methodLink RX2 63 yX2_note, .instanceMethod yX2_note, .selects RX2 yX2_note yX2_note, .code yX2_note cX2_note 2 none, .fieldLink RX2 27 "TalePlay$Bulks" "tracing" "Z", .fieldLink RX2 49 "TalePlay$World" "sizeOf" "[I", .methodLink RX2 52 yX2_weighThose, .instanceMethod yX2_weighThose, .selects RX2 yX2_weighThose yX2_weighThose, .code yX2_weighThose cX2_weighThose 7 (some .int), .fieldLink RX2 31 "TalePlay$World" "objects" "I", .methodLink RX2 56 yX6_lies, .methodLink RX2 23 yX2_weighBy, .instanceMethod yX2_weighBy, .selects RX2 yX2_weighBy yX2_weighBy] : List Cond) ++ wsX00 ++ wsX80 ++ wsX60 ++ wsX100 ++ wsX20)
set_option maxRecDepth 20000 in
theorem gm_X0_reasonToTake_SA_X6_isUp_SS_112 : GoodIn wm_X0_reasonToTake_SA (wsV RX0 112 RX6 yX6_isUp wm_X6_isUp_SS) := goodIn_app (goodIn_of _ (by decide +kernel)) (goodIn_r _ [9, 10, 11, 12, 8, 13, 14, 94, 95] rfl (by decide +kernel))
set_option maxRecDepth 20000 in
theorem gm_X0_reasonToTake_SA_X0_isHeld_SA_49 : GoodIn wm_X0_reasonToTake_SA (wsV RX0 49 RX0 yX0_isHeld wm_X0_isHeld_SA) := goodIn_app (goodIn_of _ (by decide +kernel)) (goodIn_r _ [19, 4, 3, 20, 21, 22, 8, 23, 14, 81, 82, 83, 84, 85, 86, 87, 94, 95] rfl (by decide +kernel))
set_option maxRecDepth 20000 in
theorem gm_X0_reasonToTake_SA_X10_isGoods_115 : GoodIn wm_X0_reasonToTake_SA (wsV RX0 115 RX10 yX10_isGoods wm_X10_isGoods) := goodIn_app (goodIn_of _ (by decide +kernel)) (goodIn_r _ [29, 30, 31, 32, 28, 33, 34, 35, 36, 37, 38, 39, 40, 96, 97, 98, 99, 100, 101, 102] rfl (by decide +kernel))
set_option maxRecDepth 20000 in
theorem gm_X0_reasonToTake_SA_X6_has_SS_104 : GoodIn wm_X0_reasonToTake_SA (wsV RX0 104 RX6 yX6_has wm_X6_has_SS) := goodIn_app (goodIn_of _ (by decide +kernel)) (goodIn_r _ [44, 14, 94, 95] rfl (by decide +kernel))
set_option maxRecDepth 20000 in
theorem gm_X0_reasonToTake_SA_X6_formOf_SS_80 : GoodIn wm_X0_reasonToTake_SA (wsV RX0 80 RX6 yX6_formOf wm_X6_formOf_SS) := goodIn_app (goodIn_of _ (by decide +kernel)) (goodIn_r _ [48, 14, 94, 95] rfl (by decide +kernel))
set_option maxRecDepth 20000 in
theorem gm_X0_reasonToTake_SA_X0_isAnothers_SA_121 : GoodIn wm_X0_reasonToTake_SA (wsV RX0 121 RX0 yX0_isAnothers wm_X0_isAnothers_SA) := goodIn_app (goodIn_of _ (by decide +kernel)) (goodIn_r _ [53, 4, 54, 11, 12, 8, 13, 14, 3, 24, 55, 35, 36, 28, 37, 38, 39, 40, 81, 82, 83, 84, 85, 86, 87, 94, 95, 96, 97, 98, 99, 100, 101, 102] rfl (by decide +kernel))
set_option maxRecDepth 20000 in
theorem gm_X0_reasonToTake_SA_X2_weighBy_S_124 : GoodIn wm_X0_reasonToTake_SA wm_X2_weighBy_S := goodIn_r _ [57, 58, 59, 35, 36, 28, 37, 38, 39, 40, 60, 61, 62, 63, 64, 65, 66, 67, 68, 69, 70, 71, 72, 73, 74, 75, 76, 77, 21, 22, 8, 23, 14, 78, 79, 80, 57, 103, 104, 105, 106, 96, 97, 98, 99, 100, 101, 102, 94, 95] rfl (by decide +kernel)
set_option maxRecDepth 20000 in
theorem gm_X0_reasonToTake_SA_X2_weighThose_S_130 : GoodIn wm_X0_reasonToTake_SA wm_X2_weighThose_S := goodIn_r _ [75, 58, 76, 77, 21, 22, 8, 23, 14, 78, 79, 80, 63, 57, 59, 35, 36, 28, 37, 38, 39, 40, 60, 61, 62, 64, 65, 66, 67, 68, 69, 70, 71, 72, 73, 74, 75, 103, 104, 105, 106, 96, 97, 98, 99, 100, 101, 102, 94, 95] rfl (by decide +kernel)
set_option maxHeartbeats 4000000 in
set_option maxRecDepth 100000 in
theorem x_X0_reasonToTake_SA (l : Launch) (D : va_G) (sz : Nat) (sk : Value) (a : Nat → Nat) (t : Nat → ClassId) (i : Nat → Int32) (q : Int64) (c : Nat → Nat → Int32) (d : Nat → Nat → Int64) (w : Int32) (hI : xInv i c) (hw : 0 ≤ w.toInt ∧ w.toInt ≤ 29) (hpl : 0 ≤ (i 185).toInt ∧ (i 185).toInt ≤ 29) (htr : (i 141).toInt = 0) : Met l yX0_reasonToTake wm_X0_reasonToTake_SA ({ frames := 69, cells := 0, slots := 0, locals := 1806 }) (va_Pc [.ref (a 184), .int w] (yA (a 186) D sz (xwS sk a t i q c d) (xtS t))) (va_Qi (fun (r : Int32) (_ : Unit) => (0 ≤ r.toInt ∧ r.toInt ≤ 10)) oA (ro sz)) 0 0 (ro sz) := by
  refine Met.ofW (cc := cX0_reasonToTake) (maxL := 3) (ret := (some .int)) (by decide) rfl ?_
  intro p e s m args below meth cd s₁ B hml hv
  obtain ⟨rfl, ⟨hsz, hP, hK⟩, hN, hZ⟩ := hv
  have hx := B.exec
  have hb := B.bytes
  have hr := B.returns
  have hts := atoms_spec (ws := wm_X0_reasonToTake_SA) B.pre
  have hown : s.vm.findClass RX0 = some m.cls := findClass_of_methodNamed B.named
  have hlocks := B.notSynchronized
  subst hsz
  have hA : ∀ q : Nat, s.heap.size ≤ q → ro s.heap.size q := fun _ h => h
  have hS : va_S (ro s.heap.size) s.heap s.heap [] := va_S.rf
  have hl := lv_entry ([.ref (a 184), .int w]) (n := 3) (Nat.le_of_ble_eq_true rfl)
  rw [lg_entry_eq]
  generalize (lg_sl ([.ref (a 184), .int w]) ++ List.replicate (3 - (lg_sl ([.ref (a 184), .int w])).length) Slot.unset).toArray = ls at hl ⊢
  have hl : lv_has ls 3 [(0, .ref (a 184)), (1, .int w)] := hl
  refine lv_aload_n hx hb dX0_reasonToTake_0 rfl (lv_at hl 0 rfl) ?_
  refine xgS_SA_sight hx hb hts (fun _ h => List.mem_cons_of_mem _ (List.mem_append_left _ (List.mem_append_left _ (List.mem_append_left _ (List.mem_append_left _ (List.mem_append_right _ h)))))) hown hK hP (hts (.fieldLink RX0 34 "TalePlay$Acts" "sight" "LTalePlay$Sight;") (by decide +kernel)) dX0_reasonToTake_1 ?_
  refine xgS_SG_seen hx hb hts (fun _ h => List.mem_cons_of_mem _ (List.mem_append_left _ (List.mem_append_left _ (List.mem_append_left _ (List.mem_append_right _ h))))) hown hK hP (hts (.fieldLink RX0 108 "TalePlay$Sight" "seen" "[Z") (by decide +kernel)) dX0_reasonToTake_4 ?_
  refine lv_iload_n hx hb dX0_reasonToTake_7 rfl (lv_at hl 1 rfl) ?_
  refine xlS_181 hx hb hK hP (vp_in_iff.mpr (by have h9 : w.toInt = w.toInt := rfl; omega)) dX0_reasonToTake_8 (fun x1 ex1 => ?_)
  have rx1 : 0 ≤ x1.toInt ∧ x1.toInt ≤ 1 := by rw [ex1]; exact hI.2 181 _
  refine lv_if_ne (tgt := 14) hx hb dX0_reasonToTake_9 (by decide) (fun c2 => ?_) (fun c2 => ?_)
  · have f2 := mt (ti_eq (a := x1.toInt) (b := 0) rfl (by decide)).mpr c2
    refine lv_iload_n hx hb dX0_reasonToTake_14 rfl (lv_at hl 1 rfl) ?_
    refine lv_aload_n hx hb dX0_reasonToTake_15 rfl (lv_at hl 0 rfl) ?_
    refine xgS_SA_player (v := (i 185)) rfl hx hb hts (fun _ h => List.mem_cons_of_mem _ (List.mem_append_left _ (List.mem_append_left _ (List.mem_append_left _ (List.mem_append_left _ (List.mem_append_right _ h)))))) hown hK hP (hts (.fieldLink RX0 38 "TalePlay$Acts" "player" "I") (by decide +kernel)) dX0_reasonToTake_16 ?_
    have rb185_i : (i 185).toInt = -9 ∨ (0 ≤ (i 185).toInt ∧ (i 185).toInt ≤ 29) := hI.1 185
    refine lv_icmp_eq (tgt := 37) hx hb dX0_reasonToTake_19 (by decide) (fun c3 => ?_) (fun c3 => ?_)
    · have f3 := (ti_eq (a := w.toInt) (b := (i 185).toInt) rfl rfl).mp c3
      refine lv_iconst (v := 5) hx hb dX0_reasonToTake_37 (by decide) ?_
      exact ro_iret hx hb hr hlocks hS dX0_reasonToTake_38 (show 0 ≤ (5 : Int32).toInt ∧ (5 : Int32).toInt ≤ 10 from by have h9 : (5 : Int32).toInt = 5 := (by decide); omega)
    · have f3 := mt (ti_eq (a := w.toInt) (b := (i 185).toInt) rfl rfl).mpr c3
      refine lv_aload_n hx hb dX0_reasonToTake_22 rfl (lv_at hl 0 rfl) ?_
      refine xgS_SA_scene hx hb hts (fun _ h => List.mem_cons_of_mem _ (List.mem_append_left _ (List.mem_append_left _ (List.mem_append_left _ (List.mem_append_left _ (List.mem_append_right _ h)))))) hown hK hP (hts (.fieldLink RX0 33 "TalePlay$Acts" "scene" "LTalePlay$Scene;") (by decide +kernel)) dX0_reasonToTake_23 ?_
      refine lv_iload_n hx hb dX0_reasonToTake_26 rfl (lv_at hl 1 rfl) ?_
      refine lv_aload_n hx hb dX0_reasonToTake_27 rfl (lv_at hl 0 rfl) ?_
      refine xgS_SA_player (v := (i 185)) rfl hx hb hts (fun _ h => List.mem_cons_of_mem _ (List.mem_append_left _ (List.mem_append_left _ (List.mem_append_left _ (List.mem_append_left _ (List.mem_append_right _ h)))))) hown hK hP (hts (.fieldLink RX0 38 "TalePlay$Acts" "player" "I") (by decide +kernel)) dX0_reasonToTake_28 ?_
      refine ro_calli (va_runV (As := [.int w, .int (i 185)]) (rest := []) ⟨hx, hb, hml, hown, hts⟩ (x_X6_isUp_SS l D s.heap.size .null a t i q c d w (i 185) hI (show 0 ≤ (i 185).toInt ∧ (i 185).toInt ≤ 29 from by omega)) (cwV 2 hts gm_X0_reasonToTake_SA_X6_isUp_SS_112 rfl rfl rfl (by decide +kernel) ⟨Nat.le_of_ble_eq_true rfl, Nat.le_of_ble_eq_true rfl⟩) (yA_V hN (xZ_k hZ hS hA) (xkS_P2 hK) (xuS_P2 (sk := sk) hP) (ci := 6) (q0 := 0) rfl rfl) rfl rfl hl.1 rfl (lv_room (Nat.le_of_ble_eq_true rfl)) dX0_reasonToTake_31 ⟨Nat.le_of_ble_eq_true rfl, Nat.le_of_ble_eq_true rfl⟩) hS hA hP (fun r4 u4 H locs hw4 hP hS => ?_)
      have hw4 : (0 ≤ r4.toInt ∧ r4.toInt ≤ 1) := hw4
      refine lv_if_eq (tgt := 39) hx hb dX0_reasonToTake_34 (by decide) (fun c5 => ?_) (fun c5 => ?_)
      · have f5 := (ti_eq (a := r4.toInt) (b := 0) rfl (by decide)).mp c5
        refine lv_aload_n hx hb dX0_reasonToTake_39 rfl (lv_at hl 0 rfl) ?_
        refine lv_iload_n hx hb dX0_reasonToTake_40 rfl (lv_at hl 1 rfl) ?_
        refine ro_calli (va_runV (As := [.int w]) (rest := []) ⟨hx, hb, hml, hown, hts⟩ (x_X0_isHeld_SA l D H.size .null a t i q c d w hI (show 0 ≤ w.toInt ∧ w.toInt ≤ 29 from by omega)) (cwV 1 hts gm_X0_reasonToTake_SA_X0_isHeld_SA_49 rfl rfl rfl (by decide +kernel) ⟨Nat.le_of_ble_eq_true rfl, Nat.le_of_ble_eq_true rfl⟩) (yA_V hN (xZ_k hZ hS hA) hK hP (ci := 0) (q0 := 43) rfl rfl) rfl rfl hl.1 rfl (lv_room (Nat.le_of_ble_eq_true rfl)) dX0_reasonToTake_41 ⟨Nat.le_of_ble_eq_true rfl, Nat.le_of_ble_eq_true rfl⟩) hS hA hP (fun r6 u6 H locs hw6 hP hS => ?_)
        have hw6 : (0 ≤ r6.toInt ∧ r6.toInt ≤ 1) := hw6
        refine lv_if_eq (tgt := 50) hx hb dX0_reasonToTake_44 (by decide) (fun c7 => ?_) (fun c7 => ?_)
        · have f7 := (ti_eq (a := r6.toInt) (b := 0) rfl (by decide)).mp c7
          refine lv_aload_n hx hb dX0_reasonToTake_50 rfl (lv_at hl 0 rfl) ?_
          refine xgS_SA_world hx hb hts (fun _ h => List.mem_cons_of_mem _ (List.mem_append_left _ (List.mem_append_left _ (List.mem_append_left _ (List.mem_append_left _ (List.mem_append_right _ h)))))) hown hK hP (hts (.fieldLink RX0 9 "TalePlay$Acts" "world" "LTalePlay$World;") (by decide +kernel)) dX0_reasonToTake_51 ?_
          refine lv_iload_n hx hb dX0_reasonToTake_54 rfl (lv_at hl 1 rfl) ?_
          refine ro_calli (va_runV (As := [.int w]) (rest := []) ⟨hx, hb, hml, hown, hts⟩ (x_X10_isGoods l D H.size .null a t i q c d w hI ) (cwV 1 hts gm_X0_reasonToTake_SA_X10_isGoods_115 rfl rfl rfl (by decide +kernel) ⟨Nat.le_of_ble_eq_true rfl, Nat.le_of_ble_eq_true rfl⟩) (yA_V hN (xZ_k hZ hS hA) (xkS_W hK) (xuS_W (sk := sk) hP) (ci := 10) (q0 := 0) rfl rfl) rfl rfl hl.1 rfl (lv_room (Nat.le_of_ble_eq_true rfl)) dX0_reasonToTake_55 ⟨Nat.le_of_ble_eq_true rfl, Nat.le_of_ble_eq_true rfl⟩) hS hA hP (fun r8 u8 H locs hw8 hP hS => ?_)
          have hw8 : (0 ≤ r8.toInt ∧ r8.toInt ≤ 1) := hw8
          refine lv_if_eq (tgt := 85) hx hb dX0_reasonToTake_58 (by decide) (fun c9 => ?_) (fun c9 => ?_)
          · have f9 := (ti_eq (a := r8.toInt) (b := 0) rfl (by decide)).mp c9
            refine lv_bipush (v := 7) hx hb dX0_reasonToTake_85 (by decide) ?_
            exact ro_iret hx hb hr hlocks hS dX0_reasonToTake_87 (show 0 ≤ (7 : Int32).toInt ∧ (7 : Int32).toInt ≤ 10 from by have h9 : (7 : Int32).toInt = 7 := (by decide); omega)
          · have f9 := mt (ti_eq (a := r8.toInt) (b := 0) rfl (by decide)).mpr c9
            refine lv_aload_n hx hb dX0_reasonToTake_61 rfl (lv_at hl 0 rfl) ?_
            refine xgS_SA_scene hx hb hts (fun _ h => List.mem_cons_of_mem _ (List.mem_append_left _ (List.mem_append_left _ (List.mem_append_left _ (List.mem_append_left _ (List.mem_append_right _ h)))))) hown hK hP (hts (.fieldLink RX0 33 "TalePlay$Acts" "scene" "LTalePlay$Scene;") (by decide +kernel)) dX0_reasonToTake_62 ?_
            refine lv_iload_n hx hb dX0_reasonToTake_65 rfl (lv_at hl 1 rfl) ?_
            refine lv_iconst (v := 3) hx hb dX0_reasonToTake_66 (by decide) ?_
            refine ro_calli (va_runV (As := [.int w, .int 3]) (rest := []) ⟨hx, hb, hml, hown, hts⟩ (x_X6_has_SS l D H.size .null a t i q c d w 3 hI (show 0 ≤ w.toInt ∧ w.toInt ≤ 29 from by have h91 : (3 : Int32).toInt = 3 := (by decide); omega) (show 0 ≤ 3 ∧ 3 ≤ 5 from by have h91 : (3 : Int32).toInt = 3 := (by decide); omega)) (cwV 2 hts gm_X0_reasonToTake_SA_X6_has_SS_104 rfl rfl rfl (by decide +kernel) ⟨Nat.le_of_ble_eq_true rfl, Nat.le_of_ble_eq_true rfl⟩) (yA_V hN (xZ_k hZ hS hA) (xkS_P2 hK) (xuS_P2 (sk := sk) hP) (ci := 6) (q0 := 0) rfl rfl) rfl rfl hl.1 rfl (lv_room (Nat.le_of_ble_eq_true rfl)) dX0_reasonToTake_67 ⟨Nat.le_of_ble_eq_true rfl, Nat.le_of_ble_eq_true rfl⟩) hS hA hP (fun r10 u10 H locs hw10 hP hS => ?_)
            have hw10 : (0 ≤ r10.toInt ∧ r10.toInt ≤ 1) := hw10
            refine lv_if_ne (tgt := 85) hx hb dX0_reasonToTake_70 (by decide) (fun c11 => ?_) (fun c11 => ?_)
            · have f11 := mt (ti_eq (a := r10.toInt) (b := 0) rfl (by decide)).mpr c11
              refine lv_bipush (v := 7) hx hb dX0_reasonToTake_85 (by decide) ?_
              exact ro_iret hx hb hr hlocks hS dX0_reasonToTake_87 (show 0 ≤ (7 : Int32).toInt ∧ (7 : Int32).toInt ≤ 10 from by have h9 : (7 : Int32).toInt = 7 := (by decide); omega)
            · have f11 := (ti_eq (a := r10.toInt) (b := 0) rfl (by decide)).mp c11
              refine lv_aload_n hx hb dX0_reasonToTake_73 rfl (lv_at hl 0 rfl) ?_
              refine xgS_SA_scene hx hb hts (fun _ h => List.mem_cons_of_mem _ (List.mem_append_left _ (List.mem_append_left _ (List.mem_append_left _ (List.mem_append_left _ (List.mem_append_right _ h)))))) hown hK hP (hts (.fieldLink RX0 33 "TalePlay$Acts" "scene" "LTalePlay$Scene;") (by decide +kernel)) dX0_reasonToTake_74 ?_
              refine lv_iload_n hx hb dX0_reasonToTake_77 rfl (lv_at hl 1 rfl) ?_
              refine ro_calli (va_runV (As := [.int w]) (rest := []) ⟨hx, hb, hml, hown, hts⟩ (x_X6_formOf_SS l D H.size .null a t i q c d w hI (show 0 ≤ w.toInt ∧ w.toInt ≤ 29 from by omega)) (cwV 1 hts gm_X0_reasonToTake_SA_X6_formOf_SS_80 rfl rfl rfl (by decide +kernel) ⟨Nat.le_of_ble_eq_true rfl, Nat.le_of_ble_eq_true rfl⟩) (yA_V hN (xZ_k hZ hS hA) (xkS_P2 hK) (xuS_P2 (sk := sk) hP) (ci := 6) (q0 := 0) rfl rfl) rfl rfl hl.1 rfl (lv_room (Nat.le_of_ble_eq_true rfl)) dX0_reasonToTake_78 ⟨Nat.le_of_ble_eq_true rfl, Nat.le_of_ble_eq_true rfl⟩) hS hA hP (fun r12 u12 H locs hw12 hP hS => ?_)
              have hw12 : ((r12.toInt = -9 ∧ (c 179 w.toNatClampNeg).toInt % 256 = 255) ∨ (0 ≤ r12.toInt ∧ r12.toInt ≤ 4 ∧ ¬ (c 179 w.toNatClampNeg).toInt % 256 = 255 ∧ r12.toInt = (c 179 w.toNatClampNeg).toInt % 8)) := hw12
              refine lv_iconst (v := 4) hx hb dX0_reasonToTake_81 (by decide) ?_
              refine lv_icmp_ne (tgt := 88) hx hb dX0_reasonToTake_82 (by decide) (fun c13 => ?_) (fun c13 => ?_)
              · have f13 := mt (ti_eq (a := r12.toInt) (b := 4) rfl (by decide)).mpr c13
                refine lv_aload_n hx hb dX0_reasonToTake_88 rfl (lv_at hl 0 rfl) ?_
                refine xgS_SA_sight hx hb hts (fun _ h => List.mem_cons_of_mem _ (List.mem_append_left _ (List.mem_append_left _ (List.mem_append_left _ (List.mem_append_left _ (List.mem_append_right _ h)))))) hown hK hP (hts (.fieldLink RX0 34 "TalePlay$Acts" "sight" "LTalePlay$Sight;") (by decide +kernel)) dX0_reasonToTake_89 ?_
                refine xgS_SG_reached hx hb hts (fun _ h => List.mem_cons_of_mem _ (List.mem_append_left _ (List.mem_append_left _ (List.mem_append_left _ (List.mem_append_right _ h))))) hown hK hP (hts (.fieldLink RX0 118 "TalePlay$Sight" "reached" "[Z") (by decide +kernel)) dX0_reasonToTake_92 ?_
                refine lv_iload_n hx hb dX0_reasonToTake_95 rfl (lv_at hl 1 rfl) ?_
                refine xlS_182 hx hb hK hP (vp_in_iff.mpr (by have h9 : w.toInt = w.toInt := rfl; omega)) dX0_reasonToTake_96 (fun x14 ex14 => ?_)
                have rx14 : 0 ≤ x14.toInt ∧ x14.toInt ≤ 1 := by rw [ex14]; exact hI.2 182 _
                refine lv_if_ne (tgt := 103) hx hb dX0_reasonToTake_97 (by decide) (fun c15 => ?_) (fun c15 => ?_)
                · have f15 := mt (ti_eq (a := x14.toInt) (b := 0) rfl (by decide)).mpr c15
                  refine lv_aload_n hx hb dX0_reasonToTake_103 rfl (lv_at hl 0 rfl) ?_
                  refine lv_iload_n hx hb dX0_reasonToTake_104 rfl (lv_at hl 1 rfl) ?_
                  refine ro_calli (va_runV (As := [.int w]) (rest := []) ⟨hx, hb, hml, hown, hts⟩ (x_X0_isAnothers_SA l D H.size .null a t i q c d w hI (show 0 ≤ w.toInt ∧ w.toInt ≤ 29 from by omega)) (cwV 1 hts gm_X0_reasonToTake_SA_X0_isAnothers_SA_121 rfl rfl rfl (by decide +kernel) ⟨Nat.le_of_ble_eq_true rfl, Nat.le_of_ble_eq_true rfl⟩) (yA_V hN (xZ_k hZ hS hA) hK hP (ci := 0) (q0 := 43) rfl rfl) rfl rfl hl.1 rfl (lv_room (Nat.le_of_ble_eq_true rfl)) dX0_reasonToTake_105 ⟨Nat.le_of_ble_eq_true rfl, Nat.le_of_ble_eq_true rfl⟩) hS hA hP (fun r16 u16 H locs hw16 hP hS => ?_)
                  have hw16 : (0 ≤ r16.toInt ∧ r16.toInt ≤ 1) := hw16
                  refine lv_if_eq (tgt := 114) hx hb dX0_reasonToTake_108 (by decide) (fun c17 => ?_) (fun c17 => ?_)
                  · have f17 := (ti_eq (a := r16.toInt) (b := 0) rfl (by decide)).mp c17
                    refine lv_aload_n hx hb dX0_reasonToTake_114 rfl (lv_at hl 0 rfl) ?_
                    refine xgS_SA_bulks hx hb hts (fun _ h => List.mem_cons_of_mem _ (List.mem_append_left _ (List.mem_append_left _ (List.mem_append_left _ (List.mem_append_left _ (List.mem_append_right _ h)))))) hown hK hP (hts (.fieldLink RX0 23 "TalePlay$Acts" "bulks" "LTalePlay$Bulks;") (by decide +kernel)) dX0_reasonToTake_115 ?_
                    refine lv_aload_n hx hb dX0_reasonToTake_118 rfl (lv_at hl 0 rfl) ?_
                    refine xgS_SA_scene hx hb hts (fun _ h => List.mem_cons_of_mem _ (List.mem_append_left _ (List.mem_append_left _ (List.mem_append_left _ (List.mem_append_left _ (List.mem_append_right _ h)))))) hown hK hP (hts (.fieldLink RX0 33 "TalePlay$Acts" "scene" "LTalePlay$Scene;") (by decide +kernel)) dX0_reasonToTake_119 ?_
                    refine lv_iload_n hx hb dX0_reasonToTake_122 rfl (lv_at hl 1 rfl) ?_
                    refine lv_iconst (v := 0) hx hb dX0_reasonToTake_123 (by decide) ?_
                    have rb141_i : 0 ≤ (i 141).toInt ∧ (i 141).toInt ≤ 1 := hI.1 141
                    have hN18 := hN.1
                    refine ro_calli (va_runVN (As := [.ref (a 178), .int w, .int 0]) (rest := []) ⟨hx, hb, hml, hown, hts⟩ (x0_X2_weighBy_S l D H.size .null a t i q c d w 0 hI (show 0 ≤ w.toInt ∧ w.toInt ≤ 29 from by have h91 : (0 : Int32).toInt = 0 := (by decide); omega) (show 0 = 0 from by have h91 : (0 : Int32).toInt = 0 := (by decide); omega) (show ((i 141) : Int32).toInt = 0 from by have h91 : (0 : Int32).toInt = 0 := (by decide); omega)) ⟨va_cnB 3 hts gm_X0_reasonToTake_SA_X2_weighBy_S_124 rfl rfl rfl hN18 (hts (.initialized RX2) (by decide +kernel)) (by decide +kernel) ⟨Nat.le_of_ble_eq_true rfl, Nat.le_of_ble_eq_true rfl⟩, (hts (.instanceMethod yX2_weighBy) (by decide +kernel)), (hts (.selects RX2 yX2_weighBy yX2_weighBy) (by decide +kernel))⟩ (yA_V hN (xZ_k hZ hS hA) (xkS_BS hK) (xuS_BS (sk := sk) hP) (ci := 2) (q0 := 29) rfl rfl) rfl rfl hl.1 rfl (lv_room (Nat.le_of_ble_eq_true rfl)) dX0_reasonToTake_124 ⟨Nat.le_of_ble_eq_true rfl, Nat.le_of_ble_eq_true rfl⟩) hS hA hP (fun r18 u18 H locs hw18 hP hS => ?_)
                    refine lv_aload_n hx hb dX0_reasonToTake_127 rfl (lv_at hl 0 rfl) ?_
                    refine xgS_SA_bulks hx hb hts (fun _ h => List.mem_cons_of_mem _ (List.mem_append_left _ (List.mem_append_left _ (List.mem_append_left _ (List.mem_append_left _ (List.mem_append_right _ h)))))) hown hK hP (hts (.fieldLink RX0 23 "TalePlay$Acts" "bulks" "LTalePlay$Bulks;") (by decide +kernel)) dX0_reasonToTake_128 ?_
                    refine lv_aload_n hx hb dX0_reasonToTake_131 rfl (lv_at hl 0 rfl) ?_
                    refine xgS_SA_scene hx hb hts (fun _ h => List.mem_cons_of_mem _ (List.mem_append_left _ (List.mem_append_left _ (List.mem_append_left _ (List.mem_append_left _ (List.mem_append_right _ h)))))) hown hK hP (hts (.fieldLink RX0 33 "TalePlay$Acts" "scene" "LTalePlay$Scene;") (by decide +kernel)) dX0_reasonToTake_132 ?_
                    refine lv_iconst (v := 2) hx hb dX0_reasonToTake_135 (by decide) ?_
                    refine lv_aload_n hx hb dX0_reasonToTake_136 rfl (lv_at hl 0 rfl) ?_
                    refine xgS_SA_player (v := (i 185)) rfl hx hb hts (fun _ h => List.mem_cons_of_mem _ (List.mem_append_left _ (List.mem_append_left _ (List.mem_append_left _ (List.mem_append_left _ (List.mem_append_right _ h)))))) hown hK hP (hts (.fieldLink RX0 38 "TalePlay$Acts" "player" "I") (by decide +kernel)) dX0_reasonToTake_137 ?_
                    refine lv_iconst (v := 0) hx hb dX0_reasonToTake_140 (by decide) ?_
                    have hN19 := hN.2.1
                    refine ro_calli (va_runVN (As := [.ref (a 178), .int 2, .int (i 185), .int 0]) (rest := [.int r18]) ⟨hx, hb, hml, hown, hts⟩ (x0_X2_weighThose_S l D H.size .null a t i q c d 2 (i 185) 0 hI (show 0 = 0 from by have h90 : (2 : Int32).toInt = 2 := (by decide); have h92 : (0 : Int32).toInt = 0 := (by decide); omega) (show ((i 141) : Int32).toInt = 0 from by have h90 : (2 : Int32).toInt = 2 := (by decide); have h92 : (0 : Int32).toInt = 0 := (by decide); omega)) ⟨va_cnB 4 hts gm_X0_reasonToTake_SA_X2_weighThose_S_130 rfl rfl rfl hN19 (hts (.initialized RX2) (by decide +kernel)) (by decide +kernel) ⟨Nat.le_of_ble_eq_true rfl, Nat.le_of_ble_eq_true rfl⟩, (hts (.instanceMethod yX2_weighThose) (by decide +kernel)), (hts (.selects RX2 yX2_weighThose yX2_weighThose) (by decide +kernel))⟩ (yA_V hN (xZ_k hZ hS hA) (xkS_BS hK) (xuS_BS (sk := sk) hP) (ci := 2) (q0 := 29) rfl rfl) rfl rfl hl.1 rfl (lv_room (Nat.le_of_ble_eq_true rfl)) dX0_reasonToTake_141 ⟨Nat.le_of_ble_eq_true rfl, Nat.le_of_ble_eq_true rfl⟩) hS hA hP (fun r19 u19 H locs hw19 hP hS => ?_)
                    refine lv_iadd hx hb dX0_reasonToTake_144 ?_
                    refine lv_topi (fun x20 ex20 => ?_)
                    refine lv_istore_n (lv' := [(2, .int x20), (0, .ref (a 184)), (1, .int w)]) hx hb dX0_reasonToTake_145 rfl hl (by decide) rfl (fun ls hl => ?_)
                    refine lv_iload_n hx hb dX0_reasonToTake_146 rfl (lv_at hl 0 rfl) ?_
                    refine lv_bipush (v := 100) hx hb dX0_reasonToTake_147 (by decide) ?_
                    refine lv_icmp_le (tgt := 157) hx hb dX0_reasonToTake_149 (by decide) (fun c21 => ?_) (fun c21 => ?_)
                    · have f21 := (ti_le (a := x20.toInt) (b := 100) rfl (by decide)).mp c21
                      refine lv_iconst (v := 0) hx hb dX0_reasonToTake_157 (by decide) ?_
                      exact ro_iret hx hb hr hlocks hS dX0_reasonToTake_158 (show 0 ≤ (0 : Int32).toInt ∧ (0 : Int32).toInt ≤ 10 from by have h9 : (0 : Int32).toInt = 0 := (by decide); omega)
                    · have f21 := mt (ti_le (a := x20.toInt) (b := 100) rfl (by decide)).mpr c21
                      refine lv_bipush (v := 10) hx hb dX0_reasonToTake_152 (by decide) ?_
                      refine lv_goto (tgt := 158) hx hb dX0_reasonToTake_154 (by decide) ?_
                      exact ro_iret hx hb hr hlocks hS dX0_reasonToTake_158 (show 0 ≤ (10 : Int32).toInt ∧ (10 : Int32).toInt ≤ 10 from by have h9 : (10 : Int32).toInt = 10 := (by decide); omega)
                  · have f17 := mt (ti_eq (a := r16.toInt) (b := 0) rfl (by decide)).mpr c17
                    refine lv_bipush (v := 9) hx hb dX0_reasonToTake_111 (by decide) ?_
                    exact ro_iret hx hb hr hlocks hS dX0_reasonToTake_113 (show 0 ≤ (9 : Int32).toInt ∧ (9 : Int32).toInt ≤ 10 from by have h9 : (9 : Int32).toInt = 9 := (by decide); omega)
                · have f15 := (ti_eq (a := x14.toInt) (b := 0) rfl (by decide)).mp c15
                  refine lv_bipush (v := 8) hx hb dX0_reasonToTake_100 (by decide) ?_
                  exact ro_iret hx hb hr hlocks hS dX0_reasonToTake_102 (show 0 ≤ (8 : Int32).toInt ∧ (8 : Int32).toInt ≤ 10 from by have h9 : (8 : Int32).toInt = 8 := (by decide); omega)
              · have f13 := (ti_eq (a := r12.toInt) (b := 4) rfl (by decide)).mp c13
                refine lv_bipush (v := 7) hx hb dX0_reasonToTake_85 (by decide) ?_
                exact ro_iret hx hb hr hlocks hS dX0_reasonToTake_87 (show 0 ≤ (7 : Int32).toInt ∧ (7 : Int32).toInt ≤ 10 from by have h9 : (7 : Int32).toInt = 7 := (by decide); omega)
        · have f7 := mt (ti_eq (a := r6.toInt) (b := 0) rfl (by decide)).mpr c7
          refine lv_bipush (v := 6) hx hb dX0_reasonToTake_47 (by decide) ?_
          exact ro_iret hx hb hr hlocks hS dX0_reasonToTake_49 (show 0 ≤ (6 : Int32).toInt ∧ (6 : Int32).toInt ≤ 10 from by have h9 : (6 : Int32).toInt = 6 := (by decide); omega)
      · have f5 := mt (ti_eq (a := r4.toInt) (b := 0) rfl (by decide)).mpr c5
        refine lv_iconst (v := 5) hx hb dX0_reasonToTake_37 (by decide) ?_
        exact ro_iret hx hb hr hlocks hS dX0_reasonToTake_38 (show 0 ≤ (5 : Int32).toInt ∧ (5 : Int32).toInt ≤ 10 from by have h9 : (5 : Int32).toInt = 5 := (by decide); omega)
  · have f2 := (ti_eq (a := x1.toInt) (b := 0) rfl (by decide)).mp c2
    refine lv_iconst (v := 4) hx hb dX0_reasonToTake_12 (by decide) ?_
    exact ro_iret hx hb hr hlocks hS dX0_reasonToTake_13 (show 0 ≤ (4 : Int32).toInt ∧ (4 : Int32).toInt ≤ 10 from by have h9 : (4 : Int32).toInt = 4 := (by decide); omega)

def wm_X0_reasonToLeave_SA : List Cond := .code yX0_reasonToLeave cX0_reasonToLeave 3 (some .int) :: (([.fieldLink RX0 33 "TalePlay$Acts" "scene" "LTalePlay$Scene;", .fieldLink RX0 38 "TalePlay$Acts" "player" "I", .methodLink RX0 83 yX6_holderOf, .instanceMethod yX6_holderOf, .selects RX6 yX6_holderOf yX6_holderOf, .initialized RX6, .code yX6_holderOf cX6_holderOf 3 (some .int), .fieldLink RX6 9 "TalePlay$Scene" "cells" "[I", .methodLink RX0 91 yX0_isByRoom, .instanceMethod yX0_isByRoom, .selects RX0 yX0_isByRoom yX0_isByRoom, .initialized RX0, .code yX0_isByRoom cX0_isByRoom 1 (some .boolean), .methodLink RX0 80 yX6_formOf, .instanceMethod yX6_formOf, .selects RX6 yX6_formOf yX6_formOf, .code yX6_formOf cX6_formOf 3 (some .int), .fieldLink RX0 9 "TalePlay$Acts" "world" "LTalePlay$World;", .methodLink RX0 86 yX10_sortOf, .instanceMethod yX10_sortOf, .selects RX10 yX10_sortOf yX10_sortOf, .initialized RX10, .code yX10_sortOf cX10_sortOf 2 (some .int), .fieldLink RX10 37 "TalePlay$World" "objects" "I", .fieldLink RX10 15 "TalePlay$World" "sorts" "[I", .fieldLink RX10 21 "TalePlay$World" "kindOf" "[I", .methodLink RX0 104 yX6_has, .instanceMethod yX6_has, .selects RX6 yX6_has yX6_has, .code yX6_has cX6_has 3 (some .boolean)] : List Cond) ++ wsX00 ++ wsX60 ++ wsX100)
set_option maxRecDepth 20000 in
theorem gm_X0_reasonToLeave_SA_X6_holderOf_SS_83 : GoodIn wm_X0_reasonToLeave_SA (wsV RX0 83 RX6 yX6_holderOf wm_X6_holderOf_SS) := goodIn_app (goodIn_of _ (by decide +kernel)) (goodIn_r _ [7, 8, 38, 39] rfl (by decide +kernel))
set_option maxRecDepth 20000 in
theorem gm_X0_reasonToLeave_SA_X0_isByRoom_SA_91 : GoodIn wm_X0_reasonToLeave_SA (wsV RX0 91 RX0 yX0_isByRoom wm_X0_isByRoom_SA) := goodIn_app (goodIn_of _ (by decide +kernel)) (goodIn_r _ [13, 1, 2, 14, 15, 16, 6, 17, 8, 18, 3, 4, 5, 7, 19, 20, 21, 22, 23, 24, 25, 26, 31, 32, 33, 34, 35, 36, 37, 38, 39, 40, 41, 42, 43, 44, 45, 46] rfl (by decide +kernel))
set_option maxRecDepth 20000 in
theorem gm_X0_reasonToLeave_SA_X10_sortOf_86 : GoodIn wm_X0_reasonToLeave_SA (wsV RX0 86 RX10 yX10_sortOf wm_X10_sortOf) := goodIn_app (goodIn_of _ (by decide +kernel)) (goodIn_r _ [23, 24, 25, 26, 40, 41, 42, 43, 44, 45, 46] rfl (by decide +kernel))
set_option maxRecDepth 20000 in
theorem gm_X0_reasonToLeave_SA_X6_formOf_SS_80 : GoodIn wm_X0_reasonToLeave_SA (wsV RX0 80 RX6 yX6_formOf wm_X6_formOf_SS) := goodIn_app (goodIn_of _ (by decide +kernel)) (goodIn_r _ [17, 8, 38, 39] rfl (by decide +kernel))
set_option maxRecDepth 20000 in
theorem gm_X0_reasonToLeave_SA_X6_has_SS_104 : GoodIn wm_X0_reasonToLeave_SA (wsV RX0 104 RX6 yX6_has wm_X6_has_SS) := goodIn_app (goodIn_of _ (by decide +kernel)) (goodIn_r _ [30, 8, 38, 39] rfl (by decide +kernel))
set_option maxHeartbeats 4000000 in
set_option maxRecDepth 100000 in
theorem x_X0_reasonToLeave_SA (l : Launch) (D : va_G) (sz : Nat) (sk : Value) (a : Nat → Nat) (t : Nat → ClassId) (i : Nat → Int32) (q : Int64) (c : Nat → Nat → Int32) (d : Nat → Nat → Int64) (hI : xInv i c) (hpl : 0 ≤ (i 185).toInt ∧ (i 185).toInt ≤ 29) : Met l yX0_reasonToLeave wm_X0_reasonToLeave_SA ({ frames := 2, cells := 0, slots := 0, locals := 42 }) (va_Pc [.ref (a 184)] (yA (a 186) D sz (xwS sk a t i q c d) (xtS t))) (va_Qi (fun (r : Int32) (_ : Unit) => ((0 ≤ r.toInt ∧ r.toInt ≤ 21) ∧ (Im (r.toInt = 0) (AL (c 179) (i 185))))) oA (ro sz)) 0 0 (ro sz) := by
  refine Met.ofW (cc := cX0_reasonToLeave) (maxL := 3) (ret := (some .int)) (by decide) rfl ?_
  intro p e s m args below meth cd s₁ B hml hv
  obtain ⟨rfl, ⟨hsz, hP, hK⟩, hN, hZ⟩ := hv
  have hx := B.exec
  have hb := B.bytes
  have hr := B.returns
  have hts := atoms_spec (ws := wm_X0_reasonToLeave_SA) B.pre
  have hown : s.vm.findClass RX0 = some m.cls := findClass_of_methodNamed B.named
  have hlocks := B.notSynchronized
  subst hsz
  have hA : ∀ q : Nat, s.heap.size ≤ q → ro s.heap.size q := fun _ h => h
  have hS : va_S (ro s.heap.size) s.heap s.heap [] := va_S.rf
  have hl := lv_entry ([.ref (a 184)]) (n := 3) (Nat.le_of_ble_eq_true rfl)
  rw [lg_entry_eq]
  generalize (lg_sl ([.ref (a 184)]) ++ List.replicate (3 - (lg_sl ([.ref (a 184)])).length) Slot.unset).toArray = ls at hl ⊢
  have hl : lv_has ls 3 [(0, .ref (a 184))] := hl
  refine lv_aload_n hx hb dX0_reasonToLeave_0 rfl (lv_at hl 0 rfl) ?_
  refine xgS_SA_scene hx hb hts (fun _ h => List.mem_cons_of_mem _ (List.mem_append_left _ (List.mem_append_left _ (List.mem_append_right _ h)))) hown hK hP (hts (.fieldLink RX0 33 "TalePlay$Acts" "scene" "LTalePlay$Scene;") (by decide +kernel)) dX0_reasonToLeave_1 ?_
  refine lv_aload_n hx hb dX0_reasonToLeave_4 rfl (lv_at hl 0 rfl) ?_
  refine xgS_SA_player (v := (i 185)) rfl hx hb hts (fun _ h => List.mem_cons_of_mem _ (List.mem_append_left _ (List.mem_append_left _ (List.mem_append_right _ h)))) hown hK hP (hts (.fieldLink RX0 38 "TalePlay$Acts" "player" "I") (by decide +kernel)) dX0_reasonToLeave_5 ?_
  have rb185_i : (i 185).toInt = -9 ∨ (0 ≤ (i 185).toInt ∧ (i 185).toInt ≤ 29) := hI.1 185
  refine ro_calli (va_runV (As := [.int (i 185)]) (rest := []) ⟨hx, hb, hml, hown, hts⟩ (x_X6_holderOf_SS l D s.heap.size .null a t i q c d (i 185) hI (show 0 ≤ (i 185).toInt ∧ (i 185).toInt ≤ 29 from by omega)) (cwV 1 hts gm_X0_reasonToLeave_SA_X6_holderOf_SS_83 rfl rfl rfl (by decide +kernel) ⟨Nat.le_of_ble_eq_true rfl, Nat.le_of_ble_eq_true rfl⟩) (yA_V hN (xZ_k hZ hS hA) (xkS_P2 hK) (xuS_P2 (sk := sk) hP) (ci := 6) (q0 := 0) rfl rfl) rfl rfl hl.1 rfl (lv_room (Nat.le_of_ble_eq_true rfl)) dX0_reasonToLeave_8 ⟨Nat.le_of_ble_eq_true rfl, Nat.le_of_ble_eq_true rfl⟩) hS hA hP (fun r1 u1 H locs hw1 hP hS => ?_)
  have hw1 : ((r1.toInt = -9 ∧ (c 179 (i 185).toNatClampNeg).toInt % 256 = 255) ∨ (0 ≤ r1.toInt ∧ r1.toInt ≤ 29 ∧ ¬ (c 179 (i 185).toNatClampNeg).toInt % 256 = 255 ∧ r1.toInt = (c 179 (i 185).toNatClampNeg).toInt / 8 % 32)) := hw1
  refine lv_istore_n (lv' := [(1, .int r1), (0, .ref (a 184))]) hx hb dX0_reasonToLeave_11 rfl hl (by decide) rfl (fun ls hl => ?_)
  refine lv_iload_n hx hb dX0_reasonToLeave_12 rfl (lv_at hl 0 rfl) ?_
  refine lv_bipush (v := (-9)) hx hb dX0_reasonToLeave_13 (by decide) ?_
  refine lv_icmp_eq (tgt := 25) hx hb dX0_reasonToLeave_15 (by decide) (fun c2 => ?_) (fun c2 => ?_)
  · have f2 := (ti_eq (a := r1.toInt) (b := (-9)) rfl (by decide)).mp c2
    refine lv_iconst (v := 1) hx hb dX0_reasonToLeave_25 (by decide) ?_
    exact ro_iret hx hb hr hlocks hS dX0_reasonToLeave_26 ⟨(show 0 ≤ (1 : Int32).toInt ∧ (1 : Int32).toInt ≤ 21 from by have h9 : (1 : Int32).toInt = 1 := (by decide); omega), (show Im ((1 : Int32).toInt = 0) (AL (c 179) (i 185)) from fun h9 => absurd h9 (by decide))⟩
  · have f2 := mt (ti_eq (a := r1.toInt) (b := (-9)) rfl (by decide)).mpr c2
    refine lv_aload_n hx hb dX0_reasonToLeave_18 rfl (lv_at hl 1 rfl) ?_
    refine ro_calli (va_runV (As := []) (rest := []) ⟨hx, hb, hml, hown, hts⟩ (x_X0_isByRoom_SA l D H.size .null a t i q c d  hI (show 0 ≤ ((i 185) : Int32).toInt ∧ ((i 185) : Int32).toInt ≤ 29 from by omega)) (cwV 0 hts gm_X0_reasonToLeave_SA_X0_isByRoom_SA_91 rfl rfl rfl (by decide +kernel) ⟨Nat.le_of_ble_eq_true rfl, Nat.le_of_ble_eq_true rfl⟩) (yA_V hN (xZ_k hZ hS hA) hK hP (ci := 0) (q0 := 43) rfl rfl) rfl rfl hl.1 rfl (lv_room (Nat.le_of_ble_eq_true rfl)) dX0_reasonToLeave_19 ⟨Nat.le_of_ble_eq_true rfl, Nat.le_of_ble_eq_true rfl⟩) hS hA hP (fun r3 u3 H locs hw3 hP hS => ?_)
    have hw3 : ((0 ≤ r3.toInt ∧ r3.toInt ≤ 1) ∧ (Im (r3.toInt = 1) (¬ (c 179 (i 185).toNatClampNeg).toInt % 256 = 255))) := hw3
    obtain ⟨hw3, hr3_0⟩ := hw3
    have hr3_0 : Im (r3.toInt = 1) (¬ (c 179 (i 185).toNatClampNeg).toInt % 256 = 255) := hr3_0
    refine lv_if_eq (tgt := 27) hx hb dX0_reasonToLeave_22 (by decide) (fun c4 => ?_) (fun c4 => ?_)
    · have f4 := (ti_eq (a := r3.toInt) (b := 0) rfl (by decide)).mp c4
      refine lv_aload_n hx hb dX0_reasonToLeave_27 rfl (lv_at hl 1 rfl) ?_
      refine xgS_SA_world hx hb hts (fun _ h => List.mem_cons_of_mem _ (List.mem_append_left _ (List.mem_append_left _ (List.mem_append_right _ h)))) hown hK hP (hts (.fieldLink RX0 9 "TalePlay$Acts" "world" "LTalePlay$World;") (by decide +kernel)) dX0_reasonToLeave_28 ?_
      refine lv_iload_n hx hb dX0_reasonToLeave_31 rfl (lv_at hl 0 rfl) ?_
      have rb111_i : 0 ≤ (i 111).toInt ∧ (i 111).toInt ≤ 30 := hI.1 111
      refine ro_calli (va_runV (As := [.int r1]) (rest := []) ⟨hx, hb, hml, hown, hts⟩ (x_X10_sortOf l D H.size .null a t i q c d r1 hI ) (cwV 1 hts gm_X0_reasonToLeave_SA_X10_sortOf_86 rfl rfl rfl (by decide +kernel) ⟨Nat.le_of_ble_eq_true rfl, Nat.le_of_ble_eq_true rfl⟩) (yA_V hN (xZ_k hZ hS hA) (xkS_W hK) (xuS_W (sk := sk) hP) (ci := 10) (q0 := 0) rfl rfl) rfl rfl hl.1 rfl (lv_room (Nat.le_of_ble_eq_true rfl)) dX0_reasonToLeave_32 ⟨Nat.le_of_ble_eq_true rfl, Nat.le_of_ble_eq_true rfl⟩) hS hA hP (fun r5 u5 H locs hw5 hP hS => ?_)
      have hw5 : ((r5.toInt = -9 ∧ ¬ (0 ≤ r1.toInt ∧ r1.toInt < (i 111).toInt)) ∨ (0 ≤ r5.toInt ∧ r5.toInt ≤ 5 ∧ 0 ≤ r1.toInt ∧ r1.toInt < (i 111).toInt)) := hw5
      refine lv_iconst (v := 3) hx hb dX0_reasonToLeave_35 (by decide) ?_
      have jn6 : ∀ (H : Heap) (locs : List Loc) (ls : Array Slot), va_P D vwCl (xwS sk a t i q c d) H → va_S (ro s.heap.size) s.heap H locs → lv_has ls 3 [(1, .int r1), (0, .ref (a 184))] → W p l e (headSpec wm_X0_reasonToLeave_SA ({ frames := 2, cells := 0, slots := 0, locals := 42 })).room s m ([.ref (a 184)] : List Value).toArray below meth cd H locs 0 0 (MQ below (va_Qi (fun (r : Int32) (_ : Unit) => ((0 ≤ r.toInt ∧ r.toInt ≤ 21) ∧ (Im (r.toInt = 0) (AL (c 179) (i 185))))) oA (ro s.heap.size)) ([.ref (a 184)] : List Value).toArray s 0 0 (ro s.heap.size)) (F0 m 53 ls []) := by
        intro H locs ls hP hS hl
        refine lv_aload_n hx hb dX0_reasonToLeave_53 rfl (lv_at hl 1 rfl) ?_
        refine xgS_SA_scene hx hb hts (fun _ h => List.mem_cons_of_mem _ (List.mem_append_left _ (List.mem_append_left _ (List.mem_append_right _ h)))) hown hK hP (hts (.fieldLink RX0 33 "TalePlay$Acts" "scene" "LTalePlay$Scene;") (by decide +kernel)) dX0_reasonToLeave_54 ?_
        refine lv_iload_n hx hb dX0_reasonToLeave_57 rfl (lv_at hl 0 rfl) ?_
        refine ro_calli (va_runV (As := [.int r1]) (rest := []) ⟨hx, hb, hml, hown, hts⟩ (x_X6_formOf_SS l D H.size .null a t i q c d r1 hI (show 0 ≤ r1.toInt ∧ r1.toInt ≤ 29 from by omega)) (cwV 1 hts gm_X0_reasonToLeave_SA_X6_formOf_SS_80 rfl rfl rfl (by decide +kernel) ⟨Nat.le_of_ble_eq_true rfl, Nat.le_of_ble_eq_true rfl⟩) (yA_V hN (xZ_k hZ hS hA) (xkS_P2 hK) (xuS_P2 (sk := sk) hP) (ci := 6) (q0 := 0) rfl rfl) rfl rfl hl.1 rfl (lv_room (Nat.le_of_ble_eq_true rfl)) dX0_reasonToLeave_58 ⟨Nat.le_of_ble_eq_true rfl, Nat.le_of_ble_eq_true rfl⟩) hS hA hP (fun r7 u7 H locs hw7 hP hS => ?_)
        have hw7 : ((r7.toInt = -9 ∧ (c 179 r1.toNatClampNeg).toInt % 256 = 255) ∨ (0 ≤ r7.toInt ∧ r7.toInt ≤ 4 ∧ ¬ (c 179 r1.toNatClampNeg).toInt % 256 = 255 ∧ r7.toInt = (c 179 r1.toNatClampNeg).toInt % 8)) := hw7
        refine lv_istore_n (lv' := [(2, .int r7), (1, .int r1), (0, .ref (a 184))]) hx hb dX0_reasonToLeave_61 rfl hl (by decide) rfl (fun ls hl => ?_)
        refine lv_iload_n hx hb dX0_reasonToLeave_62 rfl (lv_at hl 0 rfl) ?_
        refine lv_if_eq (tgt := 71) hx hb dX0_reasonToLeave_63 (by decide) (fun c8 => ?_) (fun c8 => ?_)
        · have f8 := (ti_eq (a := r7.toInt) (b := 0) rfl (by decide)).mp c8
          refine lv_iconst (v := 0) hx hb dX0_reasonToLeave_71 (by decide) ?_
          refine lv_goto (tgt := 77) hx hb dX0_reasonToLeave_72 (by decide) ?_
          exact ro_iret hx hb hr hlocks hS dX0_reasonToLeave_77 ⟨(show 0 ≤ (0 : Int32).toInt ∧ (0 : Int32).toInt ≤ 21 from by have h9 : (0 : Int32).toInt = 0 := (by decide); omega), (show Im ((0 : Int32).toInt = 0) (AL (c 179) (i 185)) from fun _ => ⟨by omega, by rw [ix_n (f := c 179) (s := r1) (show r1.toInt = (c 179 (i 185).toNatClampNeg).toInt / 8 % 32 from by omega) rfl]; omega⟩)⟩
        · have f8 := mt (ti_eq (a := r7.toInt) (b := 0) rfl (by decide)).mpr c8
          refine lv_iload_n hx hb dX0_reasonToLeave_66 rfl (lv_at hl 0 rfl) ?_
          refine lv_iconst (v := 1) hx hb dX0_reasonToLeave_67 (by decide) ?_
          refine lv_icmp_ne (tgt := 75) hx hb dX0_reasonToLeave_68 (by decide) (fun c9 => ?_) (fun c9 => ?_)
          · have f9 := mt (ti_eq (a := r7.toInt) (b := 1) rfl (by decide)).mpr c9
            refine lv_bipush (v := 21) hx hb dX0_reasonToLeave_75 (by decide) ?_
            exact ro_iret hx hb hr hlocks hS dX0_reasonToLeave_77 ⟨(show 0 ≤ (21 : Int32).toInt ∧ (21 : Int32).toInt ≤ 21 from by have h9 : (21 : Int32).toInt = 21 := (by decide); omega), (show Im ((21 : Int32).toInt = 0) (AL (c 179) (i 185)) from fun h9 => absurd h9 (by decide))⟩
          · have f9 := (ti_eq (a := r7.toInt) (b := 1) rfl (by decide)).mp c9
            refine lv_iconst (v := 0) hx hb dX0_reasonToLeave_71 (by decide) ?_
            refine lv_goto (tgt := 77) hx hb dX0_reasonToLeave_72 (by decide) ?_
            exact ro_iret hx hb hr hlocks hS dX0_reasonToLeave_77 ⟨(show 0 ≤ (0 : Int32).toInt ∧ (0 : Int32).toInt ≤ 21 from by have h9 : (0 : Int32).toInt = 0 := (by decide); omega), (show Im ((0 : Int32).toInt = 0) (AL (c 179) (i 185)) from fun _ => ⟨by omega, by rw [ix_n (f := c 179) (s := r1) (show r1.toInt = (c 179 (i 185).toNatClampNeg).toInt / 8 % 32 from by omega) rfl]; omega⟩)⟩
      refine lv_icmp_ne (tgt := 53) hx hb dX0_reasonToLeave_36 (by decide) (fun c10 => ?_) (fun c10 => ?_)
      · have f10 := mt (ti_eq (a := r5.toInt) (b := 3) rfl (by decide)).mpr c10
        exact jn6    _ _ _ hP hS (lv_sub hl [0, 1] rfl)
      · have f10 := (ti_eq (a := r5.toInt) (b := 3) rfl (by decide)).mp c10
        refine lv_aload_n hx hb dX0_reasonToLeave_39 rfl (lv_at hl 1 rfl) ?_
        refine xgS_SA_scene hx hb hts (fun _ h => List.mem_cons_of_mem _ (List.mem_append_left _ (List.mem_append_left _ (List.mem_append_right _ h)))) hown hK hP (hts (.fieldLink RX0 33 "TalePlay$Acts" "scene" "LTalePlay$Scene;") (by decide +kernel)) dX0_reasonToLeave_40 ?_
        refine lv_iload_n hx hb dX0_reasonToLeave_43 rfl (lv_at hl 0 rfl) ?_
        refine lv_iconst (v := 0) hx hb dX0_reasonToLeave_44 (by decide) ?_
        refine ro_calli (va_runV (As := [.int r1, .int 0]) (rest := []) ⟨hx, hb, hml, hown, hts⟩ (x_X6_has_SS l D H.size .null a t i q c d r1 0 hI (show 0 ≤ r1.toInt ∧ r1.toInt ≤ 29 from by have h91 : (0 : Int32).toInt = 0 := (by decide); omega) (show 0 ≤ 0 ∧ 0 ≤ 5 from by have h91 : (0 : Int32).toInt = 0 := (by decide); omega)) (cwV 2 hts gm_X0_reasonToLeave_SA_X6_has_SS_104 rfl rfl rfl (by decide +kernel) ⟨Nat.le_of_ble_eq_true rfl, Nat.le_of_ble_eq_true rfl⟩) (yA_V hN (xZ_k hZ hS hA) (xkS_P2 hK) (xuS_P2 (sk := sk) hP) (ci := 6) (q0 := 0) rfl rfl) rfl rfl hl.1 rfl (lv_room (Nat.le_of_ble_eq_true rfl)) dX0_reasonToLeave_45 ⟨Nat.le_of_ble_eq_true rfl, Nat.le_of_ble_eq_true rfl⟩) hS hA hP (fun r11 u11 H locs hw11 hP hS => ?_)
        have hw11 : (0 ≤ r11.toInt ∧ r11.toInt ≤ 1) := hw11
        refine lv_if_ne (tgt := 53) hx hb dX0_reasonToLeave_48 (by decide) (fun c12 => ?_) (fun c12 => ?_)
        · have f12 := mt (ti_eq (a := r11.toInt) (b := 0) rfl (by decide)).mpr c12
          exact jn6    _ _ _ hP hS (lv_sub hl [0, 1] rfl)
        · have f12 := (ti_eq (a := r11.toInt) (b := 0) rfl (by decide)).mp c12
          refine lv_iconst (v := 3) hx hb dX0_reasonToLeave_51 (by decide) ?_
          exact ro_iret hx hb hr hlocks hS dX0_reasonToLeave_52 ⟨(show 0 ≤ (3 : Int32).toInt ∧ (3 : Int32).toInt ≤ 21 from by have h9 : (3 : Int32).toInt = 3 := (by decide); omega), (show Im ((3 : Int32).toInt = 0) (AL (c 179) (i 185)) from fun h9 => absurd h9 (by decide))⟩
    · have f4 := mt (ti_eq (a := r3.toInt) (b := 0) rfl (by decide)).mpr c4
      refine lv_iconst (v := 1) hx hb dX0_reasonToLeave_25 (by decide) ?_
      exact ro_iret hx hb hr hlocks hS dX0_reasonToLeave_26 ⟨(show 0 ≤ (1 : Int32).toInt ∧ (1 : Int32).toInt ≤ 21 from by have h9 : (1 : Int32).toInt = 1 := (by decide); omega), (show Im ((1 : Int32).toInt = 0) (AL (c 179) (i 185)) from fun h9 => absurd h9 (by decide))⟩

