def wm_X8_isCover_TG : List Cond := .code yX8_isCover cX8_isCover 3 (some .boolean) :: (([.fieldLink RX8 18 "TalePlay$Sight" "world" "LTalePlay$World;", .methodLink RX8 34 yX10_sortOf, .instanceMethod yX10_sortOf, .selects RX10 yX10_sortOf yX10_sortOf, .initialized RX10, .code yX10_sortOf cX10_sortOf 2 (some .int), .fieldLink RX10 37 "TalePlay$World" "objects" "I", .fieldLink RX10 15 "TalePlay$World" "sorts" "[I", .fieldLink RX10 21 "TalePlay$World" "kindOf" "[I", .fieldLink RX8 26 "TalePlay$Sight" "scene" "LTalePlay$Scene;", .methodLink RX8 40 yX6_has, .instanceMethod yX6_has, .selects RX6 yX6_has yX6_has, .initialized RX6, .code yX6_has cX6_has 3 (some .boolean), .fieldLink RX6 9 "TalePlay$Scene" "cells" "[I"] : List Cond) ++ wsX80 ++ wsX100 ++ wsX60)
set_option maxRecDepth 20000 in
theorem gm_X8_isCover_TG_X10_sortOf_34 : GoodIn wm_X8_isCover_TG (wsV RX8 34 RX10 yX10_sortOf wm_X10_sortOf) := goodIn_app (goodIn_of _ (by decide +kernel)) (goodIn_r _ [6, 7, 8, 9, 23, 24, 25, 26, 27, 28, 29] rfl (by decide +kernel))
set_option maxRecDepth 20000 in
theorem gm_X8_isCover_TG_X6_has_TS_40 : GoodIn wm_X8_isCover_TG (wsV RX8 40 RX6 yX6_has wm_X6_has_TS) := goodIn_app (goodIn_of _ (by decide +kernel)) (goodIn_r _ [15, 16, 30, 31] rfl (by decide +kernel))
set_option maxHeartbeats 4000000 in
set_option maxRecDepth 100000 in
theorem x_X8_isCover_TG (l : Launch) (D : va_G) (sz : Nat) (sk : Value) (a : Nat → Nat) (t : Nat → ClassId) (i : Nat → Int32) (q : Int64) (c : Nat → Nat → Int32) (d : Nat → Nat → Int64) (w : Int32) (b1 : Int32) (hI : xInv i c) : Met l yX8_isCover wm_X8_isCover_TG ({ frames := 1, cells := 0, slots := 0, locals := 22 }) (va_Pc [.ref (a 151), .int w, .int b1] (yA (a 186) D sz (xwT sk a t i q c d) (xtT t))) (va_Qi (fun (r : Int32) (_ : Unit) => (0 ≤ r.toInt ∧ r.toInt ≤ 1)) oA (ro sz)) 0 0 (ro sz) := by
  refine Met.ofW (cc := cX8_isCover) (maxL := 3) (ret := (some .boolean)) (by decide) rfl ?_
  intro p e s m args below meth cd s₁ B hml hv
  obtain ⟨rfl, ⟨hsz, hP, hK⟩, hN, hZ⟩ := hv
  have hx := B.exec
  have hb := B.bytes
  have hr := B.returns
  have hts := atoms_spec (ws := wm_X8_isCover_TG) B.pre
  have hown : s.vm.findClass RX8 = some m.cls := findClass_of_methodNamed B.named
  have hlocks := B.notSynchronized
  subst hsz
  have hA : ∀ q : Nat, s.heap.size ≤ q → ro s.heap.size q := fun _ h => h
  have hS : va_S (ro s.heap.size) s.heap s.heap [] := va_S.rf
  have hl := lv_entry ([.ref (a 151), .int w, .int b1]) (n := 3) (Nat.le_of_ble_eq_true rfl)
  rw [lg_entry_eq]
  generalize (lg_sl ([.ref (a 151), .int w, .int b1]) ++ List.replicate (3 - (lg_sl ([.ref (a 151), .int w, .int b1])).length) Slot.unset).toArray = ls at hl ⊢
  have hl : lv_has ls 3 [(0, .ref (a 151)), (1, .int w), (2, .int b1)] := hl
  refine lv_aload_n hx hb dX8_isCover_0 rfl (lv_at hl 0 rfl) ?_
  refine xgT_TG_world hx hb hts (fun _ h => List.mem_cons_of_mem _ (List.mem_append_left _ (List.mem_append_left _ (List.mem_append_right _ h)))) hown hK hP (hts (.fieldLink RX8 18 "TalePlay$Sight" "world" "LTalePlay$World;") (by decide +kernel)) dX8_isCover_1 ?_
  refine lv_iload_n hx hb dX8_isCover_4 rfl (lv_at hl 1 rfl) ?_
  have rb111_i : 0 ≤ (i 111).toInt ∧ (i 111).toInt ≤ 30 := hI.1 111
  refine ro_calli (va_runV (As := [.int w]) (rest := []) ⟨hx, hb, hml, hown, hts⟩ (x_X10_sortOf l D s.heap.size .null a t i q c d w hI ) (cwV 1 hts gm_X8_isCover_TG_X10_sortOf_34 rfl rfl rfl (by decide +kernel) ⟨Nat.le_of_ble_eq_true rfl, Nat.le_of_ble_eq_true rfl⟩) (yA_V hN (xZ_k hZ hS hA) (xkT_W hK) (xuT_W (sk := sk) hP) (ci := 10) (q0 := 0) rfl rfl) rfl rfl hl.1 rfl (lv_room (Nat.le_of_ble_eq_true rfl)) dX8_isCover_5 ⟨Nat.le_of_ble_eq_true rfl, Nat.le_of_ble_eq_true rfl⟩) hS hA hP (fun r1 u1 H locs hw1 hP hS => ?_)
  have hw1 : ((r1.toInt = -9 ∧ ¬ (0 ≤ w.toInt ∧ w.toInt < (i 111).toInt)) ∨ (0 ≤ r1.toInt ∧ r1.toInt ≤ 5 ∧ 0 ≤ w.toInt ∧ w.toInt < (i 111).toInt)) := hw1
  refine lv_iconst (v := 3) hx hb dX8_isCover_8 (by decide) ?_
  refine lv_icmp_ne (tgt := 44) hx hb dX8_isCover_9 (by decide) (fun c2 => ?_) (fun c2 => ?_)
  · have f2 := mt (ti_eq (a := r1.toInt) (b := 3) rfl (by decide)).mpr c2
    refine lv_iconst (v := 0) hx hb dX8_isCover_44 (by decide) ?_
    exact ro_zret hx hb hr hlocks hS rfl dX8_isCover_45 (show 0 ≤ (0 : Int32).toInt ∧ (0 : Int32).toInt ≤ 1 from by have h9 : (0 : Int32).toInt = 0 := (by decide); omega)
  · have f2 := (ti_eq (a := r1.toInt) (b := 3) rfl (by decide)).mp c2
    refine lv_aload_n hx hb dX8_isCover_12 rfl (lv_at hl 0 rfl) ?_
    refine xgT_TG_scene hx hb hts (fun _ h => List.mem_cons_of_mem _ (List.mem_append_left _ (List.mem_append_left _ (List.mem_append_right _ h)))) hown hK hP (hts (.fieldLink RX8 26 "TalePlay$Sight" "scene" "LTalePlay$Scene;") (by decide +kernel)) dX8_isCover_13 ?_
    refine lv_iload_n hx hb dX8_isCover_16 rfl (lv_at hl 1 rfl) ?_
    refine lv_iconst (v := 0) hx hb dX8_isCover_17 (by decide) ?_
    refine ro_calli (va_runV (As := [.int w, .int 0]) (rest := []) ⟨hx, hb, hml, hown, hts⟩ (x_X6_has_TS l D H.size .null a t i q c d w 0 hI (show 0 ≤ w.toInt ∧ w.toInt ≤ 29 from by have h91 : (0 : Int32).toInt = 0 := (by decide); omega) (show 0 ≤ 0 ∧ 0 ≤ 5 from by have h91 : (0 : Int32).toInt = 0 := (by decide); omega)) (cwV 2 hts gm_X8_isCover_TG_X6_has_TS_40 rfl rfl rfl (by decide +kernel) ⟨Nat.le_of_ble_eq_true rfl, Nat.le_of_ble_eq_true rfl⟩) (yA_V hN (xZ_k hZ hS hA) (xkT_P1 hK) (xuT_P1 (sk := sk) hP) (ci := 6) (q0 := 0) rfl rfl) rfl rfl hl.1 rfl (lv_room (Nat.le_of_ble_eq_true rfl)) dX8_isCover_18 ⟨Nat.le_of_ble_eq_true rfl, Nat.le_of_ble_eq_true rfl⟩) hS hA hP (fun r3 u3 H locs hw3 hP hS => ?_)
    have hw3 : (0 ≤ r3.toInt ∧ r3.toInt ≤ 1) := hw3
    refine lv_if_ne (tgt := 44) hx hb dX8_isCover_21 (by decide) (fun c4 => ?_) (fun c4 => ?_)
    · have f4 := mt (ti_eq (a := r3.toInt) (b := 0) rfl (by decide)).mpr c4
      refine lv_iconst (v := 0) hx hb dX8_isCover_44 (by decide) ?_
      exact ro_zret hx hb hr hlocks hS rfl dX8_isCover_45 (show 0 ≤ (0 : Int32).toInt ∧ (0 : Int32).toInt ≤ 1 from by have h9 : (0 : Int32).toInt = 0 := (by decide); omega)
    · have f4 := (ti_eq (a := r3.toInt) (b := 0) rfl (by decide)).mp c4
      refine lv_iload_n hx hb dX8_isCover_24 rfl (lv_at hl 2 rfl) ?_
      refine lv_if_ne (tgt := 40) hx hb dX8_isCover_25 (by decide) (fun c5 => ?_) (fun c5 => ?_)
      · have f5 := mt (ti_eq (a := b1.toInt) (b := 0) rfl (by decide)).mpr c5
        refine lv_iconst (v := 1) hx hb dX8_isCover_40 (by decide) ?_
        refine lv_goto (tgt := 45) hx hb dX8_isCover_41 (by decide) ?_
        exact ro_zret hx hb hr hlocks hS rfl dX8_isCover_45 (show 0 ≤ (1 : Int32).toInt ∧ (1 : Int32).toInt ≤ 1 from by have h9 : (1 : Int32).toInt = 1 := (by decide); omega)
      · have f5 := (ti_eq (a := b1.toInt) (b := 0) rfl (by decide)).mp c5
        refine lv_aload_n hx hb dX8_isCover_28 rfl (lv_at hl 0 rfl) ?_
        refine xgT_TG_scene hx hb hts (fun _ h => List.mem_cons_of_mem _ (List.mem_append_left _ (List.mem_append_left _ (List.mem_append_right _ h)))) hown hK hP (hts (.fieldLink RX8 26 "TalePlay$Sight" "scene" "LTalePlay$Scene;") (by decide +kernel)) dX8_isCover_29 ?_
        refine lv_iload_n hx hb dX8_isCover_32 rfl (lv_at hl 1 rfl) ?_
        refine lv_iconst (v := 5) hx hb dX8_isCover_33 (by decide) ?_
        refine ro_calli (va_runV (As := [.int w, .int 5]) (rest := []) ⟨hx, hb, hml, hown, hts⟩ (x_X6_has_TS l D H.size .null a t i q c d w 5 hI (show 0 ≤ w.toInt ∧ w.toInt ≤ 29 from by have h91 : (5 : Int32).toInt = 5 := (by decide); omega) (show 0 ≤ 5 ∧ 5 ≤ 5 from by have h91 : (5 : Int32).toInt = 5 := (by decide); omega)) (cwV 2 hts gm_X8_isCover_TG_X6_has_TS_40 rfl rfl rfl (by decide +kernel) ⟨Nat.le_of_ble_eq_true rfl, Nat.le_of_ble_eq_true rfl⟩) (yA_V hN (xZ_k hZ hS hA) (xkT_P1 hK) (xuT_P1 (sk := sk) hP) (ci := 6) (q0 := 0) rfl rfl) rfl rfl hl.1 rfl (lv_room (Nat.le_of_ble_eq_true rfl)) dX8_isCover_34 ⟨Nat.le_of_ble_eq_true rfl, Nat.le_of_ble_eq_true rfl⟩) hS hA hP (fun r6 u6 H locs hw6 hP hS => ?_)
        have hw6 : (0 ≤ r6.toInt ∧ r6.toInt ≤ 1) := hw6
        refine lv_if_ne (tgt := 44) hx hb dX8_isCover_37 (by decide) (fun c7 => ?_) (fun c7 => ?_)
        · have f7 := mt (ti_eq (a := r6.toInt) (b := 0) rfl (by decide)).mpr c7
          refine lv_iconst (v := 0) hx hb dX8_isCover_44 (by decide) ?_
          exact ro_zret hx hb hr hlocks hS rfl dX8_isCover_45 (show 0 ≤ (0 : Int32).toInt ∧ (0 : Int32).toInt ≤ 1 from by have h9 : (0 : Int32).toInt = 0 := (by decide); omega)
        · have f7 := (ti_eq (a := r6.toInt) (b := 0) rfl (by decide)).mp c7
          refine lv_iconst (v := 1) hx hb dX8_isCover_40 (by decide) ?_
          refine lv_goto (tgt := 45) hx hb dX8_isCover_41 (by decide) ?_
          exact ro_zret hx hb hr hlocks hS rfl dX8_isCover_45 (show 0 ≤ (1 : Int32).toInt ∧ (1 : Int32).toInt ≤ 1 from by have h9 : (1 : Int32).toInt = 1 := (by decide); omega)

def wm_X8_shellOf_TG : List Cond := .code yX8_shellOf cX8_shellOf 5 (some .int) :: (([.fieldLink RX8 26 "TalePlay$Sight" "scene" "LTalePlay$Scene;", .methodLink RX8 62 yX6_holderOf, .instanceMethod yX6_holderOf, .selects RX6 yX6_holderOf yX6_holderOf, .initialized RX6, .code yX6_holderOf cX6_holderOf 3 (some .int), .fieldLink RX6 9 "TalePlay$Scene" "cells" "[I", .fieldLink RX8 18 "TalePlay$Sight" "world" "LTalePlay$World;", .methodLink RX8 34 yX10_sortOf, .instanceMethod yX10_sortOf, .selects RX10 yX10_sortOf yX10_sortOf, .initialized RX10, .code yX10_sortOf cX10_sortOf 2 (some .int), .fieldLink RX10 37 "TalePlay$World" "objects" "I", .fieldLink RX10 15 "TalePlay$World" "sorts" "[I", .fieldLink RX10 21 "TalePlay$World" "kindOf" "[I", .methodLink RX8 65 yX8_isCover, .instanceMethod yX8_isCover, .selects RX8 yX8_isCover yX8_isCover, .initialized RX8, .code yX8_isCover cX8_isCover 3 (some .boolean), .methodLink RX8 40 yX6_has, .instanceMethod yX6_has, .selects RX6 yX6_has yX6_has, .code yX6_has cX6_has 3 (some .boolean)] : List Cond) ++ wsX80 ++ wsX60 ++ wsX100)
set_option maxRecDepth 20000 in
theorem gm_X8_shellOf_TG_X6_holderOf_TS_62 : GoodIn wm_X8_shellOf_TG (wsV RX8 62 RX6 yX6_holderOf wm_X6_holderOf_TS) := goodIn_app (goodIn_of _ (by decide +kernel)) (goodIn_r _ [6, 7, 32, 33] rfl (by decide +kernel))
set_option maxRecDepth 20000 in
theorem gm_X8_shellOf_TG_X10_sortOf_34 : GoodIn wm_X8_shellOf_TG (wsV RX8 34 RX10 yX10_sortOf wm_X10_sortOf) := goodIn_app (goodIn_of _ (by decide +kernel)) (goodIn_r _ [13, 14, 15, 16, 34, 35, 36, 37, 38, 39, 40] rfl (by decide +kernel))
set_option maxRecDepth 20000 in
theorem gm_X8_shellOf_TG_X8_isCover_TG_65 : GoodIn wm_X8_shellOf_TG (wsV RX8 65 RX8 yX8_isCover wm_X8_isCover_TG) := goodIn_app (goodIn_of _ (by decide +kernel)) (goodIn_r _ [21, 8, 9, 10, 11, 12, 13, 14, 15, 16, 1, 22, 23, 24, 5, 25, 7, 26, 27, 28, 29, 30, 31, 34, 35, 36, 37, 38, 39, 40, 32, 33] rfl (by decide +kernel))
set_option maxHeartbeats 4000000 in
set_option maxRecDepth 100000 in
theorem x_X8_shellOf_TG (l : Launch) (D : va_G) (sz : Nat) (sk : Value) (a : Nat → Nat) (t : Nat → ClassId) (i : Nat → Int32) (q : Int64) (c : Nat → Nat → Int32) (d : Nat → Nat → Int64) (w : Int32) (b1 : Int32) (hI : xInv i c) (hw : 0 ≤ w.toInt ∧ w.toInt ≤ 29) : Met l yX8_shellOf wm_X8_shellOf_TG ({ frames := 2, cells := 0, slots := 0, locals := 44 }) (va_Pc [.ref (a 151), .int w, .int b1] (yA (a 186) D sz (xwT sk a t i q c d) (xtT t))) (va_Qi (fun (r : Int32) (_ : Unit) => (r.toInt = -9 ∨ (0 ≤ r.toInt ∧ r.toInt ≤ 29))) oA (ro sz)) 0 0 (ro sz) := by
  refine Met.ofW (cc := cX8_shellOf) (maxL := 5) (ret := (some .int)) (by decide) rfl ?_
  intro p e s m args below meth cd s₁ B hml hv
  obtain ⟨rfl, ⟨hsz, hP, hK⟩, hN, hZ⟩ := hv
  have hx := B.exec
  have hb := B.bytes
  have hr := B.returns
  have hts := atoms_spec (ws := wm_X8_shellOf_TG) B.pre
  have hown : s.vm.findClass RX8 = some m.cls := findClass_of_methodNamed B.named
  have hlocks := B.notSynchronized
  subst hsz
  have hA : ∀ q : Nat, s.heap.size ≤ q → ro s.heap.size q := fun _ h => h
  have hS : va_S (ro s.heap.size) s.heap s.heap [] := va_S.rf
  have hl := lv_entry ([.ref (a 151), .int w, .int b1]) (n := 5) (Nat.le_of_ble_eq_true rfl)
  rw [lg_entry_eq]
  generalize (lg_sl ([.ref (a 151), .int w, .int b1]) ++ List.replicate (5 - (lg_sl ([.ref (a 151), .int w, .int b1])).length) Slot.unset).toArray = ls at hl ⊢
  have hl : lv_has ls 5 [(0, .ref (a 151)), (1, .int w), (2, .int b1)] := hl
  refine lv_aload_n hx hb dX8_shellOf_0 rfl (lv_at hl 0 rfl) ?_
  refine xgT_TG_scene hx hb hts (fun _ h => List.mem_cons_of_mem _ (List.mem_append_left _ (List.mem_append_left _ (List.mem_append_right _ h)))) hown hK hP (hts (.fieldLink RX8 26 "TalePlay$Sight" "scene" "LTalePlay$Scene;") (by decide +kernel)) dX8_shellOf_1 ?_
  refine lv_iload_n hx hb dX8_shellOf_4 rfl (lv_at hl 1 rfl) ?_
  refine ro_calli (va_runV (As := [.int w]) (rest := []) ⟨hx, hb, hml, hown, hts⟩ (x_X6_holderOf_TS l D s.heap.size .null a t i q c d w hI (show 0 ≤ w.toInt ∧ w.toInt ≤ 29 from by omega)) (cwV 1 hts gm_X8_shellOf_TG_X6_holderOf_TS_62 rfl rfl rfl (by decide +kernel) ⟨Nat.le_of_ble_eq_true rfl, Nat.le_of_ble_eq_true rfl⟩) (yA_V hN (xZ_k hZ hS hA) (xkT_P1 hK) (xuT_P1 (sk := sk) hP) (ci := 6) (q0 := 0) rfl rfl) rfl rfl hl.1 rfl (lv_room (Nat.le_of_ble_eq_true rfl)) dX8_shellOf_5 ⟨Nat.le_of_ble_eq_true rfl, Nat.le_of_ble_eq_true rfl⟩) hS hA hP (fun r1 u1 H locs hw1 hP hS => ?_)
  have hw1 : ((r1.toInt = -9 ∧ (c 150 w.toNatClampNeg).toInt % 256 = 255) ∨ (0 ≤ r1.toInt ∧ r1.toInt ≤ 29 ∧ ¬ (c 150 w.toNatClampNeg).toInt % 256 = 255 ∧ r1.toInt = (c 150 w.toNatClampNeg).toInt / 8 % 32)) := hw1
  refine lv_istore_n (lv' := [(3, .int r1), (0, .ref (a 151)), (1, .int w), (2, .int b1)]) hx hb dX8_shellOf_8 rfl hl (by decide) rfl (fun ls hl => ?_)
  refine lv_iconst (v := 0) hx hb dX8_shellOf_9 (by decide) ?_
  refine lv_istore (lv' := [(4, .int 0), (3, .int r1), (0, .ref (a 151)), (1, .int w), (2, .int b1)]) hx hb dX8_shellOf_10 hl (by decide) rfl (fun ls hl => ?_)
  have lp2 : ∀ (fu : Nat) (y2_4 : Int32) (y2_3 : Int32), (0 ≤ y2_4.toInt ∧ y2_4.toInt ≤ 30) → (y2_3.toInt = -9 ∨ (0 ≤ y2_3.toInt ∧ y2_3.toInt ≤ 29)) → (30 - y2_4.toInt).toNat < fu → ∀ (H : Heap) (locs : List Loc) (ls : Array Slot), va_P D vwCl (xwT sk a t i q c d) H → va_S (ro s.heap.size) s.heap H locs → lv_has ls 5 [(4, .int y2_4), (3, .int y2_3), (0, .ref (a 151)), (1, .int w), (2, .int b1)] → W p l e (headSpec wm_X8_shellOf_TG ({ frames := 2, cells := 0, slots := 0, locals := 44 })).room s m ([.ref (a 151), .int w, .int b1] : List Value).toArray below meth cd H locs 0 0 (MQ below (va_Qi (fun (r : Int32) (_ : Unit) => (r.toInt = -9 ∨ (0 ≤ r.toInt ∧ r.toInt ≤ 29))) oA (ro s.heap.size)) ([.ref (a 151), .int w, .int b1] : List Value).toArray s 0 0 (ro s.heap.size)) (F0 m 12 ls []) := by
    intro fu
    induction fu with
    | zero => intro y2_4 y2_3 hy2_4 hy2_3 hm; exact absurd hm (Nat.not_lt_zero _)
    | succ fu ih =>
      intro y2_4 y2_3 hy2_4 hy2_3 hm H locs ls hP hS hl
      have ih2 := ih
      refine lv_iload hx hb dX8_shellOf_12 (lv_at hl 0 rfl) ?_
      refine lv_bipush (v := 30) hx hb dX8_shellOf_14 (by decide) ?_
      refine lv_icmp_ge (tgt := 62) hx hb dX8_shellOf_16 (by decide) (fun c3 => ?_) (fun c3 => ?_)
      · have f3 := (ti_le (a := 30) (b := y2_4.toInt) (by decide) rfl).mp c3
        refine lv_bipush (v := (-9)) hx hb dX8_shellOf_62 (by decide) ?_
        exact ro_iret hx hb hr hlocks hS dX8_shellOf_64 (show ((-9) : Int32).toInt = -9 ∨ (0 ≤ ((-9) : Int32).toInt ∧ ((-9) : Int32).toInt ≤ 29) from by have h9 : ((-9) : Int32).toInt = -9 := (by decide); omega)
      · have f3 := mt (ti_le (a := 30) (b := y2_4.toInt) (by decide) rfl).mpr c3
        refine lv_iload_n hx hb dX8_shellOf_19 rfl (lv_at hl 1 rfl) ?_
        refine lv_bipush (v := (-9)) hx hb dX8_shellOf_20 (by decide) ?_
        refine lv_icmp_eq (tgt := 62) hx hb dX8_shellOf_22 (by decide) (fun c4 => ?_) (fun c4 => ?_)
        · have f4 := (ti_eq (a := y2_3.toInt) (b := (-9)) rfl (by decide)).mp c4
          refine lv_bipush (v := (-9)) hx hb dX8_shellOf_62 (by decide) ?_
          exact ro_iret hx hb hr hlocks hS dX8_shellOf_64 (show ((-9) : Int32).toInt = -9 ∨ (0 ≤ ((-9) : Int32).toInt ∧ ((-9) : Int32).toInt ≤ 29) from by have h9 : ((-9) : Int32).toInt = -9 := (by decide); omega)
        · have f4 := mt (ti_eq (a := y2_3.toInt) (b := (-9)) rfl (by decide)).mpr c4
          refine lv_aload_n hx hb dX8_shellOf_25 rfl (lv_at hl 2 rfl) ?_
          refine xgT_TG_world hx hb hts (fun _ h => List.mem_cons_of_mem _ (List.mem_append_left _ (List.mem_append_left _ (List.mem_append_right _ h)))) hown hK hP (hts (.fieldLink RX8 18 "TalePlay$Sight" "world" "LTalePlay$World;") (by decide +kernel)) dX8_shellOf_26 ?_
          refine lv_iload_n hx hb dX8_shellOf_29 rfl (lv_at hl 1 rfl) ?_
          have rb111_i : 0 ≤ (i 111).toInt ∧ (i 111).toInt ≤ 30 := hI.1 111
          refine ro_calli (va_runV (As := [.int y2_3]) (rest := []) ⟨hx, hb, hml, hown, hts⟩ (x_X10_sortOf l D H.size .null a t i q c d y2_3 hI ) (cwV 1 hts gm_X8_shellOf_TG_X10_sortOf_34 rfl rfl rfl (by decide +kernel) ⟨Nat.le_of_ble_eq_true rfl, Nat.le_of_ble_eq_true rfl⟩) (yA_V hN (xZ_k hZ hS hA) (xkT_W hK) (xuT_W (sk := sk) hP) (ci := 10) (q0 := 0) rfl rfl) rfl rfl hl.1 rfl (lv_room (Nat.le_of_ble_eq_true rfl)) dX8_shellOf_30 ⟨Nat.le_of_ble_eq_true rfl, Nat.le_of_ble_eq_true rfl⟩) hS hA hP (fun r5 u5 H locs hw5 hP hS => ?_)
          have hw5 : ((r5.toInt = -9 ∧ ¬ (0 ≤ y2_3.toInt ∧ y2_3.toInt < (i 111).toInt)) ∨ (0 ≤ r5.toInt ∧ r5.toInt ≤ 5 ∧ 0 ≤ y2_3.toInt ∧ y2_3.toInt < (i 111).toInt)) := hw5
          refine lv_if_eq (tgt := 45) hx hb dX8_shellOf_33 (by decide) (fun c6 => ?_) (fun c6 => ?_)
          · have f6 := (ti_eq (a := r5.toInt) (b := 0) rfl (by decide)).mp c6
            refine lv_iload_n hx hb dX8_shellOf_45 rfl (lv_at hl 1 rfl) ?_
            exact ro_iret hx hb hr hlocks hS dX8_shellOf_46 (show y2_3.toInt = -9 ∨ (0 ≤ y2_3.toInt ∧ y2_3.toInt ≤ 29) from by omega)
          · have f6 := mt (ti_eq (a := r5.toInt) (b := 0) rfl (by decide)).mpr c6
            refine lv_aload_n hx hb dX8_shellOf_36 rfl (lv_at hl 2 rfl) ?_
            refine lv_iload_n hx hb dX8_shellOf_37 rfl (lv_at hl 1 rfl) ?_
            refine lv_iload_n hx hb dX8_shellOf_38 rfl (lv_at hl 4 rfl) ?_
            refine ro_calli (va_runV (As := [.int y2_3, .int b1]) (rest := []) ⟨hx, hb, hml, hown, hts⟩ (x_X8_isCover_TG l D H.size sk a t i q c d y2_3 b1 hI ) (cwV 2 hts gm_X8_shellOf_TG_X8_isCover_TG_65 rfl rfl rfl (by decide +kernel) ⟨Nat.le_of_ble_eq_true rfl, Nat.le_of_ble_eq_true rfl⟩) (yA_V hN (xZ_k hZ hS hA) hK hP (ci := 8) (q0 := 39) rfl rfl) rfl rfl hl.1 rfl (lv_room (Nat.le_of_ble_eq_true rfl)) dX8_shellOf_39 ⟨Nat.le_of_ble_eq_true rfl, Nat.le_of_ble_eq_true rfl⟩) hS hA hP (fun r7 u7 H locs hw7 hP hS => ?_)
            have hw7 : (0 ≤ r7.toInt ∧ r7.toInt ≤ 1) := hw7
            refine lv_if_eq (tgt := 47) hx hb dX8_shellOf_42 (by decide) (fun c8 => ?_) (fun c8 => ?_)
            · have f8 := (ti_eq (a := r7.toInt) (b := 0) rfl (by decide)).mp c8
              refine lv_aload_n hx hb dX8_shellOf_47 rfl (lv_at hl 2 rfl) ?_
              refine xgT_TG_scene hx hb hts (fun _ h => List.mem_cons_of_mem _ (List.mem_append_left _ (List.mem_append_left _ (List.mem_append_right _ h)))) hown hK hP (hts (.fieldLink RX8 26 "TalePlay$Sight" "scene" "LTalePlay$Scene;") (by decide +kernel)) dX8_shellOf_48 ?_
              refine lv_iload_n hx hb dX8_shellOf_51 rfl (lv_at hl 1 rfl) ?_
              refine ro_calli (va_runV (As := [.int y2_3]) (rest := []) ⟨hx, hb, hml, hown, hts⟩ (x_X6_holderOf_TS l D H.size .null a t i q c d y2_3 hI (show 0 ≤ y2_3.toInt ∧ y2_3.toInt ≤ 29 from by omega)) (cwV 1 hts gm_X8_shellOf_TG_X6_holderOf_TS_62 rfl rfl rfl (by decide +kernel) ⟨Nat.le_of_ble_eq_true rfl, Nat.le_of_ble_eq_true rfl⟩) (yA_V hN (xZ_k hZ hS hA) (xkT_P1 hK) (xuT_P1 (sk := sk) hP) (ci := 6) (q0 := 0) rfl rfl) rfl rfl hl.1 rfl (lv_room (Nat.le_of_ble_eq_true rfl)) dX8_shellOf_52 ⟨Nat.le_of_ble_eq_true rfl, Nat.le_of_ble_eq_true rfl⟩) hS hA hP (fun r9 u9 H locs hw9 hP hS => ?_)
              have hw9 : ((r9.toInt = -9 ∧ (c 150 y2_3.toNatClampNeg).toInt % 256 = 255) ∨ (0 ≤ r9.toInt ∧ r9.toInt ≤ 29 ∧ ¬ (c 150 y2_3.toNatClampNeg).toInt % 256 = 255 ∧ r9.toInt = (c 150 y2_3.toNatClampNeg).toInt / 8 % 32)) := hw9
              refine lv_istore_n (lv' := [(3, .int r9), (4, .int y2_4), (0, .ref (a 151)), (1, .int w), (2, .int b1)]) hx hb dX8_shellOf_55 rfl hl (by decide) rfl (fun ls hl => ?_)
              obtain ⟨x10, ex10⟩ : ∃ y : Int32, y = y2_4 + 1 := ⟨_, rfl⟩
              have tx10 := ti_add (a := y2_4.toInt) (b := 1) ex10 rfl (by decide) (by omega) (by omega)
              refine lv_iinc (v := x10) (lv' := [(4, .int x10), (3, .int r9), (0, .ref (a 151)), (1, .int w), (2, .int b1)]) hx hb dX8_shellOf_56 hl (k := 1) rfl (by rw [ex10]; rfl) (by decide) rfl (fun ls hl => ?_)
              refine lv_goto (tgt := 12) hx hb dX8_shellOf_59 (by decide) ?_
              exact ih2 x10 r9 (show 0 ≤ x10.toInt ∧ x10.toInt ≤ 30 from by have h50 : x10.toInt = (y2_4.toInt + 1) := tx10; omega) (show r9.toInt = -9 ∨ (0 ≤ r9.toInt ∧ r9.toInt ≤ 29) from by have h50 : x10.toInt = (y2_4.toInt + 1) := tx10; omega) (by have h50 : x10.toInt = (y2_4.toInt + 1) := tx10; omega) _ _ _ hP hS (lv_sub hl [0, 1, 2, 3, 4] rfl)
            · have f8 := mt (ti_eq (a := r7.toInt) (b := 0) rfl (by decide)).mpr c8
              refine lv_iload_n hx hb dX8_shellOf_45 rfl (lv_at hl 1 rfl) ?_
              exact ro_iret hx hb hr hlocks hS dX8_shellOf_46 (show y2_3.toInt = -9 ∨ (0 ≤ y2_3.toInt ∧ y2_3.toInt ≤ 29) from by omega)
  exact lp2 _ (0 : Int32) r1 (show 0 ≤ (0 : Int32).toInt ∧ (0 : Int32).toInt ≤ 30 from by have h50 : (0 : Int32).toInt = 0 := (by decide); omega) (show r1.toInt = -9 ∨ (0 ≤ r1.toInt ∧ r1.toInt ≤ 29) from by have h50 : (0 : Int32).toInt = 0 := (by decide); omega) (Nat.lt_succ_self _) _ _ _ hP hS (lv_sub hl [0, 1, 2, 3, 4] rfl)

def wm_X8_isInView_TG : List Cond := .code yX8_isInView cX8_isInView 6 (some .boolean) :: (([.fieldLink RX8 18 "TalePlay$Sight" "world" "LTalePlay$World;", .methodLink RX8 34 yX10_sortOf, .instanceMethod yX10_sortOf, .selects RX10 yX10_sortOf yX10_sortOf, .initialized RX10, .code yX10_sortOf cX10_sortOf 2 (some .int), .fieldLink RX10 37 "TalePlay$World" "objects" "I", .fieldLink RX10 15 "TalePlay$World" "sorts" "[I", .fieldLink RX10 21 "TalePlay$World" "kindOf" "[I", .fieldLink RX8 26 "TalePlay$Sight" "scene" "LTalePlay$Scene;", .methodLink RX8 62 yX6_holderOf, .instanceMethod yX6_holderOf, .selects RX6 yX6_holderOf yX6_holderOf, .initialized RX6, .code yX6_holderOf cX6_holderOf 3 (some .int), .fieldLink RX6 9 "TalePlay$Scene" "cells" "[I", .methodLink RX8 65 yX8_isCover, .instanceMethod yX8_isCover, .selects RX8 yX8_isCover yX8_isCover, .initialized RX8, .code yX8_isCover cX8_isCover 3 (some .boolean), .methodLink RX8 40 yX6_has, .instanceMethod yX6_has, .selects RX6 yX6_has yX6_has, .code yX6_has cX6_has 3 (some .boolean), .fieldLink RX8 22 "TalePlay$Sight" "roads" "LTalePlay$Roads;", .methodLink RX8 69 yX5_isSide, .instanceMethod yX5_isSide, .selects RX5 yX5_isSide yX5_isSide, .initialized RX5, .code yX5_isSide cX5_isSide 3 (some .boolean), .fieldLink RX5 24 "TalePlay$Roads" "firstSides" "[I", .fieldLink RX5 27 "TalePlay$Roads" "secondSides" "[I"] : List Cond) ++ wsX80 ++ wsX100 ++ wsX60 ++ wsX50)
set_option maxRecDepth 20000 in
theorem gm_X8_isInView_TG_X10_sortOf_34 : GoodIn wm_X8_isInView_TG (wsV RX8 34 RX10 yX10_sortOf wm_X10_sortOf) := goodIn_app (goodIn_of _ (by decide +kernel)) (goodIn_r _ [6, 7, 8, 9, 40, 41, 42, 43, 44, 45, 46] rfl (by decide +kernel))
set_option maxRecDepth 20000 in
theorem gm_X8_isInView_TG_X6_holderOf_TS_62 : GoodIn wm_X8_isInView_TG (wsV RX8 62 RX6 yX6_holderOf wm_X6_holderOf_TS) := goodIn_app (goodIn_of _ (by decide +kernel)) (goodIn_r _ [15, 16, 47, 48] rfl (by decide +kernel))
set_option maxRecDepth 20000 in
theorem gm_X8_isInView_TG_X8_isCover_TG_65 : GoodIn wm_X8_isInView_TG (wsV RX8 65 RX8 yX8_isCover wm_X8_isCover_TG) := goodIn_app (goodIn_of _ (by decide +kernel)) (goodIn_r _ [21, 1, 2, 3, 4, 5, 6, 7, 8, 9, 10, 22, 23, 24, 14, 25, 16, 34, 35, 36, 37, 38, 39, 40, 41, 42, 43, 44, 45, 46, 47, 48] rfl (by decide +kernel))
set_option maxRecDepth 20000 in
theorem gm_X8_isInView_TG_X5_isSide_69 : GoodIn wm_X8_isInView_TG (wsV RX8 69 RX5 yX5_isSide wm_X5_isSide) := goodIn_app (goodIn_of _ (by decide +kernel)) (goodIn_r _ [31, 32, 33, 49, 50, 51, 52, 53, 54, 55, 56, 57, 58, 59] rfl (by decide +kernel))
set_option maxHeartbeats 4000000 in
set_option maxRecDepth 100000 in
theorem x_X8_isInView_TG (l : Launch) (D : va_G) (sz : Nat) (sk : Value) (a : Nat → Nat) (t : Nat → ClassId) (i : Nat → Int32) (q : Int64) (c : Nat → Nat → Int32) (d : Nat → Nat → Int64) (w : Int32) (s1 : Int32) (b1 : Int32) (hI : xInv i c) (hw : 0 ≤ w.toInt ∧ w.toInt ≤ 29) : Met l yX8_isInView wm_X8_isInView_TG ({ frames := 2, cells := 0, slots := 0, locals := 44 }) (va_Pc [.ref (a 151), .int w, .int s1, .int b1] (yA (a 186) D sz (xwT sk a t i q c d) (xtT t))) (va_Qi (fun (r : Int32) (_ : Unit) => (0 ≤ r.toInt ∧ r.toInt ≤ 1)) oA (ro sz)) 0 0 (ro sz) := by
  refine Met.ofW (cc := cX8_isInView) (maxL := 6) (ret := (some .boolean)) (by decide) rfl ?_
  intro p e s m args below meth cd s₁ B hml hv
  obtain ⟨rfl, ⟨hsz, hP, hK⟩, hN, hZ⟩ := hv
  have hx := B.exec
  have hb := B.bytes
  have hr := B.returns
  have hts := atoms_spec (ws := wm_X8_isInView_TG) B.pre
  have hown : s.vm.findClass RX8 = some m.cls := findClass_of_methodNamed B.named
  have hlocks := B.notSynchronized
  subst hsz
  have hA : ∀ q : Nat, s.heap.size ≤ q → ro s.heap.size q := fun _ h => h
  have hS : va_S (ro s.heap.size) s.heap s.heap [] := va_S.rf
  have hl := lv_entry ([.ref (a 151), .int w, .int s1, .int b1]) (n := 6) (Nat.le_of_ble_eq_true rfl)
  rw [lg_entry_eq]
  generalize (lg_sl ([.ref (a 151), .int w, .int s1, .int b1]) ++ List.replicate (6 - (lg_sl ([.ref (a 151), .int w, .int s1, .int b1])).length) Slot.unset).toArray = ls at hl ⊢
  have hl : lv_has ls 6 [(0, .ref (a 151)), (1, .int w), (2, .int s1), (3, .int b1)] := hl
  refine lv_iload_n hx hb dX8_isInView_0 rfl (lv_at hl 1 rfl) ?_
  refine lv_iload_n hx hb dX8_isInView_1 rfl (lv_at hl 2 rfl) ?_
  refine lv_icmp_ne (tgt := 23) hx hb dX8_isInView_2 (by decide) (fun c1 => ?_) (fun c1 => ?_)
  · have f1 := mt (ti_eq (a := w.toInt) (b := s1.toInt) rfl rfl).mpr c1
    refine lv_aload_n hx hb dX8_isInView_23 rfl (lv_at hl 0 rfl) ?_
    refine xgT_TG_world hx hb hts (fun _ h => List.mem_cons_of_mem _ (List.mem_append_left _ (List.mem_append_left _ (List.mem_append_left _ (List.mem_append_right _ h))))) hown hK hP (hts (.fieldLink RX8 18 "TalePlay$Sight" "world" "LTalePlay$World;") (by decide +kernel)) dX8_isInView_24 ?_
    refine lv_iload_n hx hb dX8_isInView_27 rfl (lv_at hl 1 rfl) ?_
    have rb111_i : 0 ≤ (i 111).toInt ∧ (i 111).toInt ≤ 30 := hI.1 111
    refine ro_calli (va_runV (As := [.int w]) (rest := []) ⟨hx, hb, hml, hown, hts⟩ (x_X10_sortOf l D s.heap.size .null a t i q c d w hI ) (cwV 1 hts gm_X8_isInView_TG_X10_sortOf_34 rfl rfl rfl (by decide +kernel) ⟨Nat.le_of_ble_eq_true rfl, Nat.le_of_ble_eq_true rfl⟩) (yA_V hN (xZ_k hZ hS hA) (xkT_W hK) (xuT_W (sk := sk) hP) (ci := 10) (q0 := 0) rfl rfl) rfl rfl hl.1 rfl (lv_room (Nat.le_of_ble_eq_true rfl)) dX8_isInView_28 ⟨Nat.le_of_ble_eq_true rfl, Nat.le_of_ble_eq_true rfl⟩) hS hA hP (fun r2 u2 H locs hw2 hP hS => ?_)
    have hw2 : ((r2.toInt = -9 ∧ ¬ (0 ≤ w.toInt ∧ w.toInt < (i 111).toInt)) ∨ (0 ≤ r2.toInt ∧ r2.toInt ≤ 5 ∧ 0 ≤ w.toInt ∧ w.toInt < (i 111).toInt)) := hw2
    refine lv_iconst (v := 2) hx hb dX8_isInView_31 (by decide) ?_
    refine lv_icmp_ne (tgt := 45) hx hb dX8_isInView_32 (by decide) (fun c3 => ?_) (fun c3 => ?_)
    · have f3 := mt (ti_eq (a := r2.toInt) (b := 2) rfl (by decide)).mpr c3
      refine lv_aload_n hx hb dX8_isInView_45 rfl (lv_at hl 0 rfl) ?_
      refine xgT_TG_scene hx hb hts (fun _ h => List.mem_cons_of_mem _ (List.mem_append_left _ (List.mem_append_left _ (List.mem_append_left _ (List.mem_append_right _ h))))) hown hK hP (hts (.fieldLink RX8 26 "TalePlay$Sight" "scene" "LTalePlay$Scene;") (by decide +kernel)) dX8_isInView_46 ?_
      refine lv_iload_n hx hb dX8_isInView_49 rfl (lv_at hl 1 rfl) ?_
      refine ro_calli (va_runV (As := [.int w]) (rest := []) ⟨hx, hb, hml, hown, hts⟩ (x_X6_holderOf_TS l D H.size .null a t i q c d w hI (show 0 ≤ w.toInt ∧ w.toInt ≤ 29 from by omega)) (cwV 1 hts gm_X8_isInView_TG_X6_holderOf_TS_62 rfl rfl rfl (by decide +kernel) ⟨Nat.le_of_ble_eq_true rfl, Nat.le_of_ble_eq_true rfl⟩) (yA_V hN (xZ_k hZ hS hA) (xkT_P1 hK) (xuT_P1 (sk := sk) hP) (ci := 6) (q0 := 0) rfl rfl) rfl rfl hl.1 rfl (lv_room (Nat.le_of_ble_eq_true rfl)) dX8_isInView_50 ⟨Nat.le_of_ble_eq_true rfl, Nat.le_of_ble_eq_true rfl⟩) hS hA hP (fun r4 u4 H locs hw4 hP hS => ?_)
      have hw4 : ((r4.toInt = -9 ∧ (c 150 w.toNatClampNeg).toInt % 256 = 255) ∨ (0 ≤ r4.toInt ∧ r4.toInt ≤ 29 ∧ ¬ (c 150 w.toNatClampNeg).toInt % 256 = 255 ∧ r4.toInt = (c 150 w.toNatClampNeg).toInt / 8 % 32)) := hw4
      refine lv_istore (lv' := [(4, .int r4), (0, .ref (a 151)), (1, .int w), (2, .int s1), (3, .int b1)]) hx hb dX8_isInView_53 hl (by decide) rfl (fun ls hl => ?_)
      refine lv_iconst (v := 0) hx hb dX8_isInView_55 (by decide) ?_
      refine lv_istore (lv' := [(5, .int 0), (4, .int r4), (0, .ref (a 151)), (1, .int w), (2, .int s1), (3, .int b1)]) hx hb dX8_isInView_56 hl (by decide) rfl (fun ls hl => ?_)
      have lp5 : ∀ (fu : Nat) (y5_5 : Int32) (y5_4 : Int32), (0 ≤ y5_5.toInt ∧ y5_5.toInt ≤ 30) → (y5_4.toInt = -9 ∨ (0 ≤ y5_4.toInt ∧ y5_4.toInt ≤ 29)) → (30 - y5_5.toInt).toNat < fu → ∀ (H : Heap) (locs : List Loc) (ls : Array Slot), va_P D vwCl (xwT sk a t i q c d) H → va_S (ro s.heap.size) s.heap H locs → lv_has ls 6 [(5, .int y5_5), (4, .int y5_4), (0, .ref (a 151)), (1, .int w), (2, .int s1), (3, .int b1)] → W p l e (headSpec wm_X8_isInView_TG ({ frames := 2, cells := 0, slots := 0, locals := 44 })).room s m ([.ref (a 151), .int w, .int s1, .int b1] : List Value).toArray below meth cd H locs 0 0 (MQ below (va_Qi (fun (r : Int32) (_ : Unit) => (0 ≤ r.toInt ∧ r.toInt ≤ 1)) oA (ro s.heap.size)) ([.ref (a 151), .int w, .int s1, .int b1] : List Value).toArray s 0 0 (ro s.heap.size)) (F0 m 58 ls []) := by
        intro fu
        induction fu with
        | zero => intro y5_5 y5_4 hy5_5 hy5_4 hm; exact absurd hm (Nat.not_lt_zero _)
        | succ fu ih =>
          intro y5_5 y5_4 hy5_5 hy5_4 hm H locs ls hP hS hl
          have ih5 := ih
          refine lv_iload hx hb dX8_isInView_58 (lv_at hl 0 rfl) ?_
          refine lv_bipush (v := 30) hx hb dX8_isInView_60 (by decide) ?_
          refine lv_icmp_ge (tgt := 109) hx hb dX8_isInView_62 (by decide) (fun c6 => ?_) (fun c6 => ?_)
          · have f6 := (ti_le (a := 30) (b := y5_5.toInt) (by decide) rfl).mp c6
            refine lv_iconst (v := 0) hx hb dX8_isInView_109 (by decide) ?_
            exact ro_zret hx hb hr hlocks hS rfl dX8_isInView_110 (show 0 ≤ (0 : Int32).toInt ∧ (0 : Int32).toInt ≤ 1 from by have h9 : (0 : Int32).toInt = 0 := (by decide); omega)
          · have f6 := mt (ti_le (a := 30) (b := y5_5.toInt) (by decide) rfl).mpr c6
            refine lv_iload hx hb dX8_isInView_65 (lv_at hl 1 rfl) ?_
            refine lv_bipush (v := (-9)) hx hb dX8_isInView_67 (by decide) ?_
            refine lv_icmp_eq (tgt := 109) hx hb dX8_isInView_69 (by decide) (fun c7 => ?_) (fun c7 => ?_)
            · have f7 := (ti_eq (a := y5_4.toInt) (b := (-9)) rfl (by decide)).mp c7
              refine lv_iconst (v := 0) hx hb dX8_isInView_109 (by decide) ?_
              exact ro_zret hx hb hr hlocks hS rfl dX8_isInView_110 (show 0 ≤ (0 : Int32).toInt ∧ (0 : Int32).toInt ≤ 1 from by have h9 : (0 : Int32).toInt = 0 := (by decide); omega)
            · have f7 := mt (ti_eq (a := y5_4.toInt) (b := (-9)) rfl (by decide)).mpr c7
              refine lv_iload hx hb dX8_isInView_72 (lv_at hl 1 rfl) ?_
              refine lv_iload_n hx hb dX8_isInView_74 rfl (lv_at hl 4 rfl) ?_
              refine lv_icmp_ne (tgt := 80) hx hb dX8_isInView_75 (by decide) (fun c8 => ?_) (fun c8 => ?_)
              · have f8 := mt (ti_eq (a := y5_4.toInt) (b := s1.toInt) rfl rfl).mpr c8
                refine lv_aload_n hx hb dX8_isInView_80 rfl (lv_at hl 2 rfl) ?_
                refine lv_iload hx hb dX8_isInView_81 (lv_at hl 1 rfl) ?_
                refine lv_iload_n hx hb dX8_isInView_83 rfl (lv_at hl 5 rfl) ?_
                refine ro_calli (va_runV (As := [.int y5_4, .int b1]) (rest := []) ⟨hx, hb, hml, hown, hts⟩ (x_X8_isCover_TG l D H.size sk a t i q c d y5_4 b1 hI ) (cwV 2 hts gm_X8_isInView_TG_X8_isCover_TG_65 rfl rfl rfl (by decide +kernel) ⟨Nat.le_of_ble_eq_true rfl, Nat.le_of_ble_eq_true rfl⟩) (yA_V hN (xZ_k hZ hS hA) hK hP (ci := 8) (q0 := 39) rfl rfl) rfl rfl hl.1 rfl (lv_room (Nat.le_of_ble_eq_true rfl)) dX8_isInView_84 ⟨Nat.le_of_ble_eq_true rfl, Nat.le_of_ble_eq_true rfl⟩) hS hA hP (fun r9 u9 H locs hw9 hP hS => ?_)
                have hw9 : (0 ≤ r9.toInt ∧ r9.toInt ≤ 1) := hw9
                refine lv_if_eq (tgt := 92) hx hb dX8_isInView_87 (by decide) (fun c10 => ?_) (fun c10 => ?_)
                · have f10 := (ti_eq (a := r9.toInt) (b := 0) rfl (by decide)).mp c10
                  refine lv_aload_n hx hb dX8_isInView_92 rfl (lv_at hl 2 rfl) ?_
                  refine xgT_TG_scene hx hb hts (fun _ h => List.mem_cons_of_mem _ (List.mem_append_left _ (List.mem_append_left _ (List.mem_append_left _ (List.mem_append_right _ h))))) hown hK hP (hts (.fieldLink RX8 26 "TalePlay$Sight" "scene" "LTalePlay$Scene;") (by decide +kernel)) dX8_isInView_93 ?_
                  refine lv_iload hx hb dX8_isInView_96 (lv_at hl 1 rfl) ?_
                  refine ro_calli (va_runV (As := [.int y5_4]) (rest := []) ⟨hx, hb, hml, hown, hts⟩ (x_X6_holderOf_TS l D H.size .null a t i q c d y5_4 hI (show 0 ≤ y5_4.toInt ∧ y5_4.toInt ≤ 29 from by omega)) (cwV 1 hts gm_X8_isInView_TG_X6_holderOf_TS_62 rfl rfl rfl (by decide +kernel) ⟨Nat.le_of_ble_eq_true rfl, Nat.le_of_ble_eq_true rfl⟩) (yA_V hN (xZ_k hZ hS hA) (xkT_P1 hK) (xuT_P1 (sk := sk) hP) (ci := 6) (q0 := 0) rfl rfl) rfl rfl hl.1 rfl (lv_room (Nat.le_of_ble_eq_true rfl)) dX8_isInView_98 ⟨Nat.le_of_ble_eq_true rfl, Nat.le_of_ble_eq_true rfl⟩) hS hA hP (fun r11 u11 H locs hw11 hP hS => ?_)
                  have hw11 : ((r11.toInt = -9 ∧ (c 150 y5_4.toNatClampNeg).toInt % 256 = 255) ∨ (0 ≤ r11.toInt ∧ r11.toInt ≤ 29 ∧ ¬ (c 150 y5_4.toNatClampNeg).toInt % 256 = 255 ∧ r11.toInt = (c 150 y5_4.toNatClampNeg).toInt / 8 % 32)) := hw11
                  refine lv_istore (lv' := [(4, .int r11), (5, .int y5_5), (0, .ref (a 151)), (1, .int w), (2, .int s1), (3, .int b1)]) hx hb dX8_isInView_101 hl (by decide) rfl (fun ls hl => ?_)
                  obtain ⟨x12, ex12⟩ : ∃ y : Int32, y = y5_5 + 1 := ⟨_, rfl⟩
                  have tx12 := ti_add (a := y5_5.toInt) (b := 1) ex12 rfl (by decide) (by omega) (by omega)
                  refine lv_iinc (v := x12) (lv' := [(5, .int x12), (4, .int r11), (0, .ref (a 151)), (1, .int w), (2, .int s1), (3, .int b1)]) hx hb dX8_isInView_103 hl (k := 1) rfl (by rw [ex12]; rfl) (by decide) rfl (fun ls hl => ?_)
                  refine lv_goto (tgt := 58) hx hb dX8_isInView_106 (by decide) ?_
                  exact ih5 x12 r11 (show 0 ≤ x12.toInt ∧ x12.toInt ≤ 30 from by have h50 : x12.toInt = (y5_5.toInt + 1) := tx12; omega) (show r11.toInt = -9 ∨ (0 ≤ r11.toInt ∧ r11.toInt ≤ 29) from by have h50 : x12.toInt = (y5_5.toInt + 1) := tx12; omega) (by have h50 : x12.toInt = (y5_5.toInt + 1) := tx12; omega) _ _ _ hP hS (lv_sub hl [0, 1, 2, 3, 4, 5] rfl)
                · have f10 := mt (ti_eq (a := r9.toInt) (b := 0) rfl (by decide)).mpr c10
                  refine lv_iconst (v := 0) hx hb dX8_isInView_90 (by decide) ?_
                  exact ro_zret hx hb hr hlocks hS rfl dX8_isInView_91 (show 0 ≤ (0 : Int32).toInt ∧ (0 : Int32).toInt ≤ 1 from by have h9 : (0 : Int32).toInt = 0 := (by decide); omega)
              · have f8 := (ti_eq (a := y5_4.toInt) (b := s1.toInt) rfl rfl).mp c8
                refine lv_iconst (v := 1) hx hb dX8_isInView_78 (by decide) ?_
                exact ro_zret hx hb hr hlocks hS rfl dX8_isInView_79 (show 0 ≤ (1 : Int32).toInt ∧ (1 : Int32).toInt ≤ 1 from by have h9 : (1 : Int32).toInt = 1 := (by decide); omega)
      exact lp5 _ (0 : Int32) r4 (show 0 ≤ (0 : Int32).toInt ∧ (0 : Int32).toInt ≤ 30 from by have h50 : (0 : Int32).toInt = 0 := (by decide); omega) (show r4.toInt = -9 ∨ (0 ≤ r4.toInt ∧ r4.toInt ≤ 29) from by have h50 : (0 : Int32).toInt = 0 := (by decide); omega) (Nat.lt_succ_self _) _ _ _ hP hS (lv_sub hl [0, 1, 2, 3, 4, 5] rfl)
    · have f3 := (ti_eq (a := r2.toInt) (b := 2) rfl (by decide)).mp c3
      refine lv_aload_n hx hb dX8_isInView_35 rfl (lv_at hl 0 rfl) ?_
      refine xgT_TG_roads hx hb hts (fun _ h => List.mem_cons_of_mem _ (List.mem_append_left _ (List.mem_append_left _ (List.mem_append_left _ (List.mem_append_right _ h))))) hown hK hP (hts (.fieldLink RX8 22 "TalePlay$Sight" "roads" "LTalePlay$Roads;") (by decide +kernel)) dX8_isInView_36 ?_
      refine lv_iload_n hx hb dX8_isInView_39 rfl (lv_at hl 2 rfl) ?_
      refine lv_iload_n hx hb dX8_isInView_40 rfl (lv_at hl 1 rfl) ?_
      refine ro_calli (va_runV (As := [.int s1, .int w]) (rest := []) ⟨hx, hb, hml, hown, hts⟩ (x_X5_isSide l D H.size .null a t i q c d s1 w hI (show 0 ≤ w.toInt ∧ w.toInt ≤ 29 from by omega)) (cwV 2 hts gm_X8_isInView_TG_X5_isSide_69 rfl rfl rfl (by decide +kernel) ⟨Nat.le_of_ble_eq_true rfl, Nat.le_of_ble_eq_true rfl⟩) (yA_V hN (xZ_k hZ hS hA) (xkT_B hK) (xuT_B (sk := sk) hP) (ci := 5) (q0 := 19) rfl rfl) rfl rfl hl.1 rfl (lv_room (Nat.le_of_ble_eq_true rfl)) dX8_isInView_41 ⟨Nat.le_of_ble_eq_true rfl, Nat.le_of_ble_eq_true rfl⟩) hS hA hP (fun r13 u13 H locs hw13 hP hS => ?_)
      have hw13 : (0 ≤ r13.toInt ∧ r13.toInt ≤ 1) := hw13
      exact ro_zret hx hb hr hlocks hS (nb_n (show 0 ≤ r13.toInt ∧ r13.toInt ≤ 1 from by omega)) dX8_isInView_44 (show 0 ≤ r13.toInt ∧ r13.toInt ≤ 1 from by omega)
  · have f1 := (ti_eq (a := w.toInt) (b := s1.toInt) rfl rfl).mp c1
    refine lv_aload_n hx hb dX8_isInView_5 rfl (lv_at hl 0 rfl) ?_
    refine xgT_TG_world hx hb hts (fun _ h => List.mem_cons_of_mem _ (List.mem_append_left _ (List.mem_append_left _ (List.mem_append_left _ (List.mem_append_right _ h))))) hown hK hP (hts (.fieldLink RX8 18 "TalePlay$Sight" "world" "LTalePlay$World;") (by decide +kernel)) dX8_isInView_6 ?_
    refine lv_iload_n hx hb dX8_isInView_9 rfl (lv_at hl 2 rfl) ?_
    have rb111_i : 0 ≤ (i 111).toInt ∧ (i 111).toInt ≤ 30 := hI.1 111
    refine ro_calli (va_runV (As := [.int s1]) (rest := []) ⟨hx, hb, hml, hown, hts⟩ (x_X10_sortOf l D s.heap.size .null a t i q c d s1 hI ) (cwV 1 hts gm_X8_isInView_TG_X10_sortOf_34 rfl rfl rfl (by decide +kernel) ⟨Nat.le_of_ble_eq_true rfl, Nat.le_of_ble_eq_true rfl⟩) (yA_V hN (xZ_k hZ hS hA) (xkT_W hK) (xuT_W (sk := sk) hP) (ci := 10) (q0 := 0) rfl rfl) rfl rfl hl.1 rfl (lv_room (Nat.le_of_ble_eq_true rfl)) dX8_isInView_10 ⟨Nat.le_of_ble_eq_true rfl, Nat.le_of_ble_eq_true rfl⟩) hS hA hP (fun r14 u14 H locs hw14 hP hS => ?_)
    have hw14 : ((r14.toInt = -9 ∧ ¬ (0 ≤ s1.toInt ∧ s1.toInt < (i 111).toInt)) ∨ (0 ≤ r14.toInt ∧ r14.toInt ≤ 5 ∧ 0 ≤ s1.toInt ∧ s1.toInt < (i 111).toInt)) := hw14
    refine lv_iconst (v := 3) hx hb dX8_isInView_13 (by decide) ?_
    refine lv_icmp_ne (tgt := 21) hx hb dX8_isInView_14 (by decide) (fun c15 => ?_) (fun c15 => ?_)
    · have f15 := mt (ti_eq (a := r14.toInt) (b := 3) rfl (by decide)).mpr c15
      refine lv_iconst (v := 0) hx hb dX8_isInView_21 (by decide) ?_
      exact ro_zret hx hb hr hlocks hS rfl dX8_isInView_22 (show 0 ≤ (0 : Int32).toInt ∧ (0 : Int32).toInt ≤ 1 from by have h9 : (0 : Int32).toInt = 0 := (by decide); omega)
    · have f15 := (ti_eq (a := r14.toInt) (b := 3) rfl (by decide)).mp c15
      refine lv_iconst (v := 1) hx hb dX8_isInView_17 (by decide) ?_
      refine lv_goto (tgt := 22) hx hb dX8_isInView_18 (by decide) ?_
      exact ro_zret hx hb hr hlocks hS rfl dX8_isInView_22 (show 0 ≤ (1 : Int32).toInt ∧ (1 : Int32).toInt ≤ 1 from by have h9 : (1 : Int32).toInt = 1 := (by decide); omega)

def wm_X8_look_TG : List Cond := .code yX8_look cX8_look 6 none :: (([.methodLink RX8 30 yX8_shellOf, .instanceMethod yX8_shellOf, .selects RX8 yX8_shellOf yX8_shellOf, .initialized RX8, .code yX8_shellOf cX8_shellOf 5 (some .int), .fieldLink RX8 26 "TalePlay$Sight" "scene" "LTalePlay$Scene;", .methodLink RX8 62 yX6_holderOf, .instanceMethod yX6_holderOf, .selects RX6 yX6_holderOf yX6_holderOf, .initialized RX6, .code yX6_holderOf cX6_holderOf 3 (some .int), .fieldLink RX6 9 "TalePlay$Scene" "cells" "[I", .fieldLink RX8 18 "TalePlay$Sight" "world" "LTalePlay$World;", .methodLink RX8 34 yX10_sortOf, .instanceMethod yX10_sortOf, .selects RX10 yX10_sortOf yX10_sortOf, .initialized RX10, .code yX10_sortOf cX10_sortOf 2 (some .int), .fieldLink RX10 37 "TalePlay$World" "objects" "I", .fieldLink RX10 15 "TalePlay$World" "sorts" "[I", .fieldLink RX10 21 "TalePlay$World" "kindOf" "[I", .methodLink RX8 65 yX8_isCover, .instanceMethod yX8_isCover, .selects RX8 yX8_isCover yX8_isCover, .code yX8_isCover cX8_isCover 3 (some .boolean), .methodLink RX8 40 yX6_has, .instanceMethod yX6_has, .selects RX6 yX6_has yX6_has, .code yX6_has cX6_has 3 (some .boolean), .fieldLink RX8 46 "TalePlay$Sight" "bright" "Z", .fieldLink RX8 50 "TalePlay$World" "objects" "I", .methodLink RX8 58 yX6_lies, .instanceMethod yX6_lies, .selects RX6 yX6_lies yX6_lies, .code yX6_lies cX6_lies 4 (some .boolean), .fieldLink RX8 9 "TalePlay$Sight" "seen" "[Z", .fieldLink RX8 15 "TalePlay$Sight" "reached" "[Z", .methodLink RX8 54 yX8_isInView, .instanceMethod yX8_isInView, .selects RX8 yX8_isInView yX8_isInView, .code yX8_isInView cX8_isInView 6 (some .boolean), .fieldLink RX8 22 "TalePlay$Sight" "roads" "LTalePlay$Roads;", .methodLink RX8 69 yX5_isSide, .instanceMethod yX5_isSide, .selects RX5 yX5_isSide yX5_isSide, .initialized RX5, .code yX5_isSide cX5_isSide 3 (some .boolean), .fieldLink RX5 24 "TalePlay$Roads" "firstSides" "[I", .fieldLink RX5 27 "TalePlay$Roads" "secondSides" "[I"] : List Cond) ++ wsX80 ++ wsX60 ++ wsX100 ++ wsX50)
set_option maxRecDepth 20000 in
theorem gm_X8_look_TG_X8_shellOf_TG_30 : GoodIn wm_X8_look_TG (wsV RX8 30 RX8 yX8_shellOf wm_X8_shellOf_TG) := goodIn_app (goodIn_of _ (by decide +kernel)) (goodIn_r _ [5, 6, 7, 8, 9, 10, 11, 12, 13, 14, 15, 16, 17, 18, 19, 20, 21, 22, 23, 24, 4, 25, 26, 27, 28, 29, 50, 51, 52, 53, 54, 55, 56, 57, 58, 59, 60, 61, 62, 63, 64] rfl (by decide +kernel))
set_option maxRecDepth 20000 in
theorem gm_X8_look_TG_X10_sortOf_34 : GoodIn wm_X8_look_TG (wsV RX8 34 RX10 yX10_sortOf wm_X10_sortOf) := goodIn_app (goodIn_of _ (by decide +kernel)) (goodIn_r _ [18, 19, 20, 21, 58, 59, 60, 61, 62, 63, 64] rfl (by decide +kernel))
set_option maxRecDepth 20000 in
theorem gm_X8_look_TG_X6_lies_TS_58 : GoodIn wm_X8_look_TG (wsV RX8 58 RX6 yX6_lies wm_X6_lies_TS) := goodIn_app (goodIn_of _ (by decide +kernel)) (goodIn_r _ [35, 12, 56, 57] rfl (by decide +kernel))
set_option maxRecDepth 20000 in
theorem gm_X8_look_TG_X8_isInView_TG_54 : GoodIn wm_X8_look_TG (wsV RX8 54 RX8 yX8_isInView wm_X8_isInView_TG) := goodIn_app (goodIn_of _ (by decide +kernel)) (goodIn_r _ [41, 13, 14, 15, 16, 17, 18, 19, 20, 21, 6, 7, 8, 9, 10, 11, 12, 22, 23, 24, 4, 25, 26, 27, 28, 29, 42, 43, 44, 45, 46, 47, 48, 49, 50, 51, 52, 53, 54, 55, 58, 59, 60, 61, 62, 63, 64, 56, 57, 65, 66, 67, 68, 69, 70, 71, 72, 73, 74, 75] rfl (by decide +kernel))
set_option maxRecDepth 20000 in
theorem gm_X8_look_TG_X6_has_TS_40 : GoodIn wm_X8_look_TG (wsV RX8 40 RX6 yX6_has wm_X6_has_TS) := goodIn_app (goodIn_of _ (by decide +kernel)) (goodIn_r _ [29, 12, 56, 57] rfl (by decide +kernel))
set_option maxHeartbeats 4000000 in
set_option maxRecDepth 100000 in
theorem x_X8_look_TG (l : Launch) (D : va_G) (sz : Nat) (sk : Value) (a : Nat → Nat) (t : Nat → ClassId) (i : Nat → Int32) (q : Int64) (c : Nat → Nat → Int32) (d : Nat → Nat → Int64) (w : Int32) (hI : xInv i c) (hw : 0 ≤ w.toInt ∧ w.toInt ≤ 29) : Met l yX8_look wm_X8_look_TG ({ frames := 3, cells := 0, slots := 0, locals := 69 }) (va_Pc [.ref (a 151), .int w] (yB (a 186) D sz (xwT sk a t i q c d) (xtT t))) (va_Qv (fun (u : MS) => True ∧ xInv u.1 u.2.2.1 ∧ (∀ k, k ∉ ([154] : List Nat) → u.1 k = i k) ∧ (∀ k, k ∉ ([152, 153] : List Nat) → u.2.2.1 k = c k)) (oC D (va_A (xwT sk a t i q c d) sz) (fun u : MS => xwT sk a t u.1 u.2.1 u.2.2.1 u.2.2.2) (fun _ => [])) (va_A (xwT sk a t i q c d) sz)) 0 0 (va_A (xwT sk a t i q c d) sz) := by
  refine Met.ofW (cc := cX8_look) (maxL := 6) (ret := none) (by decide) rfl ?_
  intro p e s m args below meth cd s₁ B hml hv
  obtain ⟨rfl, ⟨hsz, hP, hK, hD0⟩, hN, hZ, hBW⟩ := hv
  have hx := B.exec
  have hb := B.bytes
  have hr := B.returns
  have hts := atoms_spec (ws := wm_X8_look_TG) B.pre
  have hown : s.vm.findClass RX8 = some m.cls := findClass_of_methodNamed B.named
  have hlocks := B.notSynchronized
  subst hsz
  have hD := hD0.self (sz := s.heap.size)
  have hZ := xZ_A hZ hP hBW
  generalize hAe : va_A (xwT sk a t i q c d) s.heap.size = A at hD hZ ⊢
  have hA : ∀ q : Nat, s.heap.size ≤ q → A q := fun q h => by rw [← hAe]; exact Or.inr h
  have hS : va_S A s.heap s.heap [] := va_S.rf
  have hfi : ∀ k, k ∉ ([] : List Nat) → i k = i k := fun _ _ => rfl
  have hfc : ∀ k, k ∉ ([] : List Nat) → c k = c k := fun _ _ => rfl
  have hl := lv_entry ([.ref (a 151), .int w]) (n := 6) (Nat.le_of_ble_eq_true rfl)
  rw [lg_entry_eq]
  generalize (lg_sl ([.ref (a 151), .int w]) ++ List.replicate (6 - (lg_sl ([.ref (a 151), .int w])).length) Slot.unset).toArray = ls at hl ⊢
  have hl : lv_has ls 6 [(0, .ref (a 151)), (1, .int w)] := hl
  refine lv_aload_n hx hb dX8_look_0 rfl (lv_at hl 0 rfl) ?_
  refine lv_iload_n hx hb dX8_look_1 rfl (lv_at hl 1 rfl) ?_
  refine lv_iconst (v := 0) hx hb dX8_look_2 (by decide) ?_
  refine ro_calli (va_runV (As := [.int w, .int 0]) (rest := []) ⟨hx, hb, hml, hown, hts⟩ (x_X8_shellOf_TG l D s.heap.size sk a t i q c d w 0 hI (show 0 ≤ w.toInt ∧ w.toInt ≤ 29 from by have h91 : (0 : Int32).toInt = 0 := (by decide); omega)) (cwV 2 hts gm_X8_look_TG_X8_shellOf_TG_30 rfl rfl rfl (by decide +kernel) ⟨Nat.le_of_ble_eq_true rfl, Nat.le_of_ble_eq_true rfl⟩) (yA_V hN (xZ_k hZ hS hA) hK hP (ci := 8) (q0 := 39) rfl rfl) rfl rfl hl.1 rfl (lv_room (Nat.le_of_ble_eq_true rfl)) dX8_look_3 ⟨Nat.le_of_ble_eq_true rfl, Nat.le_of_ble_eq_true rfl⟩) hS hA hP (fun r1 u1 H locs hw1 hP hS => ?_)
  have hw1 : (r1.toInt = -9 ∨ (0 ≤ r1.toInt ∧ r1.toInt ≤ 29)) := hw1
  refine lv_istore_n (lv' := [(2, .int r1), (0, .ref (a 151)), (1, .int w)]) hx hb dX8_look_6 rfl hl (by decide) rfl (fun ls hl => ?_)
  refine lv_aload_n hx hb dX8_look_7 rfl (lv_at hl 1 rfl) ?_
  refine lv_iload_n hx hb dX8_look_8 rfl (lv_at hl 2 rfl) ?_
  refine lv_iconst (v := 1) hx hb dX8_look_9 (by decide) ?_
  refine ro_calli (va_runV (As := [.int w, .int 1]) (rest := []) ⟨hx, hb, hml, hown, hts⟩ (x_X8_shellOf_TG l D H.size sk a t i q c d w 1 hI (show 0 ≤ w.toInt ∧ w.toInt ≤ 29 from by have h91 : (1 : Int32).toInt = 1 := (by decide); omega)) (cwV 2 hts gm_X8_look_TG_X8_shellOf_TG_30 rfl rfl rfl (by decide +kernel) ⟨Nat.le_of_ble_eq_true rfl, Nat.le_of_ble_eq_true rfl⟩) (yA_V hN (xZ_k hZ hS hA) hK hP (ci := 8) (q0 := 39) rfl rfl) rfl rfl hl.1 rfl (lv_room (Nat.le_of_ble_eq_true rfl)) dX8_look_10 ⟨Nat.le_of_ble_eq_true rfl, Nat.le_of_ble_eq_true rfl⟩) hS hA hP (fun r2 u2 H locs hw2 hP hS => ?_)
  have hw2 : (r2.toInt = -9 ∨ (0 ≤ r2.toInt ∧ r2.toInt ≤ 29)) := hw2
  refine lv_istore_n (lv' := [(3, .int r2), (2, .int r1), (0, .ref (a 151)), (1, .int w)]) hx hb dX8_look_13 rfl hl (by decide) rfl (fun ls hl => ?_)
  refine lv_aload_n hx hb dX8_look_14 rfl (lv_at hl 2 rfl) ?_
  refine lv_aload_n hx hb dX8_look_15 rfl (lv_at hl 2 rfl) ?_
  refine xgT_TG_world hx hb hts (fun _ h => List.mem_cons_of_mem _ (List.mem_append_left _ (List.mem_append_left _ (List.mem_append_left _ (List.mem_append_right _ h))))) hown hK hP (hts (.fieldLink RX8 18 "TalePlay$Sight" "world" "LTalePlay$World;") (by decide +kernel)) dX8_look_16 ?_
  refine lv_iload_n hx hb dX8_look_19 rfl (lv_at hl 1 rfl) ?_
  have rb111_i : 0 ≤ (i 111).toInt ∧ (i 111).toInt ≤ 30 := hI.1 111
  refine ro_calli (va_runV (As := [.int r1]) (rest := [.ref (a 151)]) ⟨hx, hb, hml, hown, hts⟩ (x_X10_sortOf l D H.size .null a t i q c d r1 hI ) (cwV 1 hts gm_X8_look_TG_X10_sortOf_34 rfl rfl rfl (by decide +kernel) ⟨Nat.le_of_ble_eq_true rfl, Nat.le_of_ble_eq_true rfl⟩) (yA_V hN (xZ_k hZ hS hA) (xkT_W hK) (xuT_W (sk := sk) hP) (ci := 10) (q0 := 0) rfl rfl) rfl rfl hl.1 rfl (lv_room (Nat.le_of_ble_eq_true rfl)) dX8_look_20 ⟨Nat.le_of_ble_eq_true rfl, Nat.le_of_ble_eq_true rfl⟩) hS hA hP (fun r3 u3 H locs hw3 hP hS => ?_)
  have hw3 : ((r3.toInt = -9 ∧ ¬ (0 ≤ r1.toInt ∧ r1.toInt < (i 111).toInt)) ∨ (0 ≤ r3.toInt ∧ r3.toInt ≤ 5 ∧ 0 ≤ r1.toInt ∧ r1.toInt < (i 111).toInt)) := hw3
  have jn4 : ∀ (z4_0 : Int32), (z4_0.toInt = 0 ∨ z4_0.toInt = 1) → ∀ (H : Heap) (locs : List Loc) (ls : Array Slot), va_P D vwCl (xwT sk a t i q c d) H → va_D A (xwT sk a t i q c d) → va_S A s.heap H locs → lv_has ls 6 [(3, .int r2), (2, .int r1), (0, .ref (a 151)), (1, .int w)] → W p l e (headSpec wm_X8_look_TG ({ frames := 3, cells := 0, slots := 0, locals := 69 })).room s m ([.ref (a 151), .int w] : List Value).toArray below meth cd H locs 0 0 (MQ below (va_Qv (fun (u : MS) => True ∧ xInv u.1 u.2.2.1 ∧ (∀ k, k ∉ ([154] : List Nat) → u.1 k = i k) ∧ (∀ k, k ∉ ([152, 153] : List Nat) → u.2.2.1 k = c k)) (oC D A (fun u : MS => xwT sk a t u.1 u.2.1 u.2.2.1 u.2.2.2) (fun _ => [])) A) ([.ref (a 151), .int w] : List Value).toArray s 0 0 A) (F0 m 43 ls [.int z4_0, .ref (a 151)]) := by
    intro z4_0 hs4_0 H locs ls hP hD hS hl
    refine xpT_TG_bright hx hb hts (fun _ h => List.mem_cons_of_mem _ (List.mem_append_left _ (List.mem_append_left _ (List.mem_append_left _ (List.mem_append_right _ h))))) hown hK hP hD hS (hts (.fieldLink RX8 46 "TalePlay$Sight" "bright" "Z") (by decide +kernel)) (nb_n (show 0 ≤ z4_0.toInt ∧ z4_0.toInt ≤ 1 from by omega)) (nb_f (show 0 ≤ z4_0.toInt ∧ z4_0.toInt ≤ 1 from by omega)) dX8_look_43 (fun H locs hP hD hS => ?_)
    have hI := xInv_i hI (k := 154) (v := z4_0) (show 0 ≤ (z4_0 : Int32).toInt ∧ (z4_0 : Int32).toInt ≤ 1 from by omega)
    have hfi : ∀ k, k ∉ ([154] : List Nat) → (upd i 154 z4_0) k = i k := fr_iz hfi (by decide) (by decide)
    refine lv_iconst (v := 0) hx hb dX8_look_46 (by decide) ?_
    refine lv_istore (lv' := [(4, .int 0), (3, .int r2), (2, .int r1), (0, .ref (a 151)), (1, .int w)]) hx hb dX8_look_47 hl (by decide) rfl (fun ls hl => ?_)
    have lp5 : ∀ (fu : Nat) (i5 : Nat → Int32) (q5 : Int64) (c5 : Nat → Nat → Int32) (d5 : Nat → Nat → Int64) (y5_4 : Int32), xInv i5 c5 → (∀ k, k ∉ ([154] : List Nat) → i5 k = i k) → (∀ k, k ∉ ([152] : List Nat) → c5 k = c k) → (0 ≤ y5_4.toInt ∧ y5_4.toInt ≤ 30) → (30 - y5_4.toInt).toNat < fu → ∀ (H : Heap) (locs : List Loc) (ls : Array Slot), va_P D vwCl (xwT sk a t i5 q5 c5 d5) H → va_D A (xwT sk a t i5 q5 c5 d5) → va_S A s.heap H locs → lv_has ls 6 [(4, .int y5_4), (3, .int r2), (2, .int r1), (0, .ref (a 151)), (1, .int w)] → W p l e (headSpec wm_X8_look_TG ({ frames := 3, cells := 0, slots := 0, locals := 69 })).room s m ([.ref (a 151), .int w] : List Value).toArray below meth cd H locs 0 0 (MQ below (va_Qv (fun (u : MS) => True ∧ xInv u.1 u.2.2.1 ∧ (∀ k, k ∉ ([154] : List Nat) → u.1 k = i k) ∧ (∀ k, k ∉ ([152, 153] : List Nat) → u.2.2.1 k = c k)) (oC D A (fun u : MS => xwT sk a t u.1 u.2.1 u.2.2.1 u.2.2.2) (fun _ => [])) A) ([.ref (a 151), .int w] : List Value).toArray s 0 0 A) (F0 m 49 ls []) := by
      intro fu
      induction fu with
      | zero => intro i5 q5 c5 d5 y5_4 hI hfi hfc hy5_4 hm; exact absurd hm (Nat.not_lt_zero _)
      | succ fu ih =>
        intro i5 q5 c5 d5 y5_4 hI hfi hfc hy5_4 hm H locs ls hP hD hS hl
        have ih5 := ih
        refine lv_iload hx hb dX8_look_49 (lv_at hl 0 rfl) ?_
        refine lv_aload_n hx hb dX8_look_51 rfl (lv_at hl 3 rfl) ?_
        refine xgT_TG_world hx hb hts (fun _ h => List.mem_cons_of_mem _ (List.mem_append_left _ (List.mem_append_left _ (List.mem_append_left _ (List.mem_append_right _ h))))) hown hK hP (hts (.fieldLink RX8 18 "TalePlay$Sight" "world" "LTalePlay$World;") (by decide +kernel)) dX8_look_52 ?_
        refine xgT_W_objects (v := (i5 111)) rfl hx hb hts (fun _ h => List.mem_cons_of_mem _ (List.mem_append_left _ (List.mem_append_right _ h))) hown hK hP (hts (.fieldLink RX8 50 "TalePlay$World" "objects" "I") (by decide +kernel)) dX8_look_55 ?_
        have rb111_i5 : 0 ≤ (i5 111).toInt ∧ (i5 111).toInt ≤ 30 := hI.1 111
        have re111_i5 : (i5 111).toInt = (i 111).toInt := congrArg Int32.toInt (hfi 111 (by decide))
        refine lv_icmp_ge (tgt := 135) hx hb dX8_look_58 (by decide) (fun c6 => ?_) (fun c6 => ?_)
        · have f6 := (ti_le (a := (i5 111).toInt) (b := y5_4.toInt) rfl rfl).mp c6
          refine lv_iconst (v := 0) hx hb dX8_look_135 (by decide) ?_
          refine lv_istore (lv' := [(4, .int 0), (3, .int r2), (2, .int r1), (0, .ref (a 151)), (1, .int w)]) hx hb dX8_look_136 hl (by decide) rfl (fun ls hl => ?_)
          have lp7 : ∀ (fu : Nat) (i7 : Nat → Int32) (q7 : Int64) (c7 : Nat → Nat → Int32) (d7 : Nat → Nat → Int64) (y7_4 : Int32), xInv i7 c7 → (∀ k, k ∉ ([154] : List Nat) → i7 k = i k) → (∀ k, k ∉ ([152, 153] : List Nat) → c7 k = c k) → (0 ≤ y7_4.toInt ∧ y7_4.toInt ≤ 30) → (30 - y7_4.toInt).toNat < fu → ∀ (H : Heap) (locs : List Loc) (ls : Array Slot), va_P D vwCl (xwT sk a t i7 q7 c7 d7) H → va_D A (xwT sk a t i7 q7 c7 d7) → va_S A s.heap H locs → lv_has ls 6 [(4, .int y7_4), (3, .int r2), (2, .int r1), (0, .ref (a 151)), (1, .int w)] → W p l e (headSpec wm_X8_look_TG ({ frames := 3, cells := 0, slots := 0, locals := 69 })).room s m ([.ref (a 151), .int w] : List Value).toArray below meth cd H locs 0 0 (MQ below (va_Qv (fun (u : MS) => True ∧ xInv u.1 u.2.2.1 ∧ (∀ k, k ∉ ([154] : List Nat) → u.1 k = i k) ∧ (∀ k, k ∉ ([152, 153] : List Nat) → u.2.2.1 k = c k)) (oC D A (fun u : MS => xwT sk a t u.1 u.2.1 u.2.2.1 u.2.2.2) (fun _ => [])) A) ([.ref (a 151), .int w] : List Value).toArray s 0 0 A) (F0 m 138 ls []) := by
            intro fu
            induction fu with
            | zero => intro i7 q7 c7 d7 y7_4 hI hfi hfc hy7_4 hm; exact absurd hm (Nat.not_lt_zero _)
            | succ fu ih =>
              intro i7 q7 c7 d7 y7_4 hI hfi hfc hy7_4 hm H locs ls hP hD hS hl
              have ih7 := ih
              refine lv_iload hx hb dX8_look_138 (lv_at hl 0 rfl) ?_
              refine lv_aload_n hx hb dX8_look_140 rfl (lv_at hl 3 rfl) ?_
              refine xgT_TG_world hx hb hts (fun _ h => List.mem_cons_of_mem _ (List.mem_append_left _ (List.mem_append_left _ (List.mem_append_left _ (List.mem_append_right _ h))))) hown hK hP (hts (.fieldLink RX8 18 "TalePlay$Sight" "world" "LTalePlay$World;") (by decide +kernel)) dX8_look_141 ?_
              refine xgT_W_objects (v := (i7 111)) rfl hx hb hts (fun _ h => List.mem_cons_of_mem _ (List.mem_append_left _ (List.mem_append_right _ h))) hown hK hP (hts (.fieldLink RX8 50 "TalePlay$World" "objects" "I") (by decide +kernel)) dX8_look_144 ?_
              have rb111_i7 : 0 ≤ (i7 111).toInt ∧ (i7 111).toInt ≤ 30 := hI.1 111
              have re111_i7 : (i7 111).toInt = (i 111).toInt := congrArg Int32.toInt (hfi 111 (by decide))
              refine lv_icmp_ge (tgt := 264) hx hb dX8_look_147 (by decide) (fun c8 => ?_) (fun c8 => ?_)
              · have f8 := (ti_le (a := (i7 111).toInt) (b := y7_4.toInt) rfl rfl).mp c8
                exact rw_vret (i7, q7, c7, d7) hx hb hr hlocks hS (hK.sub (tys' := []) [] rfl) hP hD dX8_look_264 ⟨trivial, hI, fr_w hfi (by decide), fr_w hfc (by decide)⟩
              · have f8 := mt (ti_le (a := (i7 111).toInt) (b := y7_4.toInt) rfl rfl).mpr c8
                refine lv_aload_n hx hb dX8_look_150 rfl (lv_at hl 3 rfl) ?_
                refine xgT_TG_scene hx hb hts (fun _ h => List.mem_cons_of_mem _ (List.mem_append_left _ (List.mem_append_left _ (List.mem_append_left _ (List.mem_append_right _ h))))) hown hK hP (hts (.fieldLink RX8 26 "TalePlay$Sight" "scene" "LTalePlay$Scene;") (by decide +kernel)) dX8_look_151 ?_
                refine lv_iload hx hb dX8_look_154 (lv_at hl 0 rfl) ?_
                refine lv_iconst (v := 2) hx hb dX8_look_156 (by decide) ?_
                refine lv_iload_n hx hb dX8_look_157 rfl (lv_at hl 4 rfl) ?_
                refine ro_calli (va_runV (As := [.int y7_4, .int 2, .int w]) (rest := []) ⟨hx, hb, hml, hown, hts⟩ (x_X6_lies_TS l D H.size .null a t i7 q7 c7 d7 y7_4 2 w hI (show 0 ≤ y7_4.toInt ∧ y7_4.toInt ≤ 29 from by have h91 : (2 : Int32).toInt = 2 := (by decide); omega)) (cwV 3 hts gm_X8_look_TG_X6_lies_TS_58 rfl rfl rfl (by decide +kernel) ⟨Nat.le_of_ble_eq_true rfl, Nat.le_of_ble_eq_true rfl⟩) (yA_V hN (xZ_k hZ hS hA) (xkT_P1 hK) (xuT_P1 (sk := sk) hP) (ci := 6) (q0 := 0) rfl rfl) rfl rfl hl.1 rfl (lv_room (Nat.le_of_ble_eq_true rfl)) dX8_look_158 ⟨Nat.le_of_ble_eq_true rfl, Nat.le_of_ble_eq_true rfl⟩) hS hA hP (fun r9 u9 H locs hw9 hP hS => ?_)
                have hw9 : (0 ≤ r9.toInt ∧ r9.toInt ≤ 1) := hw9
                have jn10 : ∀ (z10_0 : Int32), (z10_0.toInt = 0 ∨ z10_0.toInt = 1) → ∀ (H : Heap) (locs : List Loc) (ls : Array Slot), va_P D vwCl (xwT sk a t i7 q7 c7 d7) H → va_D A (xwT sk a t i7 q7 c7 d7) → va_S A s.heap H locs → lv_has ls 6 [(4, .int y7_4), (3, .int r2), (2, .int r1), (0, .ref (a 151)), (1, .int w)] → W p l e (headSpec wm_X8_look_TG ({ frames := 3, cells := 0, slots := 0, locals := 69 })).room s m ([.ref (a 151), .int w] : List Value).toArray below meth cd H locs 0 0 (MQ below (va_Qv (fun (u : MS) => True ∧ xInv u.1 u.2.2.1 ∧ (∀ k, k ∉ ([154] : List Nat) → u.1 k = i k) ∧ (∀ k, k ∉ ([152, 153] : List Nat) → u.2.2.1 k = c k)) (oC D A (fun u : MS => xwT sk a t u.1 u.2.1 u.2.2.1 u.2.2.2) (fun _ => [])) A) ([.ref (a 151), .int w] : List Value).toArray s 0 0 A) (F0 m 183 ls [.int z10_0]) := by
                  intro z10_0 hs10_0 H locs ls hP hD hS hl
                  refine lv_istore (lv' := [(5, .int z10_0), (4, .int y7_4), (3, .int r2), (2, .int r1), (0, .ref (a 151)), (1, .int w)]) hx hb dX8_look_183 hl (by decide) rfl (fun ls hl => ?_)
                  refine lv_aload_n hx hb dX8_look_185 rfl (lv_at hl 4 rfl) ?_
                  refine xgT_TG_seen hx hb hts (fun _ h => List.mem_cons_of_mem _ (List.mem_append_left _ (List.mem_append_left _ (List.mem_append_left _ (List.mem_append_right _ h))))) hown hK hP (hts (.fieldLink RX8 9 "TalePlay$Sight" "seen" "[Z") (by decide +kernel)) dX8_look_186 ?_
                  refine lv_iload hx hb dX8_look_189 (lv_at hl 1 rfl) ?_
                  refine lv_iload hx hb dX8_look_191 (lv_at hl 0 rfl) ?_
                  have jn11 : ∀ (z11_0 : Int32), (z11_0.toInt = 0 ∨ z11_0.toInt = 1) → ∀ (H : Heap) (locs : List Loc) (ls : Array Slot), va_P D vwCl (xwT sk a t i7 q7 c7 d7) H → va_D A (xwT sk a t i7 q7 c7 d7) → va_S A s.heap H locs → lv_has ls 6 [(5, .int z10_0), (4, .int y7_4), (3, .int r2), (2, .int r1), (0, .ref (a 151)), (1, .int w)] → W p l e (headSpec wm_X8_look_TG ({ frames := 3, cells := 0, slots := 0, locals := 69 })).room s m ([.ref (a 151), .int w] : List Value).toArray below meth cd H locs 0 0 (MQ below (va_Qv (fun (u : MS) => True ∧ xInv u.1 u.2.2.1 ∧ (∀ k, k ∉ ([154] : List Nat) → u.1 k = i k) ∧ (∀ k, k ∉ ([152, 153] : List Nat) → u.2.2.1 k = c k)) (oC D A (fun u : MS => xwT sk a t u.1 u.2.1 u.2.2.1 u.2.2.2) (fun _ => [])) A) ([.ref (a 151), .int w] : List Value).toArray s 0 0 A) (F0 m 218 ls [.int z11_0, .int y7_4, .ref (a 152)]) := by
                    intro z11_0 hs11_0 H locs ls hP hD hS hl
                    refine xsT_152 hx hb hK hP hD hS (vp_in_iff.mpr (by have h9 : y7_4.toInt = y7_4.toInt := rfl; omega)) (nb_z (show 0 ≤ (z11_0 : Int32).toInt ∧ (z11_0 : Int32).toInt ≤ 1 from by omega)) dX8_look_218 (fun H locs hP hD hS => ?_)
                    have hI := xInv_c hI (k := 152) (j := (y7_4 : Int32).toNatClampNeg) (x := z11_0) (show 0 ≤ (z11_0 : Int32).toInt ∧ (z11_0 : Int32).toInt ≤ 1 from by omega)
                    have hfc := fr_c hfc (k := 152) (j := (y7_4 : Int32).toNatClampNeg) (x := z11_0) (by decide)
                    refine lv_aload_n hx hb dX8_look_219 rfl (lv_at hl 4 rfl) ?_
                    refine xgT_TG_reached hx hb hts (fun _ h => List.mem_cons_of_mem _ (List.mem_append_left _ (List.mem_append_left _ (List.mem_append_left _ (List.mem_append_right _ h))))) hown hK hP (hts (.fieldLink RX8 15 "TalePlay$Sight" "reached" "[Z") (by decide +kernel)) dX8_look_220 ?_
                    refine lv_iload hx hb dX8_look_223 (lv_at hl 1 rfl) ?_
                    refine lv_aload_n hx hb dX8_look_225 rfl (lv_at hl 4 rfl) ?_
                    refine xgT_TG_seen hx hb hts (fun _ h => List.mem_cons_of_mem _ (List.mem_append_left _ (List.mem_append_left _ (List.mem_append_left _ (List.mem_append_right _ h))))) hown hK hP (hts (.fieldLink RX8 9 "TalePlay$Sight" "seen" "[Z") (by decide +kernel)) dX8_look_226 ?_
                    refine lv_iload hx hb dX8_look_229 (lv_at hl 1 rfl) ?_
                    refine xlT_152 hx hb hK hP (vp_in_iff.mpr (by have h9 : y7_4.toInt = y7_4.toInt := rfl; omega)) dX8_look_231 (fun x12 ex12 => ?_)
                    have rx12 : 0 ≤ x12.toInt ∧ x12.toInt ≤ 1 := by rw [ex12]; exact hI.2 152 _
                    have jn13 : ∀ (z13_0 : Int32), (z13_0.toInt = 0 ∨ z13_0.toInt = 1) → ∀ (H : Heap) (locs : List Loc) (ls : Array Slot), va_P D vwCl (xwT sk a t i7 q7 (updA c7 152 (y7_4 : Int32).toNatClampNeg z11_0) d7) H → va_D A (xwT sk a t i7 q7 (updA c7 152 (y7_4 : Int32).toNatClampNeg z11_0) d7) → va_S A s.heap H locs → lv_has ls 6 [(5, .int z10_0), (4, .int y7_4), (3, .int r2), (2, .int r1), (0, .ref (a 151)), (1, .int w)] → W p l e (headSpec wm_X8_look_TG ({ frames := 3, cells := 0, slots := 0, locals := 69 })).room s m ([.ref (a 151), .int w] : List Value).toArray below meth cd H locs 0 0 (MQ below (va_Qv (fun (u : MS) => True ∧ xInv u.1 u.2.2.1 ∧ (∀ k, k ∉ ([154] : List Nat) → u.1 k = i k) ∧ (∀ k, k ∉ ([152, 153] : List Nat) → u.2.2.1 k = c k)) (oC D A (fun u : MS => xwT sk a t u.1 u.2.1 u.2.2.1 u.2.2.2) (fun _ => [])) A) ([.ref (a 151), .int w] : List Value).toArray s 0 0 A) (F0 m 257 ls [.int z13_0, .int y7_4, .ref (a 153)]) := by
                      intro z13_0 hs13_0 H locs ls hP hD hS hl
                      refine xsT_153 hx hb hK hP hD hS (vp_in_iff.mpr (by have h9 : y7_4.toInt = y7_4.toInt := rfl; omega)) (nb_z (show 0 ≤ (z13_0 : Int32).toInt ∧ (z13_0 : Int32).toInt ≤ 1 from by omega)) dX8_look_257 (fun H locs hP hD hS => ?_)
                      have hI := xInv_c hI (k := 153) (j := (y7_4 : Int32).toNatClampNeg) (x := z13_0) (show 0 ≤ (z13_0 : Int32).toInt ∧ (z13_0 : Int32).toInt ≤ 1 from by omega)
                      have hfc := fr_c hfc (k := 153) (j := (y7_4 : Int32).toNatClampNeg) (x := z13_0) (by decide)
                      obtain ⟨x14, ex14⟩ : ∃ y : Int32, y = y7_4 + 1 := ⟨_, rfl⟩
                      have tx14 := ti_add (a := y7_4.toInt) (b := 1) ex14 rfl (by decide) (by omega) (by omega)
                      refine lv_iinc (v := x14) (lv' := [(4, .int x14), (5, .int z10_0), (3, .int r2), (2, .int r1), (0, .ref (a 151)), (1, .int w)]) hx hb dX8_look_258 hl (k := 1) rfl (by rw [ex14]; rfl) (by decide) rfl (fun ls hl => ?_)
                      refine lv_goto (tgt := 138) hx hb dX8_look_261 (by decide) ?_
                      exact ih7 i7 q7 (updA (updA c7 152 (y7_4 : Int32).toNatClampNeg z11_0) 153 (y7_4 : Int32).toNatClampNeg z13_0) d7 x14 hI (fr_w hfi (by decide)) (fr_w hfc (by decide)) (show 0 ≤ x14.toInt ∧ x14.toInt ≤ 30 from by have h50 : x14.toInt = (y7_4.toInt + 1) := tx14; omega) (by have h50 : x14.toInt = (y7_4.toInt + 1) := tx14; omega) _ _ _ hP hD hS (lv_sub hl [0, 2, 3, 4, 5] rfl)
                    have jn15 : ∀ (H : Heap) (locs : List Loc) (ls : Array Slot), va_P D vwCl (xwT sk a t i7 q7 (updA c7 152 (y7_4 : Int32).toNatClampNeg z11_0) d7) H → va_D A (xwT sk a t i7 q7 (updA c7 152 (y7_4 : Int32).toNatClampNeg z11_0) d7) → va_S A s.heap H locs → lv_has ls 6 [(5, .int z10_0), (4, .int y7_4), (3, .int r2), (2, .int r1), (0, .ref (a 151)), (1, .int w)] → W p l e (headSpec wm_X8_look_TG ({ frames := 3, cells := 0, slots := 0, locals := 69 })).room s m ([.ref (a 151), .int w] : List Value).toArray below meth cd H locs 0 0 (MQ below (va_Qv (fun (u : MS) => True ∧ xInv u.1 u.2.2.1 ∧ (∀ k, k ∉ ([154] : List Nat) → u.1 k = i k) ∧ (∀ k, k ∉ ([152, 153] : List Nat) → u.2.2.1 k = c k)) (oC D A (fun u : MS => xwT sk a t u.1 u.2.1 u.2.2.1 u.2.2.2) (fun _ => [])) A) ([.ref (a 151), .int w] : List Value).toArray s 0 0 A) (F0 m 256 ls [.int y7_4, .ref (a 153)]) := by
                      intro H locs ls hP hD hS hl
                      refine lv_iconst (v := 0) hx hb dX8_look_256 (by decide) ?_
                      exact jn13  (0 : Int32) (show (0 : Int32).toInt = 0 ∨ (0 : Int32).toInt = 1 from by have h56 : (0 : Int32).toInt = 0 := (by decide); omega) _ _ _ hP hD hS (lv_sub hl [0, 1, 2, 3, 4, 5] rfl)
                    refine lv_if_eq (tgt := 256) hx hb dX8_look_232 (by decide) (fun c16 => ?_) (fun c16 => ?_)
                    · have f16 := (ti_eq (a := x12.toInt) (b := 0) rfl (by decide)).mp c16
                      exact jn15    _ _ _ hP hD hS (lv_sub hl [0, 1, 2, 3, 4, 5] rfl)
                    · have f16 := mt (ti_eq (a := x12.toInt) (b := 0) rfl (by decide)).mpr c16
                      refine lv_iload hx hb dX8_look_235 (lv_at hl 1 rfl) ?_
                      refine lv_iload_n hx hb dX8_look_237 rfl (lv_at hl 5 rfl) ?_
                      have jn17 : ∀ (H : Heap) (locs : List Loc) (ls : Array Slot), va_P D vwCl (xwT sk a t i7 q7 (updA c7 152 (y7_4 : Int32).toNatClampNeg z11_0) d7) H → va_D A (xwT sk a t i7 q7 (updA c7 152 (y7_4 : Int32).toNatClampNeg z11_0) d7) → va_S A s.heap H locs → lv_has ls 6 [(5, .int z10_0), (4, .int y7_4), (3, .int r2), (2, .int r1), (0, .ref (a 151)), (1, .int w)] → W p l e (headSpec wm_X8_look_TG ({ frames := 3, cells := 0, slots := 0, locals := 69 })).room s m ([.ref (a 151), .int w] : List Value).toArray below meth cd H locs 0 0 (MQ below (va_Qv (fun (u : MS) => True ∧ xInv u.1 u.2.2.1 ∧ (∀ k, k ∉ ([154] : List Nat) → u.1 k = i k) ∧ (∀ k, k ∉ ([152, 153] : List Nat) → u.2.2.1 k = c k)) (oC D A (fun u : MS => xwT sk a t u.1 u.2.1 u.2.2.1 u.2.2.2) (fun _ => [])) A) ([.ref (a 151), .int w] : List Value).toArray s 0 0 A) (F0 m 252 ls [.int y7_4, .ref (a 153)]) := by
                        intro H locs ls hP hD hS hl
                        refine lv_iconst (v := 1) hx hb dX8_look_252 (by decide) ?_
                        refine lv_goto (tgt := 257) hx hb dX8_look_253 (by decide) ?_
                        exact jn13  (1 : Int32) (show (1 : Int32).toInt = 0 ∨ (1 : Int32).toInt = 1 from by have h56 : (1 : Int32).toInt = 1 := (by decide); omega) _ _ _ hP hD hS (lv_sub hl [0, 1, 2, 3, 4, 5] rfl)
                      refine lv_icmp_eq (tgt := 252) hx hb dX8_look_238 (by decide) (fun c18 => ?_) (fun c18 => ?_)
                      · have f18 := (ti_eq (a := y7_4.toInt) (b := w.toInt) rfl rfl).mp c18
                        exact jn17    _ _ _ hP hD hS (lv_sub hl [0, 1, 2, 3, 4, 5] rfl)
                      · have f18 := mt (ti_eq (a := y7_4.toInt) (b := w.toInt) rfl rfl).mpr c18
                        refine lv_aload_n hx hb dX8_look_241 rfl (lv_at hl 4 rfl) ?_
                        refine lv_iload hx hb dX8_look_242 (lv_at hl 1 rfl) ?_
                        refine lv_iload_n hx hb dX8_look_244 rfl (lv_at hl 2 rfl) ?_
                        refine lv_iconst (v := 1) hx hb dX8_look_245 (by decide) ?_
                        refine ro_calli (va_runV (As := [.int y7_4, .int r2, .int 1]) (rest := [.int y7_4, .ref (a 153)]) ⟨hx, hb, hml, hown, hts⟩ (x_X8_isInView_TG l D H.size sk a t i7 q7 (updA c7 152 (y7_4 : Int32).toNatClampNeg z11_0) d7 y7_4 r2 1 hI (show 0 ≤ y7_4.toInt ∧ y7_4.toInt ≤ 29 from by have h92 : (1 : Int32).toInt = 1 := (by decide); omega)) (cwV 3 hts gm_X8_look_TG_X8_isInView_TG_54 rfl rfl rfl (by decide +kernel) ⟨Nat.le_of_ble_eq_true rfl, Nat.le_of_ble_eq_true rfl⟩) (yA_V hN (xZ_k hZ hS hA) hK hP (ci := 8) (q0 := 39) rfl rfl) rfl rfl hl.1 rfl (lv_room (Nat.le_of_ble_eq_true rfl)) dX8_look_246 ⟨Nat.le_of_ble_eq_true rfl, Nat.le_of_ble_eq_true rfl⟩) hS hA hP (fun r19 u19 H locs hw19 hP hS => ?_)
                        have hw19 : (0 ≤ r19.toInt ∧ r19.toInt ≤ 1) := hw19
                        refine lv_if_eq (tgt := 256) hx hb dX8_look_249 (by decide) (fun c20 => ?_) (fun c20 => ?_)
                        · have f20 := (ti_eq (a := r19.toInt) (b := 0) rfl (by decide)).mp c20
                          exact jn15    _ _ _ hP hD hS (lv_sub hl [0, 1, 2, 3, 4, 5] rfl)
                        · have f20 := mt (ti_eq (a := r19.toInt) (b := 0) rfl (by decide)).mpr c20
                          exact jn17    _ _ _ hP hD hS (lv_sub hl [0, 1, 2, 3, 4, 5] rfl)
                  have jn21 : ∀ (H : Heap) (locs : List Loc) (ls : Array Slot), va_P D vwCl (xwT sk a t i7 q7 c7 d7) H → va_D A (xwT sk a t i7 q7 c7 d7) → va_S A s.heap H locs → lv_has ls 6 [(5, .int z10_0), (4, .int y7_4), (3, .int r2), (2, .int r1), (0, .ref (a 151)), (1, .int w)] → W p l e (headSpec wm_X8_look_TG ({ frames := 3, cells := 0, slots := 0, locals := 69 })).room s m ([.ref (a 151), .int w] : List Value).toArray below meth cd H locs 0 0 (MQ below (va_Qv (fun (u : MS) => True ∧ xInv u.1 u.2.2.1 ∧ (∀ k, k ∉ ([154] : List Nat) → u.1 k = i k) ∧ (∀ k, k ∉ ([152, 153] : List Nat) → u.2.2.1 k = c k)) (oC D A (fun u : MS => xwT sk a t u.1 u.2.1 u.2.2.1 u.2.2.2) (fun _ => [])) A) ([.ref (a 151), .int w] : List Value).toArray s 0 0 A) (F0 m 213 ls [.int y7_4, .ref (a 152)]) := by
                    intro H locs ls hP hD hS hl
                    refine lv_iconst (v := 1) hx hb dX8_look_213 (by decide) ?_
                    refine lv_goto (tgt := 218) hx hb dX8_look_214 (by decide) ?_
                    exact jn11  (1 : Int32) (show (1 : Int32).toInt = 0 ∨ (1 : Int32).toInt = 1 from by have h56 : (1 : Int32).toInt = 1 := (by decide); omega) _ _ _ hP hD hS (lv_sub hl [0, 1, 2, 3, 4, 5] rfl)
                  refine lv_if_ne (tgt := 213) hx hb dX8_look_193 (by decide) (fun c22 => ?_) (fun c22 => ?_)
                  · have f22 := mt (ti_eq (a := z10_0.toInt) (b := 0) rfl (by decide)).mpr c22
                    exact jn21    _ _ _ hP hD hS (lv_sub hl [0, 1, 2, 3, 4, 5] rfl)
                  · have f22 := (ti_eq (a := z10_0.toInt) (b := 0) rfl (by decide)).mp c22
                    refine lv_aload_n hx hb dX8_look_196 rfl (lv_at hl 4 rfl) ?_
                    refine xgT_TG_bright (v := (i7 154)) rfl hx hb hts (fun _ h => List.mem_cons_of_mem _ (List.mem_append_left _ (List.mem_append_left _ (List.mem_append_left _ (List.mem_append_right _ h))))) hown hK hP (hts (.fieldLink RX8 46 "TalePlay$Sight" "bright" "Z") (by decide +kernel)) dX8_look_197 ?_
                    have rb154_i7 : 0 ≤ (i7 154).toInt ∧ (i7 154).toInt ≤ 1 := hI.1 154
                    have jn23 : ∀ (H : Heap) (locs : List Loc) (ls : Array Slot), va_P D vwCl (xwT sk a t i7 q7 c7 d7) H → va_D A (xwT sk a t i7 q7 c7 d7) → va_S A s.heap H locs → lv_has ls 6 [(5, .int z10_0), (4, .int y7_4), (3, .int r2), (2, .int r1), (0, .ref (a 151)), (1, .int w)] → W p l e (headSpec wm_X8_look_TG ({ frames := 3, cells := 0, slots := 0, locals := 69 })).room s m ([.ref (a 151), .int w] : List Value).toArray below meth cd H locs 0 0 (MQ below (va_Qv (fun (u : MS) => True ∧ xInv u.1 u.2.2.1 ∧ (∀ k, k ∉ ([154] : List Nat) → u.1 k = i k) ∧ (∀ k, k ∉ ([152, 153] : List Nat) → u.2.2.1 k = c k)) (oC D A (fun u : MS => xwT sk a t u.1 u.2.1 u.2.2.1 u.2.2.2) (fun _ => [])) A) ([.ref (a 151), .int w] : List Value).toArray s 0 0 A) (F0 m 217 ls [.int y7_4, .ref (a 152)]) := by
                      intro H locs ls hP hD hS hl
                      refine lv_iconst (v := 0) hx hb dX8_look_217 (by decide) ?_
                      exact jn11  (0 : Int32) (show (0 : Int32).toInt = 0 ∨ (0 : Int32).toInt = 1 from by have h56 : (0 : Int32).toInt = 0 := (by decide); omega) _ _ _ hP hD hS (lv_sub hl [0, 1, 2, 3, 4, 5] rfl)
                    refine lv_if_eq (tgt := 217) hx hb dX8_look_200 (by decide) (fun c24 => ?_) (fun c24 => ?_)
                    · have f24 := (ti_eq (a := (i7 154).toInt) (b := 0) rfl (by decide)).mp c24
                      exact jn23    _ _ _ hP hD hS (lv_sub hl [0, 1, 2, 3, 4, 5] rfl)
                    · have f24 := mt (ti_eq (a := (i7 154).toInt) (b := 0) rfl (by decide)).mpr c24
                      refine lv_aload_n hx hb dX8_look_203 rfl (lv_at hl 4 rfl) ?_
                      refine xgT_TG_seen hx hb hts (fun _ h => List.mem_cons_of_mem _ (List.mem_append_left _ (List.mem_append_left _ (List.mem_append_left _ (List.mem_append_right _ h))))) hown hK hP (hts (.fieldLink RX8 9 "TalePlay$Sight" "seen" "[Z") (by decide +kernel)) dX8_look_204 ?_
                      refine lv_iload hx hb dX8_look_207 (lv_at hl 1 rfl) ?_
                      refine xlT_152 hx hb hK hP (vp_in_iff.mpr (by have h9 : y7_4.toInt = y7_4.toInt := rfl; omega)) dX8_look_209 (fun x25 ex25 => ?_)
                      have rx25 : 0 ≤ x25.toInt ∧ x25.toInt ≤ 1 := by rw [ex25]; exact hI.2 152 _
                      refine lv_if_eq (tgt := 217) hx hb dX8_look_210 (by decide) (fun c26 => ?_) (fun c26 => ?_)
                      · have f26 := (ti_eq (a := x25.toInt) (b := 0) rfl (by decide)).mp c26
                        exact jn23    _ _ _ hP hD hS (lv_sub hl [0, 1, 2, 3, 4, 5] rfl)
                      · have f26 := mt (ti_eq (a := x25.toInt) (b := 0) rfl (by decide)).mpr c26
                        exact jn21    _ _ _ hP hD hS (lv_sub hl [0, 1, 2, 3, 4, 5] rfl)
                have jn27 : ∀ (H : Heap) (locs : List Loc) (ls : Array Slot), va_P D vwCl (xwT sk a t i7 q7 c7 d7) H → va_D A (xwT sk a t i7 q7 c7 d7) → va_S A s.heap H locs → lv_has ls 6 [(4, .int y7_4), (3, .int r2), (2, .int r1), (0, .ref (a 151)), (1, .int w)] → W p l e (headSpec wm_X8_look_TG ({ frames := 3, cells := 0, slots := 0, locals := 69 })).room s m ([.ref (a 151), .int w] : List Value).toArray below meth cd H locs 0 0 (MQ below (va_Qv (fun (u : MS) => True ∧ xInv u.1 u.2.2.1 ∧ (∀ k, k ∉ ([154] : List Nat) → u.1 k = i k) ∧ (∀ k, k ∉ ([152, 153] : List Nat) → u.2.2.1 k = c k)) (oC D A (fun u : MS => xwT sk a t u.1 u.2.1 u.2.2.1 u.2.2.2) (fun _ => [])) A) ([.ref (a 151), .int w] : List Value).toArray s 0 0 A) (F0 m 178 ls []) := by
                  intro H locs ls hP hD hS hl
                  refine lv_iconst (v := 1) hx hb dX8_look_178 (by decide) ?_
                  refine lv_goto (tgt := 183) hx hb dX8_look_179 (by decide) ?_
                  exact jn10  (1 : Int32) (show (1 : Int32).toInt = 0 ∨ (1 : Int32).toInt = 1 from by have h55 : (1 : Int32).toInt = 1 := (by decide); omega) _ _ _ hP hD hS (lv_sub hl [0, 1, 2, 3, 4] rfl)
                refine lv_if_ne (tgt := 178) hx hb dX8_look_161 (by decide) (fun c28 => ?_) (fun c28 => ?_)
                · have f28 := mt (ti_eq (a := r9.toInt) (b := 0) rfl (by decide)).mpr c28
                  exact jn27    _ _ _ hP hD hS (lv_sub hl [0, 1, 2, 3, 4] rfl)
                · have f28 := (ti_eq (a := r9.toInt) (b := 0) rfl (by decide)).mp c28
                  refine lv_aload_n hx hb dX8_look_164 rfl (lv_at hl 3 rfl) ?_
                  refine xgT_TG_scene hx hb hts (fun _ h => List.mem_cons_of_mem _ (List.mem_append_left _ (List.mem_append_left _ (List.mem_append_left _ (List.mem_append_right _ h))))) hown hK hP (hts (.fieldLink RX8 26 "TalePlay$Sight" "scene" "LTalePlay$Scene;") (by decide +kernel)) dX8_look_165 ?_
                  refine lv_iload hx hb dX8_look_168 (lv_at hl 0 rfl) ?_
                  refine lv_iconst (v := 3) hx hb dX8_look_170 (by decide) ?_
                  refine lv_iload_n hx hb dX8_look_171 rfl (lv_at hl 4 rfl) ?_
                  refine ro_calli (va_runV (As := [.int y7_4, .int 3, .int w]) (rest := []) ⟨hx, hb, hml, hown, hts⟩ (x_X6_lies_TS l D H.size .null a t i7 q7 c7 d7 y7_4 3 w hI (show 0 ≤ y7_4.toInt ∧ y7_4.toInt ≤ 29 from by have h91 : (3 : Int32).toInt = 3 := (by decide); omega)) (cwV 3 hts gm_X8_look_TG_X6_lies_TS_58 rfl rfl rfl (by decide +kernel) ⟨Nat.le_of_ble_eq_true rfl, Nat.le_of_ble_eq_true rfl⟩) (yA_V hN (xZ_k hZ hS hA) (xkT_P1 hK) (xuT_P1 (sk := sk) hP) (ci := 6) (q0 := 0) rfl rfl) rfl rfl hl.1 rfl (lv_room (Nat.le_of_ble_eq_true rfl)) dX8_look_172 ⟨Nat.le_of_ble_eq_true rfl, Nat.le_of_ble_eq_true rfl⟩) hS hA hP (fun r29 u29 H locs hw29 hP hS => ?_)
                  have hw29 : (0 ≤ r29.toInt ∧ r29.toInt ≤ 1) := hw29
                  refine lv_if_eq (tgt := 182) hx hb dX8_look_175 (by decide) (fun c30 => ?_) (fun c30 => ?_)
                  · have f30 := (ti_eq (a := r29.toInt) (b := 0) rfl (by decide)).mp c30
                    refine lv_iconst (v := 0) hx hb dX8_look_182 (by decide) ?_
                    exact jn10  (0 : Int32) (show (0 : Int32).toInt = 0 ∨ (0 : Int32).toInt = 1 from by have h55 : (0 : Int32).toInt = 0 := (by decide); omega) _ _ _ hP hD hS (lv_sub hl [0, 1, 2, 3, 4] rfl)
                  · have f30 := mt (ti_eq (a := r29.toInt) (b := 0) rfl (by decide)).mpr c30
                    exact jn27    _ _ _ hP hD hS (lv_sub hl [0, 1, 2, 3, 4] rfl)
          exact lp7 _ i5 q5 c5 d5 (0 : Int32) hI (fr_w hfi (by decide)) (fr_w hfc (by decide)) (show 0 ≤ (0 : Int32).toInt ∧ (0 : Int32).toInt ≤ 30 from by have h50 : (0 : Int32).toInt = 0 := (by decide); omega) (Nat.lt_succ_self _) _ _ _ hP hD hS (lv_sub hl [0, 1, 2, 3, 4] rfl)
        · have f6 := mt (ti_le (a := (i5 111).toInt) (b := y5_4.toInt) rfl rfl).mpr c6
          refine lv_aload_n hx hb dX8_look_61 rfl (lv_at hl 3 rfl) ?_
          refine xgT_TG_seen hx hb hts (fun _ h => List.mem_cons_of_mem _ (List.mem_append_left _ (List.mem_append_left _ (List.mem_append_left _ (List.mem_append_right _ h))))) hown hK hP (hts (.fieldLink RX8 9 "TalePlay$Sight" "seen" "[Z") (by decide +kernel)) dX8_look_62 ?_
          refine lv_iload hx hb dX8_look_65 (lv_at hl 0 rfl) ?_
          refine lv_iload hx hb dX8_look_67 (lv_at hl 0 rfl) ?_
          refine lv_iload_n hx hb dX8_look_69 rfl (lv_at hl 4 rfl) ?_
          have jn31 : ∀ (z31_0 : Int32), (z31_0.toInt = 0 ∨ z31_0.toInt = 1) → ∀ (H : Heap) (locs : List Loc) (ls : Array Slot), va_P D vwCl (xwT sk a t i5 q5 c5 d5) H → va_D A (xwT sk a t i5 q5 c5 d5) → va_S A s.heap H locs → lv_has ls 6 [(4, .int y5_4), (3, .int r2), (2, .int r1), (0, .ref (a 151)), (1, .int w)] → W p l e (headSpec wm_X8_look_TG ({ frames := 3, cells := 0, slots := 0, locals := 69 })).room s m ([.ref (a 151), .int w] : List Value).toArray below meth cd H locs 0 0 (MQ below (va_Qv (fun (u : MS) => True ∧ xInv u.1 u.2.2.1 ∧ (∀ k, k ∉ ([154] : List Nat) → u.1 k = i k) ∧ (∀ k, k ∉ ([152, 153] : List Nat) → u.2.2.1 k = c k)) (oC D A (fun u : MS => xwT sk a t u.1 u.2.1 u.2.2.1 u.2.2.2) (fun _ => [])) A) ([.ref (a 151), .int w] : List Value).toArray s 0 0 A) (F0 m 89 ls [.int z31_0, .int y5_4, .ref (a 152)]) := by
            intro z31_0 hs31_0 H locs ls hP hD hS hl
            refine xsT_152 hx hb hK hP hD hS (vp_in_iff.mpr (by have h9 : y5_4.toInt = y5_4.toInt := rfl; omega)) (nb_z (show 0 ≤ (z31_0 : Int32).toInt ∧ (z31_0 : Int32).toInt ≤ 1 from by omega)) dX8_look_89 (fun H locs hP hD hS => ?_)
            have hI := xInv_c hI (k := 152) (j := (y5_4 : Int32).toNatClampNeg) (x := z31_0) (show 0 ≤ (z31_0 : Int32).toInt ∧ (z31_0 : Int32).toInt ≤ 1 from by omega)
            have hfc := fr_c hfc (k := 152) (j := (y5_4 : Int32).toNatClampNeg) (x := z31_0) (by decide)
            refine lv_aload_n hx hb dX8_look_90 rfl (lv_at hl 3 rfl) ?_
            refine lv_aload_n hx hb dX8_look_91 rfl (lv_at hl 3 rfl) ?_
            refine xgT_TG_bright (v := (i5 154)) rfl hx hb hts (fun _ h => List.mem_cons_of_mem _ (List.mem_append_left _ (List.mem_append_left _ (List.mem_append_left _ (List.mem_append_right _ h))))) hown hK hP (hts (.fieldLink RX8 46 "TalePlay$Sight" "bright" "Z") (by decide +kernel)) dX8_look_92 ?_
            have rb154_i5 : 0 ≤ (i5 154).toInt ∧ (i5 154).toInt ≤ 1 := hI.1 154
            have jn32 : ∀ (z32_0 : Int32), (z32_0.toInt = 0 ∨ z32_0.toInt = 1) → ∀ (H : Heap) (locs : List Loc) (ls : Array Slot), va_P D vwCl (xwT sk a t i5 q5 (updA c5 152 (y5_4 : Int32).toNatClampNeg z31_0) d5) H → va_D A (xwT sk a t i5 q5 (updA c5 152 (y5_4 : Int32).toNatClampNeg z31_0) d5) → va_S A s.heap H locs → lv_has ls 6 [(4, .int y5_4), (3, .int r2), (2, .int r1), (0, .ref (a 151)), (1, .int w)] → W p l e (headSpec wm_X8_look_TG ({ frames := 3, cells := 0, slots := 0, locals := 69 })).room s m ([.ref (a 151), .int w] : List Value).toArray below meth cd H locs 0 0 (MQ below (va_Qv (fun (u : MS) => True ∧ xInv u.1 u.2.2.1 ∧ (∀ k, k ∉ ([154] : List Nat) → u.1 k = i k) ∧ (∀ k, k ∉ ([152, 153] : List Nat) → u.2.2.1 k = c k)) (oC D A (fun u : MS => xwT sk a t u.1 u.2.1 u.2.2.1 u.2.2.2) (fun _ => [])) A) ([.ref (a 151), .int w] : List Value).toArray s 0 0 A) (F0 m 126 ls [.int z32_0, .ref (a 151)]) := by
              intro z32_0 hs32_0 H locs ls hP hD hS hl
              refine xpT_TG_bright hx hb hts (fun _ h => List.mem_cons_of_mem _ (List.mem_append_left _ (List.mem_append_left _ (List.mem_append_left _ (List.mem_append_right _ h))))) hown hK hP hD hS (hts (.fieldLink RX8 46 "TalePlay$Sight" "bright" "Z") (by decide +kernel)) (nb_n (show 0 ≤ z32_0.toInt ∧ z32_0.toInt ≤ 1 from by omega)) (nb_f (show 0 ≤ z32_0.toInt ∧ z32_0.toInt ≤ 1 from by omega)) dX8_look_126 (fun H locs hP hD hS => ?_)
              have hI := xInv_i hI (k := 154) (v := z32_0) (show 0 ≤ (z32_0 : Int32).toInt ∧ (z32_0 : Int32).toInt ≤ 1 from by omega)
              have hfi := fr_i hfi (k := 154) (v := z32_0) (by decide)
              obtain ⟨x33, ex33⟩ : ∃ y : Int32, y = y5_4 + 1 := ⟨_, rfl⟩
              have tx33 := ti_add (a := y5_4.toInt) (b := 1) ex33 rfl (by decide) (by omega) (by omega)
              refine lv_iinc (v := x33) (lv' := [(4, .int x33), (3, .int r2), (2, .int r1), (0, .ref (a 151)), (1, .int w)]) hx hb dX8_look_129 hl (k := 0) rfl (by rw [ex33]; rfl) (by decide) rfl (fun ls hl => ?_)
              refine lv_goto (tgt := 49) hx hb dX8_look_132 (by decide) ?_
              exact ih5 (upd i5 154 z32_0) q5 (updA c5 152 (y5_4 : Int32).toNatClampNeg z31_0) d5 x33 hI (fr_w hfi (by decide)) (fr_w hfc (by decide)) (show 0 ≤ x33.toInt ∧ x33.toInt ≤ 30 from by have h50 : x33.toInt = (y5_4.toInt + 1) := tx33; omega) (by have h50 : x33.toInt = (y5_4.toInt + 1) := tx33; omega) _ _ _ hP hD hS (lv_sub hl [0, 1, 2, 3, 4] rfl)
            have jn34 : ∀ (H : Heap) (locs : List Loc) (ls : Array Slot), va_P D vwCl (xwT sk a t i5 q5 (updA c5 152 (y5_4 : Int32).toNatClampNeg z31_0) d5) H → va_D A (xwT sk a t i5 q5 (updA c5 152 (y5_4 : Int32).toNatClampNeg z31_0) d5) → va_S A s.heap H locs → lv_has ls 6 [(4, .int y5_4), (3, .int r2), (2, .int r1), (0, .ref (a 151)), (1, .int w)] → W p l e (headSpec wm_X8_look_TG ({ frames := 3, cells := 0, slots := 0, locals := 69 })).room s m ([.ref (a 151), .int w] : List Value).toArray below meth cd H locs 0 0 (MQ below (va_Qv (fun (u : MS) => True ∧ xInv u.1 u.2.2.1 ∧ (∀ k, k ∉ ([154] : List Nat) → u.1 k = i k) ∧ (∀ k, k ∉ ([152, 153] : List Nat) → u.2.2.1 k = c k)) (oC D A (fun u : MS => xwT sk a t u.1 u.2.1 u.2.2.1 u.2.2.2) (fun _ => [])) A) ([.ref (a 151), .int w] : List Value).toArray s 0 0 A) (F0 m 121 ls [.ref (a 151)]) := by
              intro H locs ls hP hD hS hl
              refine lv_iconst (v := 1) hx hb dX8_look_121 (by decide) ?_
              refine lv_goto (tgt := 126) hx hb dX8_look_122 (by decide) ?_
              exact jn32  (1 : Int32) (show (1 : Int32).toInt = 0 ∨ (1 : Int32).toInt = 1 from by have h55 : (1 : Int32).toInt = 1 := (by decide); omega) _ _ _ hP hD hS (lv_sub hl [0, 1, 2, 3, 4] rfl)
            refine lv_if_ne (tgt := 121) hx hb dX8_look_95 (by decide) (fun c35 => ?_) (fun c35 => ?_)
            · have f35 := mt (ti_eq (a := (i5 154).toInt) (b := 0) rfl (by decide)).mpr c35
              exact jn34    _ _ _ hP hD hS (lv_sub hl [0, 1, 2, 3, 4] rfl)
            · have f35 := (ti_eq (a := (i5 154).toInt) (b := 0) rfl (by decide)).mp c35
              refine lv_aload_n hx hb dX8_look_98 rfl (lv_at hl 3 rfl) ?_
              refine xgT_TG_seen hx hb hts (fun _ h => List.mem_cons_of_mem _ (List.mem_append_left _ (List.mem_append_left _ (List.mem_append_left _ (List.mem_append_right _ h))))) hown hK hP (hts (.fieldLink RX8 9 "TalePlay$Sight" "seen" "[Z") (by decide +kernel)) dX8_look_99 ?_
              refine lv_iload hx hb dX8_look_102 (lv_at hl 0 rfl) ?_
              refine xlT_152 hx hb hK hP (vp_in_iff.mpr (by have h9 : y5_4.toInt = y5_4.toInt := rfl; omega)) dX8_look_104 (fun x36 ex36 => ?_)
              have rx36 : 0 ≤ x36.toInt ∧ x36.toInt ≤ 1 := by rw [ex36]; exact hI.2 152 _
              have jn37 : ∀ (H : Heap) (locs : List Loc) (ls : Array Slot), va_P D vwCl (xwT sk a t i5 q5 (updA c5 152 (y5_4 : Int32).toNatClampNeg z31_0) d5) H → va_D A (xwT sk a t i5 q5 (updA c5 152 (y5_4 : Int32).toNatClampNeg z31_0) d5) → va_S A s.heap H locs → lv_has ls 6 [(4, .int y5_4), (3, .int r2), (2, .int r1), (0, .ref (a 151)), (1, .int w)] → W p l e (headSpec wm_X8_look_TG ({ frames := 3, cells := 0, slots := 0, locals := 69 })).room s m ([.ref (a 151), .int w] : List Value).toArray below meth cd H locs 0 0 (MQ below (va_Qv (fun (u : MS) => True ∧ xInv u.1 u.2.2.1 ∧ (∀ k, k ∉ ([154] : List Nat) → u.1 k = i k) ∧ (∀ k, k ∉ ([152, 153] : List Nat) → u.2.2.1 k = c k)) (oC D A (fun u : MS => xwT sk a t u.1 u.2.1 u.2.2.1 u.2.2.2) (fun _ => [])) A) ([.ref (a 151), .int w] : List Value).toArray s 0 0 A) (F0 m 125 ls [.ref (a 151)]) := by
                intro H locs ls hP hD hS hl
                refine lv_iconst (v := 0) hx hb dX8_look_125 (by decide) ?_
                exact jn32  (0 : Int32) (show (0 : Int32).toInt = 0 ∨ (0 : Int32).toInt = 1 from by have h55 : (0 : Int32).toInt = 0 := (by decide); omega) _ _ _ hP hD hS (lv_sub hl [0, 1, 2, 3, 4] rfl)
              refine lv_if_eq (tgt := 125) hx hb dX8_look_105 (by decide) (fun c38 => ?_) (fun c38 => ?_)
              · have f38 := (ti_eq (a := x36.toInt) (b := 0) rfl (by decide)).mp c38
                exact jn37    _ _ _ hP hD hS (lv_sub hl [0, 1, 2, 3, 4] rfl)
              · have f38 := mt (ti_eq (a := x36.toInt) (b := 0) rfl (by decide)).mpr c38
                refine lv_aload_n hx hb dX8_look_108 rfl (lv_at hl 3 rfl) ?_
                refine xgT_TG_scene hx hb hts (fun _ h => List.mem_cons_of_mem _ (List.mem_append_left _ (List.mem_append_left _ (List.mem_append_left _ (List.mem_append_right _ h))))) hown hK hP (hts (.fieldLink RX8 26 "TalePlay$Sight" "scene" "LTalePlay$Scene;") (by decide +kernel)) dX8_look_109 ?_
                refine lv_iload hx hb dX8_look_112 (lv_at hl 0 rfl) ?_
                refine lv_iconst (v := 2) hx hb dX8_look_114 (by decide) ?_
                refine ro_calli (va_runV (As := [.int y5_4, .int 2]) (rest := [.ref (a 151)]) ⟨hx, hb, hml, hown, hts⟩ (x_X6_has_TS l D H.size .null a t i5 q5 (updA c5 152 (y5_4 : Int32).toNatClampNeg z31_0) d5 y5_4 2 hI (show 0 ≤ y5_4.toInt ∧ y5_4.toInt ≤ 29 from by have h91 : (2 : Int32).toInt = 2 := (by decide); omega) (show 0 ≤ 2 ∧ 2 ≤ 5 from by have h91 : (2 : Int32).toInt = 2 := (by decide); omega)) (cwV 2 hts gm_X8_look_TG_X6_has_TS_40 rfl rfl rfl (by decide +kernel) ⟨Nat.le_of_ble_eq_true rfl, Nat.le_of_ble_eq_true rfl⟩) (yA_V hN (xZ_k hZ hS hA) (xkT_P1 hK) (xuT_P1 (sk := sk) hP) (ci := 6) (q0 := 0) rfl rfl) rfl rfl hl.1 rfl (lv_room (Nat.le_of_ble_eq_true rfl)) dX8_look_115 ⟨Nat.le_of_ble_eq_true rfl, Nat.le_of_ble_eq_true rfl⟩) hS hA hP (fun r39 u39 H locs hw39 hP hS => ?_)
                have hw39 : (0 ≤ r39.toInt ∧ r39.toInt ≤ 1) := hw39
                refine lv_if_eq (tgt := 125) hx hb dX8_look_118 (by decide) (fun c40 => ?_) (fun c40 => ?_)
                · have f40 := (ti_eq (a := r39.toInt) (b := 0) rfl (by decide)).mp c40
                  exact jn37    _ _ _ hP hD hS (lv_sub hl [0, 1, 2, 3, 4] rfl)
                · have f40 := mt (ti_eq (a := r39.toInt) (b := 0) rfl (by decide)).mpr c40
                  exact jn34    _ _ _ hP hD hS (lv_sub hl [0, 1, 2, 3, 4] rfl)
          have jn41 : ∀ (H : Heap) (locs : List Loc) (ls : Array Slot), va_P D vwCl (xwT sk a t i5 q5 c5 d5) H → va_D A (xwT sk a t i5 q5 c5 d5) → va_S A s.heap H locs → lv_has ls 6 [(4, .int y5_4), (3, .int r2), (2, .int r1), (0, .ref (a 151)), (1, .int w)] → W p l e (headSpec wm_X8_look_TG ({ frames := 3, cells := 0, slots := 0, locals := 69 })).room s m ([.ref (a 151), .int w] : List Value).toArray below meth cd H locs 0 0 (MQ below (va_Qv (fun (u : MS) => True ∧ xInv u.1 u.2.2.1 ∧ (∀ k, k ∉ ([154] : List Nat) → u.1 k = i k) ∧ (∀ k, k ∉ ([152, 153] : List Nat) → u.2.2.1 k = c k)) (oC D A (fun u : MS => xwT sk a t u.1 u.2.1 u.2.2.1 u.2.2.2) (fun _ => [])) A) ([.ref (a 151), .int w] : List Value).toArray s 0 0 A) (F0 m 84 ls [.int y5_4, .ref (a 152)]) := by
            intro H locs ls hP hD hS hl
            refine lv_iconst (v := 1) hx hb dX8_look_84 (by decide) ?_
            refine lv_goto (tgt := 89) hx hb dX8_look_85 (by decide) ?_
            exact jn31  (1 : Int32) (show (1 : Int32).toInt = 0 ∨ (1 : Int32).toInt = 1 from by have h55 : (1 : Int32).toInt = 1 := (by decide); omega) _ _ _ hP hD hS (lv_sub hl [0, 1, 2, 3, 4] rfl)
          refine lv_icmp_eq (tgt := 84) hx hb dX8_look_70 (by decide) (fun c42 => ?_) (fun c42 => ?_)
          · have f42 := (ti_eq (a := y5_4.toInt) (b := w.toInt) rfl rfl).mp c42
            exact jn41    _ _ _ hP hD hS (lv_sub hl [0, 1, 2, 3, 4] rfl)
          · have f42 := mt (ti_eq (a := y5_4.toInt) (b := w.toInt) rfl rfl).mpr c42
            refine lv_aload_n hx hb dX8_look_73 rfl (lv_at hl 3 rfl) ?_
            refine lv_iload hx hb dX8_look_74 (lv_at hl 0 rfl) ?_
            refine lv_iload_n hx hb dX8_look_76 rfl (lv_at hl 2 rfl) ?_
            refine lv_iconst (v := 0) hx hb dX8_look_77 (by decide) ?_
            refine ro_calli (va_runV (As := [.int y5_4, .int r1, .int 0]) (rest := [.int y5_4, .ref (a 152)]) ⟨hx, hb, hml, hown, hts⟩ (x_X8_isInView_TG l D H.size sk a t i5 q5 c5 d5 y5_4 r1 0 hI (show 0 ≤ y5_4.toInt ∧ y5_4.toInt ≤ 29 from by have h92 : (0 : Int32).toInt = 0 := (by decide); omega)) (cwV 3 hts gm_X8_look_TG_X8_isInView_TG_54 rfl rfl rfl (by decide +kernel) ⟨Nat.le_of_ble_eq_true rfl, Nat.le_of_ble_eq_true rfl⟩) (yA_V hN (xZ_k hZ hS hA) hK hP (ci := 8) (q0 := 39) rfl rfl) rfl rfl hl.1 rfl (lv_room (Nat.le_of_ble_eq_true rfl)) dX8_look_78 ⟨Nat.le_of_ble_eq_true rfl, Nat.le_of_ble_eq_true rfl⟩) hS hA hP (fun r43 u43 H locs hw43 hP hS => ?_)
            have hw43 : (0 ≤ r43.toInt ∧ r43.toInt ≤ 1) := hw43
            refine lv_if_eq (tgt := 88) hx hb dX8_look_81 (by decide) (fun c44 => ?_) (fun c44 => ?_)
            · have f44 := (ti_eq (a := r43.toInt) (b := 0) rfl (by decide)).mp c44
              refine lv_iconst (v := 0) hx hb dX8_look_88 (by decide) ?_
              exact jn31  (0 : Int32) (show (0 : Int32).toInt = 0 ∨ (0 : Int32).toInt = 1 from by have h55 : (0 : Int32).toInt = 0 := (by decide); omega) _ _ _ hP hD hS (lv_sub hl [0, 1, 2, 3, 4] rfl)
            · have f44 := mt (ti_eq (a := r43.toInt) (b := 0) rfl (by decide)).mpr c44
              exact jn41    _ _ _ hP hD hS (lv_sub hl [0, 1, 2, 3, 4] rfl)
    exact lp5 _ (upd i 154 z4_0) q c d (0 : Int32) hI (fr_w hfi (by decide)) (fr_w hfc (by decide)) (show 0 ≤ (0 : Int32).toInt ∧ (0 : Int32).toInt ≤ 30 from by have h50 : (0 : Int32).toInt = 0 := (by decide); omega) (Nat.lt_succ_self _) _ _ _ hP hD hS (lv_sub hl [0, 1, 2, 3, 4] rfl)
  have jn45 : ∀ (H : Heap) (locs : List Loc) (ls : Array Slot), va_P D vwCl (xwT sk a t i q c d) H → va_D A (xwT sk a t i q c d) → va_S A s.heap H locs → lv_has ls 6 [(3, .int r2), (2, .int r1), (0, .ref (a 151)), (1, .int w)] → W p l e (headSpec wm_X8_look_TG ({ frames := 3, cells := 0, slots := 0, locals := 69 })).room s m ([.ref (a 151), .int w] : List Value).toArray below meth cd H locs 0 0 (MQ below (va_Qv (fun (u : MS) => True ∧ xInv u.1 u.2.2.1 ∧ (∀ k, k ∉ ([154] : List Nat) → u.1 k = i k) ∧ (∀ k, k ∉ ([152, 153] : List Nat) → u.2.2.1 k = c k)) (oC D A (fun u : MS => xwT sk a t u.1 u.2.1 u.2.2.1 u.2.2.2) (fun _ => [])) A) ([.ref (a 151), .int w] : List Value).toArray s 0 0 A) (F0 m 42 ls [.ref (a 151)]) := by
    intro H locs ls hP hD hS hl
    refine lv_iconst (v := 0) hx hb dX8_look_42 (by decide) ?_
    exact jn4  (0 : Int32) (show (0 : Int32).toInt = 0 ∨ (0 : Int32).toInt = 1 from by have h54 : (0 : Int32).toInt = 0 := (by decide); omega) _ _ _ hP hD hS (lv_sub hl [0, 1, 2, 3] rfl)
  refine lv_if_ne (tgt := 42) hx hb dX8_look_23 (by decide) (fun c46 => ?_) (fun c46 => ?_)
  · have f46 := mt (ti_eq (a := r3.toInt) (b := 0) rfl (by decide)).mpr c46
    exact jn45    _ _ _ hP hD hS (lv_sub hl [0, 1, 2, 3] rfl)
  · have f46 := (ti_eq (a := r3.toInt) (b := 0) rfl (by decide)).mp c46
    refine lv_aload_n hx hb dX8_look_26 rfl (lv_at hl 2 rfl) ?_
    refine xgT_TG_scene hx hb hts (fun _ h => List.mem_cons_of_mem _ (List.mem_append_left _ (List.mem_append_left _ (List.mem_append_left _ (List.mem_append_right _ h))))) hown hK hP (hts (.fieldLink RX8 26 "TalePlay$Sight" "scene" "LTalePlay$Scene;") (by decide +kernel)) dX8_look_27 ?_
    refine lv_iload_n hx hb dX8_look_30 rfl (lv_at hl 1 rfl) ?_
    refine lv_iconst (v := 2) hx hb dX8_look_31 (by decide) ?_
    refine ro_calli (va_runV (As := [.int r1, .int 2]) (rest := [.ref (a 151)]) ⟨hx, hb, hml, hown, hts⟩ (x_X6_has_TS l D H.size .null a t i q c d r1 2 hI (show 0 ≤ r1.toInt ∧ r1.toInt ≤ 29 from by have h91 : (2 : Int32).toInt = 2 := (by decide); omega) (show 0 ≤ 2 ∧ 2 ≤ 5 from by have h91 : (2 : Int32).toInt = 2 := (by decide); omega)) (cwV 2 hts gm_X8_look_TG_X6_has_TS_40 rfl rfl rfl (by decide +kernel) ⟨Nat.le_of_ble_eq_true rfl, Nat.le_of_ble_eq_true rfl⟩) (yA_V hN (xZ_k hZ hS hA) (xkT_P1 hK) (xuT_P1 (sk := sk) hP) (ci := 6) (q0 := 0) rfl rfl) rfl rfl hl.1 rfl (lv_room (Nat.le_of_ble_eq_true rfl)) dX8_look_32 ⟨Nat.le_of_ble_eq_true rfl, Nat.le_of_ble_eq_true rfl⟩) hS hA hP (fun r47 u47 H locs hw47 hP hS => ?_)
    have hw47 : (0 ≤ r47.toInt ∧ r47.toInt ≤ 1) := hw47
    refine lv_if_eq (tgt := 42) hx hb dX8_look_35 (by decide) (fun c48 => ?_) (fun c48 => ?_)
    · have f48 := (ti_eq (a := r47.toInt) (b := 0) rfl (by decide)).mp c48
      exact jn45    _ _ _ hP hD hS (lv_sub hl [0, 1, 2, 3] rfl)
    · have f48 := mt (ti_eq (a := r47.toInt) (b := 0) rfl (by decide)).mpr c48
      refine lv_iconst (v := 1) hx hb dX8_look_38 (by decide) ?_
      refine lv_goto (tgt := 43) hx hb dX8_look_39 (by decide) ?_
      exact jn4  (1 : Int32) (show (1 : Int32).toInt = 0 ∨ (1 : Int32).toInt = 1 from by have h54 : (1 : Int32).toInt = 1 := (by decide); omega) _ _ _ hP hD hS (lv_sub hl [0, 1, 2, 3] rfl)

def wm_X8_isCover_SG : List Cond := .code yX8_isCover cX8_isCover 3 (some .boolean) :: (([.fieldLink RX8 18 "TalePlay$Sight" "world" "LTalePlay$World;", .methodLink RX8 34 yX10_sortOf, .instanceMethod yX10_sortOf, .selects RX10 yX10_sortOf yX10_sortOf, .initialized RX10, .code yX10_sortOf cX10_sortOf 2 (some .int), .fieldLink RX10 37 "TalePlay$World" "objects" "I", .fieldLink RX10 15 "TalePlay$World" "sorts" "[I", .fieldLink RX10 21 "TalePlay$World" "kindOf" "[I", .fieldLink RX8 26 "TalePlay$Sight" "scene" "LTalePlay$Scene;", .methodLink RX8 40 yX6_has, .instanceMethod yX6_has, .selects RX6 yX6_has yX6_has, .initialized RX6, .code yX6_has cX6_has 3 (some .boolean), .fieldLink RX6 9 "TalePlay$Scene" "cells" "[I"] : List Cond) ++ wsX80 ++ wsX100 ++ wsX60)
set_option maxRecDepth 20000 in
theorem gm_X8_isCover_SG_X10_sortOf_34 : GoodIn wm_X8_isCover_SG (wsV RX8 34 RX10 yX10_sortOf wm_X10_sortOf) := goodIn_app (goodIn_of _ (by decide +kernel)) (goodIn_r _ [6, 7, 8, 9, 23, 24, 25, 26, 27, 28, 29] rfl (by decide +kernel))
set_option maxRecDepth 20000 in
theorem gm_X8_isCover_SG_X6_has_SS_40 : GoodIn wm_X8_isCover_SG (wsV RX8 40 RX6 yX6_has wm_X6_has_SS) := goodIn_app (goodIn_of _ (by decide +kernel)) (goodIn_r _ [15, 16, 30, 31] rfl (by decide +kernel))
set_option maxHeartbeats 4000000 in
set_option maxRecDepth 100000 in
theorem x_X8_isCover_SG (l : Launch) (D : va_G) (sz : Nat) (sk : Value) (a : Nat → Nat) (t : Nat → ClassId) (i : Nat → Int32) (q : Int64) (c : Nat → Nat → Int32) (d : Nat → Nat → Int64) (w : Int32) (b1 : Int32) (hI : xInv i c) : Met l yX8_isCover wm_X8_isCover_SG ({ frames := 1, cells := 0, slots := 0, locals := 22 }) (va_Pc [.ref (a 180), .int w, .int b1] (yA (a 186) D sz (xwS sk a t i q c d) (xtS t))) (va_Qi (fun (r : Int32) (_ : Unit) => (0 ≤ r.toInt ∧ r.toInt ≤ 1)) oA (ro sz)) 0 0 (ro sz) := by
  refine Met.ofW (cc := cX8_isCover) (maxL := 3) (ret := (some .boolean)) (by decide) rfl ?_
  intro p e s m args below meth cd s₁ B hml hv
  obtain ⟨rfl, ⟨hsz, hP, hK⟩, hN, hZ⟩ := hv
  have hx := B.exec
  have hb := B.bytes
  have hr := B.returns
  have hts := atoms_spec (ws := wm_X8_isCover_SG) B.pre
  have hown : s.vm.findClass RX8 = some m.cls := findClass_of_methodNamed B.named
  have hlocks := B.notSynchronized
  subst hsz
  have hA : ∀ q : Nat, s.heap.size ≤ q → ro s.heap.size q := fun _ h => h
  have hS : va_S (ro s.heap.size) s.heap s.heap [] := va_S.rf
  have hl := lv_entry ([.ref (a 180), .int w, .int b1]) (n := 3) (Nat.le_of_ble_eq_true rfl)
  rw [lg_entry_eq]
  generalize (lg_sl ([.ref (a 180), .int w, .int b1]) ++ List.replicate (3 - (lg_sl ([.ref (a 180), .int w, .int b1])).length) Slot.unset).toArray = ls at hl ⊢
  have hl : lv_has ls 3 [(0, .ref (a 180)), (1, .int w), (2, .int b1)] := hl
  refine lv_aload_n hx hb dX8_isCover_0 rfl (lv_at hl 0 rfl) ?_
  refine xgS_SG_world hx hb hts (fun _ h => List.mem_cons_of_mem _ (List.mem_append_left _ (List.mem_append_left _ (List.mem_append_right _ h)))) hown hK hP (hts (.fieldLink RX8 18 "TalePlay$Sight" "world" "LTalePlay$World;") (by decide +kernel)) dX8_isCover_1 ?_
  refine lv_iload_n hx hb dX8_isCover_4 rfl (lv_at hl 1 rfl) ?_
  have rb111_i : 0 ≤ (i 111).toInt ∧ (i 111).toInt ≤ 30 := hI.1 111
  refine ro_calli (va_runV (As := [.int w]) (rest := []) ⟨hx, hb, hml, hown, hts⟩ (x_X10_sortOf l D s.heap.size .null a t i q c d w hI ) (cwV 1 hts gm_X8_isCover_SG_X10_sortOf_34 rfl rfl rfl (by decide +kernel) ⟨Nat.le_of_ble_eq_true rfl, Nat.le_of_ble_eq_true rfl⟩) (yA_V hN (xZ_k hZ hS hA) (xkS_W hK) (xuS_W (sk := sk) hP) (ci := 10) (q0 := 0) rfl rfl) rfl rfl hl.1 rfl (lv_room (Nat.le_of_ble_eq_true rfl)) dX8_isCover_5 ⟨Nat.le_of_ble_eq_true rfl, Nat.le_of_ble_eq_true rfl⟩) hS hA hP (fun r1 u1 H locs hw1 hP hS => ?_)
  have hw1 : ((r1.toInt = -9 ∧ ¬ (0 ≤ w.toInt ∧ w.toInt < (i 111).toInt)) ∨ (0 ≤ r1.toInt ∧ r1.toInt ≤ 5 ∧ 0 ≤ w.toInt ∧ w.toInt < (i 111).toInt)) := hw1
  refine lv_iconst (v := 3) hx hb dX8_isCover_8 (by decide) ?_
  refine lv_icmp_ne (tgt := 44) hx hb dX8_isCover_9 (by decide) (fun c2 => ?_) (fun c2 => ?_)
  · have f2 := mt (ti_eq (a := r1.toInt) (b := 3) rfl (by decide)).mpr c2
    refine lv_iconst (v := 0) hx hb dX8_isCover_44 (by decide) ?_
    exact ro_zret hx hb hr hlocks hS rfl dX8_isCover_45 (show 0 ≤ (0 : Int32).toInt ∧ (0 : Int32).toInt ≤ 1 from by have h9 : (0 : Int32).toInt = 0 := (by decide); omega)
  · have f2 := (ti_eq (a := r1.toInt) (b := 3) rfl (by decide)).mp c2
    refine lv_aload_n hx hb dX8_isCover_12 rfl (lv_at hl 0 rfl) ?_
    refine xgS_SG_scene hx hb hts (fun _ h => List.mem_cons_of_mem _ (List.mem_append_left _ (List.mem_append_left _ (List.mem_append_right _ h)))) hown hK hP (hts (.fieldLink RX8 26 "TalePlay$Sight" "scene" "LTalePlay$Scene;") (by decide +kernel)) dX8_isCover_13 ?_
    refine lv_iload_n hx hb dX8_isCover_16 rfl (lv_at hl 1 rfl) ?_
    refine lv_iconst (v := 0) hx hb dX8_isCover_17 (by decide) ?_
    refine ro_calli (va_runV (As := [.int w, .int 0]) (rest := []) ⟨hx, hb, hml, hown, hts⟩ (x_X6_has_SS l D H.size .null a t i q c d w 0 hI (show 0 ≤ w.toInt ∧ w.toInt ≤ 29 from by have h91 : (0 : Int32).toInt = 0 := (by decide); omega) (show 0 ≤ 0 ∧ 0 ≤ 5 from by have h91 : (0 : Int32).toInt = 0 := (by decide); omega)) (cwV 2 hts gm_X8_isCover_SG_X6_has_SS_40 rfl rfl rfl (by decide +kernel) ⟨Nat.le_of_ble_eq_true rfl, Nat.le_of_ble_eq_true rfl⟩) (yA_V hN (xZ_k hZ hS hA) (xkS_P2 hK) (xuS_P2 (sk := sk) hP) (ci := 6) (q0 := 0) rfl rfl) rfl rfl hl.1 rfl (lv_room (Nat.le_of_ble_eq_true rfl)) dX8_isCover_18 ⟨Nat.le_of_ble_eq_true rfl, Nat.le_of_ble_eq_true rfl⟩) hS hA hP (fun r3 u3 H locs hw3 hP hS => ?_)
    have hw3 : (0 ≤ r3.toInt ∧ r3.toInt ≤ 1) := hw3
    refine lv_if_ne (tgt := 44) hx hb dX8_isCover_21 (by decide) (fun c4 => ?_) (fun c4 => ?_)
    · have f4 := mt (ti_eq (a := r3.toInt) (b := 0) rfl (by decide)).mpr c4
      refine lv_iconst (v := 0) hx hb dX8_isCover_44 (by decide) ?_
      exact ro_zret hx hb hr hlocks hS rfl dX8_isCover_45 (show 0 ≤ (0 : Int32).toInt ∧ (0 : Int32).toInt ≤ 1 from by have h9 : (0 : Int32).toInt = 0 := (by decide); omega)
    · have f4 := (ti_eq (a := r3.toInt) (b := 0) rfl (by decide)).mp c4
      refine lv_iload_n hx hb dX8_isCover_24 rfl (lv_at hl 2 rfl) ?_
      refine lv_if_ne (tgt := 40) hx hb dX8_isCover_25 (by decide) (fun c5 => ?_) (fun c5 => ?_)
      · have f5 := mt (ti_eq (a := b1.toInt) (b := 0) rfl (by decide)).mpr c5
        refine lv_iconst (v := 1) hx hb dX8_isCover_40 (by decide) ?_
        refine lv_goto (tgt := 45) hx hb dX8_isCover_41 (by decide) ?_
        exact ro_zret hx hb hr hlocks hS rfl dX8_isCover_45 (show 0 ≤ (1 : Int32).toInt ∧ (1 : Int32).toInt ≤ 1 from by have h9 : (1 : Int32).toInt = 1 := (by decide); omega)
      · have f5 := (ti_eq (a := b1.toInt) (b := 0) rfl (by decide)).mp c5
        refine lv_aload_n hx hb dX8_isCover_28 rfl (lv_at hl 0 rfl) ?_
        refine xgS_SG_scene hx hb hts (fun _ h => List.mem_cons_of_mem _ (List.mem_append_left _ (List.mem_append_left _ (List.mem_append_right _ h)))) hown hK hP (hts (.fieldLink RX8 26 "TalePlay$Sight" "scene" "LTalePlay$Scene;") (by decide +kernel)) dX8_isCover_29 ?_
        refine lv_iload_n hx hb dX8_isCover_32 rfl (lv_at hl 1 rfl) ?_
        refine lv_iconst (v := 5) hx hb dX8_isCover_33 (by decide) ?_
        refine ro_calli (va_runV (As := [.int w, .int 5]) (rest := []) ⟨hx, hb, hml, hown, hts⟩ (x_X6_has_SS l D H.size .null a t i q c d w 5 hI (show 0 ≤ w.toInt ∧ w.toInt ≤ 29 from by have h91 : (5 : Int32).toInt = 5 := (by decide); omega) (show 0 ≤ 5 ∧ 5 ≤ 5 from by have h91 : (5 : Int32).toInt = 5 := (by decide); omega)) (cwV 2 hts gm_X8_isCover_SG_X6_has_SS_40 rfl rfl rfl (by decide +kernel) ⟨Nat.le_of_ble_eq_true rfl, Nat.le_of_ble_eq_true rfl⟩) (yA_V hN (xZ_k hZ hS hA) (xkS_P2 hK) (xuS_P2 (sk := sk) hP) (ci := 6) (q0 := 0) rfl rfl) rfl rfl hl.1 rfl (lv_room (Nat.le_of_ble_eq_true rfl)) dX8_isCover_34 ⟨Nat.le_of_ble_eq_true rfl, Nat.le_of_ble_eq_true rfl⟩) hS hA hP (fun r6 u6 H locs hw6 hP hS => ?_)
        have hw6 : (0 ≤ r6.toInt ∧ r6.toInt ≤ 1) := hw6
        refine lv_if_ne (tgt := 44) hx hb dX8_isCover_37 (by decide) (fun c7 => ?_) (fun c7 => ?_)
        · have f7 := mt (ti_eq (a := r6.toInt) (b := 0) rfl (by decide)).mpr c7
          refine lv_iconst (v := 0) hx hb dX8_isCover_44 (by decide) ?_
          exact ro_zret hx hb hr hlocks hS rfl dX8_isCover_45 (show 0 ≤ (0 : Int32).toInt ∧ (0 : Int32).toInt ≤ 1 from by have h9 : (0 : Int32).toInt = 0 := (by decide); omega)
        · have f7 := (ti_eq (a := r6.toInt) (b := 0) rfl (by decide)).mp c7
          refine lv_iconst (v := 1) hx hb dX8_isCover_40 (by decide) ?_
          refine lv_goto (tgt := 45) hx hb dX8_isCover_41 (by decide) ?_
          exact ro_zret hx hb hr hlocks hS rfl dX8_isCover_45 (show 0 ≤ (1 : Int32).toInt ∧ (1 : Int32).toInt ≤ 1 from by have h9 : (1 : Int32).toInt = 1 := (by decide); omega)

def wm_X8_shellOf_SG : List Cond := .code yX8_shellOf cX8_shellOf 5 (some .int) :: (([.fieldLink RX8 26 "TalePlay$Sight" "scene" "LTalePlay$Scene;", .methodLink RX8 62 yX6_holderOf, .instanceMethod yX6_holderOf, .selects RX6 yX6_holderOf yX6_holderOf, .initialized RX6, .code yX6_holderOf cX6_holderOf 3 (some .int), .fieldLink RX6 9 "TalePlay$Scene" "cells" "[I", .fieldLink RX8 18 "TalePlay$Sight" "world" "LTalePlay$World;", .methodLink RX8 34 yX10_sortOf, .instanceMethod yX10_sortOf, .selects RX10 yX10_sortOf yX10_sortOf, .initialized RX10, .code yX10_sortOf cX10_sortOf 2 (some .int), .fieldLink RX10 37 "TalePlay$World" "objects" "I", .fieldLink RX10 15 "TalePlay$World" "sorts" "[I", .fieldLink RX10 21 "TalePlay$World" "kindOf" "[I", .methodLink RX8 65 yX8_isCover, .instanceMethod yX8_isCover, .selects RX8 yX8_isCover yX8_isCover, .initialized RX8, .code yX8_isCover cX8_isCover 3 (some .boolean), .methodLink RX8 40 yX6_has, .instanceMethod yX6_has, .selects RX6 yX6_has yX6_has, .code yX6_has cX6_has 3 (some .boolean)] : List Cond) ++ wsX80 ++ wsX60 ++ wsX100)
set_option maxRecDepth 20000 in
theorem gm_X8_shellOf_SG_X6_holderOf_SS_62 : GoodIn wm_X8_shellOf_SG (wsV RX8 62 RX6 yX6_holderOf wm_X6_holderOf_SS) := goodIn_app (goodIn_of _ (by decide +kernel)) (goodIn_r _ [6, 7, 32, 33] rfl (by decide +kernel))
set_option maxRecDepth 20000 in
theorem gm_X8_shellOf_SG_X10_sortOf_34 : GoodIn wm_X8_shellOf_SG (wsV RX8 34 RX10 yX10_sortOf wm_X10_sortOf) := goodIn_app (goodIn_of _ (by decide +kernel)) (goodIn_r _ [13, 14, 15, 16, 34, 35, 36, 37, 38, 39, 40] rfl (by decide +kernel))
set_option maxRecDepth 20000 in
theorem gm_X8_shellOf_SG_X8_isCover_SG_65 : GoodIn wm_X8_shellOf_SG (wsV RX8 65 RX8 yX8_isCover wm_X8_isCover_SG) := goodIn_app (goodIn_of _ (by decide +kernel)) (goodIn_r _ [21, 8, 9, 10, 11, 12, 13, 14, 15, 16, 1, 22, 23, 24, 5, 25, 7, 26, 27, 28, 29, 30, 31, 34, 35, 36, 37, 38, 39, 40, 32, 33] rfl (by decide +kernel))
set_option maxHeartbeats 4000000 in
set_option maxRecDepth 100000 in
theorem x_X8_shellOf_SG (l : Launch) (D : va_G) (sz : Nat) (sk : Value) (a : Nat → Nat) (t : Nat → ClassId) (i : Nat → Int32) (q : Int64) (c : Nat → Nat → Int32) (d : Nat → Nat → Int64) (w : Int32) (b1 : Int32) (hI : xInv i c) (hw : 0 ≤ w.toInt ∧ w.toInt ≤ 29) : Met l yX8_shellOf wm_X8_shellOf_SG ({ frames := 2, cells := 0, slots := 0, locals := 44 }) (va_Pc [.ref (a 180), .int w, .int b1] (yA (a 186) D sz (xwS sk a t i q c d) (xtS t))) (va_Qi (fun (r : Int32) (_ : Unit) => (r.toInt = -9 ∨ (0 ≤ r.toInt ∧ r.toInt ≤ 29))) oA (ro sz)) 0 0 (ro sz) := by
  refine Met.ofW (cc := cX8_shellOf) (maxL := 5) (ret := (some .int)) (by decide) rfl ?_
  intro p e s m args below meth cd s₁ B hml hv
  obtain ⟨rfl, ⟨hsz, hP, hK⟩, hN, hZ⟩ := hv
  have hx := B.exec
  have hb := B.bytes
  have hr := B.returns
  have hts := atoms_spec (ws := wm_X8_shellOf_SG) B.pre
  have hown : s.vm.findClass RX8 = some m.cls := findClass_of_methodNamed B.named
  have hlocks := B.notSynchronized
  subst hsz
  have hA : ∀ q : Nat, s.heap.size ≤ q → ro s.heap.size q := fun _ h => h
  have hS : va_S (ro s.heap.size) s.heap s.heap [] := va_S.rf
  have hl := lv_entry ([.ref (a 180), .int w, .int b1]) (n := 5) (Nat.le_of_ble_eq_true rfl)
  rw [lg_entry_eq]
  generalize (lg_sl ([.ref (a 180), .int w, .int b1]) ++ List.replicate (5 - (lg_sl ([.ref (a 180), .int w, .int b1])).length) Slot.unset).toArray = ls at hl ⊢
  have hl : lv_has ls 5 [(0, .ref (a 180)), (1, .int w), (2, .int b1)] := hl
  refine lv_aload_n hx hb dX8_shellOf_0 rfl (lv_at hl 0 rfl) ?_
  refine xgS_SG_scene hx hb hts (fun _ h => List.mem_cons_of_mem _ (List.mem_append_left _ (List.mem_append_left _ (List.mem_append_right _ h)))) hown hK hP (hts (.fieldLink RX8 26 "TalePlay$Sight" "scene" "LTalePlay$Scene;") (by decide +kernel)) dX8_shellOf_1 ?_
  refine lv_iload_n hx hb dX8_shellOf_4 rfl (lv_at hl 1 rfl) ?_
  refine ro_calli (va_runV (As := [.int w]) (rest := []) ⟨hx, hb, hml, hown, hts⟩ (x_X6_holderOf_SS l D s.heap.size .null a t i q c d w hI (show 0 ≤ w.toInt ∧ w.toInt ≤ 29 from by omega)) (cwV 1 hts gm_X8_shellOf_SG_X6_holderOf_SS_62 rfl rfl rfl (by decide +kernel) ⟨Nat.le_of_ble_eq_true rfl, Nat.le_of_ble_eq_true rfl⟩) (yA_V hN (xZ_k hZ hS hA) (xkS_P2 hK) (xuS_P2 (sk := sk) hP) (ci := 6) (q0 := 0) rfl rfl) rfl rfl hl.1 rfl (lv_room (Nat.le_of_ble_eq_true rfl)) dX8_shellOf_5 ⟨Nat.le_of_ble_eq_true rfl, Nat.le_of_ble_eq_true rfl⟩) hS hA hP (fun r1 u1 H locs hw1 hP hS => ?_)
  have hw1 : ((r1.toInt = -9 ∧ (c 179 w.toNatClampNeg).toInt % 256 = 255) ∨ (0 ≤ r1.toInt ∧ r1.toInt ≤ 29 ∧ ¬ (c 179 w.toNatClampNeg).toInt % 256 = 255 ∧ r1.toInt = (c 179 w.toNatClampNeg).toInt / 8 % 32)) := hw1
  refine lv_istore_n (lv' := [(3, .int r1), (0, .ref (a 180)), (1, .int w), (2, .int b1)]) hx hb dX8_shellOf_8 rfl hl (by decide) rfl (fun ls hl => ?_)
  refine lv_iconst (v := 0) hx hb dX8_shellOf_9 (by decide) ?_
  refine lv_istore (lv' := [(4, .int 0), (3, .int r1), (0, .ref (a 180)), (1, .int w), (2, .int b1)]) hx hb dX8_shellOf_10 hl (by decide) rfl (fun ls hl => ?_)
  have lp2 : ∀ (fu : Nat) (y2_4 : Int32) (y2_3 : Int32), (0 ≤ y2_4.toInt ∧ y2_4.toInt ≤ 30) → (y2_3.toInt = -9 ∨ (0 ≤ y2_3.toInt ∧ y2_3.toInt ≤ 29)) → (30 - y2_4.toInt).toNat < fu → ∀ (H : Heap) (locs : List Loc) (ls : Array Slot), va_P D vwCl (xwS sk a t i q c d) H → va_S (ro s.heap.size) s.heap H locs → lv_has ls 5 [(4, .int y2_4), (3, .int y2_3), (0, .ref (a 180)), (1, .int w), (2, .int b1)] → W p l e (headSpec wm_X8_shellOf_SG ({ frames := 2, cells := 0, slots := 0, locals := 44 })).room s m ([.ref (a 180), .int w, .int b1] : List Value).toArray below meth cd H locs 0 0 (MQ below (va_Qi (fun (r : Int32) (_ : Unit) => (r.toInt = -9 ∨ (0 ≤ r.toInt ∧ r.toInt ≤ 29))) oA (ro s.heap.size)) ([.ref (a 180), .int w, .int b1] : List Value).toArray s 0 0 (ro s.heap.size)) (F0 m 12 ls []) := by
    intro fu
    induction fu with
    | zero => intro y2_4 y2_3 hy2_4 hy2_3 hm; exact absurd hm (Nat.not_lt_zero _)
    | succ fu ih =>
      intro y2_4 y2_3 hy2_4 hy2_3 hm H locs ls hP hS hl
      have ih2 := ih
      refine lv_iload hx hb dX8_shellOf_12 (lv_at hl 0 rfl) ?_
      refine lv_bipush (v := 30) hx hb dX8_shellOf_14 (by decide) ?_
      refine lv_icmp_ge (tgt := 62) hx hb dX8_shellOf_16 (by decide) (fun c3 => ?_) (fun c3 => ?_)
      · have f3 := (ti_le (a := 30) (b := y2_4.toInt) (by decide) rfl).mp c3
        refine lv_bipush (v := (-9)) hx hb dX8_shellOf_62 (by decide) ?_
        exact ro_iret hx hb hr hlocks hS dX8_shellOf_64 (show ((-9) : Int32).toInt = -9 ∨ (0 ≤ ((-9) : Int32).toInt ∧ ((-9) : Int32).toInt ≤ 29) from by have h9 : ((-9) : Int32).toInt = -9 := (by decide); omega)
      · have f3 := mt (ti_le (a := 30) (b := y2_4.toInt) (by decide) rfl).mpr c3
        refine lv_iload_n hx hb dX8_shellOf_19 rfl (lv_at hl 1 rfl) ?_
        refine lv_bipush (v := (-9)) hx hb dX8_shellOf_20 (by decide) ?_
        refine lv_icmp_eq (tgt := 62) hx hb dX8_shellOf_22 (by decide) (fun c4 => ?_) (fun c4 => ?_)
        · have f4 := (ti_eq (a := y2_3.toInt) (b := (-9)) rfl (by decide)).mp c4
          refine lv_bipush (v := (-9)) hx hb dX8_shellOf_62 (by decide) ?_
          exact ro_iret hx hb hr hlocks hS dX8_shellOf_64 (show ((-9) : Int32).toInt = -9 ∨ (0 ≤ ((-9) : Int32).toInt ∧ ((-9) : Int32).toInt ≤ 29) from by have h9 : ((-9) : Int32).toInt = -9 := (by decide); omega)
        · have f4 := mt (ti_eq (a := y2_3.toInt) (b := (-9)) rfl (by decide)).mpr c4
          refine lv_aload_n hx hb dX8_shellOf_25 rfl (lv_at hl 2 rfl) ?_
          refine xgS_SG_world hx hb hts (fun _ h => List.mem_cons_of_mem _ (List.mem_append_left _ (List.mem_append_left _ (List.mem_append_right _ h)))) hown hK hP (hts (.fieldLink RX8 18 "TalePlay$Sight" "world" "LTalePlay$World;") (by decide +kernel)) dX8_shellOf_26 ?_
          refine lv_iload_n hx hb dX8_shellOf_29 rfl (lv_at hl 1 rfl) ?_
          have rb111_i : 0 ≤ (i 111).toInt ∧ (i 111).toInt ≤ 30 := hI.1 111
          refine ro_calli (va_runV (As := [.int y2_3]) (rest := []) ⟨hx, hb, hml, hown, hts⟩ (x_X10_sortOf l D H.size .null a t i q c d y2_3 hI ) (cwV 1 hts gm_X8_shellOf_SG_X10_sortOf_34 rfl rfl rfl (by decide +kernel) ⟨Nat.le_of_ble_eq_true rfl, Nat.le_of_ble_eq_true rfl⟩) (yA_V hN (xZ_k hZ hS hA) (xkS_W hK) (xuS_W (sk := sk) hP) (ci := 10) (q0 := 0) rfl rfl) rfl rfl hl.1 rfl (lv_room (Nat.le_of_ble_eq_true rfl)) dX8_shellOf_30 ⟨Nat.le_of_ble_eq_true rfl, Nat.le_of_ble_eq_true rfl⟩) hS hA hP (fun r5 u5 H locs hw5 hP hS => ?_)
          have hw5 : ((r5.toInt = -9 ∧ ¬ (0 ≤ y2_3.toInt ∧ y2_3.toInt < (i 111).toInt)) ∨ (0 ≤ r5.toInt ∧ r5.toInt ≤ 5 ∧ 0 ≤ y2_3.toInt ∧ y2_3.toInt < (i 111).toInt)) := hw5
          refine lv_if_eq (tgt := 45) hx hb dX8_shellOf_33 (by decide) (fun c6 => ?_) (fun c6 => ?_)
          · have f6 := (ti_eq (a := r5.toInt) (b := 0) rfl (by decide)).mp c6
            refine lv_iload_n hx hb dX8_shellOf_45 rfl (lv_at hl 1 rfl) ?_
            exact ro_iret hx hb hr hlocks hS dX8_shellOf_46 (show y2_3.toInt = -9 ∨ (0 ≤ y2_3.toInt ∧ y2_3.toInt ≤ 29) from by omega)
          · have f6 := mt (ti_eq (a := r5.toInt) (b := 0) rfl (by decide)).mpr c6
            refine lv_aload_n hx hb dX8_shellOf_36 rfl (lv_at hl 2 rfl) ?_
            refine lv_iload_n hx hb dX8_shellOf_37 rfl (lv_at hl 1 rfl) ?_
            refine lv_iload_n hx hb dX8_shellOf_38 rfl (lv_at hl 4 rfl) ?_
            refine ro_calli (va_runV (As := [.int y2_3, .int b1]) (rest := []) ⟨hx, hb, hml, hown, hts⟩ (x_X8_isCover_SG l D H.size .null a t i q c d y2_3 b1 hI ) (cwV 2 hts gm_X8_shellOf_SG_X8_isCover_SG_65 rfl rfl rfl (by decide +kernel) ⟨Nat.le_of_ble_eq_true rfl, Nat.le_of_ble_eq_true rfl⟩) (yA_V hN (xZ_k hZ hS hA) hK hP (ci := 8) (q0 := 40) rfl rfl) rfl rfl hl.1 rfl (lv_room (Nat.le_of_ble_eq_true rfl)) dX8_shellOf_39 ⟨Nat.le_of_ble_eq_true rfl, Nat.le_of_ble_eq_true rfl⟩) hS hA hP (fun r7 u7 H locs hw7 hP hS => ?_)
            have hw7 : (0 ≤ r7.toInt ∧ r7.toInt ≤ 1) := hw7
            refine lv_if_eq (tgt := 47) hx hb dX8_shellOf_42 (by decide) (fun c8 => ?_) (fun c8 => ?_)
            · have f8 := (ti_eq (a := r7.toInt) (b := 0) rfl (by decide)).mp c8
              refine lv_aload_n hx hb dX8_shellOf_47 rfl (lv_at hl 2 rfl) ?_
              refine xgS_SG_scene hx hb hts (fun _ h => List.mem_cons_of_mem _ (List.mem_append_left _ (List.mem_append_left _ (List.mem_append_right _ h)))) hown hK hP (hts (.fieldLink RX8 26 "TalePlay$Sight" "scene" "LTalePlay$Scene;") (by decide +kernel)) dX8_shellOf_48 ?_
              refine lv_iload_n hx hb dX8_shellOf_51 rfl (lv_at hl 1 rfl) ?_
              refine ro_calli (va_runV (As := [.int y2_3]) (rest := []) ⟨hx, hb, hml, hown, hts⟩ (x_X6_holderOf_SS l D H.size .null a t i q c d y2_3 hI (show 0 ≤ y2_3.toInt ∧ y2_3.toInt ≤ 29 from by omega)) (cwV 1 hts gm_X8_shellOf_SG_X6_holderOf_SS_62 rfl rfl rfl (by decide +kernel) ⟨Nat.le_of_ble_eq_true rfl, Nat.le_of_ble_eq_true rfl⟩) (yA_V hN (xZ_k hZ hS hA) (xkS_P2 hK) (xuS_P2 (sk := sk) hP) (ci := 6) (q0 := 0) rfl rfl) rfl rfl hl.1 rfl (lv_room (Nat.le_of_ble_eq_true rfl)) dX8_shellOf_52 ⟨Nat.le_of_ble_eq_true rfl, Nat.le_of_ble_eq_true rfl⟩) hS hA hP (fun r9 u9 H locs hw9 hP hS => ?_)
              have hw9 : ((r9.toInt = -9 ∧ (c 179 y2_3.toNatClampNeg).toInt % 256 = 255) ∨ (0 ≤ r9.toInt ∧ r9.toInt ≤ 29 ∧ ¬ (c 179 y2_3.toNatClampNeg).toInt % 256 = 255 ∧ r9.toInt = (c 179 y2_3.toNatClampNeg).toInt / 8 % 32)) := hw9
              refine lv_istore_n (lv' := [(3, .int r9), (4, .int y2_4), (0, .ref (a 180)), (1, .int w), (2, .int b1)]) hx hb dX8_shellOf_55 rfl hl (by decide) rfl (fun ls hl => ?_)
              obtain ⟨x10, ex10⟩ : ∃ y : Int32, y = y2_4 + 1 := ⟨_, rfl⟩
              have tx10 := ti_add (a := y2_4.toInt) (b := 1) ex10 rfl (by decide) (by omega) (by omega)
              refine lv_iinc (v := x10) (lv' := [(4, .int x10), (3, .int r9), (0, .ref (a 180)), (1, .int w), (2, .int b1)]) hx hb dX8_shellOf_56 hl (k := 1) rfl (by rw [ex10]; rfl) (by decide) rfl (fun ls hl => ?_)
              refine lv_goto (tgt := 12) hx hb dX8_shellOf_59 (by decide) ?_
              exact ih2 x10 r9 (show 0 ≤ x10.toInt ∧ x10.toInt ≤ 30 from by have h50 : x10.toInt = (y2_4.toInt + 1) := tx10; omega) (show r9.toInt = -9 ∨ (0 ≤ r9.toInt ∧ r9.toInt ≤ 29) from by have h50 : x10.toInt = (y2_4.toInt + 1) := tx10; omega) (by have h50 : x10.toInt = (y2_4.toInt + 1) := tx10; omega) _ _ _ hP hS (lv_sub hl [0, 1, 2, 3, 4] rfl)
            · have f8 := mt (ti_eq (a := r7.toInt) (b := 0) rfl (by decide)).mpr c8
              refine lv_iload_n hx hb dX8_shellOf_45 rfl (lv_at hl 1 rfl) ?_
              exact ro_iret hx hb hr hlocks hS dX8_shellOf_46 (show y2_3.toInt = -9 ∨ (0 ≤ y2_3.toInt ∧ y2_3.toInt ≤ 29) from by omega)
  exact lp2 _ (0 : Int32) r1 (show 0 ≤ (0 : Int32).toInt ∧ (0 : Int32).toInt ≤ 30 from by have h50 : (0 : Int32).toInt = 0 := (by decide); omega) (show r1.toInt = -9 ∨ (0 ≤ r1.toInt ∧ r1.toInt ≤ 29) from by have h50 : (0 : Int32).toInt = 0 := (by decide); omega) (Nat.lt_succ_self _) _ _ _ hP hS (lv_sub hl [0, 1, 2, 3, 4] rfl)

def wm_X8_isInView_SG : List Cond := .code yX8_isInView cX8_isInView 6 (some .boolean) :: (([.fieldLink RX8 18 "TalePlay$Sight" "world" "LTalePlay$World;", .methodLink RX8 34 yX10_sortOf, .instanceMethod yX10_sortOf, .selects RX10 yX10_sortOf yX10_sortOf, .initialized RX10, .code yX10_sortOf cX10_sortOf 2 (some .int), .fieldLink RX10 37 "TalePlay$World" "objects" "I", .fieldLink RX10 15 "TalePlay$World" "sorts" "[I", .fieldLink RX10 21 "TalePlay$World" "kindOf" "[I", .fieldLink RX8 26 "TalePlay$Sight" "scene" "LTalePlay$Scene;", .methodLink RX8 62 yX6_holderOf, .instanceMethod yX6_holderOf, .selects RX6 yX6_holderOf yX6_holderOf, .initialized RX6, .code yX6_holderOf cX6_holderOf 3 (some .int), .fieldLink RX6 9 "TalePlay$Scene" "cells" "[I", .methodLink RX8 65 yX8_isCover, .instanceMethod yX8_isCover, .selects RX8 yX8_isCover yX8_isCover, .initialized RX8, .code yX8_isCover cX8_isCover 3 (some .boolean), .methodLink RX8 40 yX6_has, .instanceMethod yX6_has, .selects RX6 yX6_has yX6_has, .code yX6_has cX6_has 3 (some .boolean), .fieldLink RX8 22 "TalePlay$Sight" "roads" "LTalePlay$Roads;", .methodLink RX8 69 yX5_isSide, .instanceMethod yX5_isSide, .selects RX5 yX5_isSide yX5_isSide, .initialized RX5, .code yX5_isSide cX5_isSide 3 (some .boolean), .fieldLink RX5 24 "TalePlay$Roads" "firstSides" "[I", .fieldLink RX5 27 "TalePlay$Roads" "secondSides" "[I"] : List Cond) ++ wsX80 ++ wsX100 ++ wsX60 ++ wsX50)
set_option maxRecDepth 20000 in
theorem gm_X8_isInView_SG_X10_sortOf_34 : GoodIn wm_X8_isInView_SG (wsV RX8 34 RX10 yX10_sortOf wm_X10_sortOf) := goodIn_app (goodIn_of _ (by decide +kernel)) (goodIn_r _ [6, 7, 8, 9, 40, 41, 42, 43, 44, 45, 46] rfl (by decide +kernel))
set_option maxRecDepth 20000 in
theorem gm_X8_isInView_SG_X6_holderOf_SS_62 : GoodIn wm_X8_isInView_SG (wsV RX8 62 RX6 yX6_holderOf wm_X6_holderOf_SS) := goodIn_app (goodIn_of _ (by decide +kernel)) (goodIn_r _ [15, 16, 47, 48] rfl (by decide +kernel))
set_option maxRecDepth 20000 in
theorem gm_X8_isInView_SG_X8_isCover_SG_65 : GoodIn wm_X8_isInView_SG (wsV RX8 65 RX8 yX8_isCover wm_X8_isCover_SG) := goodIn_app (goodIn_of _ (by decide +kernel)) (goodIn_r _ [21, 1, 2, 3, 4, 5, 6, 7, 8, 9, 10, 22, 23, 24, 14, 25, 16, 34, 35, 36, 37, 38, 39, 40, 41, 42, 43, 44, 45, 46, 47, 48] rfl (by decide +kernel))
set_option maxRecDepth 20000 in
theorem gm_X8_isInView_SG_X5_isSide_69 : GoodIn wm_X8_isInView_SG (wsV RX8 69 RX5 yX5_isSide wm_X5_isSide) := goodIn_app (goodIn_of _ (by decide +kernel)) (goodIn_r _ [31, 32, 33, 49, 50, 51, 52, 53, 54, 55, 56, 57, 58, 59] rfl (by decide +kernel))
set_option maxHeartbeats 4000000 in
set_option maxRecDepth 100000 in
theorem x_X8_isInView_SG (l : Launch) (D : va_G) (sz : Nat) (sk : Value) (a : Nat → Nat) (t : Nat → ClassId) (i : Nat → Int32) (q : Int64) (c : Nat → Nat → Int32) (d : Nat → Nat → Int64) (w : Int32) (s1 : Int32) (b1 : Int32) (hI : xInv i c) (hw : 0 ≤ w.toInt ∧ w.toInt ≤ 29) : Met l yX8_isInView wm_X8_isInView_SG ({ frames := 2, cells := 0, slots := 0, locals := 44 }) (va_Pc [.ref (a 180), .int w, .int s1, .int b1] (yA (a 186) D sz (xwS sk a t i q c d) (xtS t))) (va_Qi (fun (r : Int32) (_ : Unit) => (0 ≤ r.toInt ∧ r.toInt ≤ 1)) oA (ro sz)) 0 0 (ro sz) := by
  refine Met.ofW (cc := cX8_isInView) (maxL := 6) (ret := (some .boolean)) (by decide) rfl ?_
  intro p e s m args below meth cd s₁ B hml hv
  obtain ⟨rfl, ⟨hsz, hP, hK⟩, hN, hZ⟩ := hv
  have hx := B.exec
  have hb := B.bytes
  have hr := B.returns
  have hts := atoms_spec (ws := wm_X8_isInView_SG) B.pre
  have hown : s.vm.findClass RX8 = some m.cls := findClass_of_methodNamed B.named
  have hlocks := B.notSynchronized
  subst hsz
  have hA : ∀ q : Nat, s.heap.size ≤ q → ro s.heap.size q := fun _ h => h
  have hS : va_S (ro s.heap.size) s.heap s.heap [] := va_S.rf
  have hl := lv_entry ([.ref (a 180), .int w, .int s1, .int b1]) (n := 6) (Nat.le_of_ble_eq_true rfl)
  rw [lg_entry_eq]
  generalize (lg_sl ([.ref (a 180), .int w, .int s1, .int b1]) ++ List.replicate (6 - (lg_sl ([.ref (a 180), .int w, .int s1, .int b1])).length) Slot.unset).toArray = ls at hl ⊢
  have hl : lv_has ls 6 [(0, .ref (a 180)), (1, .int w), (2, .int s1), (3, .int b1)] := hl
  refine lv_iload_n hx hb dX8_isInView_0 rfl (lv_at hl 1 rfl) ?_
  refine lv_iload_n hx hb dX8_isInView_1 rfl (lv_at hl 2 rfl) ?_
  refine lv_icmp_ne (tgt := 23) hx hb dX8_isInView_2 (by decide) (fun c1 => ?_) (fun c1 => ?_)
  · have f1 := mt (ti_eq (a := w.toInt) (b := s1.toInt) rfl rfl).mpr c1
    refine lv_aload_n hx hb dX8_isInView_23 rfl (lv_at hl 0 rfl) ?_
    refine xgS_SG_world hx hb hts (fun _ h => List.mem_cons_of_mem _ (List.mem_append_left _ (List.mem_append_left _ (List.mem_append_left _ (List.mem_append_right _ h))))) hown hK hP (hts (.fieldLink RX8 18 "TalePlay$Sight" "world" "LTalePlay$World;") (by decide +kernel)) dX8_isInView_24 ?_
    refine lv_iload_n hx hb dX8_isInView_27 rfl (lv_at hl 1 rfl) ?_
    have rb111_i : 0 ≤ (i 111).toInt ∧ (i 111).toInt ≤ 30 := hI.1 111
    refine ro_calli (va_runV (As := [.int w]) (rest := []) ⟨hx, hb, hml, hown, hts⟩ (x_X10_sortOf l D s.heap.size .null a t i q c d w hI ) (cwV 1 hts gm_X8_isInView_SG_X10_sortOf_34 rfl rfl rfl (by decide +kernel) ⟨Nat.le_of_ble_eq_true rfl, Nat.le_of_ble_eq_true rfl⟩) (yA_V hN (xZ_k hZ hS hA) (xkS_W hK) (xuS_W (sk := sk) hP) (ci := 10) (q0 := 0) rfl rfl) rfl rfl hl.1 rfl (lv_room (Nat.le_of_ble_eq_true rfl)) dX8_isInView_28 ⟨Nat.le_of_ble_eq_true rfl, Nat.le_of_ble_eq_true rfl⟩) hS hA hP (fun r2 u2 H locs hw2 hP hS => ?_)
    have hw2 : ((r2.toInt = -9 ∧ ¬ (0 ≤ w.toInt ∧ w.toInt < (i 111).toInt)) ∨ (0 ≤ r2.toInt ∧ r2.toInt ≤ 5 ∧ 0 ≤ w.toInt ∧ w.toInt < (i 111).toInt)) := hw2
    refine lv_iconst (v := 2) hx hb dX8_isInView_31 (by decide) ?_
    refine lv_icmp_ne (tgt := 45) hx hb dX8_isInView_32 (by decide) (fun c3 => ?_) (fun c3 => ?_)
    · have f3 := mt (ti_eq (a := r2.toInt) (b := 2) rfl (by decide)).mpr c3
      refine lv_aload_n hx hb dX8_isInView_45 rfl (lv_at hl 0 rfl) ?_
      refine xgS_SG_scene hx hb hts (fun _ h => List.mem_cons_of_mem _ (List.mem_append_left _ (List.mem_append_left _ (List.mem_append_left _ (List.mem_append_right _ h))))) hown hK hP (hts (.fieldLink RX8 26 "TalePlay$Sight" "scene" "LTalePlay$Scene;") (by decide +kernel)) dX8_isInView_46 ?_
      refine lv_iload_n hx hb dX8_isInView_49 rfl (lv_at hl 1 rfl) ?_
      refine ro_calli (va_runV (As := [.int w]) (rest := []) ⟨hx, hb, hml, hown, hts⟩ (x_X6_holderOf_SS l D H.size .null a t i q c d w hI (show 0 ≤ w.toInt ∧ w.toInt ≤ 29 from by omega)) (cwV 1 hts gm_X8_isInView_SG_X6_holderOf_SS_62 rfl rfl rfl (by decide +kernel) ⟨Nat.le_of_ble_eq_true rfl, Nat.le_of_ble_eq_true rfl⟩) (yA_V hN (xZ_k hZ hS hA) (xkS_P2 hK) (xuS_P2 (sk := sk) hP) (ci := 6) (q0 := 0) rfl rfl) rfl rfl hl.1 rfl (lv_room (Nat.le_of_ble_eq_true rfl)) dX8_isInView_50 ⟨Nat.le_of_ble_eq_true rfl, Nat.le_of_ble_eq_true rfl⟩) hS hA hP (fun r4 u4 H locs hw4 hP hS => ?_)
      have hw4 : ((r4.toInt = -9 ∧ (c 179 w.toNatClampNeg).toInt % 256 = 255) ∨ (0 ≤ r4.toInt ∧ r4.toInt ≤ 29 ∧ ¬ (c 179 w.toNatClampNeg).toInt % 256 = 255 ∧ r4.toInt = (c 179 w.toNatClampNeg).toInt / 8 % 32)) := hw4
      refine lv_istore (lv' := [(4, .int r4), (0, .ref (a 180)), (1, .int w), (2, .int s1), (3, .int b1)]) hx hb dX8_isInView_53 hl (by decide) rfl (fun ls hl => ?_)
      refine lv_iconst (v := 0) hx hb dX8_isInView_55 (by decide) ?_
      refine lv_istore (lv' := [(5, .int 0), (4, .int r4), (0, .ref (a 180)), (1, .int w), (2, .int s1), (3, .int b1)]) hx hb dX8_isInView_56 hl (by decide) rfl (fun ls hl => ?_)
      have lp5 : ∀ (fu : Nat) (y5_5 : Int32) (y5_4 : Int32), (0 ≤ y5_5.toInt ∧ y5_5.toInt ≤ 30) → (y5_4.toInt = -9 ∨ (0 ≤ y5_4.toInt ∧ y5_4.toInt ≤ 29)) → (30 - y5_5.toInt).toNat < fu → ∀ (H : Heap) (locs : List Loc) (ls : Array Slot), va_P D vwCl (xwS sk a t i q c d) H → va_S (ro s.heap.size) s.heap H locs → lv_has ls 6 [(5, .int y5_5), (4, .int y5_4), (0, .ref (a 180)), (1, .int w), (2, .int s1), (3, .int b1)] → W p l e (headSpec wm_X8_isInView_SG ({ frames := 2, cells := 0, slots := 0, locals := 44 })).room s m ([.ref (a 180), .int w, .int s1, .int b1] : List Value).toArray below meth cd H locs 0 0 (MQ below (va_Qi (fun (r : Int32) (_ : Unit) => (0 ≤ r.toInt ∧ r.toInt ≤ 1)) oA (ro s.heap.size)) ([.ref (a 180), .int w, .int s1, .int b1] : List Value).toArray s 0 0 (ro s.heap.size)) (F0 m 58 ls []) := by
        intro fu
        induction fu with
        | zero => intro y5_5 y5_4 hy5_5 hy5_4 hm; exact absurd hm (Nat.not_lt_zero _)
        | succ fu ih =>
          intro y5_5 y5_4 hy5_5 hy5_4 hm H locs ls hP hS hl
          have ih5 := ih
          refine lv_iload hx hb dX8_isInView_58 (lv_at hl 0 rfl) ?_
          refine lv_bipush (v := 30) hx hb dX8_isInView_60 (by decide) ?_
          refine lv_icmp_ge (tgt := 109) hx hb dX8_isInView_62 (by decide) (fun c6 => ?_) (fun c6 => ?_)
          · have f6 := (ti_le (a := 30) (b := y5_5.toInt) (by decide) rfl).mp c6
            refine lv_iconst (v := 0) hx hb dX8_isInView_109 (by decide) ?_
            exact ro_zret hx hb hr hlocks hS rfl dX8_isInView_110 (show 0 ≤ (0 : Int32).toInt ∧ (0 : Int32).toInt ≤ 1 from by have h9 : (0 : Int32).toInt = 0 := (by decide); omega)
          · have f6 := mt (ti_le (a := 30) (b := y5_5.toInt) (by decide) rfl).mpr c6
            refine lv_iload hx hb dX8_isInView_65 (lv_at hl 1 rfl) ?_
            refine lv_bipush (v := (-9)) hx hb dX8_isInView_67 (by decide) ?_
            refine lv_icmp_eq (tgt := 109) hx hb dX8_isInView_69 (by decide) (fun c7 => ?_) (fun c7 => ?_)
            · have f7 := (ti_eq (a := y5_4.toInt) (b := (-9)) rfl (by decide)).mp c7
              refine lv_iconst (v := 0) hx hb dX8_isInView_109 (by decide) ?_
              exact ro_zret hx hb hr hlocks hS rfl dX8_isInView_110 (show 0 ≤ (0 : Int32).toInt ∧ (0 : Int32).toInt ≤ 1 from by have h9 : (0 : Int32).toInt = 0 := (by decide); omega)
            · have f7 := mt (ti_eq (a := y5_4.toInt) (b := (-9)) rfl (by decide)).mpr c7
              refine lv_iload hx hb dX8_isInView_72 (lv_at hl 1 rfl) ?_
              refine lv_iload_n hx hb dX8_isInView_74 rfl (lv_at hl 4 rfl) ?_
              refine lv_icmp_ne (tgt := 80) hx hb dX8_isInView_75 (by decide) (fun c8 => ?_) (fun c8 => ?_)
              · have f8 := mt (ti_eq (a := y5_4.toInt) (b := s1.toInt) rfl rfl).mpr c8
                refine lv_aload_n hx hb dX8_isInView_80 rfl (lv_at hl 2 rfl) ?_
                refine lv_iload hx hb dX8_isInView_81 (lv_at hl 1 rfl) ?_
                refine lv_iload_n hx hb dX8_isInView_83 rfl (lv_at hl 5 rfl) ?_
                refine ro_calli (va_runV (As := [.int y5_4, .int b1]) (rest := []) ⟨hx, hb, hml, hown, hts⟩ (x_X8_isCover_SG l D H.size .null a t i q c d y5_4 b1 hI ) (cwV 2 hts gm_X8_isInView_SG_X8_isCover_SG_65 rfl rfl rfl (by decide +kernel) ⟨Nat.le_of_ble_eq_true rfl, Nat.le_of_ble_eq_true rfl⟩) (yA_V hN (xZ_k hZ hS hA) hK hP (ci := 8) (q0 := 40) rfl rfl) rfl rfl hl.1 rfl (lv_room (Nat.le_of_ble_eq_true rfl)) dX8_isInView_84 ⟨Nat.le_of_ble_eq_true rfl, Nat.le_of_ble_eq_true rfl⟩) hS hA hP (fun r9 u9 H locs hw9 hP hS => ?_)
                have hw9 : (0 ≤ r9.toInt ∧ r9.toInt ≤ 1) := hw9
                refine lv_if_eq (tgt := 92) hx hb dX8_isInView_87 (by decide) (fun c10 => ?_) (fun c10 => ?_)
                · have f10 := (ti_eq (a := r9.toInt) (b := 0) rfl (by decide)).mp c10
                  refine lv_aload_n hx hb dX8_isInView_92 rfl (lv_at hl 2 rfl) ?_
                  refine xgS_SG_scene hx hb hts (fun _ h => List.mem_cons_of_mem _ (List.mem_append_left _ (List.mem_append_left _ (List.mem_append_left _ (List.mem_append_right _ h))))) hown hK hP (hts (.fieldLink RX8 26 "TalePlay$Sight" "scene" "LTalePlay$Scene;") (by decide +kernel)) dX8_isInView_93 ?_
                  refine lv_iload hx hb dX8_isInView_96 (lv_at hl 1 rfl) ?_
                  refine ro_calli (va_runV (As := [.int y5_4]) (rest := []) ⟨hx, hb, hml, hown, hts⟩ (x_X6_holderOf_SS l D H.size .null a t i q c d y5_4 hI (show 0 ≤ y5_4.toInt ∧ y5_4.toInt ≤ 29 from by omega)) (cwV 1 hts gm_X8_isInView_SG_X6_holderOf_SS_62 rfl rfl rfl (by decide +kernel) ⟨Nat.le_of_ble_eq_true rfl, Nat.le_of_ble_eq_true rfl⟩) (yA_V hN (xZ_k hZ hS hA) (xkS_P2 hK) (xuS_P2 (sk := sk) hP) (ci := 6) (q0 := 0) rfl rfl) rfl rfl hl.1 rfl (lv_room (Nat.le_of_ble_eq_true rfl)) dX8_isInView_98 ⟨Nat.le_of_ble_eq_true rfl, Nat.le_of_ble_eq_true rfl⟩) hS hA hP (fun r11 u11 H locs hw11 hP hS => ?_)
                  have hw11 : ((r11.toInt = -9 ∧ (c 179 y5_4.toNatClampNeg).toInt % 256 = 255) ∨ (0 ≤ r11.toInt ∧ r11.toInt ≤ 29 ∧ ¬ (c 179 y5_4.toNatClampNeg).toInt % 256 = 255 ∧ r11.toInt = (c 179 y5_4.toNatClampNeg).toInt / 8 % 32)) := hw11
                  refine lv_istore (lv' := [(4, .int r11), (5, .int y5_5), (0, .ref (a 180)), (1, .int w), (2, .int s1), (3, .int b1)]) hx hb dX8_isInView_101 hl (by decide) rfl (fun ls hl => ?_)
                  obtain ⟨x12, ex12⟩ : ∃ y : Int32, y = y5_5 + 1 := ⟨_, rfl⟩
                  have tx12 := ti_add (a := y5_5.toInt) (b := 1) ex12 rfl (by decide) (by omega) (by omega)
                  refine lv_iinc (v := x12) (lv' := [(5, .int x12), (4, .int r11), (0, .ref (a 180)), (1, .int w), (2, .int s1), (3, .int b1)]) hx hb dX8_isInView_103 hl (k := 1) rfl (by rw [ex12]; rfl) (by decide) rfl (fun ls hl => ?_)
                  refine lv_goto (tgt := 58) hx hb dX8_isInView_106 (by decide) ?_
                  exact ih5 x12 r11 (show 0 ≤ x12.toInt ∧ x12.toInt ≤ 30 from by have h50 : x12.toInt = (y5_5.toInt + 1) := tx12; omega) (show r11.toInt = -9 ∨ (0 ≤ r11.toInt ∧ r11.toInt ≤ 29) from by have h50 : x12.toInt = (y5_5.toInt + 1) := tx12; omega) (by have h50 : x12.toInt = (y5_5.toInt + 1) := tx12; omega) _ _ _ hP hS (lv_sub hl [0, 1, 2, 3, 4, 5] rfl)
                · have f10 := mt (ti_eq (a := r9.toInt) (b := 0) rfl (by decide)).mpr c10
                  refine lv_iconst (v := 0) hx hb dX8_isInView_90 (by decide) ?_
                  exact ro_zret hx hb hr hlocks hS rfl dX8_isInView_91 (show 0 ≤ (0 : Int32).toInt ∧ (0 : Int32).toInt ≤ 1 from by have h9 : (0 : Int32).toInt = 0 := (by decide); omega)
              · have f8 := (ti_eq (a := y5_4.toInt) (b := s1.toInt) rfl rfl).mp c8
                refine lv_iconst (v := 1) hx hb dX8_isInView_78 (by decide) ?_
                exact ro_zret hx hb hr hlocks hS rfl dX8_isInView_79 (show 0 ≤ (1 : Int32).toInt ∧ (1 : Int32).toInt ≤ 1 from by have h9 : (1 : Int32).toInt = 1 := (by decide); omega)
      exact lp5 _ (0 : Int32) r4 (show 0 ≤ (0 : Int32).toInt ∧ (0 : Int32).toInt ≤ 30 from by have h50 : (0 : Int32).toInt = 0 := (by decide); omega) (show r4.toInt = -9 ∨ (0 ≤ r4.toInt ∧ r4.toInt ≤ 29) from by have h50 : (0 : Int32).toInt = 0 := (by decide); omega) (Nat.lt_succ_self _) _ _ _ hP hS (lv_sub hl [0, 1, 2, 3, 4, 5] rfl)
    · have f3 := (ti_eq (a := r2.toInt) (b := 2) rfl (by decide)).mp c3
      refine lv_aload_n hx hb dX8_isInView_35 rfl (lv_at hl 0 rfl) ?_
      refine xgS_SG_roads hx hb hts (fun _ h => List.mem_cons_of_mem _ (List.mem_append_left _ (List.mem_append_left _ (List.mem_append_left _ (List.mem_append_right _ h))))) hown hK hP (hts (.fieldLink RX8 22 "TalePlay$Sight" "roads" "LTalePlay$Roads;") (by decide +kernel)) dX8_isInView_36 ?_
      refine lv_iload_n hx hb dX8_isInView_39 rfl (lv_at hl 2 rfl) ?_
      refine lv_iload_n hx hb dX8_isInView_40 rfl (lv_at hl 1 rfl) ?_
      refine ro_calli (va_runV (As := [.int s1, .int w]) (rest := []) ⟨hx, hb, hml, hown, hts⟩ (x_X5_isSide l D H.size .null a t i q c d s1 w hI (show 0 ≤ w.toInt ∧ w.toInt ≤ 29 from by omega)) (cwV 2 hts gm_X8_isInView_SG_X5_isSide_69 rfl rfl rfl (by decide +kernel) ⟨Nat.le_of_ble_eq_true rfl, Nat.le_of_ble_eq_true rfl⟩) (yA_V hN (xZ_k hZ hS hA) (xkS_B hK) (xuS_B (sk := sk) hP) (ci := 5) (q0 := 19) rfl rfl) rfl rfl hl.1 rfl (lv_room (Nat.le_of_ble_eq_true rfl)) dX8_isInView_41 ⟨Nat.le_of_ble_eq_true rfl, Nat.le_of_ble_eq_true rfl⟩) hS hA hP (fun r13 u13 H locs hw13 hP hS => ?_)
      have hw13 : (0 ≤ r13.toInt ∧ r13.toInt ≤ 1) := hw13
      exact ro_zret hx hb hr hlocks hS (nb_n (show 0 ≤ r13.toInt ∧ r13.toInt ≤ 1 from by omega)) dX8_isInView_44 (show 0 ≤ r13.toInt ∧ r13.toInt ≤ 1 from by omega)
  · have f1 := (ti_eq (a := w.toInt) (b := s1.toInt) rfl rfl).mp c1
    refine lv_aload_n hx hb dX8_isInView_5 rfl (lv_at hl 0 rfl) ?_
    refine xgS_SG_world hx hb hts (fun _ h => List.mem_cons_of_mem _ (List.mem_append_left _ (List.mem_append_left _ (List.mem_append_left _ (List.mem_append_right _ h))))) hown hK hP (hts (.fieldLink RX8 18 "TalePlay$Sight" "world" "LTalePlay$World;") (by decide +kernel)) dX8_isInView_6 ?_
    refine lv_iload_n hx hb dX8_isInView_9 rfl (lv_at hl 2 rfl) ?_
    have rb111_i : 0 ≤ (i 111).toInt ∧ (i 111).toInt ≤ 30 := hI.1 111
    refine ro_calli (va_runV (As := [.int s1]) (rest := []) ⟨hx, hb, hml, hown, hts⟩ (x_X10_sortOf l D s.heap.size .null a t i q c d s1 hI ) (cwV 1 hts gm_X8_isInView_SG_X10_sortOf_34 rfl rfl rfl (by decide +kernel) ⟨Nat.le_of_ble_eq_true rfl, Nat.le_of_ble_eq_true rfl⟩) (yA_V hN (xZ_k hZ hS hA) (xkS_W hK) (xuS_W (sk := sk) hP) (ci := 10) (q0 := 0) rfl rfl) rfl rfl hl.1 rfl (lv_room (Nat.le_of_ble_eq_true rfl)) dX8_isInView_10 ⟨Nat.le_of_ble_eq_true rfl, Nat.le_of_ble_eq_true rfl⟩) hS hA hP (fun r14 u14 H locs hw14 hP hS => ?_)
    have hw14 : ((r14.toInt = -9 ∧ ¬ (0 ≤ s1.toInt ∧ s1.toInt < (i 111).toInt)) ∨ (0 ≤ r14.toInt ∧ r14.toInt ≤ 5 ∧ 0 ≤ s1.toInt ∧ s1.toInt < (i 111).toInt)) := hw14
    refine lv_iconst (v := 3) hx hb dX8_isInView_13 (by decide) ?_
    refine lv_icmp_ne (tgt := 21) hx hb dX8_isInView_14 (by decide) (fun c15 => ?_) (fun c15 => ?_)
    · have f15 := mt (ti_eq (a := r14.toInt) (b := 3) rfl (by decide)).mpr c15
      refine lv_iconst (v := 0) hx hb dX8_isInView_21 (by decide) ?_
      exact ro_zret hx hb hr hlocks hS rfl dX8_isInView_22 (show 0 ≤ (0 : Int32).toInt ∧ (0 : Int32).toInt ≤ 1 from by have h9 : (0 : Int32).toInt = 0 := (by decide); omega)
    · have f15 := (ti_eq (a := r14.toInt) (b := 3) rfl (by decide)).mp c15
      refine lv_iconst (v := 1) hx hb dX8_isInView_17 (by decide) ?_
      refine lv_goto (tgt := 22) hx hb dX8_isInView_18 (by decide) ?_
      exact ro_zret hx hb hr hlocks hS rfl dX8_isInView_22 (show 0 ≤ (1 : Int32).toInt ∧ (1 : Int32).toInt ≤ 1 from by have h9 : (1 : Int32).toInt = 1 := (by decide); omega)

def wm_X8_look_SG : List Cond := .code yX8_look cX8_look 6 none :: (([.methodLink RX8 30 yX8_shellOf, .instanceMethod yX8_shellOf, .selects RX8 yX8_shellOf yX8_shellOf, .initialized RX8, .code yX8_shellOf cX8_shellOf 5 (some .int), .fieldLink RX8 26 "TalePlay$Sight" "scene" "LTalePlay$Scene;", .methodLink RX8 62 yX6_holderOf, .instanceMethod yX6_holderOf, .selects RX6 yX6_holderOf yX6_holderOf, .initialized RX6, .code yX6_holderOf cX6_holderOf 3 (some .int), .fieldLink RX6 9 "TalePlay$Scene" "cells" "[I", .fieldLink RX8 18 "TalePlay$Sight" "world" "LTalePlay$World;", .methodLink RX8 34 yX10_sortOf, .instanceMethod yX10_sortOf, .selects RX10 yX10_sortOf yX10_sortOf, .initialized RX10, .code yX10_sortOf cX10_sortOf 2 (some .int), .fieldLink RX10 37 "TalePlay$World" "objects" "I", .fieldLink RX10 15 "TalePlay$World" "sorts" "[I", .fieldLink RX10 21 "TalePlay$World" "kindOf" "[I", .methodLink RX8 65 yX8_isCover, .instanceMethod yX8_isCover, .selects RX8 yX8_isCover yX8_isCover, .code yX8_isCover cX8_isCover 3 (some .boolean), .methodLink RX8 40 yX6_has, .instanceMethod yX6_has, .selects RX6 yX6_has yX6_has, .code yX6_has cX6_has 3 (some .boolean), .fieldLink RX8 46 "TalePlay$Sight" "bright" "Z", .fieldLink RX8 50 "TalePlay$World" "objects" "I", .methodLink RX8 58 yX6_lies, .instanceMethod yX6_lies, .selects RX6 yX6_lies yX6_lies, .code yX6_lies cX6_lies 4 (some .boolean), .fieldLink RX8 9 "TalePlay$Sight" "seen" "[Z", .fieldLink RX8 15 "TalePlay$Sight" "reached" "[Z", .methodLink RX8 54 yX8_isInView, .instanceMethod yX8_isInView, .selects RX8 yX8_isInView yX8_isInView, .code yX8_isInView cX8_isInView 6 (some .boolean), .fieldLink RX8 22 "TalePlay$Sight" "roads" "LTalePlay$Roads;", .methodLink RX8 69 yX5_isSide, .instanceMethod yX5_isSide, .selects RX5 yX5_isSide yX5_isSide, .initialized RX5, .code yX5_isSide cX5_isSide 3 (some .boolean), .fieldLink RX5 24 "TalePlay$Roads" "firstSides" "[I", .fieldLink RX5 27 "TalePlay$Roads" "secondSides" "[I"] : List Cond) ++ wsX80 ++ wsX60 ++ wsX100 ++ wsX50)
set_option maxRecDepth 20000 in
theorem gm_X8_look_SG_X8_shellOf_SG_30 : GoodIn wm_X8_look_SG (wsV RX8 30 RX8 yX8_shellOf wm_X8_shellOf_SG) := goodIn_app (goodIn_of _ (by decide +kernel)) (goodIn_r _ [5, 6, 7, 8, 9, 10, 11, 12, 13, 14, 15, 16, 17, 18, 19, 20, 21, 22, 23, 24, 4, 25, 26, 27, 28, 29, 50, 51, 52, 53, 54, 55, 56, 57, 58, 59, 60, 61, 62, 63, 64] rfl (by decide +kernel))
set_option maxRecDepth 20000 in
theorem gm_X8_look_SG_X10_sortOf_34 : GoodIn wm_X8_look_SG (wsV RX8 34 RX10 yX10_sortOf wm_X10_sortOf) := goodIn_app (goodIn_of _ (by decide +kernel)) (goodIn_r _ [18, 19, 20, 21, 58, 59, 60, 61, 62, 63, 64] rfl (by decide +kernel))
set_option maxRecDepth 20000 in
theorem gm_X8_look_SG_X6_lies_SS_58 : GoodIn wm_X8_look_SG (wsV RX8 58 RX6 yX6_lies wm_X6_lies_SS) := goodIn_app (goodIn_of _ (by decide +kernel)) (goodIn_r _ [35, 12, 56, 57] rfl (by decide +kernel))
set_option maxRecDepth 20000 in
theorem gm_X8_look_SG_X8_isInView_SG_54 : GoodIn wm_X8_look_SG (wsV RX8 54 RX8 yX8_isInView wm_X8_isInView_SG) := goodIn_app (goodIn_of _ (by decide +kernel)) (goodIn_r _ [41, 13, 14, 15, 16, 17, 18, 19, 20, 21, 6, 7, 8, 9, 10, 11, 12, 22, 23, 24, 4, 25, 26, 27, 28, 29, 42, 43, 44, 45, 46, 47, 48, 49, 50, 51, 52, 53, 54, 55, 58, 59, 60, 61, 62, 63, 64, 56, 57, 65, 66, 67, 68, 69, 70, 71, 72, 73, 74, 75] rfl (by decide +kernel))
set_option maxRecDepth 20000 in
theorem gm_X8_look_SG_X6_has_SS_40 : GoodIn wm_X8_look_SG (wsV RX8 40 RX6 yX6_has wm_X6_has_SS) := goodIn_app (goodIn_of _ (by decide +kernel)) (goodIn_r _ [29, 12, 56, 57] rfl (by decide +kernel))
set_option maxHeartbeats 4000000 in
set_option maxRecDepth 100000 in
theorem x_X8_look_SG (l : Launch) (D : va_G) (sz : Nat) (sk : Value) (a : Nat → Nat) (t : Nat → ClassId) (i : Nat → Int32) (q : Int64) (c : Nat → Nat → Int32) (d : Nat → Nat → Int64) (w : Int32) (hI : xInv i c) (hw : 0 ≤ w.toInt ∧ w.toInt ≤ 29) : Met l yX8_look wm_X8_look_SG ({ frames := 3, cells := 0, slots := 0, locals := 69 }) (va_Pc [.ref (a 180), .int w] (yB (a 186) D sz (xwS sk a t i q c d) (xtS t))) (va_Qv (fun (u : MS) => True ∧ xInv u.1 u.2.2.1 ∧ (∀ k, k ∉ ([183] : List Nat) → u.1 k = i k) ∧ (∀ k, k ∉ ([181, 182] : List Nat) → u.2.2.1 k = c k)) (oC D (va_A (xwS sk a t i q c d) sz) (fun u : MS => xwS sk a t u.1 u.2.1 u.2.2.1 u.2.2.2) (fun _ => [])) (va_A (xwS sk a t i q c d) sz)) 0 0 (va_A (xwS sk a t i q c d) sz) := by
  refine Met.ofW (cc := cX8_look) (maxL := 6) (ret := none) (by decide) rfl ?_
  intro p e s m args below meth cd s₁ B hml hv
  obtain ⟨rfl, ⟨hsz, hP, hK, hD0⟩, hN, hZ, hBW⟩ := hv
  have hx := B.exec
  have hb := B.bytes
  have hr := B.returns
  have hts := atoms_spec (ws := wm_X8_look_SG) B.pre
  have hown : s.vm.findClass RX8 = some m.cls := findClass_of_methodNamed B.named
  have hlocks := B.notSynchronized
  subst hsz
  have hD := hD0.self (sz := s.heap.size)
  have hZ := xZ_A hZ hP hBW
  generalize hAe : va_A (xwS sk a t i q c d) s.heap.size = A at hD hZ ⊢
  have hA : ∀ q : Nat, s.heap.size ≤ q → A q := fun q h => by rw [← hAe]; exact Or.inr h
  have hS : va_S A s.heap s.heap [] := va_S.rf
  have hfi : ∀ k, k ∉ ([] : List Nat) → i k = i k := fun _ _ => rfl
  have hfc : ∀ k, k ∉ ([] : List Nat) → c k = c k := fun _ _ => rfl
  have hl := lv_entry ([.ref (a 180), .int w]) (n := 6) (Nat.le_of_ble_eq_true rfl)
  rw [lg_entry_eq]
  generalize (lg_sl ([.ref (a 180), .int w]) ++ List.replicate (6 - (lg_sl ([.ref (a 180), .int w])).length) Slot.unset).toArray = ls at hl ⊢
  have hl : lv_has ls 6 [(0, .ref (a 180)), (1, .int w)] := hl
  refine lv_aload_n hx hb dX8_look_0 rfl (lv_at hl 0 rfl) ?_
  refine lv_iload_n hx hb dX8_look_1 rfl (lv_at hl 1 rfl) ?_
  refine lv_iconst (v := 0) hx hb dX8_look_2 (by decide) ?_
  refine ro_calli (va_runV (As := [.int w, .int 0]) (rest := []) ⟨hx, hb, hml, hown, hts⟩ (x_X8_shellOf_SG l D s.heap.size .null a t i q c d w 0 hI (show 0 ≤ w.toInt ∧ w.toInt ≤ 29 from by have h91 : (0 : Int32).toInt = 0 := (by decide); omega)) (cwV 2 hts gm_X8_look_SG_X8_shellOf_SG_30 rfl rfl rfl (by decide +kernel) ⟨Nat.le_of_ble_eq_true rfl, Nat.le_of_ble_eq_true rfl⟩) (yA_V hN (xZ_k hZ hS hA) hK hP (ci := 8) (q0 := 40) rfl rfl) rfl rfl hl.1 rfl (lv_room (Nat.le_of_ble_eq_true rfl)) dX8_look_3 ⟨Nat.le_of_ble_eq_true rfl, Nat.le_of_ble_eq_true rfl⟩) hS hA hP (fun r1 u1 H locs hw1 hP hS => ?_)
  have hw1 : (r1.toInt = -9 ∨ (0 ≤ r1.toInt ∧ r1.toInt ≤ 29)) := hw1
  refine lv_istore_n (lv' := [(2, .int r1), (0, .ref (a 180)), (1, .int w)]) hx hb dX8_look_6 rfl hl (by decide) rfl (fun ls hl => ?_)
  refine lv_aload_n hx hb dX8_look_7 rfl (lv_at hl 1 rfl) ?_
  refine lv_iload_n hx hb dX8_look_8 rfl (lv_at hl 2 rfl) ?_
  refine lv_iconst (v := 1) hx hb dX8_look_9 (by decide) ?_
  refine ro_calli (va_runV (As := [.int w, .int 1]) (rest := []) ⟨hx, hb, hml, hown, hts⟩ (x_X8_shellOf_SG l D H.size .null a t i q c d w 1 hI (show 0 ≤ w.toInt ∧ w.toInt ≤ 29 from by have h91 : (1 : Int32).toInt = 1 := (by decide); omega)) (cwV 2 hts gm_X8_look_SG_X8_shellOf_SG_30 rfl rfl rfl (by decide +kernel) ⟨Nat.le_of_ble_eq_true rfl, Nat.le_of_ble_eq_true rfl⟩) (yA_V hN (xZ_k hZ hS hA) hK hP (ci := 8) (q0 := 40) rfl rfl) rfl rfl hl.1 rfl (lv_room (Nat.le_of_ble_eq_true rfl)) dX8_look_10 ⟨Nat.le_of_ble_eq_true rfl, Nat.le_of_ble_eq_true rfl⟩) hS hA hP (fun r2 u2 H locs hw2 hP hS => ?_)
  have hw2 : (r2.toInt = -9 ∨ (0 ≤ r2.toInt ∧ r2.toInt ≤ 29)) := hw2
  refine lv_istore_n (lv' := [(3, .int r2), (2, .int r1), (0, .ref (a 180)), (1, .int w)]) hx hb dX8_look_13 rfl hl (by decide) rfl (fun ls hl => ?_)
  refine lv_aload_n hx hb dX8_look_14 rfl (lv_at hl 2 rfl) ?_
  refine lv_aload_n hx hb dX8_look_15 rfl (lv_at hl 2 rfl) ?_
  refine xgS_SG_world hx hb hts (fun _ h => List.mem_cons_of_mem _ (List.mem_append_left _ (List.mem_append_left _ (List.mem_append_left _ (List.mem_append_right _ h))))) hown hK hP (hts (.fieldLink RX8 18 "TalePlay$Sight" "world" "LTalePlay$World;") (by decide +kernel)) dX8_look_16 ?_
  refine lv_iload_n hx hb dX8_look_19 rfl (lv_at hl 1 rfl) ?_
  have rb111_i : 0 ≤ (i 111).toInt ∧ (i 111).toInt ≤ 30 := hI.1 111
  refine ro_calli (va_runV (As := [.int r1]) (rest := [.ref (a 180)]) ⟨hx, hb, hml, hown, hts⟩ (x_X10_sortOf l D H.size .null a t i q c d r1 hI ) (cwV 1 hts gm_X8_look_SG_X10_sortOf_34 rfl rfl rfl (by decide +kernel) ⟨Nat.le_of_ble_eq_true rfl, Nat.le_of_ble_eq_true rfl⟩) (yA_V hN (xZ_k hZ hS hA) (xkS_W hK) (xuS_W (sk := sk) hP) (ci := 10) (q0 := 0) rfl rfl) rfl rfl hl.1 rfl (lv_room (Nat.le_of_ble_eq_true rfl)) dX8_look_20 ⟨Nat.le_of_ble_eq_true rfl, Nat.le_of_ble_eq_true rfl⟩) hS hA hP (fun r3 u3 H locs hw3 hP hS => ?_)
  have hw3 : ((r3.toInt = -9 ∧ ¬ (0 ≤ r1.toInt ∧ r1.toInt < (i 111).toInt)) ∨ (0 ≤ r3.toInt ∧ r3.toInt ≤ 5 ∧ 0 ≤ r1.toInt ∧ r1.toInt < (i 111).toInt)) := hw3
  have jn4 : ∀ (z4_0 : Int32), (z4_0.toInt = 0 ∨ z4_0.toInt = 1) → ∀ (H : Heap) (locs : List Loc) (ls : Array Slot), va_P D vwCl (xwS sk a t i q c d) H → va_D A (xwS sk a t i q c d) → va_S A s.heap H locs → lv_has ls 6 [(3, .int r2), (2, .int r1), (0, .ref (a 180)), (1, .int w)] → W p l e (headSpec wm_X8_look_SG ({ frames := 3, cells := 0, slots := 0, locals := 69 })).room s m ([.ref (a 180), .int w] : List Value).toArray below meth cd H locs 0 0 (MQ below (va_Qv (fun (u : MS) => True ∧ xInv u.1 u.2.2.1 ∧ (∀ k, k ∉ ([183] : List Nat) → u.1 k = i k) ∧ (∀ k, k ∉ ([181, 182] : List Nat) → u.2.2.1 k = c k)) (oC D A (fun u : MS => xwS sk a t u.1 u.2.1 u.2.2.1 u.2.2.2) (fun _ => [])) A) ([.ref (a 180), .int w] : List Value).toArray s 0 0 A) (F0 m 43 ls [.int z4_0, .ref (a 180)]) := by
    intro z4_0 hs4_0 H locs ls hP hD hS hl
    refine xpS_SG_bright hx hb hts (fun _ h => List.mem_cons_of_mem _ (List.mem_append_left _ (List.mem_append_left _ (List.mem_append_left _ (List.mem_append_right _ h))))) hown hK hP hD hS (hts (.fieldLink RX8 46 "TalePlay$Sight" "bright" "Z") (by decide +kernel)) (nb_n (show 0 ≤ z4_0.toInt ∧ z4_0.toInt ≤ 1 from by omega)) (nb_f (show 0 ≤ z4_0.toInt ∧ z4_0.toInt ≤ 1 from by omega)) dX8_look_43 (fun H locs hP hD hS => ?_)
    have hI := xInv_i hI (k := 183) (v := z4_0) (show 0 ≤ (z4_0 : Int32).toInt ∧ (z4_0 : Int32).toInt ≤ 1 from by omega)
    have hfi : ∀ k, k ∉ ([183] : List Nat) → (upd i 183 z4_0) k = i k := fr_iz hfi (by decide) (by decide)
    refine lv_iconst (v := 0) hx hb dX8_look_46 (by decide) ?_
    refine lv_istore (lv' := [(4, .int 0), (3, .int r2), (2, .int r1), (0, .ref (a 180)), (1, .int w)]) hx hb dX8_look_47 hl (by decide) rfl (fun ls hl => ?_)
    have lp5 : ∀ (fu : Nat) (i5 : Nat → Int32) (q5 : Int64) (c5 : Nat → Nat → Int32) (d5 : Nat → Nat → Int64) (y5_4 : Int32), xInv i5 c5 → (∀ k, k ∉ ([183] : List Nat) → i5 k = i k) → (∀ k, k ∉ ([181] : List Nat) → c5 k = c k) → (0 ≤ y5_4.toInt ∧ y5_4.toInt ≤ 30) → (30 - y5_4.toInt).toNat < fu → ∀ (H : Heap) (locs : List Loc) (ls : Array Slot), va_P D vwCl (xwS sk a t i5 q5 c5 d5) H → va_D A (xwS sk a t i5 q5 c5 d5) → va_S A s.heap H locs → lv_has ls 6 [(4, .int y5_4), (3, .int r2), (2, .int r1), (0, .ref (a 180)), (1, .int w)] → W p l e (headSpec wm_X8_look_SG ({ frames := 3, cells := 0, slots := 0, locals := 69 })).room s m ([.ref (a 180), .int w] : List Value).toArray below meth cd H locs 0 0 (MQ below (va_Qv (fun (u : MS) => True ∧ xInv u.1 u.2.2.1 ∧ (∀ k, k ∉ ([183] : List Nat) → u.1 k = i k) ∧ (∀ k, k ∉ ([181, 182] : List Nat) → u.2.2.1 k = c k)) (oC D A (fun u : MS => xwS sk a t u.1 u.2.1 u.2.2.1 u.2.2.2) (fun _ => [])) A) ([.ref (a 180), .int w] : List Value).toArray s 0 0 A) (F0 m 49 ls []) := by
      intro fu
      induction fu with
      | zero => intro i5 q5 c5 d5 y5_4 hI hfi hfc hy5_4 hm; exact absurd hm (Nat.not_lt_zero _)
      | succ fu ih =>
        intro i5 q5 c5 d5 y5_4 hI hfi hfc hy5_4 hm H locs ls hP hD hS hl
        have ih5 := ih
        refine lv_iload hx hb dX8_look_49 (lv_at hl 0 rfl) ?_
        refine lv_aload_n hx hb dX8_look_51 rfl (lv_at hl 3 rfl) ?_
        refine xgS_SG_world hx hb hts (fun _ h => List.mem_cons_of_mem _ (List.mem_append_left _ (List.mem_append_left _ (List.mem_append_left _ (List.mem_append_right _ h))))) hown hK hP (hts (.fieldLink RX8 18 "TalePlay$Sight" "world" "LTalePlay$World;") (by decide +kernel)) dX8_look_52 ?_
        refine xgS_W_objects (v := (i5 111)) rfl hx hb hts (fun _ h => List.mem_cons_of_mem _ (List.mem_append_left _ (List.mem_append_right _ h))) hown hK hP (hts (.fieldLink RX8 50 "TalePlay$World" "objects" "I") (by decide +kernel)) dX8_look_55 ?_
        have rb111_i5 : 0 ≤ (i5 111).toInt ∧ (i5 111).toInt ≤ 30 := hI.1 111
        have re111_i5 : (i5 111).toInt = (i 111).toInt := congrArg Int32.toInt (hfi 111 (by decide))
        refine lv_icmp_ge (tgt := 135) hx hb dX8_look_58 (by decide) (fun c6 => ?_) (fun c6 => ?_)
        · have f6 := (ti_le (a := (i5 111).toInt) (b := y5_4.toInt) rfl rfl).mp c6
          refine lv_iconst (v := 0) hx hb dX8_look_135 (by decide) ?_
          refine lv_istore (lv' := [(4, .int 0), (3, .int r2), (2, .int r1), (0, .ref (a 180)), (1, .int w)]) hx hb dX8_look_136 hl (by decide) rfl (fun ls hl => ?_)
          have lp7 : ∀ (fu : Nat) (i7 : Nat → Int32) (q7 : Int64) (c7 : Nat → Nat → Int32) (d7 : Nat → Nat → Int64) (y7_4 : Int32), xInv i7 c7 → (∀ k, k ∉ ([183] : List Nat) → i7 k = i k) → (∀ k, k ∉ ([181, 182] : List Nat) → c7 k = c k) → (0 ≤ y7_4.toInt ∧ y7_4.toInt ≤ 30) → (30 - y7_4.toInt).toNat < fu → ∀ (H : Heap) (locs : List Loc) (ls : Array Slot), va_P D vwCl (xwS sk a t i7 q7 c7 d7) H → va_D A (xwS sk a t i7 q7 c7 d7) → va_S A s.heap H locs → lv_has ls 6 [(4, .int y7_4), (3, .int r2), (2, .int r1), (0, .ref (a 180)), (1, .int w)] → W p l e (headSpec wm_X8_look_SG ({ frames := 3, cells := 0, slots := 0, locals := 69 })).room s m ([.ref (a 180), .int w] : List Value).toArray below meth cd H locs 0 0 (MQ below (va_Qv (fun (u : MS) => True ∧ xInv u.1 u.2.2.1 ∧ (∀ k, k ∉ ([183] : List Nat) → u.1 k = i k) ∧ (∀ k, k ∉ ([181, 182] : List Nat) → u.2.2.1 k = c k)) (oC D A (fun u : MS => xwS sk a t u.1 u.2.1 u.2.2.1 u.2.2.2) (fun _ => [])) A) ([.ref (a 180), .int w] : List Value).toArray s 0 0 A) (F0 m 138 ls []) := by
            intro fu
            induction fu with
            | zero => intro i7 q7 c7 d7 y7_4 hI hfi hfc hy7_4 hm; exact absurd hm (Nat.not_lt_zero _)
            | succ fu ih =>
              intro i7 q7 c7 d7 y7_4 hI hfi hfc hy7_4 hm H locs ls hP hD hS hl
              have ih7 := ih
              refine lv_iload hx hb dX8_look_138 (lv_at hl 0 rfl) ?_
              refine lv_aload_n hx hb dX8_look_140 rfl (lv_at hl 3 rfl) ?_
              refine xgS_SG_world hx hb hts (fun _ h => List.mem_cons_of_mem _ (List.mem_append_left _ (List.mem_append_left _ (List.mem_append_left _ (List.mem_append_right _ h))))) hown hK hP (hts (.fieldLink RX8 18 "TalePlay$Sight" "world" "LTalePlay$World;") (by decide +kernel)) dX8_look_141 ?_
              refine xgS_W_objects (v := (i7 111)) rfl hx hb hts (fun _ h => List.mem_cons_of_mem _ (List.mem_append_left _ (List.mem_append_right _ h))) hown hK hP (hts (.fieldLink RX8 50 "TalePlay$World" "objects" "I") (by decide +kernel)) dX8_look_144 ?_
              have rb111_i7 : 0 ≤ (i7 111).toInt ∧ (i7 111).toInt ≤ 30 := hI.1 111
              have re111_i7 : (i7 111).toInt = (i 111).toInt := congrArg Int32.toInt (hfi 111 (by decide))
              refine lv_icmp_ge (tgt := 264) hx hb dX8_look_147 (by decide) (fun c8 => ?_) (fun c8 => ?_)
              · have f8 := (ti_le (a := (i7 111).toInt) (b := y7_4.toInt) rfl rfl).mp c8
                exact rw_vret (i7, q7, c7, d7) hx hb hr hlocks hS (hK.sub (tys' := []) [] rfl) hP hD dX8_look_264 ⟨trivial, hI, fr_w hfi (by decide), fr_w hfc (by decide)⟩
              · have f8 := mt (ti_le (a := (i7 111).toInt) (b := y7_4.toInt) rfl rfl).mpr c8
                refine lv_aload_n hx hb dX8_look_150 rfl (lv_at hl 3 rfl) ?_
                refine xgS_SG_scene hx hb hts (fun _ h => List.mem_cons_of_mem _ (List.mem_append_left _ (List.mem_append_left _ (List.mem_append_left _ (List.mem_append_right _ h))))) hown hK hP (hts (.fieldLink RX8 26 "TalePlay$Sight" "scene" "LTalePlay$Scene;") (by decide +kernel)) dX8_look_151 ?_
                refine lv_iload hx hb dX8_look_154 (lv_at hl 0 rfl) ?_
                refine lv_iconst (v := 2) hx hb dX8_look_156 (by decide) ?_
                refine lv_iload_n hx hb dX8_look_157 rfl (lv_at hl 4 rfl) ?_
                refine ro_calli (va_runV (As := [.int y7_4, .int 2, .int w]) (rest := []) ⟨hx, hb, hml, hown, hts⟩ (x_X6_lies_SS l D H.size .null a t i7 q7 c7 d7 y7_4 2 w hI (show 0 ≤ y7_4.toInt ∧ y7_4.toInt ≤ 29 from by have h91 : (2 : Int32).toInt = 2 := (by decide); omega)) (cwV 3 hts gm_X8_look_SG_X6_lies_SS_58 rfl rfl rfl (by decide +kernel) ⟨Nat.le_of_ble_eq_true rfl, Nat.le_of_ble_eq_true rfl⟩) (yA_V hN (xZ_k hZ hS hA) (xkS_P2 hK) (xuS_P2 (sk := sk) hP) (ci := 6) (q0 := 0) rfl rfl) rfl rfl hl.1 rfl (lv_room (Nat.le_of_ble_eq_true rfl)) dX8_look_158 ⟨Nat.le_of_ble_eq_true rfl, Nat.le_of_ble_eq_true rfl⟩) hS hA hP (fun r9 u9 H locs hw9 hP hS => ?_)
                have hw9 : (0 ≤ r9.toInt ∧ r9.toInt ≤ 1) := hw9
                have jn10 : ∀ (z10_0 : Int32), (z10_0.toInt = 0 ∨ z10_0.toInt = 1) → ∀ (H : Heap) (locs : List Loc) (ls : Array Slot), va_P D vwCl (xwS sk a t i7 q7 c7 d7) H → va_D A (xwS sk a t i7 q7 c7 d7) → va_S A s.heap H locs → lv_has ls 6 [(4, .int y7_4), (3, .int r2), (2, .int r1), (0, .ref (a 180)), (1, .int w)] → W p l e (headSpec wm_X8_look_SG ({ frames := 3, cells := 0, slots := 0, locals := 69 })).room s m ([.ref (a 180), .int w] : List Value).toArray below meth cd H locs 0 0 (MQ below (va_Qv (fun (u : MS) => True ∧ xInv u.1 u.2.2.1 ∧ (∀ k, k ∉ ([183] : List Nat) → u.1 k = i k) ∧ (∀ k, k ∉ ([181, 182] : List Nat) → u.2.2.1 k = c k)) (oC D A (fun u : MS => xwS sk a t u.1 u.2.1 u.2.2.1 u.2.2.2) (fun _ => [])) A) ([.ref (a 180), .int w] : List Value).toArray s 0 0 A) (F0 m 183 ls [.int z10_0]) := by
                  intro z10_0 hs10_0 H locs ls hP hD hS hl
                  refine lv_istore (lv' := [(5, .int z10_0), (4, .int y7_4), (3, .int r2), (2, .int r1), (0, .ref (a 180)), (1, .int w)]) hx hb dX8_look_183 hl (by decide) rfl (fun ls hl => ?_)
                  refine lv_aload_n hx hb dX8_look_185 rfl (lv_at hl 4 rfl) ?_
                  refine xgS_SG_seen hx hb hts (fun _ h => List.mem_cons_of_mem _ (List.mem_append_left _ (List.mem_append_left _ (List.mem_append_left _ (List.mem_append_right _ h))))) hown hK hP (hts (.fieldLink RX8 9 "TalePlay$Sight" "seen" "[Z") (by decide +kernel)) dX8_look_186 ?_
                  refine lv_iload hx hb dX8_look_189 (lv_at hl 1 rfl) ?_
                  refine lv_iload hx hb dX8_look_191 (lv_at hl 0 rfl) ?_
                  have jn11 : ∀ (z11_0 : Int32), (z11_0.toInt = 0 ∨ z11_0.toInt = 1) → ∀ (H : Heap) (locs : List Loc) (ls : Array Slot), va_P D vwCl (xwS sk a t i7 q7 c7 d7) H → va_D A (xwS sk a t i7 q7 c7 d7) → va_S A s.heap H locs → lv_has ls 6 [(5, .int z10_0), (4, .int y7_4), (3, .int r2), (2, .int r1), (0, .ref (a 180)), (1, .int w)] → W p l e (headSpec wm_X8_look_SG ({ frames := 3, cells := 0, slots := 0, locals := 69 })).room s m ([.ref (a 180), .int w] : List Value).toArray below meth cd H locs 0 0 (MQ below (va_Qv (fun (u : MS) => True ∧ xInv u.1 u.2.2.1 ∧ (∀ k, k ∉ ([183] : List Nat) → u.1 k = i k) ∧ (∀ k, k ∉ ([181, 182] : List Nat) → u.2.2.1 k = c k)) (oC D A (fun u : MS => xwS sk a t u.1 u.2.1 u.2.2.1 u.2.2.2) (fun _ => [])) A) ([.ref (a 180), .int w] : List Value).toArray s 0 0 A) (F0 m 218 ls [.int z11_0, .int y7_4, .ref (a 181)]) := by
                    intro z11_0 hs11_0 H locs ls hP hD hS hl
                    refine xsS_181 hx hb hK hP hD hS (vp_in_iff.mpr (by have h9 : y7_4.toInt = y7_4.toInt := rfl; omega)) (nb_z (show 0 ≤ (z11_0 : Int32).toInt ∧ (z11_0 : Int32).toInt ≤ 1 from by omega)) dX8_look_218 (fun H locs hP hD hS => ?_)
                    have hI := xInv_c hI (k := 181) (j := (y7_4 : Int32).toNatClampNeg) (x := z11_0) (show 0 ≤ (z11_0 : Int32).toInt ∧ (z11_0 : Int32).toInt ≤ 1 from by omega)
                    have hfc := fr_c hfc (k := 181) (j := (y7_4 : Int32).toNatClampNeg) (x := z11_0) (by decide)
                    refine lv_aload_n hx hb dX8_look_219 rfl (lv_at hl 4 rfl) ?_
                    refine xgS_SG_reached hx hb hts (fun _ h => List.mem_cons_of_mem _ (List.mem_append_left _ (List.mem_append_left _ (List.mem_append_left _ (List.mem_append_right _ h))))) hown hK hP (hts (.fieldLink RX8 15 "TalePlay$Sight" "reached" "[Z") (by decide +kernel)) dX8_look_220 ?_
                    refine lv_iload hx hb dX8_look_223 (lv_at hl 1 rfl) ?_
                    refine lv_aload_n hx hb dX8_look_225 rfl (lv_at hl 4 rfl) ?_
                    refine xgS_SG_seen hx hb hts (fun _ h => List.mem_cons_of_mem _ (List.mem_append_left _ (List.mem_append_left _ (List.mem_append_left _ (List.mem_append_right _ h))))) hown hK hP (hts (.fieldLink RX8 9 "TalePlay$Sight" "seen" "[Z") (by decide +kernel)) dX8_look_226 ?_
                    refine lv_iload hx hb dX8_look_229 (lv_at hl 1 rfl) ?_
                    refine xlS_181 hx hb hK hP (vp_in_iff.mpr (by have h9 : y7_4.toInt = y7_4.toInt := rfl; omega)) dX8_look_231 (fun x12 ex12 => ?_)
                    have rx12 : 0 ≤ x12.toInt ∧ x12.toInt ≤ 1 := by rw [ex12]; exact hI.2 181 _
                    have jn13 : ∀ (z13_0 : Int32), (z13_0.toInt = 0 ∨ z13_0.toInt = 1) → ∀ (H : Heap) (locs : List Loc) (ls : Array Slot), va_P D vwCl (xwS sk a t i7 q7 (updA c7 181 (y7_4 : Int32).toNatClampNeg z11_0) d7) H → va_D A (xwS sk a t i7 q7 (updA c7 181 (y7_4 : Int32).toNatClampNeg z11_0) d7) → va_S A s.heap H locs → lv_has ls 6 [(5, .int z10_0), (4, .int y7_4), (3, .int r2), (2, .int r1), (0, .ref (a 180)), (1, .int w)] → W p l e (headSpec wm_X8_look_SG ({ frames := 3, cells := 0, slots := 0, locals := 69 })).room s m ([.ref (a 180), .int w] : List Value).toArray below meth cd H locs 0 0 (MQ below (va_Qv (fun (u : MS) => True ∧ xInv u.1 u.2.2.1 ∧ (∀ k, k ∉ ([183] : List Nat) → u.1 k = i k) ∧ (∀ k, k ∉ ([181, 182] : List Nat) → u.2.2.1 k = c k)) (oC D A (fun u : MS => xwS sk a t u.1 u.2.1 u.2.2.1 u.2.2.2) (fun _ => [])) A) ([.ref (a 180), .int w] : List Value).toArray s 0 0 A) (F0 m 257 ls [.int z13_0, .int y7_4, .ref (a 182)]) := by
                      intro z13_0 hs13_0 H locs ls hP hD hS hl
                      refine xsS_182 hx hb hK hP hD hS (vp_in_iff.mpr (by have h9 : y7_4.toInt = y7_4.toInt := rfl; omega)) (nb_z (show 0 ≤ (z13_0 : Int32).toInt ∧ (z13_0 : Int32).toInt ≤ 1 from by omega)) dX8_look_257 (fun H locs hP hD hS => ?_)
                      have hI := xInv_c hI (k := 182) (j := (y7_4 : Int32).toNatClampNeg) (x := z13_0) (show 0 ≤ (z13_0 : Int32).toInt ∧ (z13_0 : Int32).toInt ≤ 1 from by omega)
                      have hfc := fr_c hfc (k := 182) (j := (y7_4 : Int32).toNatClampNeg) (x := z13_0) (by decide)
                      obtain ⟨x14, ex14⟩ : ∃ y : Int32, y = y7_4 + 1 := ⟨_, rfl⟩
                      have tx14 := ti_add (a := y7_4.toInt) (b := 1) ex14 rfl (by decide) (by omega) (by omega)
                      refine lv_iinc (v := x14) (lv' := [(4, .int x14), (5, .int z10_0), (3, .int r2), (2, .int r1), (0, .ref (a 180)), (1, .int w)]) hx hb dX8_look_258 hl (k := 1) rfl (by rw [ex14]; rfl) (by decide) rfl (fun ls hl => ?_)
                      refine lv_goto (tgt := 138) hx hb dX8_look_261 (by decide) ?_
                      exact ih7 i7 q7 (updA (updA c7 181 (y7_4 : Int32).toNatClampNeg z11_0) 182 (y7_4 : Int32).toNatClampNeg z13_0) d7 x14 hI (fr_w hfi (by decide)) (fr_w hfc (by decide)) (show 0 ≤ x14.toInt ∧ x14.toInt ≤ 30 from by have h50 : x14.toInt = (y7_4.toInt + 1) := tx14; omega) (by have h50 : x14.toInt = (y7_4.toInt + 1) := tx14; omega) _ _ _ hP hD hS (lv_sub hl [0, 2, 3, 4, 5] rfl)
                    have jn15 : ∀ (H : Heap) (locs : List Loc) (ls : Array Slot), va_P D vwCl (xwS sk a t i7 q7 (updA c7 181 (y7_4 : Int32).toNatClampNeg z11_0) d7) H → va_D A (xwS sk a t i7 q7 (updA c7 181 (y7_4 : Int32).toNatClampNeg z11_0) d7) → va_S A s.heap H locs → lv_has ls 6 [(5, .int z10_0), (4, .int y7_4), (3, .int r2), (2, .int r1), (0, .ref (a 180)), (1, .int w)] → W p l e (headSpec wm_X8_look_SG ({ frames := 3, cells := 0, slots := 0, locals := 69 })).room s m ([.ref (a 180), .int w] : List Value).toArray below meth cd H locs 0 0 (MQ below (va_Qv (fun (u : MS) => True ∧ xInv u.1 u.2.2.1 ∧ (∀ k, k ∉ ([183] : List Nat) → u.1 k = i k) ∧ (∀ k, k ∉ ([181, 182] : List Nat) → u.2.2.1 k = c k)) (oC D A (fun u : MS => xwS sk a t u.1 u.2.1 u.2.2.1 u.2.2.2) (fun _ => [])) A) ([.ref (a 180), .int w] : List Value).toArray s 0 0 A) (F0 m 256 ls [.int y7_4, .ref (a 182)]) := by
                      intro H locs ls hP hD hS hl
                      refine lv_iconst (v := 0) hx hb dX8_look_256 (by decide) ?_
                      exact jn13  (0 : Int32) (show (0 : Int32).toInt = 0 ∨ (0 : Int32).toInt = 1 from by have h56 : (0 : Int32).toInt = 0 := (by decide); omega) _ _ _ hP hD hS (lv_sub hl [0, 1, 2, 3, 4, 5] rfl)
                    refine lv_if_eq (tgt := 256) hx hb dX8_look_232 (by decide) (fun c16 => ?_) (fun c16 => ?_)
                    · have f16 := (ti_eq (a := x12.toInt) (b := 0) rfl (by decide)).mp c16
                      exact jn15    _ _ _ hP hD hS (lv_sub hl [0, 1, 2, 3, 4, 5] rfl)
                    · have f16 := mt (ti_eq (a := x12.toInt) (b := 0) rfl (by decide)).mpr c16
                      refine lv_iload hx hb dX8_look_235 (lv_at hl 1 rfl) ?_
                      refine lv_iload_n hx hb dX8_look_237 rfl (lv_at hl 5 rfl) ?_
                      have jn17 : ∀ (H : Heap) (locs : List Loc) (ls : Array Slot), va_P D vwCl (xwS sk a t i7 q7 (updA c7 181 (y7_4 : Int32).toNatClampNeg z11_0) d7) H → va_D A (xwS sk a t i7 q7 (updA c7 181 (y7_4 : Int32).toNatClampNeg z11_0) d7) → va_S A s.heap H locs → lv_has ls 6 [(5, .int z10_0), (4, .int y7_4), (3, .int r2), (2, .int r1), (0, .ref (a 180)), (1, .int w)] → W p l e (headSpec wm_X8_look_SG ({ frames := 3, cells := 0, slots := 0, locals := 69 })).room s m ([.ref (a 180), .int w] : List Value).toArray below meth cd H locs 0 0 (MQ below (va_Qv (fun (u : MS) => True ∧ xInv u.1 u.2.2.1 ∧ (∀ k, k ∉ ([183] : List Nat) → u.1 k = i k) ∧ (∀ k, k ∉ ([181, 182] : List Nat) → u.2.2.1 k = c k)) (oC D A (fun u : MS => xwS sk a t u.1 u.2.1 u.2.2.1 u.2.2.2) (fun _ => [])) A) ([.ref (a 180), .int w] : List Value).toArray s 0 0 A) (F0 m 252 ls [.int y7_4, .ref (a 182)]) := by
                        intro H locs ls hP hD hS hl
                        refine lv_iconst (v := 1) hx hb dX8_look_252 (by decide) ?_
                        refine lv_goto (tgt := 257) hx hb dX8_look_253 (by decide) ?_
                        exact jn13  (1 : Int32) (show (1 : Int32).toInt = 0 ∨ (1 : Int32).toInt = 1 from by have h56 : (1 : Int32).toInt = 1 := (by decide); omega) _ _ _ hP hD hS (lv_sub hl [0, 1, 2, 3, 4, 5] rfl)
                      refine lv_icmp_eq (tgt := 252) hx hb dX8_look_238 (by decide) (fun c18 => ?_) (fun c18 => ?_)
                      · have f18 := (ti_eq (a := y7_4.toInt) (b := w.toInt) rfl rfl).mp c18
                        exact jn17    _ _ _ hP hD hS (lv_sub hl [0, 1, 2, 3, 4, 5] rfl)
                      · have f18 := mt (ti_eq (a := y7_4.toInt) (b := w.toInt) rfl rfl).mpr c18
                        refine lv_aload_n hx hb dX8_look_241 rfl (lv_at hl 4 rfl) ?_
                        refine lv_iload hx hb dX8_look_242 (lv_at hl 1 rfl) ?_
                        refine lv_iload_n hx hb dX8_look_244 rfl (lv_at hl 2 rfl) ?_
                        refine lv_iconst (v := 1) hx hb dX8_look_245 (by decide) ?_
                        refine ro_calli (va_runV (As := [.int y7_4, .int r2, .int 1]) (rest := [.int y7_4, .ref (a 182)]) ⟨hx, hb, hml, hown, hts⟩ (x_X8_isInView_SG l D H.size .null a t i7 q7 (updA c7 181 (y7_4 : Int32).toNatClampNeg z11_0) d7 y7_4 r2 1 hI (show 0 ≤ y7_4.toInt ∧ y7_4.toInt ≤ 29 from by have h92 : (1 : Int32).toInt = 1 := (by decide); omega)) (cwV 3 hts gm_X8_look_SG_X8_isInView_SG_54 rfl rfl rfl (by decide +kernel) ⟨Nat.le_of_ble_eq_true rfl, Nat.le_of_ble_eq_true rfl⟩) (yA_V hN (xZ_k hZ hS hA) hK hP (ci := 8) (q0 := 40) rfl rfl) rfl rfl hl.1 rfl (lv_room (Nat.le_of_ble_eq_true rfl)) dX8_look_246 ⟨Nat.le_of_ble_eq_true rfl, Nat.le_of_ble_eq_true rfl⟩) hS hA hP (fun r19 u19 H locs hw19 hP hS => ?_)
                        have hw19 : (0 ≤ r19.toInt ∧ r19.toInt ≤ 1) := hw19
                        refine lv_if_eq (tgt := 256) hx hb dX8_look_249 (by decide) (fun c20 => ?_) (fun c20 => ?_)
                        · have f20 := (ti_eq (a := r19.toInt) (b := 0) rfl (by decide)).mp c20
                          exact jn15    _ _ _ hP hD hS (lv_sub hl [0, 1, 2, 3, 4, 5] rfl)
                        · have f20 := mt (ti_eq (a := r19.toInt) (b := 0) rfl (by decide)).mpr c20
                          exact jn17    _ _ _ hP hD hS (lv_sub hl [0, 1, 2, 3, 4, 5] rfl)
                  have jn21 : ∀ (H : Heap) (locs : List Loc) (ls : Array Slot), va_P D vwCl (xwS sk a t i7 q7 c7 d7) H → va_D A (xwS sk a t i7 q7 c7 d7) → va_S A s.heap H locs → lv_has ls 6 [(5, .int z10_0), (4, .int y7_4), (3, .int r2), (2, .int r1), (0, .ref (a 180)), (1, .int w)] → W p l e (headSpec wm_X8_look_SG ({ frames := 3, cells := 0, slots := 0, locals := 69 })).room s m ([.ref (a 180), .int w] : List Value).toArray below meth cd H locs 0 0 (MQ below (va_Qv (fun (u : MS) => True ∧ xInv u.1 u.2.2.1 ∧ (∀ k, k ∉ ([183] : List Nat) → u.1 k = i k) ∧ (∀ k, k ∉ ([181, 182] : List Nat) → u.2.2.1 k = c k)) (oC D A (fun u : MS => xwS sk a t u.1 u.2.1 u.2.2.1 u.2.2.2) (fun _ => [])) A) ([.ref (a 180), .int w] : List Value).toArray s 0 0 A) (F0 m 213 ls [.int y7_4, .ref (a 181)]) := by
                    intro H locs ls hP hD hS hl
                    refine lv_iconst (v := 1) hx hb dX8_look_213 (by decide) ?_
                    refine lv_goto (tgt := 218) hx hb dX8_look_214 (by decide) ?_
                    exact jn11  (1 : Int32) (show (1 : Int32).toInt = 0 ∨ (1 : Int32).toInt = 1 from by have h56 : (1 : Int32).toInt = 1 := (by decide); omega) _ _ _ hP hD hS (lv_sub hl [0, 1, 2, 3, 4, 5] rfl)
                  refine lv_if_ne (tgt := 213) hx hb dX8_look_193 (by decide) (fun c22 => ?_) (fun c22 => ?_)
                  · have f22 := mt (ti_eq (a := z10_0.toInt) (b := 0) rfl (by decide)).mpr c22
                    exact jn21    _ _ _ hP hD hS (lv_sub hl [0, 1, 2, 3, 4, 5] rfl)
                  · have f22 := (ti_eq (a := z10_0.toInt) (b := 0) rfl (by decide)).mp c22
                    refine lv_aload_n hx hb dX8_look_196 rfl (lv_at hl 4 rfl) ?_
                    refine xgS_SG_bright (v := (i7 183)) rfl hx hb hts (fun _ h => List.mem_cons_of_mem _ (List.mem_append_left _ (List.mem_append_left _ (List.mem_append_left _ (List.mem_append_right _ h))))) hown hK hP (hts (.fieldLink RX8 46 "TalePlay$Sight" "bright" "Z") (by decide +kernel)) dX8_look_197 ?_
                    have rb183_i7 : 0 ≤ (i7 183).toInt ∧ (i7 183).toInt ≤ 1 := hI.1 183
                    have jn23 : ∀ (H : Heap) (locs : List Loc) (ls : Array Slot), va_P D vwCl (xwS sk a t i7 q7 c7 d7) H → va_D A (xwS sk a t i7 q7 c7 d7) → va_S A s.heap H locs → lv_has ls 6 [(5, .int z10_0), (4, .int y7_4), (3, .int r2), (2, .int r1), (0, .ref (a 180)), (1, .int w)] → W p l e (headSpec wm_X8_look_SG ({ frames := 3, cells := 0, slots := 0, locals := 69 })).room s m ([.ref (a 180), .int w] : List Value).toArray below meth cd H locs 0 0 (MQ below (va_Qv (fun (u : MS) => True ∧ xInv u.1 u.2.2.1 ∧ (∀ k, k ∉ ([183] : List Nat) → u.1 k = i k) ∧ (∀ k, k ∉ ([181, 182] : List Nat) → u.2.2.1 k = c k)) (oC D A (fun u : MS => xwS sk a t u.1 u.2.1 u.2.2.1 u.2.2.2) (fun _ => [])) A) ([.ref (a 180), .int w] : List Value).toArray s 0 0 A) (F0 m 217 ls [.int y7_4, .ref (a 181)]) := by
                      intro H locs ls hP hD hS hl
                      refine lv_iconst (v := 0) hx hb dX8_look_217 (by decide) ?_
                      exact jn11  (0 : Int32) (show (0 : Int32).toInt = 0 ∨ (0 : Int32).toInt = 1 from by have h56 : (0 : Int32).toInt = 0 := (by decide); omega) _ _ _ hP hD hS (lv_sub hl [0, 1, 2, 3, 4, 5] rfl)
                    refine lv_if_eq (tgt := 217) hx hb dX8_look_200 (by decide) (fun c24 => ?_) (fun c24 => ?_)
                    · have f24 := (ti_eq (a := (i7 183).toInt) (b := 0) rfl (by decide)).mp c24
                      exact jn23    _ _ _ hP hD hS (lv_sub hl [0, 1, 2, 3, 4, 5] rfl)
                    · have f24 := mt (ti_eq (a := (i7 183).toInt) (b := 0) rfl (by decide)).mpr c24
                      refine lv_aload_n hx hb dX8_look_203 rfl (lv_at hl 4 rfl) ?_
                      refine xgS_SG_seen hx hb hts (fun _ h => List.mem_cons_of_mem _ (List.mem_append_left _ (List.mem_append_left _ (List.mem_append_left _ (List.mem_append_right _ h))))) hown hK hP (hts (.fieldLink RX8 9 "TalePlay$Sight" "seen" "[Z") (by decide +kernel)) dX8_look_204 ?_
                      refine lv_iload hx hb dX8_look_207 (lv_at hl 1 rfl) ?_
                      refine xlS_181 hx hb hK hP (vp_in_iff.mpr (by have h9 : y7_4.toInt = y7_4.toInt := rfl; omega)) dX8_look_209 (fun x25 ex25 => ?_)
                      have rx25 : 0 ≤ x25.toInt ∧ x25.toInt ≤ 1 := by rw [ex25]; exact hI.2 181 _
                      refine lv_if_eq (tgt := 217) hx hb dX8_look_210 (by decide) (fun c26 => ?_) (fun c26 => ?_)
                      · have f26 := (ti_eq (a := x25.toInt) (b := 0) rfl (by decide)).mp c26
                        exact jn23    _ _ _ hP hD hS (lv_sub hl [0, 1, 2, 3, 4, 5] rfl)
                      · have f26 := mt (ti_eq (a := x25.toInt) (b := 0) rfl (by decide)).mpr c26
                        exact jn21    _ _ _ hP hD hS (lv_sub hl [0, 1, 2, 3, 4, 5] rfl)
                have jn27 : ∀ (H : Heap) (locs : List Loc) (ls : Array Slot), va_P D vwCl (xwS sk a t i7 q7 c7 d7) H → va_D A (xwS sk a t i7 q7 c7 d7) → va_S A s.heap H locs → lv_has ls 6 [(4, .int y7_4), (3, .int r2), (2, .int r1), (0, .ref (a 180)), (1, .int w)] → W p l e (headSpec wm_X8_look_SG ({ frames := 3, cells := 0, slots := 0, locals := 69 })).room s m ([.ref (a 180), .int w] : List Value).toArray below meth cd H locs 0 0 (MQ below (va_Qv (fun (u : MS) => True ∧ xInv u.1 u.2.2.1 ∧ (∀ k, k ∉ ([183] : List Nat) → u.1 k = i k) ∧ (∀ k, k ∉ ([181, 182] : List Nat) → u.2.2.1 k = c k)) (oC D A (fun u : MS => xwS sk a t u.1 u.2.1 u.2.2.1 u.2.2.2) (fun _ => [])) A) ([.ref (a 180), .int w] : List Value).toArray s 0 0 A) (F0 m 178 ls []) := by
                  intro H locs ls hP hD hS hl
                  refine lv_iconst (v := 1) hx hb dX8_look_178 (by decide) ?_
                  refine lv_goto (tgt := 183) hx hb dX8_look_179 (by decide) ?_
                  exact jn10  (1 : Int32) (show (1 : Int32).toInt = 0 ∨ (1 : Int32).toInt = 1 from by have h55 : (1 : Int32).toInt = 1 := (by decide); omega) _ _ _ hP hD hS (lv_sub hl [0, 1, 2, 3, 4] rfl)
                refine lv_if_ne (tgt := 178) hx hb dX8_look_161 (by decide) (fun c28 => ?_) (fun c28 => ?_)
                · have f28 := mt (ti_eq (a := r9.toInt) (b := 0) rfl (by decide)).mpr c28
                  exact jn27    _ _ _ hP hD hS (lv_sub hl [0, 1, 2, 3, 4] rfl)
                · have f28 := (ti_eq (a := r9.toInt) (b := 0) rfl (by decide)).mp c28
                  refine lv_aload_n hx hb dX8_look_164 rfl (lv_at hl 3 rfl) ?_
                  refine xgS_SG_scene hx hb hts (fun _ h => List.mem_cons_of_mem _ (List.mem_append_left _ (List.mem_append_left _ (List.mem_append_left _ (List.mem_append_right _ h))))) hown hK hP (hts (.fieldLink RX8 26 "TalePlay$Sight" "scene" "LTalePlay$Scene;") (by decide +kernel)) dX8_look_165 ?_
                  refine lv_iload hx hb dX8_look_168 (lv_at hl 0 rfl) ?_
                  refine lv_iconst (v := 3) hx hb dX8_look_170 (by decide) ?_
                  refine lv_iload_n hx hb dX8_look_171 rfl (lv_at hl 4 rfl) ?_
                  refine ro_calli (va_runV (As := [.int y7_4, .int 3, .int w]) (rest := []) ⟨hx, hb, hml, hown, hts⟩ (x_X6_lies_SS l D H.size .null a t i7 q7 c7 d7 y7_4 3 w hI (show 0 ≤ y7_4.toInt ∧ y7_4.toInt ≤ 29 from by have h91 : (3 : Int32).toInt = 3 := (by decide); omega)) (cwV 3 hts gm_X8_look_SG_X6_lies_SS_58 rfl rfl rfl (by decide +kernel) ⟨Nat.le_of_ble_eq_true rfl, Nat.le_of_ble_eq_true rfl⟩) (yA_V hN (xZ_k hZ hS hA) (xkS_P2 hK) (xuS_P2 (sk := sk) hP) (ci := 6) (q0 := 0) rfl rfl) rfl rfl hl.1 rfl (lv_room (Nat.le_of_ble_eq_true rfl)) dX8_look_172 ⟨Nat.le_of_ble_eq_true rfl, Nat.le_of_ble_eq_true rfl⟩) hS hA hP (fun r29 u29 H locs hw29 hP hS => ?_)
                  have hw29 : (0 ≤ r29.toInt ∧ r29.toInt ≤ 1) := hw29
                  refine lv_if_eq (tgt := 182) hx hb dX8_look_175 (by decide) (fun c30 => ?_) (fun c30 => ?_)
                  · have f30 := (ti_eq (a := r29.toInt) (b := 0) rfl (by decide)).mp c30
                    refine lv_iconst (v := 0) hx hb dX8_look_182 (by decide) ?_
                    exact jn10  (0 : Int32) (show (0 : Int32).toInt = 0 ∨ (0 : Int32).toInt = 1 from by have h55 : (0 : Int32).toInt = 0 := (by decide); omega) _ _ _ hP hD hS (lv_sub hl [0, 1, 2, 3, 4] rfl)
                  · have f30 := mt (ti_eq (a := r29.toInt) (b := 0) rfl (by decide)).mpr c30
                    exact jn27    _ _ _ hP hD hS (lv_sub hl [0, 1, 2, 3, 4] rfl)
          exact lp7 _ i5 q5 c5 d5 (0 : Int32) hI (fr_w hfi (by decide)) (fr_w hfc (by decide)) (show 0 ≤ (0 : Int32).toInt ∧ (0 : Int32).toInt ≤ 30 from by have h50 : (0 : Int32).toInt = 0 := (by decide); omega) (Nat.lt_succ_self _) _ _ _ hP hD hS (lv_sub hl [0, 1, 2, 3, 4] rfl)
        · have f6 := mt (ti_le (a := (i5 111).toInt) (b := y5_4.toInt) rfl rfl).mpr c6
          refine lv_aload_n hx hb dX8_look_61 rfl (lv_at hl 3 rfl) ?_
          refine xgS_SG_seen hx hb hts (fun _ h => List.mem_cons_of_mem _ (List.mem_append_left _ (List.mem_append_left _ (List.mem_append_left _ (List.mem_append_right _ h))))) hown hK hP (hts (.fieldLink RX8 9 "TalePlay$Sight" "seen" "[Z") (by decide +kernel)) dX8_look_62 ?_
          refine lv_iload hx hb dX8_look_65 (lv_at hl 0 rfl) ?_
          refine lv_iload hx hb dX8_look_67 (lv_at hl 0 rfl) ?_
          refine lv_iload_n hx hb dX8_look_69 rfl (lv_at hl 4 rfl) ?_
          have jn31 : ∀ (z31_0 : Int32), (z31_0.toInt = 0 ∨ z31_0.toInt = 1) → ∀ (H : Heap) (locs : List Loc) (ls : Array Slot), va_P D vwCl (xwS sk a t i5 q5 c5 d5) H → va_D A (xwS sk a t i5 q5 c5 d5) → va_S A s.heap H locs → lv_has ls 6 [(4, .int y5_4), (3, .int r2), (2, .int r1), (0, .ref (a 180)), (1, .int w)] → W p l e (headSpec wm_X8_look_SG ({ frames := 3, cells := 0, slots := 0, locals := 69 })).room s m ([.ref (a 180), .int w] : List Value).toArray below meth cd H locs 0 0 (MQ below (va_Qv (fun (u : MS) => True ∧ xInv u.1 u.2.2.1 ∧ (∀ k, k ∉ ([183] : List Nat) → u.1 k = i k) ∧ (∀ k, k ∉ ([181, 182] : List Nat) → u.2.2.1 k = c k)) (oC D A (fun u : MS => xwS sk a t u.1 u.2.1 u.2.2.1 u.2.2.2) (fun _ => [])) A) ([.ref (a 180), .int w] : List Value).toArray s 0 0 A) (F0 m 89 ls [.int z31_0, .int y5_4, .ref (a 181)]) := by
            intro z31_0 hs31_0 H locs ls hP hD hS hl
            refine xsS_181 hx hb hK hP hD hS (vp_in_iff.mpr (by have h9 : y5_4.toInt = y5_4.toInt := rfl; omega)) (nb_z (show 0 ≤ (z31_0 : Int32).toInt ∧ (z31_0 : Int32).toInt ≤ 1 from by omega)) dX8_look_89 (fun H locs hP hD hS => ?_)
            have hI := xInv_c hI (k := 181) (j := (y5_4 : Int32).toNatClampNeg) (x := z31_0) (show 0 ≤ (z31_0 : Int32).toInt ∧ (z31_0 : Int32).toInt ≤ 1 from by omega)
            have hfc := fr_c hfc (k := 181) (j := (y5_4 : Int32).toNatClampNeg) (x := z31_0) (by decide)
            refine lv_aload_n hx hb dX8_look_90 rfl (lv_at hl 3 rfl) ?_
            refine lv_aload_n hx hb dX8_look_91 rfl (lv_at hl 3 rfl) ?_
            refine xgS_SG_bright (v := (i5 183)) rfl hx hb hts (fun _ h => List.mem_cons_of_mem _ (List.mem_append_left _ (List.mem_append_left _ (List.mem_append_left _ (List.mem_append_right _ h))))) hown hK hP (hts (.fieldLink RX8 46 "TalePlay$Sight" "bright" "Z") (by decide +kernel)) dX8_look_92 ?_
            have rb183_i5 : 0 ≤ (i5 183).toInt ∧ (i5 183).toInt ≤ 1 := hI.1 183
            have jn32 : ∀ (z32_0 : Int32), (z32_0.toInt = 0 ∨ z32_0.toInt = 1) → ∀ (H : Heap) (locs : List Loc) (ls : Array Slot), va_P D vwCl (xwS sk a t i5 q5 (updA c5 181 (y5_4 : Int32).toNatClampNeg z31_0) d5) H → va_D A (xwS sk a t i5 q5 (updA c5 181 (y5_4 : Int32).toNatClampNeg z31_0) d5) → va_S A s.heap H locs → lv_has ls 6 [(4, .int y5_4), (3, .int r2), (2, .int r1), (0, .ref (a 180)), (1, .int w)] → W p l e (headSpec wm_X8_look_SG ({ frames := 3, cells := 0, slots := 0, locals := 69 })).room s m ([.ref (a 180), .int w] : List Value).toArray below meth cd H locs 0 0 (MQ below (va_Qv (fun (u : MS) => True ∧ xInv u.1 u.2.2.1 ∧ (∀ k, k ∉ ([183] : List Nat) → u.1 k = i k) ∧ (∀ k, k ∉ ([181, 182] : List Nat) → u.2.2.1 k = c k)) (oC D A (fun u : MS => xwS sk a t u.1 u.2.1 u.2.2.1 u.2.2.2) (fun _ => [])) A) ([.ref (a 180), .int w] : List Value).toArray s 0 0 A) (F0 m 126 ls [.int z32_0, .ref (a 180)]) := by
              intro z32_0 hs32_0 H locs ls hP hD hS hl
              refine xpS_SG_bright hx hb hts (fun _ h => List.mem_cons_of_mem _ (List.mem_append_left _ (List.mem_append_left _ (List.mem_append_left _ (List.mem_append_right _ h))))) hown hK hP hD hS (hts (.fieldLink RX8 46 "TalePlay$Sight" "bright" "Z") (by decide +kernel)) (nb_n (show 0 ≤ z32_0.toInt ∧ z32_0.toInt ≤ 1 from by omega)) (nb_f (show 0 ≤ z32_0.toInt ∧ z32_0.toInt ≤ 1 from by omega)) dX8_look_126 (fun H locs hP hD hS => ?_)
              have hI := xInv_i hI (k := 183) (v := z32_0) (show 0 ≤ (z32_0 : Int32).toInt ∧ (z32_0 : Int32).toInt ≤ 1 from by omega)
              have hfi := fr_i hfi (k := 183) (v := z32_0) (by decide)
              obtain ⟨x33, ex33⟩ : ∃ y : Int32, y = y5_4 + 1 := ⟨_, rfl⟩
              have tx33 := ti_add (a := y5_4.toInt) (b := 1) ex33 rfl (by decide) (by omega) (by omega)
              refine lv_iinc (v := x33) (lv' := [(4, .int x33), (3, .int r2), (2, .int r1), (0, .ref (a 180)), (1, .int w)]) hx hb dX8_look_129 hl (k := 0) rfl (by rw [ex33]; rfl) (by decide) rfl (fun ls hl => ?_)
              refine lv_goto (tgt := 49) hx hb dX8_look_132 (by decide) ?_
              exact ih5 (upd i5 183 z32_0) q5 (updA c5 181 (y5_4 : Int32).toNatClampNeg z31_0) d5 x33 hI (fr_w hfi (by decide)) (fr_w hfc (by decide)) (show 0 ≤ x33.toInt ∧ x33.toInt ≤ 30 from by have h50 : x33.toInt = (y5_4.toInt + 1) := tx33; omega) (by have h50 : x33.toInt = (y5_4.toInt + 1) := tx33; omega) _ _ _ hP hD hS (lv_sub hl [0, 1, 2, 3, 4] rfl)
            have jn34 : ∀ (H : Heap) (locs : List Loc) (ls : Array Slot), va_P D vwCl (xwS sk a t i5 q5 (updA c5 181 (y5_4 : Int32).toNatClampNeg z31_0) d5) H → va_D A (xwS sk a t i5 q5 (updA c5 181 (y5_4 : Int32).toNatClampNeg z31_0) d5) → va_S A s.heap H locs → lv_has ls 6 [(4, .int y5_4), (3, .int r2), (2, .int r1), (0, .ref (a 180)), (1, .int w)] → W p l e (headSpec wm_X8_look_SG ({ frames := 3, cells := 0, slots := 0, locals := 69 })).room s m ([.ref (a 180), .int w] : List Value).toArray below meth cd H locs 0 0 (MQ below (va_Qv (fun (u : MS) => True ∧ xInv u.1 u.2.2.1 ∧ (∀ k, k ∉ ([183] : List Nat) → u.1 k = i k) ∧ (∀ k, k ∉ ([181, 182] : List Nat) → u.2.2.1 k = c k)) (oC D A (fun u : MS => xwS sk a t u.1 u.2.1 u.2.2.1 u.2.2.2) (fun _ => [])) A) ([.ref (a 180), .int w] : List Value).toArray s 0 0 A) (F0 m 121 ls [.ref (a 180)]) := by
              intro H locs ls hP hD hS hl
              refine lv_iconst (v := 1) hx hb dX8_look_121 (by decide) ?_
              refine lv_goto (tgt := 126) hx hb dX8_look_122 (by decide) ?_
              exact jn32  (1 : Int32) (show (1 : Int32).toInt = 0 ∨ (1 : Int32).toInt = 1 from by have h55 : (1 : Int32).toInt = 1 := (by decide); omega) _ _ _ hP hD hS (lv_sub hl [0, 1, 2, 3, 4] rfl)
            refine lv_if_ne (tgt := 121) hx hb dX8_look_95 (by decide) (fun c35 => ?_) (fun c35 => ?_)
            · have f35 := mt (ti_eq (a := (i5 183).toInt) (b := 0) rfl (by decide)).mpr c35
              exact jn34    _ _ _ hP hD hS (lv_sub hl [0, 1, 2, 3, 4] rfl)
            · have f35 := (ti_eq (a := (i5 183).toInt) (b := 0) rfl (by decide)).mp c35
              refine lv_aload_n hx hb dX8_look_98 rfl (lv_at hl 3 rfl) ?_
              refine xgS_SG_seen hx hb hts (fun _ h => List.mem_cons_of_mem _ (List.mem_append_left _ (List.mem_append_left _ (List.mem_append_left _ (List.mem_append_right _ h))))) hown hK hP (hts (.fieldLink RX8 9 "TalePlay$Sight" "seen" "[Z") (by decide +kernel)) dX8_look_99 ?_
              refine lv_iload hx hb dX8_look_102 (lv_at hl 0 rfl) ?_
              refine xlS_181 hx hb hK hP (vp_in_iff.mpr (by have h9 : y5_4.toInt = y5_4.toInt := rfl; omega)) dX8_look_104 (fun x36 ex36 => ?_)
              have rx36 : 0 ≤ x36.toInt ∧ x36.toInt ≤ 1 := by rw [ex36]; exact hI.2 181 _
              have jn37 : ∀ (H : Heap) (locs : List Loc) (ls : Array Slot), va_P D vwCl (xwS sk a t i5 q5 (updA c5 181 (y5_4 : Int32).toNatClampNeg z31_0) d5) H → va_D A (xwS sk a t i5 q5 (updA c5 181 (y5_4 : Int32).toNatClampNeg z31_0) d5) → va_S A s.heap H locs → lv_has ls 6 [(4, .int y5_4), (3, .int r2), (2, .int r1), (0, .ref (a 180)), (1, .int w)] → W p l e (headSpec wm_X8_look_SG ({ frames := 3, cells := 0, slots := 0, locals := 69 })).room s m ([.ref (a 180), .int w] : List Value).toArray below meth cd H locs 0 0 (MQ below (va_Qv (fun (u : MS) => True ∧ xInv u.1 u.2.2.1 ∧ (∀ k, k ∉ ([183] : List Nat) → u.1 k = i k) ∧ (∀ k, k ∉ ([181, 182] : List Nat) → u.2.2.1 k = c k)) (oC D A (fun u : MS => xwS sk a t u.1 u.2.1 u.2.2.1 u.2.2.2) (fun _ => [])) A) ([.ref (a 180), .int w] : List Value).toArray s 0 0 A) (F0 m 125 ls [.ref (a 180)]) := by
                intro H locs ls hP hD hS hl
                refine lv_iconst (v := 0) hx hb dX8_look_125 (by decide) ?_
                exact jn32  (0 : Int32) (show (0 : Int32).toInt = 0 ∨ (0 : Int32).toInt = 1 from by have h55 : (0 : Int32).toInt = 0 := (by decide); omega) _ _ _ hP hD hS (lv_sub hl [0, 1, 2, 3, 4] rfl)
              refine lv_if_eq (tgt := 125) hx hb dX8_look_105 (by decide) (fun c38 => ?_) (fun c38 => ?_)
              · have f38 := (ti_eq (a := x36.toInt) (b := 0) rfl (by decide)).mp c38
                exact jn37    _ _ _ hP hD hS (lv_sub hl [0, 1, 2, 3, 4] rfl)
              · have f38 := mt (ti_eq (a := x36.toInt) (b := 0) rfl (by decide)).mpr c38
                refine lv_aload_n hx hb dX8_look_108 rfl (lv_at hl 3 rfl) ?_
                refine xgS_SG_scene hx hb hts (fun _ h => List.mem_cons_of_mem _ (List.mem_append_left _ (List.mem_append_left _ (List.mem_append_left _ (List.mem_append_right _ h))))) hown hK hP (hts (.fieldLink RX8 26 "TalePlay$Sight" "scene" "LTalePlay$Scene;") (by decide +kernel)) dX8_look_109 ?_
                refine lv_iload hx hb dX8_look_112 (lv_at hl 0 rfl) ?_
                refine lv_iconst (v := 2) hx hb dX8_look_114 (by decide) ?_
                refine ro_calli (va_runV (As := [.int y5_4, .int 2]) (rest := [.ref (a 180)]) ⟨hx, hb, hml, hown, hts⟩ (x_X6_has_SS l D H.size .null a t i5 q5 (updA c5 181 (y5_4 : Int32).toNatClampNeg z31_0) d5 y5_4 2 hI (show 0 ≤ y5_4.toInt ∧ y5_4.toInt ≤ 29 from by have h91 : (2 : Int32).toInt = 2 := (by decide); omega) (show 0 ≤ 2 ∧ 2 ≤ 5 from by have h91 : (2 : Int32).toInt = 2 := (by decide); omega)) (cwV 2 hts gm_X8_look_SG_X6_has_SS_40 rfl rfl rfl (by decide +kernel) ⟨Nat.le_of_ble_eq_true rfl, Nat.le_of_ble_eq_true rfl⟩) (yA_V hN (xZ_k hZ hS hA) (xkS_P2 hK) (xuS_P2 (sk := sk) hP) (ci := 6) (q0 := 0) rfl rfl) rfl rfl hl.1 rfl (lv_room (Nat.le_of_ble_eq_true rfl)) dX8_look_115 ⟨Nat.le_of_ble_eq_true rfl, Nat.le_of_ble_eq_true rfl⟩) hS hA hP (fun r39 u39 H locs hw39 hP hS => ?_)
                have hw39 : (0 ≤ r39.toInt ∧ r39.toInt ≤ 1) := hw39
                refine lv_if_eq (tgt := 125) hx hb dX8_look_118 (by decide) (fun c40 => ?_) (fun c40 => ?_)
                · have f40 := (ti_eq (a := r39.toInt) (b := 0) rfl (by decide)).mp c40
                  exact jn37    _ _ _ hP hD hS (lv_sub hl [0, 1, 2, 3, 4] rfl)
                · have f40 := mt (ti_eq (a := r39.toInt) (b := 0) rfl (by decide)).mpr c40
                  exact jn34    _ _ _ hP hD hS (lv_sub hl [0, 1, 2, 3, 4] rfl)
          have jn41 : ∀ (H : Heap) (locs : List Loc) (ls : Array Slot), va_P D vwCl (xwS sk a t i5 q5 c5 d5) H → va_D A (xwS sk a t i5 q5 c5 d5) → va_S A s.heap H locs → lv_has ls 6 [(4, .int y5_4), (3, .int r2), (2, .int r1), (0, .ref (a 180)), (1, .int w)] → W p l e (headSpec wm_X8_look_SG ({ frames := 3, cells := 0, slots := 0, locals := 69 })).room s m ([.ref (a 180), .int w] : List Value).toArray below meth cd H locs 0 0 (MQ below (va_Qv (fun (u : MS) => True ∧ xInv u.1 u.2.2.1 ∧ (∀ k, k ∉ ([183] : List Nat) → u.1 k = i k) ∧ (∀ k, k ∉ ([181, 182] : List Nat) → u.2.2.1 k = c k)) (oC D A (fun u : MS => xwS sk a t u.1 u.2.1 u.2.2.1 u.2.2.2) (fun _ => [])) A) ([.ref (a 180), .int w] : List Value).toArray s 0 0 A) (F0 m 84 ls [.int y5_4, .ref (a 181)]) := by
            intro H locs ls hP hD hS hl
            refine lv_iconst (v := 1) hx hb dX8_look_84 (by decide) ?_
            refine lv_goto (tgt := 89) hx hb dX8_look_85 (by decide) ?_
            exact jn31  (1 : Int32) (show (1 : Int32).toInt = 0 ∨ (1 : Int32).toInt = 1 from by have h55 : (1 : Int32).toInt = 1 := (by decide); omega) _ _ _ hP hD hS (lv_sub hl [0, 1, 2, 3, 4] rfl)
          refine lv_icmp_eq (tgt := 84) hx hb dX8_look_70 (by decide) (fun c42 => ?_) (fun c42 => ?_)
          · have f42 := (ti_eq (a := y5_4.toInt) (b := w.toInt) rfl rfl).mp c42
            exact jn41    _ _ _ hP hD hS (lv_sub hl [0, 1, 2, 3, 4] rfl)
          · have f42 := mt (ti_eq (a := y5_4.toInt) (b := w.toInt) rfl rfl).mpr c42
            refine lv_aload_n hx hb dX8_look_73 rfl (lv_at hl 3 rfl) ?_
            refine lv_iload hx hb dX8_look_74 (lv_at hl 0 rfl) ?_
            refine lv_iload_n hx hb dX8_look_76 rfl (lv_at hl 2 rfl) ?_
            refine lv_iconst (v := 0) hx hb dX8_look_77 (by decide) ?_
            refine ro_calli (va_runV (As := [.int y5_4, .int r1, .int 0]) (rest := [.int y5_4, .ref (a 181)]) ⟨hx, hb, hml, hown, hts⟩ (x_X8_isInView_SG l D H.size .null a t i5 q5 c5 d5 y5_4 r1 0 hI (show 0 ≤ y5_4.toInt ∧ y5_4.toInt ≤ 29 from by have h92 : (0 : Int32).toInt = 0 := (by decide); omega)) (cwV 3 hts gm_X8_look_SG_X8_isInView_SG_54 rfl rfl rfl (by decide +kernel) ⟨Nat.le_of_ble_eq_true rfl, Nat.le_of_ble_eq_true rfl⟩) (yA_V hN (xZ_k hZ hS hA) hK hP (ci := 8) (q0 := 40) rfl rfl) rfl rfl hl.1 rfl (lv_room (Nat.le_of_ble_eq_true rfl)) dX8_look_78 ⟨Nat.le_of_ble_eq_true rfl, Nat.le_of_ble_eq_true rfl⟩) hS hA hP (fun r43 u43 H locs hw43 hP hS => ?_)
            have hw43 : (0 ≤ r43.toInt ∧ r43.toInt ≤ 1) := hw43
            refine lv_if_eq (tgt := 88) hx hb dX8_look_81 (by decide) (fun c44 => ?_) (fun c44 => ?_)
            · have f44 := (ti_eq (a := r43.toInt) (b := 0) rfl (by decide)).mp c44
              refine lv_iconst (v := 0) hx hb dX8_look_88 (by decide) ?_
              exact jn31  (0 : Int32) (show (0 : Int32).toInt = 0 ∨ (0 : Int32).toInt = 1 from by have h55 : (0 : Int32).toInt = 0 := (by decide); omega) _ _ _ hP hD hS (lv_sub hl [0, 1, 2, 3, 4] rfl)
            · have f44 := mt (ti_eq (a := r43.toInt) (b := 0) rfl (by decide)).mpr c44
              exact jn41    _ _ _ hP hD hS (lv_sub hl [0, 1, 2, 3, 4] rfl)
    exact lp5 _ (upd i 183 z4_0) q c d (0 : Int32) hI (fr_w hfi (by decide)) (fr_w hfc (by decide)) (show 0 ≤ (0 : Int32).toInt ∧ (0 : Int32).toInt ≤ 30 from by have h50 : (0 : Int32).toInt = 0 := (by decide); omega) (Nat.lt_succ_self _) _ _ _ hP hD hS (lv_sub hl [0, 1, 2, 3, 4] rfl)
  have jn45 : ∀ (H : Heap) (locs : List Loc) (ls : Array Slot), va_P D vwCl (xwS sk a t i q c d) H → va_D A (xwS sk a t i q c d) → va_S A s.heap H locs → lv_has ls 6 [(3, .int r2), (2, .int r1), (0, .ref (a 180)), (1, .int w)] → W p l e (headSpec wm_X8_look_SG ({ frames := 3, cells := 0, slots := 0, locals := 69 })).room s m ([.ref (a 180), .int w] : List Value).toArray below meth cd H locs 0 0 (MQ below (va_Qv (fun (u : MS) => True ∧ xInv u.1 u.2.2.1 ∧ (∀ k, k ∉ ([183] : List Nat) → u.1 k = i k) ∧ (∀ k, k ∉ ([181, 182] : List Nat) → u.2.2.1 k = c k)) (oC D A (fun u : MS => xwS sk a t u.1 u.2.1 u.2.2.1 u.2.2.2) (fun _ => [])) A) ([.ref (a 180), .int w] : List Value).toArray s 0 0 A) (F0 m 42 ls [.ref (a 180)]) := by
    intro H locs ls hP hD hS hl
    refine lv_iconst (v := 0) hx hb dX8_look_42 (by decide) ?_
    exact jn4  (0 : Int32) (show (0 : Int32).toInt = 0 ∨ (0 : Int32).toInt = 1 from by have h54 : (0 : Int32).toInt = 0 := (by decide); omega) _ _ _ hP hD hS (lv_sub hl [0, 1, 2, 3] rfl)
  refine lv_if_ne (tgt := 42) hx hb dX8_look_23 (by decide) (fun c46 => ?_) (fun c46 => ?_)
  · have f46 := mt (ti_eq (a := r3.toInt) (b := 0) rfl (by decide)).mpr c46
    exact jn45    _ _ _ hP hD hS (lv_sub hl [0, 1, 2, 3] rfl)
  · have f46 := (ti_eq (a := r3.toInt) (b := 0) rfl (by decide)).mp c46
    refine lv_aload_n hx hb dX8_look_26 rfl (lv_at hl 2 rfl) ?_
    refine xgS_SG_scene hx hb hts (fun _ h => List.mem_cons_of_mem _ (List.mem_append_left _ (List.mem_append_left _ (List.mem_append_left _ (List.mem_append_right _ h))))) hown hK hP (hts (.fieldLink RX8 26 "TalePlay$Sight" "scene" "LTalePlay$Scene;") (by decide +kernel)) dX8_look_27 ?_
    refine lv_iload_n hx hb dX8_look_30 rfl (lv_at hl 1 rfl) ?_
    refine lv_iconst (v := 2) hx hb dX8_look_31 (by decide) ?_
    refine ro_calli (va_runV (As := [.int r1, .int 2]) (rest := [.ref (a 180)]) ⟨hx, hb, hml, hown, hts⟩ (x_X6_has_SS l D H.size .null a t i q c d r1 2 hI (show 0 ≤ r1.toInt ∧ r1.toInt ≤ 29 from by have h91 : (2 : Int32).toInt = 2 := (by decide); omega) (show 0 ≤ 2 ∧ 2 ≤ 5 from by have h91 : (2 : Int32).toInt = 2 := (by decide); omega)) (cwV 2 hts gm_X8_look_SG_X6_has_SS_40 rfl rfl rfl (by decide +kernel) ⟨Nat.le_of_ble_eq_true rfl, Nat.le_of_ble_eq_true rfl⟩) (yA_V hN (xZ_k hZ hS hA) (xkS_P2 hK) (xuS_P2 (sk := sk) hP) (ci := 6) (q0 := 0) rfl rfl) rfl rfl hl.1 rfl (lv_room (Nat.le_of_ble_eq_true rfl)) dX8_look_32 ⟨Nat.le_of_ble_eq_true rfl, Nat.le_of_ble_eq_true rfl⟩) hS hA hP (fun r47 u47 H locs hw47 hP hS => ?_)
    have hw47 : (0 ≤ r47.toInt ∧ r47.toInt ≤ 1) := hw47
    refine lv_if_eq (tgt := 42) hx hb dX8_look_35 (by decide) (fun c48 => ?_) (fun c48 => ?_)
    · have f48 := (ti_eq (a := r47.toInt) (b := 0) rfl (by decide)).mp c48
      exact jn45    _ _ _ hP hD hS (lv_sub hl [0, 1, 2, 3] rfl)
    · have f48 := mt (ti_eq (a := r47.toInt) (b := 0) rfl (by decide)).mpr c48
      refine lv_iconst (v := 1) hx hb dX8_look_38 (by decide) ?_
      refine lv_goto (tgt := 43) hx hb dX8_look_39 (by decide) ?_
      exact jn4  (1 : Int32) (show (1 : Int32).toInt = 0 ∨ (1 : Int32).toInt = 1 from by have h54 : (1 : Int32).toInt = 1 := (by decide); omega) _ _ _ hP hD hS (lv_sub hl [0, 1, 2, 3] rfl)

