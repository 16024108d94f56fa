def wm_X2_weigh_BP : List Cond := .code yX2_weigh cX2_weigh 3 (some .int) :: (([.methodLink RX2 23 yX2_weighBy, .instanceMethod yX2_weighBy, .selects RX2 yX2_weighBy yX2_weighBy, .initialized RX2, .code yX2_weighBy cX2_weighBy 6 (some .int), .fieldLink RX2 15 "TalePlay$Bulks" "world" "LTalePlay$World;", .methodLink RX2 42 yX10_sortOf, .instanceMethod yX10_sortOf, .selects RX10 yX10_sortOf yX10_sortOf, .initialized RX10, .code yX10_sortOf cX10_sortOf 2 (some .int), .fieldLink RX10 37 "TalePlay$World" "objects" "I", .fieldLink RX10 15 "TalePlay$World" "sorts" "[I", .fieldLink RX10 21 "TalePlay$World" "kindOf" "[I", .methodLink RX2 45 yX2_noteBodies, .instanceMethod yX2_noteBodies, .selects RX2 yX2_noteBodies yX2_noteBodies, .code yX2_noteBodies cX2_noteBodies 2 none, .fieldLink RX2 60 "TalePlay$Bulks" "BODIES" "[I", .methodLink RX2 63 yX2_note, .instanceMethod yX2_note, .selects RX2 yX2_note yX2_note, .code yX2_note cX2_note 2 none, .fieldLink RX2 27 "TalePlay$Bulks" "tracing" "Z", .fieldLink RX2 49 "TalePlay$World" "sizeOf" "[I", .methodLink RX2 52 yX2_weighThose, .instanceMethod yX2_weighThose, .selects RX2 yX2_weighThose yX2_weighThose, .code yX2_weighThose cX2_weighThose 7 (some .int), .fieldLink RX2 31 "TalePlay$World" "objects" "I", .methodLink RX2 56 yX6_lies, .instanceMethod yX6_lies, .selects RX6 yX6_lies yX6_lies, .initialized RX6, .code yX6_lies cX6_lies 4 (some .boolean), .fieldLink RX6 9 "TalePlay$Scene" "cells" "[I"] : List Cond) ++ wsX20 ++ wsX100 ++ wsX60)
set_option maxRecDepth 20000 in
theorem gm_X2_weigh_BP_X2_weighBy_B_23 : GoodIn wm_X2_weigh_BP (wsV RX2 23 RX2 yX2_weighBy wm_X2_weighBy_B) := goodIn_app (goodIn_of _ (by decide +kernel)) (goodIn_r _ [5, 6, 7, 8, 9, 10, 11, 12, 13, 14, 15, 16, 17, 4, 18, 19, 20, 21, 22, 23, 24, 25, 26, 27, 28, 29, 30, 31, 32, 33, 34, 35, 36, 1, 2, 3, 5, 37, 38, 39, 40, 41, 42, 43, 44, 45, 46, 47, 48, 49] rfl (by decide +kernel))
set_option maxHeartbeats 4000000 in
set_option maxRecDepth 100000 in
theorem x_X2_weigh_BP (l : Launch) (D : va_G) (sz : Nat) (sk : Value) (a : Nat → Nat) (t : Nat → ClassId) (i : Nat → Int32) (q : Int64) (c : Nat → Nat → Int32) (d : Nat → Nat → Int64) (w : Int32) (hI : xInv i c) (hw : 0 ≤ w.toInt ∧ w.toInt ≤ 29) (htr : (i 141).toInt = 0) : Met l yX2_weigh wm_X2_weigh_BP ({ frames := 69, cells := 0, slots := 0, locals := 1806 }) (va_Pc [.ref (a 138), .ref (a 126), .int w] (yA (a 186) D sz (xwB sk a t i q c d) (xtB t))) (va_Qi (fun (r : Int32) (_ : Unit) => True) oA (ro sz)) 0 0 (ro sz) := by
  refine Met.ofW (cc := cX2_weigh) (maxL := 3) (ret := (some .int)) (by decide) rfl ?_
  intro p e s m args below meth cd s₁ B hml hv
  obtain ⟨rfl, ⟨hsz, hP, hK⟩, hN, hZ⟩ := hv
  have hx := B.exec
  have hb := B.bytes
  have hr := B.returns
  have hts := atoms_spec (ws := wm_X2_weigh_BP) B.pre
  have hown : s.vm.findClass RX2 = some m.cls := findClass_of_methodNamed B.named
  have hlocks := B.notSynchronized
  subst hsz
  have hA : ∀ q : Nat, s.heap.size ≤ q → ro s.heap.size q := fun _ h => h
  have hS : va_S (ro s.heap.size) s.heap s.heap [] := va_S.rf
  have hl := lv_entry ([.ref (a 138), .ref (a 126), .int w]) (n := 3) (Nat.le_of_ble_eq_true rfl)
  rw [lg_entry_eq]
  generalize (lg_sl ([.ref (a 138), .ref (a 126), .int w]) ++ List.replicate (3 - (lg_sl ([.ref (a 138), .ref (a 126), .int w])).length) Slot.unset).toArray = ls at hl ⊢
  have hl : lv_has ls 3 [(0, .ref (a 138)), (1, .ref (a 126)), (2, .int w)] := hl
  refine lv_aload_n hx hb dX2_weigh_0 rfl (lv_at hl 0 rfl) ?_
  refine lv_aload_n hx hb dX2_weigh_1 rfl (lv_at hl 1 rfl) ?_
  refine lv_iload_n hx hb dX2_weigh_2 rfl (lv_at hl 2 rfl) ?_
  refine lv_iconst (v := 0) hx hb dX2_weigh_3 (by decide) ?_
  have rb141_i : 0 ≤ (i 141).toInt ∧ (i 141).toInt ≤ 1 := hI.1 141
  refine ro_calli (va_runV (As := [.ref (a 126), .int w, .int 0]) (rest := []) ⟨hx, hb, hml, hown, hts⟩ (x0_X2_weighBy_B l D s.heap.size .null a t i q c d w 0 hI (show 0 ≤ w.toInt ∧ w.toInt ≤ 29 from by have h91 : (0 : Int32).toInt = 0 := (by decide); omega) (show 0 = 0 from by have h91 : (0 : Int32).toInt = 0 := (by decide); omega) (show ((i 141) : Int32).toInt = 0 from by have h91 : (0 : Int32).toInt = 0 := (by decide); omega)) (cwV 3 hts gm_X2_weigh_BP_X2_weighBy_B_23 rfl rfl rfl (by decide +kernel) ⟨Nat.le_of_ble_eq_true rfl, Nat.le_of_ble_eq_true rfl⟩) (yA_V hN (xZ_k hZ hS hA) hK hP (ci := 2) (q0 := 29) rfl rfl) rfl rfl hl.1 rfl (lv_room (Nat.le_of_ble_eq_true rfl)) dX2_weigh_4 ⟨Nat.le_of_ble_eq_true rfl, Nat.le_of_ble_eq_true rfl⟩) hS hA hP (fun r1 u1 H locs hw1 hP hS => ?_)
  exact ro_iret hx hb hr hlocks hS dX2_weigh_7 trivial

def wm_X2_weighAllOf_BP : List Cond := .code yX2_weighAllOf cX2_weighAllOf 5 (some .int) :: (([.fieldLink RX2 15 "TalePlay$Bulks" "world" "LTalePlay$World;", .fieldLink RX2 31 "TalePlay$World" "objects" "I", .methodLink RX2 36 yX6_holderOf, .instanceMethod yX6_holderOf, .selects RX6 yX6_holderOf yX6_holderOf, .initialized RX6, .code yX6_holderOf cX6_holderOf 3 (some .int), .fieldLink RX6 9 "TalePlay$Scene" "cells" "[I", .methodLink RX2 23 yX2_weighBy, .instanceMethod yX2_weighBy, .selects RX2 yX2_weighBy yX2_weighBy, .initialized RX2, .code yX2_weighBy cX2_weighBy 6 (some .int), .methodLink RX2 42 yX10_sortOf, .instanceMethod yX10_sortOf, .selects RX10 yX10_sortOf yX10_sortOf, .initialized RX10, .code yX10_sortOf cX10_sortOf 2 (some .int), .fieldLink RX10 37 "TalePlay$World" "objects" "I", .fieldLink RX10 15 "TalePlay$World" "sorts" "[I", .fieldLink RX10 21 "TalePlay$World" "kindOf" "[I", .methodLink RX2 45 yX2_noteBodies, .instanceMethod yX2_noteBodies, .selects RX2 yX2_noteBodies yX2_noteBodies, .code yX2_noteBodies cX2_noteBodies 2 none, .fieldLink RX2 60 "TalePlay$Bulks" "BODIES" "[I", .methodLink RX2 63 yX2_note, .instanceMethod yX2_note, .selects RX2 yX2_note yX2_note, .code yX2_note cX2_note 2 none, .fieldLink RX2 27 "TalePlay$Bulks" "tracing" "Z", .fieldLink RX2 49 "TalePlay$World" "sizeOf" "[I", .methodLink RX2 52 yX2_weighThose, .instanceMethod yX2_weighThose, .selects RX2 yX2_weighThose yX2_weighThose, .code yX2_weighThose cX2_weighThose 7 (some .int), .methodLink RX2 56 yX6_lies, .instanceMethod yX6_lies, .selects RX6 yX6_lies yX6_lies, .code yX6_lies cX6_lies 4 (some .boolean)] : List Cond) ++ wsX20 ++ wsX100 ++ wsX60)
set_option maxRecDepth 20000 in
theorem gm_X2_weighAllOf_BP_X6_holderOf_BP_36 : GoodIn wm_X2_weighAllOf_BP (wsV RX2 36 RX6 yX6_holderOf wm_X6_holderOf_BP) := goodIn_app (goodIn_of _ (by decide +kernel)) (goodIn_r _ [7, 8, 52, 53] rfl (by decide +kernel))
set_option maxRecDepth 20000 in
theorem gm_X2_weighAllOf_BP_X2_weighBy_B_23 : GoodIn wm_X2_weighAllOf_BP (wsV RX2 23 RX2 yX2_weighBy wm_X2_weighBy_B) := goodIn_app (goodIn_of _ (by decide +kernel)) (goodIn_r _ [13, 1, 14, 15, 16, 17, 18, 19, 20, 21, 22, 23, 24, 12, 25, 26, 27, 28, 29, 30, 31, 32, 33, 34, 35, 36, 2, 37, 38, 39, 6, 40, 8, 9, 10, 11, 13, 41, 42, 43, 44, 45, 46, 47, 48, 49, 50, 51, 52, 53] rfl (by decide +kernel))
set_option maxHeartbeats 4000000 in
set_option maxRecDepth 100000 in
theorem x_X2_weighAllOf_BP (l : Launch) (D : va_G) (sz : Nat) (sk : Value) (a : Nat → Nat) (t : Nat → ClassId) (i : Nat → Int32) (q : Int64) (c : Nat → Nat → Int32) (d : Nat → Nat → Int64) (w : Int32) (hI : xInv i c) (htr : (i 141).toInt = 0) : Met l yX2_weighAllOf wm_X2_weighAllOf_BP ({ frames := 69, cells := 0, slots := 0, locals := 1806 }) (va_Pc [.ref (a 138), .ref (a 126), .int w] (yA (a 186) D sz (xwB sk a t i q c d) (xtB t))) (va_Qi (fun (r : Int32) (_ : Unit) => True) oA (ro sz)) 0 0 (ro sz) := by
  refine Met.ofW (cc := cX2_weighAllOf) (maxL := 5) (ret := (some .int)) (by decide) rfl ?_
  intro p e s m args below meth cd s₁ B hml hv
  obtain ⟨rfl, ⟨hsz, hP, hK⟩, hN, hZ⟩ := hv
  have hx := B.exec
  have hb := B.bytes
  have hr := B.returns
  have hts := atoms_spec (ws := wm_X2_weighAllOf_BP) B.pre
  have hown : s.vm.findClass RX2 = some m.cls := findClass_of_methodNamed B.named
  have hlocks := B.notSynchronized
  subst hsz
  have hA : ∀ q : Nat, s.heap.size ≤ q → ro s.heap.size q := fun _ h => h
  have hS : va_S (ro s.heap.size) s.heap s.heap [] := va_S.rf
  have hl := lv_entry ([.ref (a 138), .ref (a 126), .int w]) (n := 5) (Nat.le_of_ble_eq_true rfl)
  rw [lg_entry_eq]
  generalize (lg_sl ([.ref (a 138), .ref (a 126), .int w]) ++ List.replicate (5 - (lg_sl ([.ref (a 138), .ref (a 126), .int w])).length) Slot.unset).toArray = ls at hl ⊢
  have hl : lv_has ls 5 [(0, .ref (a 138)), (1, .ref (a 126)), (2, .int w)] := hl
  refine lv_iconst (v := 0) hx hb dX2_weighAllOf_0 (by decide) ?_
  refine lv_istore_n (lv' := [(3, .int 0), (0, .ref (a 138)), (1, .ref (a 126)), (2, .int w)]) hx hb dX2_weighAllOf_1 rfl hl (by decide) rfl (fun ls hl => ?_)
  refine lv_iconst (v := 0) hx hb dX2_weighAllOf_2 (by decide) ?_
  refine lv_istore (lv' := [(4, .int 0), (3, .int 0), (0, .ref (a 138)), (1, .ref (a 126)), (2, .int w)]) hx hb dX2_weighAllOf_3 hl (by decide) rfl (fun ls hl => ?_)
  have lp1 : ∀ (fu : Nat) (y1_4 : Int32) (y1_3 : Int32), (0 ≤ y1_4.toInt ∧ y1_4.toInt ≤ 30) → (30 - y1_4.toInt).toNat < fu → ∀ (H : Heap) (locs : List Loc) (ls : Array Slot), va_P D vwCl (xwB sk a t i q c d) H → va_S (ro s.heap.size) s.heap H locs → lv_has ls 5 [(4, .int y1_4), (3, .int y1_3), (0, .ref (a 138)), (1, .ref (a 126)), (2, .int w)] → W p l e (headSpec wm_X2_weighAllOf_BP ({ frames := 69, cells := 0, slots := 0, locals := 1806 })).room s m ([.ref (a 138), .ref (a 126), .int w] : List Value).toArray below meth cd H locs 0 0 (MQ below (va_Qi (fun (r : Int32) (_ : Unit) => True) oA (ro s.heap.size)) ([.ref (a 138), .ref (a 126), .int w] : List Value).toArray s 0 0 (ro s.heap.size)) (F0 m 5 ls []) := by
    intro fu
    induction fu with
    | zero => intro y1_4 y1_3 hy1_4 hm; exact absurd hm (Nat.not_lt_zero _)
    | succ fu ih =>
      intro y1_4 y1_3 hy1_4 hm H locs ls hP hS hl
      have ih1 := ih
      refine lv_iload hx hb dX2_weighAllOf_5 (lv_at hl 0 rfl) ?_
      refine lv_aload_n hx hb dX2_weighAllOf_7 rfl (lv_at hl 2 rfl) ?_
      refine xgB_K_world hx hb hts (fun _ h => List.mem_cons_of_mem _ (List.mem_append_left _ (List.mem_append_left _ (List.mem_append_right _ h)))) hown hK hP (hts (.fieldLink RX2 15 "TalePlay$Bulks" "world" "LTalePlay$World;") (by decide +kernel)) dX2_weighAllOf_8 ?_
      refine xgB_W_objects (v := (i 111)) rfl hx hb hts (fun _ h => List.mem_cons_of_mem _ (List.mem_append_left _ (List.mem_append_right _ h))) hown hK hP (hts (.fieldLink RX2 31 "TalePlay$World" "objects" "I") (by decide +kernel)) dX2_weighAllOf_11 ?_
      have rb111_i : 0 ≤ (i 111).toInt ∧ (i 111).toInt ≤ 30 := hI.1 111
      refine lv_icmp_ge (tgt := 44) hx hb dX2_weighAllOf_14 (by decide) (fun c2 => ?_) (fun c2 => ?_)
      · have f2 := (ti_le (a := (i 111).toInt) (b := y1_4.toInt) rfl rfl).mp c2
        refine lv_iload_n hx hb dX2_weighAllOf_44 rfl (lv_at hl 1 rfl) ?_
        exact ro_iret hx hb hr hlocks hS dX2_weighAllOf_45 trivial
      · have f2 := mt (ti_le (a := (i 111).toInt) (b := y1_4.toInt) rfl rfl).mpr c2
        refine lv_aload_n hx hb dX2_weighAllOf_17 rfl (lv_at hl 3 rfl) ?_
        refine lv_iload hx hb dX2_weighAllOf_18 (lv_at hl 0 rfl) ?_
        refine ro_calli (va_runV (As := [.int y1_4]) (rest := []) ⟨hx, hb, hml, hown, hts⟩ (x_X6_holderOf_BP l D H.size .null a t i q c d y1_4 hI (show 0 ≤ y1_4.toInt ∧ y1_4.toInt ≤ 29 from by omega)) (cwV 1 hts gm_X2_weighAllOf_BP_X6_holderOf_BP_36 rfl rfl rfl (by decide +kernel) ⟨Nat.le_of_ble_eq_true rfl, Nat.le_of_ble_eq_true rfl⟩) (yA_V hN (xZ_k hZ hS hA) (xkB_P0 hK) (xuB_P0 (sk := sk) hP) (ci := 6) (q0 := 0) rfl rfl) rfl rfl hl.1 rfl (lv_room (Nat.le_of_ble_eq_true rfl)) dX2_weighAllOf_20 ⟨Nat.le_of_ble_eq_true rfl, Nat.le_of_ble_eq_true rfl⟩) hS hA hP (fun r3 u3 H locs hw3 hP hS => ?_)
        have hw3 : ((r3.toInt = -9 ∧ (c 127 y1_4.toNatClampNeg).toInt % 256 = 255) ∨ (0 ≤ r3.toInt ∧ r3.toInt ≤ 29 ∧ ¬ (c 127 y1_4.toNatClampNeg).toInt % 256 = 255 ∧ r3.toInt = (c 127 y1_4.toNatClampNeg).toInt / 8 % 32)) := hw3
        refine lv_iload_n hx hb dX2_weighAllOf_23 rfl (lv_at hl 4 rfl) ?_
        have jn4 : ∀ (y4_3 : Int32), ∀ (H : Heap) (locs : List Loc) (ls : Array Slot), va_P D vwCl (xwB sk a t i q c d) H → va_S (ro s.heap.size) s.heap H locs → lv_has ls 5 [(4, .int y1_4), (0, .ref (a 138)), (1, .ref (a 126)), (2, .int w), (3, .int y4_3)] → W p l e (headSpec wm_X2_weighAllOf_BP ({ frames := 69, cells := 0, slots := 0, locals := 1806 })).room s m ([.ref (a 138), .ref (a 126), .int w] : List Value).toArray below meth cd H locs 0 0 (MQ below (va_Qi (fun (r : Int32) (_ : Unit) => True) oA (ro s.heap.size)) ([.ref (a 138), .ref (a 126), .int w] : List Value).toArray s 0 0 (ro s.heap.size)) (F0 m 38 ls []) := by
          intro y4_3 H locs ls hP hS hl
          obtain ⟨x5, ex5⟩ : ∃ y : Int32, y = y1_4 + 1 := ⟨_, rfl⟩
          have tx5 := ti_add (a := y1_4.toInt) (b := 1) ex5 rfl (by decide) (by omega) (by omega)
          refine lv_iinc (v := x5) (lv' := [(4, .int x5), (0, .ref (a 138)), (1, .ref (a 126)), (2, .int w), (3, .int y4_3)]) hx hb dX2_weighAllOf_38 hl (k := 0) rfl (by rw [ex5]; rfl) (by decide) rfl (fun ls hl => ?_)
          refine lv_goto (tgt := 5) hx hb dX2_weighAllOf_41 (by decide) ?_
          exact ih1 x5 y4_3 (show 0 ≤ x5.toInt ∧ x5.toInt ≤ 30 from by have h50 : x5.toInt = (y1_4.toInt + 1) := tx5; omega) (by have h50 : x5.toInt = (y1_4.toInt + 1) := tx5; omega) _ _ _ hP hS (lv_sub hl [0, 4, 1, 2, 3] rfl)
        refine lv_icmp_ne (tgt := 38) hx hb dX2_weighAllOf_24 (by decide) (fun c6 => ?_) (fun c6 => ?_)
        · have f6 := mt (ti_eq (a := r3.toInt) (b := w.toInt) rfl rfl).mpr c6
          exact jn4 y1_3   _ _ _ hP hS (lv_sub hl [0, 2, 3, 4, 1] rfl)
        · have f6 := (ti_eq (a := r3.toInt) (b := w.toInt) rfl rfl).mp c6
          refine lv_iload_n hx hb dX2_weighAllOf_27 rfl (lv_at hl 1 rfl) ?_
          refine lv_aload_n hx hb dX2_weighAllOf_28 rfl (lv_at hl 2 rfl) ?_
          refine lv_aload_n hx hb dX2_weighAllOf_29 rfl (lv_at hl 3 rfl) ?_
          refine lv_iload hx hb dX2_weighAllOf_30 (lv_at hl 0 rfl) ?_
          refine lv_iconst (v := 0) hx hb dX2_weighAllOf_32 (by decide) ?_
          have rb141_i : 0 ≤ (i 141).toInt ∧ (i 141).toInt ≤ 1 := hI.1 141
          refine ro_calli (va_runV (As := [.ref (a 126), .int y1_4, .int 0]) (rest := [.int y1_3]) ⟨hx, hb, hml, hown, hts⟩ (x0_X2_weighBy_B l D H.size .null a t i q c d y1_4 0 hI (show 0 ≤ y1_4.toInt ∧ y1_4.toInt ≤ 29 from by have h91 : (0 : Int32).toInt = 0 := (by decide); omega) (show 0 = 0 from by have h91 : (0 : Int32).toInt = 0 := (by decide); omega) (show ((i 141) : Int32).toInt = 0 from by have h91 : (0 : Int32).toInt = 0 := (by decide); omega)) (cwV 3 hts gm_X2_weighAllOf_BP_X2_weighBy_B_23 rfl rfl rfl (by decide +kernel) ⟨Nat.le_of_ble_eq_true rfl, Nat.le_of_ble_eq_true rfl⟩) (yA_V hN (xZ_k hZ hS hA) hK hP (ci := 2) (q0 := 29) rfl rfl) rfl rfl hl.1 rfl (lv_room (Nat.le_of_ble_eq_true rfl)) dX2_weighAllOf_33 ⟨Nat.le_of_ble_eq_true rfl, Nat.le_of_ble_eq_true rfl⟩) hS hA hP (fun r7 u7 H locs hw7 hP hS => ?_)
          refine lv_iadd hx hb dX2_weighAllOf_36 ?_
          refine lv_topi (fun x8 ex8 => ?_)
          refine lv_istore_n (lv' := [(3, .int x8), (4, .int y1_4), (0, .ref (a 138)), (1, .ref (a 126)), (2, .int w)]) hx hb dX2_weighAllOf_37 rfl hl (by decide) rfl (fun ls hl => ?_)
          exact jn4 x8   _ _ _ hP hS (lv_sub hl [1, 2, 3, 4, 0] rfl)
  exact lp1 _ (0 : Int32) (0 : Int32) (show 0 ≤ (0 : Int32).toInt ∧ (0 : Int32).toInt ≤ 30 from by have h50 : (0 : Int32).toInt = 0 := (by decide); have h51 : (0 : Int32).toInt = 0 := (by decide); omega) (Nat.lt_succ_self _) _ _ _ hP hS (lv_sub hl [0, 1, 2, 3, 4] rfl)

def wm_X2_weighTraced_BP : List Cond := .code yX2_weighTraced cX2_weighTraced 4 (some .int) :: (([.fieldLink RX2 27 "TalePlay$Bulks" "tracing" "Z", .methodLink RX2 23 yX2_weighBy, .instanceMethod yX2_weighBy, .selects RX2 yX2_weighBy yX2_weighBy, .initialized RX2, .code yX2_weighBy cX2_weighBy 6 (some .int), .fieldLink RX2 15 "TalePlay$Bulks" "world" "LTalePlay$World;", .methodLink RX2 42 yX10_sortOf, .instanceMethod yX10_sortOf, .selects RX10 yX10_sortOf yX10_sortOf, .initialized RX10, .code yX10_sortOf cX10_sortOf 2 (some .int), .fieldLink RX10 37 "TalePlay$World" "objects" "I", .fieldLink RX10 15 "TalePlay$World" "sorts" "[I", .fieldLink RX10 21 "TalePlay$World" "kindOf" "[I", .methodLink RX2 45 yX2_noteBodies, .instanceMethod yX2_noteBodies, .selects RX2 yX2_noteBodies yX2_noteBodies, .code yX2_noteBodies cX2_noteBodies 2 none, .fieldLink RX2 60 "TalePlay$Bulks" "BODIES" "[I", .methodLink RX2 63 yX2_note, .instanceMethod yX2_note, .selects RX2 yX2_note yX2_note, .code yX2_note cX2_note 2 none, .fieldLink RX2 19 "TalePlay$Bulks" "traced" "I", .fieldLink RX2 9 "TalePlay$Bulks" "trace" "[I", .fieldLink RX2 49 "TalePlay$World" "sizeOf" "[I", .methodLink RX2 52 yX2_weighThose, .instanceMethod yX2_weighThose, .selects RX2 yX2_weighThose yX2_weighThose, .code yX2_weighThose cX2_weighThose 7 (some .int), .fieldLink RX2 31 "TalePlay$World" "objects" "I", .methodLink RX2 56 yX6_lies, .instanceMethod yX6_lies, .selects RX6 yX6_lies yX6_lies, .initialized RX6, .code yX6_lies cX6_lies 4 (some .boolean), .fieldLink RX6 9 "TalePlay$Scene" "cells" "[I"] : List Cond) ++ wsX20 ++ wsX100 ++ wsX60)
set_option maxRecDepth 20000 in
theorem gm_X2_weighTraced_BP_X2_weighBy_vB_23 : GoodIn wm_X2_weighTraced_BP (wsV RX2 23 RX2 yX2_weighBy wm_X2_weighBy_vB) := goodIn_app (goodIn_of _ (by decide +kernel)) (goodIn_r _ [6, 7, 8, 9, 10, 11, 12, 13, 14, 15, 16, 17, 18, 5, 19, 20, 21, 22, 23, 24, 1, 25, 26, 27, 28, 29, 30, 31, 32, 33, 34, 35, 36, 37, 38, 2, 3, 4, 6, 39, 40, 41, 42, 43, 44, 45, 46, 47, 48, 49, 50, 51] rfl (by decide +kernel))
set_option maxHeartbeats 4000000 in
set_option maxRecDepth 100000 in
theorem x_X2_weighTraced_BP (l : Launch) (D : va_G) (sz : Nat) (sk : Value) (a : Nat → Nat) (t : Nat → ClassId) (i : Nat → Int32) (q : Int64) (c : Nat → Nat → Int32) (d : Nat → Nat → Int64) (w : Int32) (hI : xInv i c) (hw : 0 ≤ w.toInt ∧ w.toInt ≤ 29) : Met l yX2_weighTraced wm_X2_weighTraced_BP ({ frames := 69, cells := 0, slots := 0, locals := 1806 }) (va_Pc [.ref (a 138), .ref (a 126), .int w] (yB (a 186) D sz (xwT sk a t i q c d) (xtT t))) (va_Qi (fun (r : Int32) (u : MS) => True ∧ xInv u.1 u.2.2.1 ∧ (∀ k, k ∉ ([140, 141] : List Nat) → u.1 k = i k) ∧ (∀ k, k ∉ ([139] : List Nat) → u.2.2.1 k = c k) ∧ ((u.1 141).toInt = 0)) (oC D (va_A (xwT sk a t i q c d) sz) (fun u : MS => xwT sk a t u.1 u.2.1 u.2.2.1 u.2.2.2) (fun _ => [])) (va_A (xwT sk a t i q c d) sz)) 0 0 (va_A (xwT sk a t i q c d) sz) := by
  refine Met.ofW (cc := cX2_weighTraced) (maxL := 4) (ret := (some .int)) (by decide) rfl ?_
  intro p e s m args below meth cd s₁ B hml hv
  obtain ⟨rfl, ⟨hsz, hP, hK, hD0⟩, hN, hZ, hBW⟩ := hv
  have hx := B.exec
  have hb := B.bytes
  have hr := B.returns
  have hts := atoms_spec (ws := wm_X2_weighTraced_BP) B.pre
  have hown : s.vm.findClass RX2 = some m.cls := findClass_of_methodNamed B.named
  have hlocks := B.notSynchronized
  subst hsz
  have hD := hD0.self (sz := s.heap.size)
  have hZ := xZ_A hZ hP hBW
  generalize hAe : va_A (xwT sk a t i q c d) s.heap.size = A at hD hZ ⊢
  have hA : ∀ q : Nat, s.heap.size ≤ q → A q := fun q h => by rw [← hAe]; exact Or.inr h
  have hS : va_S A s.heap s.heap [] := va_S.rf
  have hfi : ∀ k, k ∉ ([] : List Nat) → i k = i k := fun _ _ => rfl
  have hfc : ∀ k, k ∉ ([] : List Nat) → c k = c k := fun _ _ => rfl
  have hl := lv_entry ([.ref (a 138), .ref (a 126), .int w]) (n := 4) (Nat.le_of_ble_eq_true rfl)
  rw [lg_entry_eq]
  generalize (lg_sl ([.ref (a 138), .ref (a 126), .int w]) ++ List.replicate (4 - (lg_sl ([.ref (a 138), .ref (a 126), .int w])).length) Slot.unset).toArray = ls at hl ⊢
  have hl : lv_has ls 4 [(0, .ref (a 138)), (1, .ref (a 126)), (2, .int w)] := hl
  refine lv_aload_n hx hb dX2_weighTraced_0 rfl (lv_at hl 0 rfl) ?_
  refine lv_iconst (v := 1) hx hb dX2_weighTraced_1 (by decide) ?_
  refine xpT_K_tracing hx hb hts (fun _ h => List.mem_cons_of_mem _ (List.mem_append_left _ (List.mem_append_left _ (List.mem_append_right _ h)))) hown hK hP hD hS (hts (.fieldLink RX2 27 "TalePlay$Bulks" "tracing" "Z") (by decide +kernel)) rfl rfl dX2_weighTraced_2 (fun H locs hP hD hS => ?_)
  have hI := xInv_i hI (k := 141) (v := 1) (show 0 ≤ (1 : Int32).toInt ∧ (1 : Int32).toInt ≤ 1 from by have h9 : (1 : Int32).toInt = 1 := (by decide); omega)
  have hfi : ∀ k, k ∉ ([141] : List Nat) → (upd i 141 1) k = i k := fr_iz hfi (by decide) (by decide)
  refine lv_aload_n hx hb dX2_weighTraced_5 rfl (lv_at hl 0 rfl) ?_
  refine lv_aload_n hx hb dX2_weighTraced_6 rfl (lv_at hl 1 rfl) ?_
  refine lv_iload_n hx hb dX2_weighTraced_7 rfl (lv_at hl 2 rfl) ?_
  refine lv_iconst (v := 0) hx hb dX2_weighTraced_8 (by decide) ?_
  refine al_calli (va_runV (As := [.ref (a 126), .int w, .int 0]) (rest := []) ⟨hx, hb, hml, hown, hts⟩ (x0_X2_weighBy_vB l D H.size sk a t (upd i 141 1) q c d w 0 hI (show 0 ≤ w.toInt ∧ w.toInt ≤ 29 from by have h91 : (0 : Int32).toInt = 0 := (by decide); have h60 : (1 : Int32).toInt = 1 := (by decide); omega) (show 0 = 0 from by have h91 : (0 : Int32).toInt = 0 := (by decide); have h60 : (1 : Int32).toInt = 1 := (by decide); omega)) (cwV 3 hts gm_X2_weighTraced_BP_X2_weighBy_vB_23 rfl rfl rfl (by decide +kernel) ⟨Nat.le_of_ble_eq_true rfl, Nat.le_of_ble_eq_true rfl⟩) (yB_V hN (xZ_k hZ hS hA) (xZ_n hZ hD) hK hP hD (ci := 2) (q0 := 31) rfl rfl) rfl rfl hl.1 rfl (lv_room (Nat.le_of_ble_eq_true rfl)) dX2_weighTraced_9 ⟨Nat.le_of_ble_eq_true rfl, Nat.le_of_ble_eq_true rfl⟩) hS hA hP hD (fun r1 u1 H locs hw1 hP hD hS => ?_)
  obtain ⟨i1, q1, c1, d1⟩ := u1
  have hw1 : True ∧ xInv i1 c1 ∧ (∀ k, k ∉ ([140] : List Nat) → i1 k = (upd i 141 1) k) ∧ (∀ k, k ∉ ([139] : List Nat) → c1 k = c k) := hw1
  obtain ⟨hw1, hI, hei1, hec1⟩ := hw1
  have hfi : ∀ k, k ∉ ([140, 141] : List Nat) → i1 k = i k := fr_z hfi hei1 (by decide) (by decide)
  have hfc : ∀ k, k ∉ ([139] : List Nat) → c1 k = c k := fr_z hfc hec1 (by decide) (by decide)
  refine lv_istore_n (lv' := [(3, .int r1), (0, .ref (a 138)), (1, .ref (a 126)), (2, .int w)]) hx hb dX2_weighTraced_12 rfl hl (by decide) rfl (fun ls hl => ?_)
  refine lv_aload_n hx hb dX2_weighTraced_13 rfl (lv_at hl 1 rfl) ?_
  refine lv_iconst (v := 0) hx hb dX2_weighTraced_14 (by decide) ?_
  refine xpT_K_tracing hx hb hts (fun _ h => List.mem_cons_of_mem _ (List.mem_append_left _ (List.mem_append_left _ (List.mem_append_right _ h)))) hown hK hP hD hS (hts (.fieldLink RX2 27 "TalePlay$Bulks" "tracing" "Z") (by decide +kernel)) rfl rfl dX2_weighTraced_15 (fun H locs hP hD hS => ?_)
  have hI := xInv_i hI (k := 141) (v := 0) (show 0 ≤ (0 : Int32).toInt ∧ (0 : Int32).toInt ≤ 1 from by have h9 : (0 : Int32).toInt = 0 := (by decide); omega)
  have hfi := fr_i hfi (k := 141) (v := 0) (by decide)
  refine lv_iload_n hx hb dX2_weighTraced_18 rfl (lv_at hl 0 rfl) ?_
  exact rw_iret ((upd i1 141 0), q1, c1, d1) hx hb hr hlocks hS (hK.sub (tys' := []) [] rfl) hP hD dX2_weighTraced_19 ⟨trivial, hI, fr_w hfi (by decide), fr_w hfc (by decide), (show (0 : Int32).toInt = 0 from by have h50 : (0 : Int32).toInt = 0 := (by decide); omega)⟩

def wm_X2_weigh_TS : List Cond := .code yX2_weigh cX2_weigh 3 (some .int) :: (([.methodLink RX2 23 yX2_weighBy, .instanceMethod yX2_weighBy, .selects RX2 yX2_weighBy yX2_weighBy, .initialized RX2, .code yX2_weighBy cX2_weighBy 6 (some .int), .fieldLink RX2 15 "TalePlay$Bulks" "world" "LTalePlay$World;", .methodLink RX2 42 yX10_sortOf, .instanceMethod yX10_sortOf, .selects RX10 yX10_sortOf yX10_sortOf, .initialized RX10, .code yX10_sortOf cX10_sortOf 2 (some .int), .fieldLink RX10 37 "TalePlay$World" "objects" "I", .fieldLink RX10 15 "TalePlay$World" "sorts" "[I", .fieldLink RX10 21 "TalePlay$World" "kindOf" "[I", .methodLink RX2 45 yX2_noteBodies, .instanceMethod yX2_noteBodies, .selects RX2 yX2_noteBodies yX2_noteBodies, .code yX2_noteBodies cX2_noteBodies 2 none, .fieldLink RX2 60 "TalePlay$Bulks" "BODIES" "[I", .methodLink RX2 63 yX2_note, .instanceMethod yX2_note, .selects RX2 yX2_note yX2_note, .code yX2_note cX2_note 2 none, .fieldLink RX2 27 "TalePlay$Bulks" "tracing" "Z", .fieldLink RX2 49 "TalePlay$World" "sizeOf" "[I", .methodLink RX2 52 yX2_weighThose, .instanceMethod yX2_weighThose, .selects RX2 yX2_weighThose yX2_weighThose, .code yX2_weighThose cX2_weighThose 7 (some .int), .fieldLink RX2 31 "TalePlay$World" "objects" "I", .methodLink RX2 56 yX6_lies, .instanceMethod yX6_lies, .selects RX6 yX6_lies yX6_lies, .initialized RX6, .code yX6_lies cX6_lies 4 (some .boolean), .fieldLink RX6 9 "TalePlay$Scene" "cells" "[I"] : List Cond) ++ wsX20 ++ wsX100 ++ wsX60)
set_option maxRecDepth 20000 in
theorem gm_X2_weigh_TS_X2_weighBy_T_23 : GoodIn wm_X2_weigh_TS (wsV RX2 23 RX2 yX2_weighBy wm_X2_weighBy_T) := goodIn_app (goodIn_of _ (by decide +kernel)) (goodIn_r _ [5, 6, 7, 8, 9, 10, 11, 12, 13, 14, 15, 16, 17, 4, 18, 19, 20, 21, 22, 23, 24, 25, 26, 27, 28, 29, 30, 31, 32, 33, 34, 35, 36, 1, 2, 3, 5, 37, 38, 39, 40, 41, 42, 43, 44, 45, 46, 47, 48, 49] rfl (by decide +kernel))
set_option maxHeartbeats 4000000 in
set_option maxRecDepth 100000 in
theorem x_X2_weigh_TS (l : Launch) (D : va_G) (sz : Nat) (sk : Value) (a : Nat → Nat) (t : Nat → ClassId) (i : Nat → Int32) (q : Int64) (c : Nat → Nat → Int32) (d : Nat → Nat → Int64) (w : Int32) (hI : xInv i c) (hw : 0 ≤ w.toInt ∧ w.toInt ≤ 29) (htr : (i 141).toInt = 0) : Met l yX2_weigh wm_X2_weigh_TS ({ frames := 69, cells := 0, slots := 0, locals := 1806 }) (va_Pc [.ref (a 138), .ref (a 149), .int w] (yA (a 186) D sz (xwBT sk a t i q c d) (xtBT t))) (va_Qi (fun (r : Int32) (_ : Unit) => True) oA (ro sz)) 0 0 (ro sz) := by
  refine Met.ofW (cc := cX2_weigh) (maxL := 3) (ret := (some .int)) (by decide) rfl ?_
  intro p e s m args below meth cd s₁ B hml hv
  obtain ⟨rfl, ⟨hsz, hP, hK⟩, hN, hZ⟩ := hv
  have hx := B.exec
  have hb := B.bytes
  have hr := B.returns
  have hts := atoms_spec (ws := wm_X2_weigh_TS) B.pre
  have hown : s.vm.findClass RX2 = some m.cls := findClass_of_methodNamed B.named
  have hlocks := B.notSynchronized
  subst hsz
  have hA : ∀ q : Nat, s.heap.size ≤ q → ro s.heap.size q := fun _ h => h
  have hS : va_S (ro s.heap.size) s.heap s.heap [] := va_S.rf
  have hl := lv_entry ([.ref (a 138), .ref (a 149), .int w]) (n := 3) (Nat.le_of_ble_eq_true rfl)
  rw [lg_entry_eq]
  generalize (lg_sl ([.ref (a 138), .ref (a 149), .int w]) ++ List.replicate (3 - (lg_sl ([.ref (a 138), .ref (a 149), .int w])).length) Slot.unset).toArray = ls at hl ⊢
  have hl : lv_has ls 3 [(0, .ref (a 138)), (1, .ref (a 149)), (2, .int w)] := hl
  refine lv_aload_n hx hb dX2_weigh_0 rfl (lv_at hl 0 rfl) ?_
  refine lv_aload_n hx hb dX2_weigh_1 rfl (lv_at hl 1 rfl) ?_
  refine lv_iload_n hx hb dX2_weigh_2 rfl (lv_at hl 2 rfl) ?_
  refine lv_iconst (v := 0) hx hb dX2_weigh_3 (by decide) ?_
  have rb141_i : 0 ≤ (i 141).toInt ∧ (i 141).toInt ≤ 1 := hI.1 141
  refine ro_calli (va_runV (As := [.ref (a 149), .int w, .int 0]) (rest := []) ⟨hx, hb, hml, hown, hts⟩ (x0_X2_weighBy_T l D s.heap.size .null a t i q c d w 0 hI (show 0 ≤ w.toInt ∧ w.toInt ≤ 29 from by have h91 : (0 : Int32).toInt = 0 := (by decide); omega) (show 0 = 0 from by have h91 : (0 : Int32).toInt = 0 := (by decide); omega) (show ((i 141) : Int32).toInt = 0 from by have h91 : (0 : Int32).toInt = 0 := (by decide); omega)) (cwV 3 hts gm_X2_weigh_TS_X2_weighBy_T_23 rfl rfl rfl (by decide +kernel) ⟨Nat.le_of_ble_eq_true rfl, Nat.le_of_ble_eq_true rfl⟩) (yA_V hN (xZ_k hZ hS hA) hK hP (ci := 2) (q0 := 29) rfl rfl) rfl rfl hl.1 rfl (lv_room (Nat.le_of_ble_eq_true rfl)) dX2_weigh_4 ⟨Nat.le_of_ble_eq_true rfl, Nat.le_of_ble_eq_true rfl⟩) hS hA hP (fun r1 u1 H locs hw1 hP hS => ?_)
  exact ro_iret hx hb hr hlocks hS dX2_weigh_7 trivial

def wm_X2_weighAllOf_TS : List Cond := .code yX2_weighAllOf cX2_weighAllOf 5 (some .int) :: (([.fieldLink RX2 15 "TalePlay$Bulks" "world" "LTalePlay$World;", .fieldLink RX2 31 "TalePlay$World" "objects" "I", .methodLink RX2 36 yX6_holderOf, .instanceMethod yX6_holderOf, .selects RX6 yX6_holderOf yX6_holderOf, .initialized RX6, .code yX6_holderOf cX6_holderOf 3 (some .int), .fieldLink RX6 9 "TalePlay$Scene" "cells" "[I", .methodLink RX2 23 yX2_weighBy, .instanceMethod yX2_weighBy, .selects RX2 yX2_weighBy yX2_weighBy, .initialized RX2, .code yX2_weighBy cX2_weighBy 6 (some .int), .methodLink RX2 42 yX10_sortOf, .instanceMethod yX10_sortOf, .selects RX10 yX10_sortOf yX10_sortOf, .initialized RX10, .code yX10_sortOf cX10_sortOf 2 (some .int), .fieldLink RX10 37 "TalePlay$World" "objects" "I", .fieldLink RX10 15 "TalePlay$World" "sorts" "[I", .fieldLink RX10 21 "TalePlay$World" "kindOf" "[I", .methodLink RX2 45 yX2_noteBodies, .instanceMethod yX2_noteBodies, .selects RX2 yX2_noteBodies yX2_noteBodies, .code yX2_noteBodies cX2_noteBodies 2 none, .fieldLink RX2 60 "TalePlay$Bulks" "BODIES" "[I", .methodLink RX2 63 yX2_note, .instanceMethod yX2_note, .selects RX2 yX2_note yX2_note, .code yX2_note cX2_note 2 none, .fieldLink RX2 27 "TalePlay$Bulks" "tracing" "Z", .fieldLink RX2 49 "TalePlay$World" "sizeOf" "[I", .methodLink RX2 52 yX2_weighThose, .instanceMethod yX2_weighThose, .selects RX2 yX2_weighThose yX2_weighThose, .code yX2_weighThose cX2_weighThose 7 (some .int), .methodLink RX2 56 yX6_lies, .instanceMethod yX6_lies, .selects RX6 yX6_lies yX6_lies, .code yX6_lies cX6_lies 4 (some .boolean)] : List Cond) ++ wsX20 ++ wsX100 ++ wsX60)
set_option maxRecDepth 20000 in
theorem gm_X2_weighAllOf_TS_X6_holderOf_TS_36 : GoodIn wm_X2_weighAllOf_TS (wsV RX2 36 RX6 yX6_holderOf wm_X6_holderOf_TS) := goodIn_app (goodIn_of _ (by decide +kernel)) (goodIn_r _ [7, 8, 52, 53] rfl (by decide +kernel))
set_option maxRecDepth 20000 in
theorem gm_X2_weighAllOf_TS_X2_weighBy_T_23 : GoodIn wm_X2_weighAllOf_TS (wsV RX2 23 RX2 yX2_weighBy wm_X2_weighBy_T) := goodIn_app (goodIn_of _ (by decide +kernel)) (goodIn_r _ [13, 1, 14, 15, 16, 17, 18, 19, 20, 21, 22, 23, 24, 12, 25, 26, 27, 28, 29, 30, 31, 32, 33, 34, 35, 36, 2, 37, 38, 39, 6, 40, 8, 9, 10, 11, 13, 41, 42, 43, 44, 45, 46, 47, 48, 49, 50, 51, 52, 53] rfl (by decide +kernel))
set_option maxHeartbeats 4000000 in
set_option maxRecDepth 100000 in
theorem x_X2_weighAllOf_TS (l : Launch) (D : va_G) (sz : Nat) (sk : Value) (a : Nat → Nat) (t : Nat → ClassId) (i : Nat → Int32) (q : Int64) (c : Nat → Nat → Int32) (d : Nat → Nat → Int64) (w : Int32) (hI : xInv i c) (htr : (i 141).toInt = 0) : Met l yX2_weighAllOf wm_X2_weighAllOf_TS ({ frames := 69, cells := 0, slots := 0, locals := 1806 }) (va_Pc [.ref (a 138), .ref (a 149), .int w] (yA (a 186) D sz (xwBT sk a t i q c d) (xtBT t))) (va_Qi (fun (r : Int32) (_ : Unit) => True) oA (ro sz)) 0 0 (ro sz) := by
  refine Met.ofW (cc := cX2_weighAllOf) (maxL := 5) (ret := (some .int)) (by decide) rfl ?_
  intro p e s m args below meth cd s₁ B hml hv
  obtain ⟨rfl, ⟨hsz, hP, hK⟩, hN, hZ⟩ := hv
  have hx := B.exec
  have hb := B.bytes
  have hr := B.returns
  have hts := atoms_spec (ws := wm_X2_weighAllOf_TS) B.pre
  have hown : s.vm.findClass RX2 = some m.cls := findClass_of_methodNamed B.named
  have hlocks := B.notSynchronized
  subst hsz
  have hA : ∀ q : Nat, s.heap.size ≤ q → ro s.heap.size q := fun _ h => h
  have hS : va_S (ro s.heap.size) s.heap s.heap [] := va_S.rf
  have hl := lv_entry ([.ref (a 138), .ref (a 149), .int w]) (n := 5) (Nat.le_of_ble_eq_true rfl)
  rw [lg_entry_eq]
  generalize (lg_sl ([.ref (a 138), .ref (a 149), .int w]) ++ List.replicate (5 - (lg_sl ([.ref (a 138), .ref (a 149), .int w])).length) Slot.unset).toArray = ls at hl ⊢
  have hl : lv_has ls 5 [(0, .ref (a 138)), (1, .ref (a 149)), (2, .int w)] := hl
  refine lv_iconst (v := 0) hx hb dX2_weighAllOf_0 (by decide) ?_
  refine lv_istore_n (lv' := [(3, .int 0), (0, .ref (a 138)), (1, .ref (a 149)), (2, .int w)]) hx hb dX2_weighAllOf_1 rfl hl (by decide) rfl (fun ls hl => ?_)
  refine lv_iconst (v := 0) hx hb dX2_weighAllOf_2 (by decide) ?_
  refine lv_istore (lv' := [(4, .int 0), (3, .int 0), (0, .ref (a 138)), (1, .ref (a 149)), (2, .int w)]) hx hb dX2_weighAllOf_3 hl (by decide) rfl (fun ls hl => ?_)
  have lp1 : ∀ (fu : Nat) (y1_4 : Int32) (y1_3 : Int32), (0 ≤ y1_4.toInt ∧ y1_4.toInt ≤ 30) → (30 - y1_4.toInt).toNat < fu → ∀ (H : Heap) (locs : List Loc) (ls : Array Slot), va_P D vwCl (xwBT sk a t i q c d) H → va_S (ro s.heap.size) s.heap H locs → lv_has ls 5 [(4, .int y1_4), (3, .int y1_3), (0, .ref (a 138)), (1, .ref (a 149)), (2, .int w)] → W p l e (headSpec wm_X2_weighAllOf_TS ({ frames := 69, cells := 0, slots := 0, locals := 1806 })).room s m ([.ref (a 138), .ref (a 149), .int w] : List Value).toArray below meth cd H locs 0 0 (MQ below (va_Qi (fun (r : Int32) (_ : Unit) => True) oA (ro s.heap.size)) ([.ref (a 138), .ref (a 149), .int w] : List Value).toArray s 0 0 (ro s.heap.size)) (F0 m 5 ls []) := by
    intro fu
    induction fu with
    | zero => intro y1_4 y1_3 hy1_4 hm; exact absurd hm (Nat.not_lt_zero _)
    | succ fu ih =>
      intro y1_4 y1_3 hy1_4 hm H locs ls hP hS hl
      have ih1 := ih
      refine lv_iload hx hb dX2_weighAllOf_5 (lv_at hl 0 rfl) ?_
      refine lv_aload_n hx hb dX2_weighAllOf_7 rfl (lv_at hl 2 rfl) ?_
      refine xgBT_K_world hx hb hts (fun _ h => List.mem_cons_of_mem _ (List.mem_append_left _ (List.mem_append_left _ (List.mem_append_right _ h)))) hown hK hP (hts (.fieldLink RX2 15 "TalePlay$Bulks" "world" "LTalePlay$World;") (by decide +kernel)) dX2_weighAllOf_8 ?_
      refine xgBT_W_objects (v := (i 111)) rfl hx hb hts (fun _ h => List.mem_cons_of_mem _ (List.mem_append_left _ (List.mem_append_right _ h))) hown hK hP (hts (.fieldLink RX2 31 "TalePlay$World" "objects" "I") (by decide +kernel)) dX2_weighAllOf_11 ?_
      have rb111_i : 0 ≤ (i 111).toInt ∧ (i 111).toInt ≤ 30 := hI.1 111
      refine lv_icmp_ge (tgt := 44) hx hb dX2_weighAllOf_14 (by decide) (fun c2 => ?_) (fun c2 => ?_)
      · have f2 := (ti_le (a := (i 111).toInt) (b := y1_4.toInt) rfl rfl).mp c2
        refine lv_iload_n hx hb dX2_weighAllOf_44 rfl (lv_at hl 1 rfl) ?_
        exact ro_iret hx hb hr hlocks hS dX2_weighAllOf_45 trivial
      · have f2 := mt (ti_le (a := (i 111).toInt) (b := y1_4.toInt) rfl rfl).mpr c2
        refine lv_aload_n hx hb dX2_weighAllOf_17 rfl (lv_at hl 3 rfl) ?_
        refine lv_iload hx hb dX2_weighAllOf_18 (lv_at hl 0 rfl) ?_
        refine ro_calli (va_runV (As := [.int y1_4]) (rest := []) ⟨hx, hb, hml, hown, hts⟩ (x_X6_holderOf_TS l D H.size .null a t i q c d y1_4 hI (show 0 ≤ y1_4.toInt ∧ y1_4.toInt ≤ 29 from by omega)) (cwV 1 hts gm_X2_weighAllOf_TS_X6_holderOf_TS_36 rfl rfl rfl (by decide +kernel) ⟨Nat.le_of_ble_eq_true rfl, Nat.le_of_ble_eq_true rfl⟩) (yA_V hN (xZ_k hZ hS hA) (xkBT_P1 hK) (xuBT_P1 (sk := sk) hP) (ci := 6) (q0 := 0) rfl rfl) rfl rfl hl.1 rfl (lv_room (Nat.le_of_ble_eq_true rfl)) dX2_weighAllOf_20 ⟨Nat.le_of_ble_eq_true rfl, Nat.le_of_ble_eq_true rfl⟩) hS hA hP (fun r3 u3 H locs hw3 hP hS => ?_)
        have hw3 : ((r3.toInt = -9 ∧ (c 150 y1_4.toNatClampNeg).toInt % 256 = 255) ∨ (0 ≤ r3.toInt ∧ r3.toInt ≤ 29 ∧ ¬ (c 150 y1_4.toNatClampNeg).toInt % 256 = 255 ∧ r3.toInt = (c 150 y1_4.toNatClampNeg).toInt / 8 % 32)) := hw3
        refine lv_iload_n hx hb dX2_weighAllOf_23 rfl (lv_at hl 4 rfl) ?_
        have jn4 : ∀ (y4_3 : Int32), ∀ (H : Heap) (locs : List Loc) (ls : Array Slot), va_P D vwCl (xwBT sk a t i q c d) H → va_S (ro s.heap.size) s.heap H locs → lv_has ls 5 [(4, .int y1_4), (0, .ref (a 138)), (1, .ref (a 149)), (2, .int w), (3, .int y4_3)] → W p l e (headSpec wm_X2_weighAllOf_TS ({ frames := 69, cells := 0, slots := 0, locals := 1806 })).room s m ([.ref (a 138), .ref (a 149), .int w] : List Value).toArray below meth cd H locs 0 0 (MQ below (va_Qi (fun (r : Int32) (_ : Unit) => True) oA (ro s.heap.size)) ([.ref (a 138), .ref (a 149), .int w] : List Value).toArray s 0 0 (ro s.heap.size)) (F0 m 38 ls []) := by
          intro y4_3 H locs ls hP hS hl
          obtain ⟨x5, ex5⟩ : ∃ y : Int32, y = y1_4 + 1 := ⟨_, rfl⟩
          have tx5 := ti_add (a := y1_4.toInt) (b := 1) ex5 rfl (by decide) (by omega) (by omega)
          refine lv_iinc (v := x5) (lv' := [(4, .int x5), (0, .ref (a 138)), (1, .ref (a 149)), (2, .int w), (3, .int y4_3)]) hx hb dX2_weighAllOf_38 hl (k := 0) rfl (by rw [ex5]; rfl) (by decide) rfl (fun ls hl => ?_)
          refine lv_goto (tgt := 5) hx hb dX2_weighAllOf_41 (by decide) ?_
          exact ih1 x5 y4_3 (show 0 ≤ x5.toInt ∧ x5.toInt ≤ 30 from by have h50 : x5.toInt = (y1_4.toInt + 1) := tx5; omega) (by have h50 : x5.toInt = (y1_4.toInt + 1) := tx5; omega) _ _ _ hP hS (lv_sub hl [0, 4, 1, 2, 3] rfl)
        refine lv_icmp_ne (tgt := 38) hx hb dX2_weighAllOf_24 (by decide) (fun c6 => ?_) (fun c6 => ?_)
        · have f6 := mt (ti_eq (a := r3.toInt) (b := w.toInt) rfl rfl).mpr c6
          exact jn4 y1_3   _ _ _ hP hS (lv_sub hl [0, 2, 3, 4, 1] rfl)
        · have f6 := (ti_eq (a := r3.toInt) (b := w.toInt) rfl rfl).mp c6
          refine lv_iload_n hx hb dX2_weighAllOf_27 rfl (lv_at hl 1 rfl) ?_
          refine lv_aload_n hx hb dX2_weighAllOf_28 rfl (lv_at hl 2 rfl) ?_
          refine lv_aload_n hx hb dX2_weighAllOf_29 rfl (lv_at hl 3 rfl) ?_
          refine lv_iload hx hb dX2_weighAllOf_30 (lv_at hl 0 rfl) ?_
          refine lv_iconst (v := 0) hx hb dX2_weighAllOf_32 (by decide) ?_
          have rb141_i : 0 ≤ (i 141).toInt ∧ (i 141).toInt ≤ 1 := hI.1 141
          refine ro_calli (va_runV (As := [.ref (a 149), .int y1_4, .int 0]) (rest := [.int y1_3]) ⟨hx, hb, hml, hown, hts⟩ (x0_X2_weighBy_T l D H.size .null a t i q c d y1_4 0 hI (show 0 ≤ y1_4.toInt ∧ y1_4.toInt ≤ 29 from by have h91 : (0 : Int32).toInt = 0 := (by decide); omega) (show 0 = 0 from by have h91 : (0 : Int32).toInt = 0 := (by decide); omega) (show ((i 141) : Int32).toInt = 0 from by have h91 : (0 : Int32).toInt = 0 := (by decide); omega)) (cwV 3 hts gm_X2_weighAllOf_TS_X2_weighBy_T_23 rfl rfl rfl (by decide +kernel) ⟨Nat.le_of_ble_eq_true rfl, Nat.le_of_ble_eq_true rfl⟩) (yA_V hN (xZ_k hZ hS hA) hK hP (ci := 2) (q0 := 29) rfl rfl) rfl rfl hl.1 rfl (lv_room (Nat.le_of_ble_eq_true rfl)) dX2_weighAllOf_33 ⟨Nat.le_of_ble_eq_true rfl, Nat.le_of_ble_eq_true rfl⟩) hS hA hP (fun r7 u7 H locs hw7 hP hS => ?_)
          refine lv_iadd hx hb dX2_weighAllOf_36 ?_
          refine lv_topi (fun x8 ex8 => ?_)
          refine lv_istore_n (lv' := [(3, .int x8), (4, .int y1_4), (0, .ref (a 138)), (1, .ref (a 149)), (2, .int w)]) hx hb dX2_weighAllOf_37 rfl hl (by decide) rfl (fun ls hl => ?_)
          exact jn4 x8   _ _ _ hP hS (lv_sub hl [1, 2, 3, 4, 0] rfl)
  exact lp1 _ (0 : Int32) (0 : Int32) (show 0 ≤ (0 : Int32).toInt ∧ (0 : Int32).toInt ≤ 30 from by have h50 : (0 : Int32).toInt = 0 := (by decide); have h51 : (0 : Int32).toInt = 0 := (by decide); omega) (Nat.lt_succ_self _) _ _ _ hP hS (lv_sub hl [0, 1, 2, 3, 4] rfl)

def wm_X2_weighTraced_TS : List Cond := .code yX2_weighTraced cX2_weighTraced 4 (some .int) :: (([.fieldLink RX2 27 "TalePlay$Bulks" "tracing" "Z", .methodLink RX2 23 yX2_weighBy, .instanceMethod yX2_weighBy, .selects RX2 yX2_weighBy yX2_weighBy, .initialized RX2, .code yX2_weighBy cX2_weighBy 6 (some .int), .fieldLink RX2 15 "TalePlay$Bulks" "world" "LTalePlay$World;", .methodLink RX2 42 yX10_sortOf, .instanceMethod yX10_sortOf, .selects RX10 yX10_sortOf yX10_sortOf, .initialized RX10, .code yX10_sortOf cX10_sortOf 2 (some .int), .fieldLink RX10 37 "TalePlay$World" "objects" "I", .fieldLink RX10 15 "TalePlay$World" "sorts" "[I", .fieldLink RX10 21 "TalePlay$World" "kindOf" "[I", .methodLink RX2 45 yX2_noteBodies, .instanceMethod yX2_noteBodies, .selects RX2 yX2_noteBodies yX2_noteBodies, .code yX2_noteBodies cX2_noteBodies 2 none, .fieldLink RX2 60 "TalePlay$Bulks" "BODIES" "[I", .methodLink RX2 63 yX2_note, .instanceMethod yX2_note, .selects RX2 yX2_note yX2_note, .code yX2_note cX2_note 2 none, .fieldLink RX2 19 "TalePlay$Bulks" "traced" "I", .fieldLink RX2 9 "TalePlay$Bulks" "trace" "[I", .fieldLink RX2 49 "TalePlay$World" "sizeOf" "[I", .methodLink RX2 52 yX2_weighThose, .instanceMethod yX2_weighThose, .selects RX2 yX2_weighThose yX2_weighThose, .code yX2_weighThose cX2_weighThose 7 (some .int), .fieldLink RX2 31 "TalePlay$World" "objects" "I", .methodLink RX2 56 yX6_lies, .instanceMethod yX6_lies, .selects RX6 yX6_lies yX6_lies, .initialized RX6, .code yX6_lies cX6_lies 4 (some .boolean), .fieldLink RX6 9 "TalePlay$Scene" "cells" "[I"] : List Cond) ++ wsX20 ++ wsX100 ++ wsX60)
set_option maxRecDepth 20000 in
theorem gm_X2_weighTraced_TS_X2_weighBy_vT_23 : GoodIn wm_X2_weighTraced_TS (wsV RX2 23 RX2 yX2_weighBy wm_X2_weighBy_vT) := goodIn_app (goodIn_of _ (by decide +kernel)) (goodIn_r _ [6, 7, 8, 9, 10, 11, 12, 13, 14, 15, 16, 17, 18, 5, 19, 20, 21, 22, 23, 24, 1, 25, 26, 27, 28, 29, 30, 31, 32, 33, 34, 35, 36, 37, 38, 2, 3, 4, 6, 39, 40, 41, 42, 43, 44, 45, 46, 47, 48, 49, 50, 51] rfl (by decide +kernel))
set_option maxHeartbeats 4000000 in
set_option maxRecDepth 100000 in
theorem x_X2_weighTraced_TS (l : Launch) (D : va_G) (sz : Nat) (sk : Value) (a : Nat → Nat) (t : Nat → ClassId) (i : Nat → Int32) (q : Int64) (c : Nat → Nat → Int32) (d : Nat → Nat → Int64) (w : Int32) (hI : xInv i c) (hw : 0 ≤ w.toInt ∧ w.toInt ≤ 29) : Met l yX2_weighTraced wm_X2_weighTraced_TS ({ frames := 69, cells := 0, slots := 0, locals := 1806 }) (va_Pc [.ref (a 138), .ref (a 149), .int w] (yB (a 186) D sz (xwT sk a t i q c d) (xtT t))) (va_Qi (fun (r : Int32) (u : MS) => True ∧ xInv u.1 u.2.2.1 ∧ (∀ k, k ∉ ([140, 141] : List Nat) → u.1 k = i k) ∧ (∀ k, k ∉ ([139] : List Nat) → u.2.2.1 k = c k) ∧ ((u.1 141).toInt = 0)) (oC D (va_A (xwT sk a t i q c d) sz) (fun u : MS => xwT sk a t u.1 u.2.1 u.2.2.1 u.2.2.2) (fun _ => [])) (va_A (xwT sk a t i q c d) sz)) 0 0 (va_A (xwT sk a t i q c d) sz) := by
  refine Met.ofW (cc := cX2_weighTraced) (maxL := 4) (ret := (some .int)) (by decide) rfl ?_
  intro p e s m args below meth cd s₁ B hml hv
  obtain ⟨rfl, ⟨hsz, hP, hK, hD0⟩, hN, hZ, hBW⟩ := hv
  have hx := B.exec
  have hb := B.bytes
  have hr := B.returns
  have hts := atoms_spec (ws := wm_X2_weighTraced_TS) B.pre
  have hown : s.vm.findClass RX2 = some m.cls := findClass_of_methodNamed B.named
  have hlocks := B.notSynchronized
  subst hsz
  have hD := hD0.self (sz := s.heap.size)
  have hZ := xZ_A hZ hP hBW
  generalize hAe : va_A (xwT sk a t i q c d) s.heap.size = A at hD hZ ⊢
  have hA : ∀ q : Nat, s.heap.size ≤ q → A q := fun q h => by rw [← hAe]; exact Or.inr h
  have hS : va_S A s.heap s.heap [] := va_S.rf
  have hfi : ∀ k, k ∉ ([] : List Nat) → i k = i k := fun _ _ => rfl
  have hfc : ∀ k, k ∉ ([] : List Nat) → c k = c k := fun _ _ => rfl
  have hl := lv_entry ([.ref (a 138), .ref (a 149), .int w]) (n := 4) (Nat.le_of_ble_eq_true rfl)
  rw [lg_entry_eq]
  generalize (lg_sl ([.ref (a 138), .ref (a 149), .int w]) ++ List.replicate (4 - (lg_sl ([.ref (a 138), .ref (a 149), .int w])).length) Slot.unset).toArray = ls at hl ⊢
  have hl : lv_has ls 4 [(0, .ref (a 138)), (1, .ref (a 149)), (2, .int w)] := hl
  refine lv_aload_n hx hb dX2_weighTraced_0 rfl (lv_at hl 0 rfl) ?_
  refine lv_iconst (v := 1) hx hb dX2_weighTraced_1 (by decide) ?_
  refine xpT_K_tracing hx hb hts (fun _ h => List.mem_cons_of_mem _ (List.mem_append_left _ (List.mem_append_left _ (List.mem_append_right _ h)))) hown hK hP hD hS (hts (.fieldLink RX2 27 "TalePlay$Bulks" "tracing" "Z") (by decide +kernel)) rfl rfl dX2_weighTraced_2 (fun H locs hP hD hS => ?_)
  have hI := xInv_i hI (k := 141) (v := 1) (show 0 ≤ (1 : Int32).toInt ∧ (1 : Int32).toInt ≤ 1 from by have h9 : (1 : Int32).toInt = 1 := (by decide); omega)
  have hfi : ∀ k, k ∉ ([141] : List Nat) → (upd i 141 1) k = i k := fr_iz hfi (by decide) (by decide)
  refine lv_aload_n hx hb dX2_weighTraced_5 rfl (lv_at hl 0 rfl) ?_
  refine lv_aload_n hx hb dX2_weighTraced_6 rfl (lv_at hl 1 rfl) ?_
  refine lv_iload_n hx hb dX2_weighTraced_7 rfl (lv_at hl 2 rfl) ?_
  refine lv_iconst (v := 0) hx hb dX2_weighTraced_8 (by decide) ?_
  refine al_calli (va_runV (As := [.ref (a 149), .int w, .int 0]) (rest := []) ⟨hx, hb, hml, hown, hts⟩ (x0_X2_weighBy_vT l D H.size sk a t (upd i 141 1) q c d w 0 hI (show 0 ≤ w.toInt ∧ w.toInt ≤ 29 from by have h91 : (0 : Int32).toInt = 0 := (by decide); have h60 : (1 : Int32).toInt = 1 := (by decide); omega) (show 0 = 0 from by have h91 : (0 : Int32).toInt = 0 := (by decide); have h60 : (1 : Int32).toInt = 1 := (by decide); omega)) (cwV 3 hts gm_X2_weighTraced_TS_X2_weighBy_vT_23 rfl rfl rfl (by decide +kernel) ⟨Nat.le_of_ble_eq_true rfl, Nat.le_of_ble_eq_true rfl⟩) (yB_V hN (xZ_k hZ hS hA) (xZ_n hZ hD) hK hP hD (ci := 2) (q0 := 31) rfl rfl) rfl rfl hl.1 rfl (lv_room (Nat.le_of_ble_eq_true rfl)) dX2_weighTraced_9 ⟨Nat.le_of_ble_eq_true rfl, Nat.le_of_ble_eq_true rfl⟩) hS hA hP hD (fun r1 u1 H locs hw1 hP hD hS => ?_)
  obtain ⟨i1, q1, c1, d1⟩ := u1
  have hw1 : True ∧ xInv i1 c1 ∧ (∀ k, k ∉ ([140] : List Nat) → i1 k = (upd i 141 1) k) ∧ (∀ k, k ∉ ([139] : List Nat) → c1 k = c k) := hw1
  obtain ⟨hw1, hI, hei1, hec1⟩ := hw1
  have hfi : ∀ k, k ∉ ([140, 141] : List Nat) → i1 k = i k := fr_z hfi hei1 (by decide) (by decide)
  have hfc : ∀ k, k ∉ ([139] : List Nat) → c1 k = c k := fr_z hfc hec1 (by decide) (by decide)
  refine lv_istore_n (lv' := [(3, .int r1), (0, .ref (a 138)), (1, .ref (a 149)), (2, .int w)]) hx hb dX2_weighTraced_12 rfl hl (by decide) rfl (fun ls hl => ?_)
  refine lv_aload_n hx hb dX2_weighTraced_13 rfl (lv_at hl 1 rfl) ?_
  refine lv_iconst (v := 0) hx hb dX2_weighTraced_14 (by decide) ?_
  refine xpT_K_tracing hx hb hts (fun _ h => List.mem_cons_of_mem _ (List.mem_append_left _ (List.mem_append_left _ (List.mem_append_right _ h)))) hown hK hP hD hS (hts (.fieldLink RX2 27 "TalePlay$Bulks" "tracing" "Z") (by decide +kernel)) rfl rfl dX2_weighTraced_15 (fun H locs hP hD hS => ?_)
  have hI := xInv_i hI (k := 141) (v := 0) (show 0 ≤ (0 : Int32).toInt ∧ (0 : Int32).toInt ≤ 1 from by have h9 : (0 : Int32).toInt = 0 := (by decide); omega)
  have hfi := fr_i hfi (k := 141) (v := 0) (by decide)
  refine lv_iload_n hx hb dX2_weighTraced_18 rfl (lv_at hl 0 rfl) ?_
  exact rw_iret ((upd i1 141 0), q1, c1, d1) hx hb hr hlocks hS (hK.sub (tys' := []) [] rfl) hP hD dX2_weighTraced_19 ⟨trivial, hI, fr_w hfi (by decide), fr_w hfc (by decide), (show (0 : Int32).toInt = 0 from by have h50 : (0 : Int32).toInt = 0 := (by decide); omega)⟩

def wm_X11_places_BP : List Cond := .code yX11_places cX11_places 1 (some (.object "TalePlay$Scene")) :: (([.fieldLink RX11 46 "TalePlay" "tale" "LTalePlay$Tale;", .fieldLink RX11 257 "TalePlay$Tale" "there" "Z", .fieldLink RX11 21 "TalePlay" "book" "LTalePlay$Book;", .fieldLink RX11 203 "TalePlay$Book" "places" "LTalePlay$Scene;"] : List Cond) ++ wsX110 ++ wsX90 ++ wsX10)
set_option maxHeartbeats 4000000 in
set_option maxRecDepth 100000 in
theorem x_X11_places_BP (l : Launch) (D : va_G) (sz : Nat) (sk : Value) (a : Nat → Nat) (t : Nat → ClassId) (i : Nat → Int32) (q : Int64) (c : Nat → Nat → Int32) (d : Nat → Nat → Int64) (hI : xInv i c) (hth : (i 146).toInt = 0) : Met l yX11_places wm_X11_places_BP ({ frames := 0, cells := 0, slots := 0, locals := 0 }) (va_Pc [.ref (a 100)] (yA (a 186) D sz (xwT sk a t i q c d) (xtT t))) (va_Qr (fun (_ : Unit) => True) (oR (a 126)) (ro sz)) 0 0 (ro sz) := by
  refine Met.ofW (cc := cX11_places) (maxL := 1) (ret := (some (.object "TalePlay$Scene"))) (by decide) rfl ?_
  intro p e s m args below meth cd s₁ B hml hv
  obtain ⟨rfl, ⟨hsz, hP, hK⟩, hN, hZ⟩ := hv
  have hx := B.exec
  have hb := B.bytes
  have hr := B.returns
  have hts := atoms_spec (ws := wm_X11_places_BP) B.pre
  have hown : s.vm.findClass RX11 = some m.cls := findClass_of_methodNamed B.named
  have hlocks := B.notSynchronized
  subst hsz
  have hA : ∀ q : Nat, s.heap.size ≤ q → ro s.heap.size q := fun _ h => h
  have hS : va_S (ro s.heap.size) s.heap s.heap [] := va_S.rf
  have hl := lv_entry ([.ref (a 100)]) (n := 1) (Nat.le_of_ble_eq_true rfl)
  rw [lg_entry_eq]
  generalize (lg_sl ([.ref (a 100)]) ++ List.replicate (1 - (lg_sl ([.ref (a 100)])).length) Slot.unset).toArray = ls at hl ⊢
  have hl : lv_has ls 1 [(0, .ref (a 100))] := hl
  refine lv_aload_n hx hb dX11_places_0 rfl (lv_at hl 0 rfl) ?_
  refine xgT_X_tale hx hb hts (fun _ h => List.mem_cons_of_mem _ (List.mem_append_left _ (List.mem_append_left _ (List.mem_append_right _ h)))) hown hK hP (hts (.fieldLink RX11 46 "TalePlay" "tale" "LTalePlay$Tale;") (by decide +kernel)) dX11_places_1 ?_
  refine xgT_T_there (v := (i 146)) rfl hx hb hts (fun _ h => List.mem_cons_of_mem _ (List.mem_append_left _ (List.mem_append_right _ h))) hown hK hP (hts (.fieldLink RX11 257 "TalePlay$Tale" "there" "Z") (by decide +kernel)) dX11_places_4 ?_
  have rb146_i : 0 ≤ (i 146).toInt ∧ (i 146).toInt ≤ 1 := hI.1 146
  refine lv_if_eq (tgt := 20) hx hb dX11_places_7 (by decide) (fun c1 => ?_) (fun c1 => ?_)
  · have f1 := (ti_eq (a := (i 146).toInt) (b := 0) rfl (by decide)).mp c1
    refine lv_aload_n hx hb dX11_places_20 rfl (lv_at hl 0 rfl) ?_
    refine xgT_X_book hx hb hts (fun _ h => List.mem_cons_of_mem _ (List.mem_append_left _ (List.mem_append_left _ (List.mem_append_right _ h)))) hown hK hP (hts (.fieldLink RX11 21 "TalePlay" "book" "LTalePlay$Book;") (by decide +kernel)) dX11_places_21 ?_
    refine xgT_B_places hx hb hts (fun _ h => List.mem_cons_of_mem _ (List.mem_append_right _ h)) hown hK hP (hts (.fieldLink RX11 203 "TalePlay$Book" "places" "LTalePlay$Scene;") (by decide +kernel)) dX11_places_24 ?_
    exact ro_aret hx hb hr hlocks hS dX11_places_27 rfl
  · have f1 := mt (ti_eq (a := (i 146).toInt) (b := 0) rfl (by decide)).mpr c1
    exfalso; omega

def wm_X11_places_TS : List Cond := .code yX11_places cX11_places 1 (some (.object "TalePlay$Scene")) :: (([.fieldLink RX11 46 "TalePlay" "tale" "LTalePlay$Tale;", .fieldLink RX11 257 "TalePlay$Tale" "there" "Z", .fieldLink RX11 286 "TalePlay$Tale" "scene" "LTalePlay$Scene;"] : List Cond) ++ wsX110 ++ wsX90)
set_option maxHeartbeats 4000000 in
set_option maxRecDepth 100000 in
theorem x_X11_places_TS (l : Launch) (D : va_G) (sz : Nat) (sk : Value) (a : Nat → Nat) (t : Nat → ClassId) (i : Nat → Int32) (q : Int64) (c : Nat → Nat → Int32) (d : Nat → Nat → Int64) (hI : xInv i c) (hth : (i 146).toInt = 1) : Met l yX11_places wm_X11_places_TS ({ frames := 0, cells := 0, slots := 0, locals := 0 }) (va_Pc [.ref (a 100)] (yA (a 186) D sz (xwT sk a t i q c d) (xtT t))) (va_Qr (fun (_ : Unit) => True) (oR (a 149)) (ro sz)) 0 0 (ro sz) := by
  refine Met.ofW (cc := cX11_places) (maxL := 1) (ret := (some (.object "TalePlay$Scene"))) (by decide) rfl ?_
  intro p e s m args below meth cd s₁ B hml hv
  obtain ⟨rfl, ⟨hsz, hP, hK⟩, hN, hZ⟩ := hv
  have hx := B.exec
  have hb := B.bytes
  have hr := B.returns
  have hts := atoms_spec (ws := wm_X11_places_TS) B.pre
  have hown : s.vm.findClass RX11 = some m.cls := findClass_of_methodNamed B.named
  have hlocks := B.notSynchronized
  subst hsz
  have hA : ∀ q : Nat, s.heap.size ≤ q → ro s.heap.size q := fun _ h => h
  have hS : va_S (ro s.heap.size) s.heap s.heap [] := va_S.rf
  have hl := lv_entry ([.ref (a 100)]) (n := 1) (Nat.le_of_ble_eq_true rfl)
  rw [lg_entry_eq]
  generalize (lg_sl ([.ref (a 100)]) ++ List.replicate (1 - (lg_sl ([.ref (a 100)])).length) Slot.unset).toArray = ls at hl ⊢
  have hl : lv_has ls 1 [(0, .ref (a 100))] := hl
  refine lv_aload_n hx hb dX11_places_0 rfl (lv_at hl 0 rfl) ?_
  refine xgT_X_tale hx hb hts (fun _ h => List.mem_cons_of_mem _ (List.mem_append_left _ (List.mem_append_right _ h))) hown hK hP (hts (.fieldLink RX11 46 "TalePlay" "tale" "LTalePlay$Tale;") (by decide +kernel)) dX11_places_1 ?_
  refine xgT_T_there (v := (i 146)) rfl hx hb hts (fun _ h => List.mem_cons_of_mem _ (List.mem_append_right _ h)) hown hK hP (hts (.fieldLink RX11 257 "TalePlay$Tale" "there" "Z") (by decide +kernel)) dX11_places_4 ?_
  have rb146_i : 0 ≤ (i 146).toInt ∧ (i 146).toInt ≤ 1 := hI.1 146
  refine lv_if_eq (tgt := 20) hx hb dX11_places_7 (by decide) (fun c1 => ?_) (fun c1 => ?_)
  · have f1 := (ti_eq (a := (i 146).toInt) (b := 0) rfl (by decide)).mp c1
    exfalso; omega
  · have f1 := mt (ti_eq (a := (i 146).toInt) (b := 0) rfl (by decide)).mpr c1
    refine lv_aload_n hx hb dX11_places_10 rfl (lv_at hl 0 rfl) ?_
    refine xgT_X_tale hx hb hts (fun _ h => List.mem_cons_of_mem _ (List.mem_append_left _ (List.mem_append_right _ h))) hown hK hP (hts (.fieldLink RX11 46 "TalePlay" "tale" "LTalePlay$Tale;") (by decide +kernel)) dX11_places_11 ?_
    refine xgT_T_scene hx hb hts (fun _ h => List.mem_cons_of_mem _ (List.mem_append_right _ h)) hown hK hP (hts (.fieldLink RX11 286 "TalePlay$Tale" "scene" "LTalePlay$Scene;") (by decide +kernel)) dX11_places_14 ?_
    refine lv_goto (tgt := 27) hx hb dX11_places_17 (by decide) ?_
    exact ro_aret hx hb hr hlocks hS dX11_places_27 rfl

def wm_X11_bulk : List Cond := .code yX11_bulk cX11_bulk 3 (some .int) :: (([.fieldLink RX11 10 "TalePlay" "world" "LTalePlay$World;", .methodLink RX11 109 yX10_hasObject, .instanceMethod yX10_hasObject, .selects RX10 yX10_hasObject yX10_hasObject, .initialized RX10, .code yX10_hasObject cX10_hasObject 2 (some .boolean), .fieldLink RX10 37 "TalePlay$World" "objects" "I", .fieldLink RX11 37 "TalePlay" "bulks" "LTalePlay$Bulks;", .methodLink RX11 122 yX2_clearTrace, .instanceMethod yX2_clearTrace, .selects RX2 yX2_clearTrace yX2_clearTrace, .initialized RX2, .code yX2_clearTrace cX2_clearTrace 1 none, .fieldLink RX2 19 "TalePlay$Bulks" "traced" "I", .methodLink RX11 125 yX10_sortOf, .instanceMethod yX10_sortOf, .selects RX10 yX10_sortOf yX10_sortOf, .code yX10_sortOf cX10_sortOf 2 (some .int), .fieldLink RX10 15 "TalePlay$World" "sorts" "[I", .fieldLink RX10 21 "TalePlay$World" "kindOf" "[I", .methodLink RX11 131 yX11_places, .instanceMethod yX11_places, .selects RX11 yX11_places yX11_places, .initialized RX11, .code yX11_places cX11_places 1 (some (.object "TalePlay$Scene")), .fieldLink RX11 46 "TalePlay" "tale" "LTalePlay$Tale;", .fieldLink RX11 257 "TalePlay$Tale" "there" "Z", .fieldLink RX11 21 "TalePlay" "book" "LTalePlay$Book;", .fieldLink RX11 203 "TalePlay$Book" "places" "LTalePlay$Scene;", .methodLink RX11 135 yX2_weighTraced, .instanceMethod yX2_weighTraced, .selects RX2 yX2_weighTraced yX2_weighTraced, .code yX2_weighTraced cX2_weighTraced 4 (some .int), .fieldLink RX2 27 "TalePlay$Bulks" "tracing" "Z", .methodLink RX2 23 yX2_weighBy, .instanceMethod yX2_weighBy, .selects RX2 yX2_weighBy yX2_weighBy, .code yX2_weighBy cX2_weighBy 6 (some .int), .fieldLink RX2 15 "TalePlay$Bulks" "world" "LTalePlay$World;", .methodLink RX2 42 yX10_sortOf, .methodLink RX2 45 yX2_noteBodies, .instanceMethod yX2_noteBodies, .selects RX2 yX2_noteBodies yX2_noteBodies, .code yX2_noteBodies cX2_noteBodies 2 none, .fieldLink RX2 60 "TalePlay$Bulks" "BODIES" "[I", .methodLink RX2 63 yX2_note, .instanceMethod yX2_note, .selects RX2 yX2_note yX2_note, .code yX2_note cX2_note 2 none, .fieldLink RX2 9 "TalePlay$Bulks" "trace" "[I", .fieldLink RX2 49 "TalePlay$World" "sizeOf" "[I", .methodLink RX2 52 yX2_weighThose, .instanceMethod yX2_weighThose, .selects RX2 yX2_weighThose yX2_weighThose, .code yX2_weighThose cX2_weighThose 7 (some .int), .fieldLink RX2 31 "TalePlay$World" "objects" "I", .methodLink RX2 56 yX6_lies, .instanceMethod yX6_lies, .selects RX6 yX6_lies yX6_lies, .initialized RX6, .code yX6_lies cX6_lies 4 (some .boolean), .fieldLink RX6 9 "TalePlay$Scene" "cells" "[I", .fieldLink RX11 76 "TalePlay" "told" "J", .methodLink RX11 128 yX11_answerFinding, .instanceMethod yX11_answerFinding, .selects RX11 yX11_answerFinding yX11_answerFinding, .code yX11_answerFinding cX11_answerFinding 2 (some .int), .fieldLink RX11 72 "TalePlay" "latestFinding" "I", .fieldLink RX11 68 "TalePlay" "findingCounts" "[I", .fieldLink RX11 286 "TalePlay$Tale" "scene" "LTalePlay$Scene;"] : List Cond) ++ wsX110 ++ wsX100 ++ wsX20 ++ wsX90 ++ wsX10 ++ wsX60)
set_option maxRecDepth 20000 in
theorem gm_X11_bulk_X10_hasObject_109 : GoodIn wm_X11_bulk (wsV RX11 109 RX10 yX10_hasObject wm_X10_hasObject) := goodIn_app (goodIn_of _ (by decide +kernel)) (goodIn_r _ [6, 7, 82, 83, 84, 85, 86, 87, 88] rfl (by decide +kernel))
set_option maxRecDepth 20000 in
theorem gm_X11_bulk_X2_clearTrace_122 : GoodIn wm_X11_bulk (wsV RX11 122 RX2 yX2_clearTrace wm_X2_clearTrace) := goodIn_app (goodIn_of _ (by decide +kernel)) (goodIn_r _ [13, 14, 89, 90, 91, 92] rfl (by decide +kernel))
set_option maxRecDepth 20000 in
theorem gm_X11_bulk_X10_sortOf_125 : GoodIn wm_X11_bulk (wsV RX11 125 RX10 yX10_sortOf wm_X10_sortOf) := goodIn_app (goodIn_of _ (by decide +kernel)) (goodIn_r _ [18, 7, 19, 20, 82, 83, 84, 85, 86, 87, 88] rfl (by decide +kernel))
set_option maxRecDepth 20000 in
theorem gm_X11_bulk_X11_places_BP_131 : GoodIn wm_X11_bulk (wsV RX11 131 RX11 yX11_places wm_X11_places_BP) := goodIn_app (goodIn_of _ (by decide +kernel)) (goodIn_r _ [25, 26, 27, 28, 29, 71, 72, 73, 74, 75, 76, 77, 78, 79, 80, 81, 93, 94, 95, 96, 97, 98, 99, 100, 101, 102, 103, 104, 105, 106, 107, 108, 109, 110, 111, 112, 113, 114, 115, 116, 117, 118] rfl (by decide +kernel))
set_option maxRecDepth 20000 in
theorem gm_X11_bulk_X2_weighTraced_BP_135 : GoodIn wm_X11_bulk (wsV RX11 135 RX2 yX2_weighTraced wm_X2_weighTraced_BP) := goodIn_app (goodIn_of _ (by decide +kernel)) (goodIn_r _ [33, 34, 35, 36, 37, 12, 38, 39, 40, 16, 17, 5, 18, 7, 19, 20, 41, 42, 43, 44, 45, 46, 47, 48, 49, 14, 50, 51, 52, 53, 54, 55, 56, 57, 58, 59, 60, 61, 62, 89, 90, 91, 92, 82, 83, 84, 85, 86, 87, 88, 119, 120] rfl (by decide +kernel))
set_option maxRecDepth 20000 in
theorem gm_X11_bulk_X11_answerFinding_128 : GoodIn wm_X11_bulk (wsV RX11 128 RX11 yX11_answerFinding wm_X11_answerFinding) := goodIn_app (goodIn_of _ (by decide +kernel)) (goodIn_r _ [67, 68, 69, 71, 72, 73, 74, 75, 76, 77, 78, 79, 80, 81] rfl (by decide +kernel))
set_option maxRecDepth 20000 in
theorem gm_X11_bulk_X11_places_TS_131 : GoodIn wm_X11_bulk (wsV RX11 131 RX11 yX11_places wm_X11_places_TS) := goodIn_app (goodIn_of _ (by decide +kernel)) (goodIn_r _ [25, 26, 27, 70, 71, 72, 73, 74, 75, 76, 77, 78, 79, 80, 81, 93, 94, 95, 96, 97, 98, 99, 100, 101, 102, 103] rfl (by decide +kernel))
set_option maxRecDepth 20000 in
theorem gm_X11_bulk_X2_weighTraced_TS_135 : GoodIn wm_X11_bulk (wsV RX11 135 RX2 yX2_weighTraced wm_X2_weighTraced_TS) := goodIn_app (goodIn_of _ (by decide +kernel)) (goodIn_r _ [33, 34, 35, 36, 37, 12, 38, 39, 40, 16, 17, 5, 18, 7, 19, 20, 41, 42, 43, 44, 45, 46, 47, 48, 49, 14, 50, 51, 52, 53, 54, 55, 56, 57, 58, 59, 60, 61, 62, 89, 90, 91, 92, 82, 83, 84, 85, 86, 87, 88, 119, 120] rfl (by decide +kernel))
set_option maxHeartbeats 4000000 in
set_option maxRecDepth 100000 in
theorem x_X11_bulk (l : Launch) (D : va_G) (sz : Nat) (sk : Value) (a : Nat → Nat) (t : Nat → ClassId) (i : Nat → Int32) (q : Int64) (c : Nat → Nat → Int32) (d : Nat → Nat → Int64) (w : Int32) (hI : xInv i c) (htr : (i 141).toInt = 0) : Met l yX11_bulk wm_X11_bulk ({ frames := 70, cells := 0, slots := 0, locals := 1829 }) (va_Pc [.ref (a 100), .int w] (yB (a 186) D sz (xwT sk a t i q c d) (xtT t))) (va_Qi (fun (r : Int32) (u : MS) => True ∧ xInv u.1 u.2.2.1 ∧ (∀ k, k ∉ ([102, 140, 141] : List Nat) → u.1 k = i k) ∧ (∀ k, k ∉ ([101, 139] : List Nat) → u.2.2.1 k = c k) ∧ ((u.1 141).toInt = 0)) (oC D (va_A (xwT sk a t i q c d) sz) (fun u : MS => xwT sk a t u.1 u.2.1 u.2.2.1 u.2.2.2) (fun _ => [])) (va_A (xwT sk a t i q c d) sz)) 0 0 (va_A (xwT sk a t i q c d) sz) := by
  refine Met.ofW (cc := cX11_bulk) (maxL := 3) (ret := (some .int)) (by decide) rfl ?_
  intro p e s m args below meth cd s₁ B hml hv
  obtain ⟨rfl, ⟨hsz, hP, hK, hD0⟩, hN, hZ, hBW⟩ := hv
  have hx := B.exec
  have hb := B.bytes
  have hr := B.returns
  have hts := atoms_spec (ws := wm_X11_bulk) B.pre
  have hown : s.vm.findClass RX11 = some m.cls := findClass_of_methodNamed B.named
  have hlocks := B.notSynchronized
  subst hsz
  have hD := hD0.self (sz := s.heap.size)
  have hZ := xZ_A hZ hP hBW
  generalize hAe : va_A (xwT sk a t i q c d) s.heap.size = A at hD hZ ⊢
  have hA : ∀ q : Nat, s.heap.size ≤ q → A q := fun q h => by rw [← hAe]; exact Or.inr h
  have hS : va_S A s.heap s.heap [] := va_S.rf
  have hfi : ∀ k, k ∉ ([] : List Nat) → i k = i k := fun _ _ => rfl
  have hfc : ∀ k, k ∉ ([] : List Nat) → c k = c k := fun _ _ => rfl
  have hl := lv_entry ([.ref (a 100), .int w]) (n := 3) (Nat.le_of_ble_eq_true rfl)
  rw [lg_entry_eq]
  generalize (lg_sl ([.ref (a 100), .int w]) ++ List.replicate (3 - (lg_sl ([.ref (a 100), .int w])).length) Slot.unset).toArray = ls at hl ⊢
  have hl : lv_has ls 3 [(0, .ref (a 100)), (1, .int w)] := hl
  have htr2 : (i 141).toInt = 0 := htr
  refine lv_aload_n hx hb dX11_bulk_0 rfl (lv_at hl 0 rfl) ?_
  refine xgT_X_world hx hb hts (fun _ h => List.mem_cons_of_mem _ (List.mem_append_left _ (List.mem_append_left _ (List.mem_append_left _ (List.mem_append_left _ (List.mem_append_left _ (List.mem_append_right _ h))))))) hown hK hP (hts (.fieldLink RX11 10 "TalePlay" "world" "LTalePlay$World;") (by decide +kernel)) dX11_bulk_1 ?_
  refine lv_iload_n hx hb dX11_bulk_4 rfl (lv_at hl 1 rfl) ?_
  have rb111_i : 0 ≤ (i 111).toInt ∧ (i 111).toInt ≤ 30 := hI.1 111
  refine ro_calli (va_runV (As := [.int w]) (rest := []) ⟨hx, hb, hml, hown, hts⟩ (x_X10_hasObject l D s.heap.size .null a t i q c d w hI ) (cwV 1 hts gm_X11_bulk_X10_hasObject_109 rfl rfl rfl (by decide +kernel) ⟨Nat.le_of_ble_eq_true rfl, Nat.le_of_ble_eq_true rfl⟩) (yA_V hN (xZ_k hZ hS hA) (xkT_W hK) (xuT_W (sk := sk) hP) (ci := 10) (q0 := 0) rfl rfl) rfl rfl hl.1 rfl (lv_room (Nat.le_of_ble_eq_true rfl)) dX11_bulk_5 ⟨Nat.le_of_ble_eq_true rfl, Nat.le_of_ble_eq_true rfl⟩) hS hA hP (fun r1 u1 H locs hw1 hP hS => ?_)
  have hw1 : r1 = if (0 ≤ w.toInt ∧ w.toInt < (i 111).toInt) then 1 else 0 := hw1
  refine lv_if_ne (tgt := 13) hx hb dX11_bulk_8 (by decide) (fun c2 => ?_) (fun c2 => ?_)
  · have f2 := fl_t hw1 c2
    refine lv_aload_n hx hb dX11_bulk_13 rfl (lv_at hl 0 rfl) ?_
    refine xgT_X_bulks hx hb hts (fun _ h => List.mem_cons_of_mem _ (List.mem_append_left _ (List.mem_append_left _ (List.mem_append_left _ (List.mem_append_left _ (List.mem_append_left _ (List.mem_append_right _ h))))))) hown hK hP (hts (.fieldLink RX11 37 "TalePlay" "bulks" "LTalePlay$Bulks;") (by decide +kernel)) dX11_bulk_14 ?_
    refine al_callv (va_runV (As := []) (rest := []) ⟨hx, hb, hml, hown, hts⟩ (x_X2_clearTrace l D H.size sk a t i q c d  hI ) (cwV 0 hts gm_X11_bulk_X2_clearTrace_122 rfl rfl rfl (by decide +kernel) ⟨Nat.le_of_ble_eq_true rfl, Nat.le_of_ble_eq_true rfl⟩) (yB_V hN (xZ_k hZ hS hA) (xZ_n hZ hD) hK hP hD (ci := 2) (q0 := 31) rfl rfl) rfl rfl hl.1 rfl (lv_room (Nat.le_of_ble_eq_true rfl)) dX11_bulk_17 ⟨Nat.le_of_ble_eq_true rfl, Nat.le_of_ble_eq_true rfl⟩) hS hA hP hD (fun u3 H locs hw3 hP hD hS => ?_)
    obtain ⟨i3, q3, c3, d3⟩ := u3
    have hw3 : True ∧ xInv i3 c3 ∧ (∀ k, k ∉ ([140] : List Nat) → i3 k = i k) ∧ (∀ k, k ∉ ([] : List Nat) → c3 k = c k) := hw3
    obtain ⟨hw3, hI, hei3, hec3⟩ := hw3
    have hfi : ∀ k, k ∉ ([140] : List Nat) → i3 k = i k := fr_z hfi hei3 (by decide) (by decide)
    have hfc : ∀ k, k ∉ ([] : List Nat) → c3 k = c k := fr_z hfc hec3 (by decide) (by decide)
    have htr2 : ((i3 141) : Int32).toInt = 0 := by rw [show i3 141 = i 141 from hei3 141 (by decide)]; exact htr2
    refine lv_aload_n hx hb dX11_bulk_20 rfl (lv_at hl 0 rfl) ?_
    refine xgT_X_world hx hb hts (fun _ h => List.mem_cons_of_mem _ (List.mem_append_left _ (List.mem_append_left _ (List.mem_append_left _ (List.mem_append_left _ (List.mem_append_left _ (List.mem_append_right _ h))))))) hown hK hP (hts (.fieldLink RX11 10 "TalePlay" "world" "LTalePlay$World;") (by decide +kernel)) dX11_bulk_21 ?_
    refine lv_iload_n hx hb dX11_bulk_24 rfl (lv_at hl 1 rfl) ?_
    have rb111_i3 : 0 ≤ (i3 111).toInt ∧ (i3 111).toInt ≤ 30 := hI.1 111
    have re111_i3 : (i3 111).toInt = (i 111).toInt := congrArg Int32.toInt (hfi 111 (by decide))
    refine ro_calli (va_runV (As := [.int w]) (rest := []) ⟨hx, hb, hml, hown, hts⟩ (x_X10_sortOf l D H.size .null a t i3 q3 c3 d3 w hI ) (cwV 1 hts gm_X11_bulk_X10_sortOf_125 rfl rfl rfl (by decide +kernel) ⟨Nat.le_of_ble_eq_true rfl, Nat.le_of_ble_eq_true rfl⟩) (yA_V hN (xZ_k hZ hS hA) (xkT_W hK) (xuT_W (sk := sk) hP) (ci := 10) (q0 := 0) rfl rfl) rfl rfl hl.1 rfl (lv_room (Nat.le_of_ble_eq_true rfl)) dX11_bulk_25 ⟨Nat.le_of_ble_eq_true rfl, Nat.le_of_ble_eq_true rfl⟩) hS hA hP (fun r4 u4 H locs hw4 hP hS => ?_)
    have hw4 : ((r4.toInt = -9 ∧ ¬ (0 ≤ w.toInt ∧ w.toInt < (i3 111).toInt)) ∨ (0 ≤ r4.toInt ∧ r4.toInt ≤ 5 ∧ 0 ≤ w.toInt ∧ w.toInt < (i3 111).toInt)) := hw4
    refine lv_if_ne (tgt := 37) hx hb dX11_bulk_28 (by decide) (fun c5 => ?_) (fun c5 => ?_)
    · have f5 := mt (ti_eq (a := r4.toInt) (b := 0) rfl (by decide)).mpr c5
      refine lv_aload_n hx hb dX11_bulk_37 rfl (lv_at hl 0 rfl) ?_
      refine xgT_X_bulks hx hb hts (fun _ h => List.mem_cons_of_mem _ (List.mem_append_left _ (List.mem_append_left _ (List.mem_append_left _ (List.mem_append_left _ (List.mem_append_left _ (List.mem_append_right _ h))))))) hown hK hP (hts (.fieldLink RX11 37 "TalePlay" "bulks" "LTalePlay$Bulks;") (by decide +kernel)) dX11_bulk_38 ?_
      have rb146_i3 : 0 ≤ (i3 146).toInt ∧ (i3 146).toInt ≤ 1 := hI.1 146
      have re146_i3 : (i3 146).toInt = (i 146).toInt := congrArg Int32.toInt (hfi 146 (by decide))
      rcases (show ((i3 146)).toInt = 0 ∨ ((i3 146)).toInt = 1 by omega) with hth | hth
      · refine lv_aload_n hx hb dX11_bulk_41 rfl (lv_at hl 0 rfl) ?_
        refine ro_callr (va_runV (As := []) (rest := [.ref (a 138)]) ⟨hx, hb, hml, hown, hts⟩ (x_X11_places_BP l D H.size sk a t i3 q3 c3 d3  hI (show ((i3 146) : Int32).toInt = 0 from by omega)) (cwV 0 hts gm_X11_bulk_X11_places_BP_131 rfl rfl rfl (by decide +kernel) ⟨Nat.le_of_ble_eq_true rfl, Nat.le_of_ble_eq_true rfl⟩) (yA_V hN (xZ_k hZ hS hA) hK hP (ci := 11) (q0 := 0) rfl rfl) rfl rfl hl.1 rfl (lv_room (Nat.le_of_ble_eq_true rfl)) dX11_bulk_42 ⟨Nat.le_of_ble_eq_true rfl, Nat.le_of_ble_eq_true rfl⟩) hS hA hP (fun H locs hP hS => ?_)
        refine lv_iload_n hx hb dX11_bulk_45 rfl (lv_at hl 1 rfl) ?_
        refine al_calli (va_runV (As := [.ref (a 126), .int w]) (rest := []) ⟨hx, hb, hml, hown, hts⟩ (x_X2_weighTraced_BP l D H.size sk a t i3 q3 c3 d3 w hI (show 0 ≤ w.toInt ∧ w.toInt ≤ 29 from by omega)) (cwV 2 hts gm_X11_bulk_X2_weighTraced_BP_135 rfl rfl rfl (by decide +kernel) ⟨Nat.le_of_ble_eq_true rfl, Nat.le_of_ble_eq_true rfl⟩) (yB_V hN (xZ_k hZ hS hA) (xZ_n hZ hD) hK hP hD (ci := 2) (q0 := 31) rfl rfl) rfl rfl hl.1 rfl (lv_room (Nat.le_of_ble_eq_true rfl)) dX11_bulk_46 ⟨Nat.le_of_ble_eq_true rfl, Nat.le_of_ble_eq_true rfl⟩) hS hA hP hD (fun r7 u7 H locs hw7 hP hD hS => ?_)
        obtain ⟨i7, q7, c7, d7⟩ := u7
        have hw7 : True ∧ xInv i7 c7 ∧ (∀ k, k ∉ ([140, 141] : List Nat) → i7 k = i3 k) ∧ (∀ k, k ∉ ([139] : List Nat) → c7 k = c3 k) ∧ ((i7 141).toInt = 0) := hw7
        obtain ⟨hw7, hI, hei7, hec7, hxp7_0⟩ := hw7
        have hxp7_0 : (i7 141).toInt = 0 := hxp7_0
        have hfi : ∀ k, k ∉ ([140, 141] : List Nat) → i7 k = i k := fr_z hfi hei7 (by decide) (by decide)
        have hfc : ∀ k, k ∉ ([139] : List Nat) → c7 k = c k := fr_z hfc hec7 (by decide) (by decide)
        have htr2 : (i7 141).toInt = 0 := hxp7_0
        refine lv_istore_n (lv' := [(2, .int r7), (0, .ref (a 100)), (1, .int w)]) hx hb dX11_bulk_49 rfl hl (by decide) rfl (fun ls hl => ?_)
        refine lv_iload_n hx hb dX11_bulk_50 rfl (lv_at hl 0 rfl) ?_
        refine lv_if_ge (tgt := 60) hx hb dX11_bulk_51 (by decide) (fun c8 => ?_) (fun c8 => ?_)
        · have f8 := (ti_le (a := 0) (b := r7.toInt) (by decide) rfl).mp c8
          refine lv_aload_n hx hb dX11_bulk_60 rfl (lv_at hl 1 rfl) ?_
          refine lv_iload_n hx hb dX11_bulk_61 rfl (lv_at hl 0 rfl) ?_
          refine lv_i2l (v := r7.toInt64) hx hb dX11_bulk_62 rfl ?_
          refine xpT_X_told hx hb hts (fun _ h => List.mem_cons_of_mem _ (List.mem_append_left _ (List.mem_append_left _ (List.mem_append_left _ (List.mem_append_left _ (List.mem_append_left _ (List.mem_append_right _ h))))))) hown hK hP hD hS (hts (.fieldLink RX11 76 "TalePlay" "told" "J") (by decide +kernel)) rfl rfl dX11_bulk_63 (fun H locs hP hD hS => ?_)
          refine lv_iconst (v := 1) hx hb dX11_bulk_66 (by decide) ?_
          exact rw_iret (i7, r7.toInt64, c7, d7) hx hb hr hlocks hS (hK.sub (tys' := []) [] rfl) hP hD dX11_bulk_67 ⟨trivial, hI, fr_w hfi (by decide), fr_w hfc (by decide), (show ((i7 141) : Int32).toInt = 0 from htr2)⟩
        · have f8 := mt (ti_le (a := 0) (b := r7.toInt) (by decide) rfl).mpr c8
          refine lv_aload_n hx hb dX11_bulk_54 rfl (lv_at hl 1 rfl) ?_
          refine lv_iconst (v := 4) hx hb dX11_bulk_55 (by decide) ?_
          refine al_calli (va_runV (As := [.int 4]) (rest := []) ⟨hx, hb, hml, hown, hts⟩ (x_X11_answerFinding l D H.size sk a t i7 q7 c7 d7 4 hI (show 1 ≤ 4 ∧ 4 ≤ 6 from by have h90 : (4 : Int32).toInt = 4 := (by decide); omega)) (cwV 1 hts gm_X11_bulk_X11_answerFinding_128 rfl rfl rfl (by decide +kernel) ⟨Nat.le_of_ble_eq_true rfl, Nat.le_of_ble_eq_true rfl⟩) (yB_V hN (xZ_k hZ hS hA) (xZ_n hZ hD) hK hP hD (ci := 11) (q0 := 0) rfl rfl) rfl rfl hl.1 rfl (lv_room (Nat.le_of_ble_eq_true rfl)) dX11_bulk_56 ⟨Nat.le_of_ble_eq_true rfl, Nat.le_of_ble_eq_true rfl⟩) hS hA hP hD (fun r9 u9 H locs hw9 hP hD hS => ?_)
          obtain ⟨i9, q9, c9, d9⟩ := u9
          have hw9 : r9 = (-3) ∧ xInv i9 c9 ∧ (∀ k, k ∉ ([102] : List Nat) → i9 k = i7 k) ∧ (∀ k, k ∉ ([101] : List Nat) → c9 k = c7 k) := hw9
          obtain ⟨hw9, hI, hei9, hec9⟩ := hw9
          have hfi : ∀ k, k ∉ ([102, 140, 141] : List Nat) → i9 k = i k := fr_z hfi hei9 (by decide) (by decide)
          have hfc : ∀ k, k ∉ ([101, 139] : List Nat) → c9 k = c k := fr_z hfc hec9 (by decide) (by decide)
          have htr2 : ((i9 141) : Int32).toInt = 0 := by rw [show i9 141 = i7 141 from hei9 141 (by decide)]; exact htr2
          have hw9 : r9 = (-3) := hw9
          subst hw9
          exact rw_iret (i9, q9, c9, d9) hx hb hr hlocks hS (hK.sub (tys' := []) [] rfl) hP hD dX11_bulk_59 ⟨trivial, hI, fr_w hfi (by decide), fr_w hfc (by decide), (show ((i9 141) : Int32).toInt = 0 from htr2)⟩
      · refine lv_aload_n hx hb dX11_bulk_41 rfl (lv_at hl 0 rfl) ?_
        refine ro_callr (va_runV (As := []) (rest := [.ref (a 138)]) ⟨hx, hb, hml, hown, hts⟩ (x_X11_places_TS l D H.size sk a t i3 q3 c3 d3  hI (show ((i3 146) : Int32).toInt = 1 from by omega)) (cwV 0 hts gm_X11_bulk_X11_places_TS_131 rfl rfl rfl (by decide +kernel) ⟨Nat.le_of_ble_eq_true rfl, Nat.le_of_ble_eq_true rfl⟩) (yA_V hN (xZ_k hZ hS hA) hK hP (ci := 11) (q0 := 0) rfl rfl) rfl rfl hl.1 rfl (lv_room (Nat.le_of_ble_eq_true rfl)) dX11_bulk_42 ⟨Nat.le_of_ble_eq_true rfl, Nat.le_of_ble_eq_true rfl⟩) hS hA hP (fun H locs hP hS => ?_)
        refine lv_iload_n hx hb dX11_bulk_45 rfl (lv_at hl 1 rfl) ?_
        refine al_calli (va_runV (As := [.ref (a 149), .int w]) (rest := []) ⟨hx, hb, hml, hown, hts⟩ (x_X2_weighTraced_TS l D H.size sk a t i3 q3 c3 d3 w hI (show 0 ≤ w.toInt ∧ w.toInt ≤ 29 from by omega)) (cwV 2 hts gm_X11_bulk_X2_weighTraced_TS_135 rfl rfl rfl (by decide +kernel) ⟨Nat.le_of_ble_eq_true rfl, Nat.le_of_ble_eq_true rfl⟩) (yB_V hN (xZ_k hZ hS hA) (xZ_n hZ hD) hK hP hD (ci := 2) (q0 := 31) rfl rfl) rfl rfl hl.1 rfl (lv_room (Nat.le_of_ble_eq_true rfl)) dX11_bulk_46 ⟨Nat.le_of_ble_eq_true rfl, Nat.le_of_ble_eq_true rfl⟩) hS hA hP hD (fun r11 u11 H locs hw11 hP hD hS => ?_)
        obtain ⟨i11, q11, c11, d11⟩ := u11
        have hw11 : True ∧ xInv i11 c11 ∧ (∀ k, k ∉ ([140, 141] : List Nat) → i11 k = i3 k) ∧ (∀ k, k ∉ ([139] : List Nat) → c11 k = c3 k) ∧ ((i11 141).toInt = 0) := hw11
        obtain ⟨hw11, hI, hei11, hec11, hxp11_0⟩ := hw11
        have hxp11_0 : (i11 141).toInt = 0 := hxp11_0
        have hfi : ∀ k, k ∉ ([140, 141] : List Nat) → i11 k = i k := fr_z hfi hei11 (by decide) (by decide)
        have hfc : ∀ k, k ∉ ([139] : List Nat) → c11 k = c k := fr_z hfc hec11 (by decide) (by decide)
        have htr2 : (i11 141).toInt = 0 := hxp11_0
        refine lv_istore_n (lv' := [(2, .int r11), (0, .ref (a 100)), (1, .int w)]) hx hb dX11_bulk_49 rfl hl (by decide) rfl (fun ls hl => ?_)
        refine lv_iload_n hx hb dX11_bulk_50 rfl (lv_at hl 0 rfl) ?_
        refine lv_if_ge (tgt := 60) hx hb dX11_bulk_51 (by decide) (fun c12 => ?_) (fun c12 => ?_)
        · have f12 := (ti_le (a := 0) (b := r11.toInt) (by decide) rfl).mp c12
          refine lv_aload_n hx hb dX11_bulk_60 rfl (lv_at hl 1 rfl) ?_
          refine lv_iload_n hx hb dX11_bulk_61 rfl (lv_at hl 0 rfl) ?_
          refine lv_i2l (v := r11.toInt64) hx hb dX11_bulk_62 rfl ?_
          refine xpT_X_told hx hb hts (fun _ h => List.mem_cons_of_mem _ (List.mem_append_left _ (List.mem_append_left _ (List.mem_append_left _ (List.mem_append_left _ (List.mem_append_left _ (List.mem_append_right _ h))))))) hown hK hP hD hS (hts (.fieldLink RX11 76 "TalePlay" "told" "J") (by decide +kernel)) rfl rfl dX11_bulk_63 (fun H locs hP hD hS => ?_)
          refine lv_iconst (v := 1) hx hb dX11_bulk_66 (by decide) ?_
          exact rw_iret (i11, r11.toInt64, c11, d11) hx hb hr hlocks hS (hK.sub (tys' := []) [] rfl) hP hD dX11_bulk_67 ⟨trivial, hI, fr_w hfi (by decide), fr_w hfc (by decide), (show ((i11 141) : Int32).toInt = 0 from htr2)⟩
        · have f12 := mt (ti_le (a := 0) (b := r11.toInt) (by decide) rfl).mpr c12
          refine lv_aload_n hx hb dX11_bulk_54 rfl (lv_at hl 1 rfl) ?_
          refine lv_iconst (v := 4) hx hb dX11_bulk_55 (by decide) ?_
          refine al_calli (va_runV (As := [.int 4]) (rest := []) ⟨hx, hb, hml, hown, hts⟩ (x_X11_answerFinding l D H.size sk a t i11 q11 c11 d11 4 hI (show 1 ≤ 4 ∧ 4 ≤ 6 from by have h90 : (4 : Int32).toInt = 4 := (by decide); omega)) (cwV 1 hts gm_X11_bulk_X11_answerFinding_128 rfl rfl rfl (by decide +kernel) ⟨Nat.le_of_ble_eq_true rfl, Nat.le_of_ble_eq_true rfl⟩) (yB_V hN (xZ_k hZ hS hA) (xZ_n hZ hD) hK hP hD (ci := 11) (q0 := 0) rfl rfl) rfl rfl hl.1 rfl (lv_room (Nat.le_of_ble_eq_true rfl)) dX11_bulk_56 ⟨Nat.le_of_ble_eq_true rfl, Nat.le_of_ble_eq_true rfl⟩) hS hA hP hD (fun r13 u13 H locs hw13 hP hD hS => ?_)
          obtain ⟨i13, q13, c13, d13⟩ := u13
          have hw13 : r13 = (-3) ∧ xInv i13 c13 ∧ (∀ k, k ∉ ([102] : List Nat) → i13 k = i11 k) ∧ (∀ k, k ∉ ([101] : List Nat) → c13 k = c11 k) := hw13
          obtain ⟨hw13, hI, hei13, hec13⟩ := hw13
          have hfi : ∀ k, k ∉ ([102, 140, 141] : List Nat) → i13 k = i k := fr_z hfi hei13 (by decide) (by decide)
          have hfc : ∀ k, k ∉ ([101, 139] : List Nat) → c13 k = c k := fr_z hfc hec13 (by decide) (by decide)
          have htr2 : ((i13 141) : Int32).toInt = 0 := by rw [show i13 141 = i11 141 from hei13 141 (by decide)]; exact htr2
          have hw13 : r13 = (-3) := hw13
          subst hw13
          exact rw_iret (i13, q13, c13, d13) hx hb hr hlocks hS (hK.sub (tys' := []) [] rfl) hP hD dX11_bulk_59 ⟨trivial, hI, fr_w hfi (by decide), fr_w hfc (by decide), (show ((i13 141) : Int32).toInt = 0 from htr2)⟩
    · have f5 := (ti_eq (a := r4.toInt) (b := 0) rfl (by decide)).mp c5
      refine lv_aload_n hx hb dX11_bulk_31 rfl (lv_at hl 0 rfl) ?_
      refine lv_iconst (v := 3) hx hb dX11_bulk_32 (by decide) ?_
      refine al_calli (va_runV (As := [.int 3]) (rest := []) ⟨hx, hb, hml, hown, hts⟩ (x_X11_answerFinding l D H.size sk a t i3 q3 c3 d3 3 hI (show 1 ≤ 3 ∧ 3 ≤ 6 from by have h90 : (3 : Int32).toInt = 3 := (by decide); omega)) (cwV 1 hts gm_X11_bulk_X11_answerFinding_128 rfl rfl rfl (by decide +kernel) ⟨Nat.le_of_ble_eq_true rfl, Nat.le_of_ble_eq_true rfl⟩) (yB_V hN (xZ_k hZ hS hA) (xZ_n hZ hD) hK hP hD (ci := 11) (q0 := 0) rfl rfl) rfl rfl hl.1 rfl (lv_room (Nat.le_of_ble_eq_true rfl)) dX11_bulk_33 ⟨Nat.le_of_ble_eq_true rfl, Nat.le_of_ble_eq_true rfl⟩) hS hA hP hD (fun r14 u14 H locs hw14 hP hD hS => ?_)
      obtain ⟨i14, q14, c14, d14⟩ := u14
      have hw14 : r14 = (-3) ∧ xInv i14 c14 ∧ (∀ k, k ∉ ([102] : List Nat) → i14 k = i3 k) ∧ (∀ k, k ∉ ([101] : List Nat) → c14 k = c3 k) := hw14
      obtain ⟨hw14, hI, hei14, hec14⟩ := hw14
      have hfi : ∀ k, k ∉ ([102, 140] : List Nat) → i14 k = i k := fr_z hfi hei14 (by decide) (by decide)
      have hfc : ∀ k, k ∉ ([101] : List Nat) → c14 k = c k := fr_z hfc hec14 (by decide) (by decide)
      have htr2 : ((i14 141) : Int32).toInt = 0 := by rw [show i14 141 = i3 141 from hei14 141 (by decide)]; exact htr2
      have hw14 : r14 = (-3) := hw14
      subst hw14
      exact rw_iret (i14, q14, c14, d14) hx hb hr hlocks hS (hK.sub (tys' := []) [] rfl) hP hD dX11_bulk_36 ⟨trivial, hI, fr_w hfi (by decide), fr_w hfc (by decide), (show ((i14 141) : Int32).toInt = 0 from htr2)⟩
  · have f2 := fl_f hw1 c2
    refine lv_iconst (v := (-1)) hx hb dX11_bulk_11 (by decide) ?_
    exact rw_iret (i, q, c, d) hx hb hr hlocks hS (hK.sub (tys' := []) [] rfl) hP hD dX11_bulk_12 ⟨trivial, hI, fr_w hfi (by decide), fr_w hfc (by decide), (show ((i 141) : Int32).toInt = 0 from htr2)⟩

def wm_X11_share : List Cond := .code yX11_share cX11_share 5 (some .int) :: (([.fieldLink RX11 10 "TalePlay" "world" "LTalePlay$World;", .methodLink RX11 109 yX10_hasObject, .instanceMethod yX10_hasObject, .selects RX10 yX10_hasObject yX10_hasObject, .initialized RX10, .code yX10_hasObject cX10_hasObject 2 (some .boolean), .fieldLink RX10 37 "TalePlay$World" "objects" "I", .methodLink RX11 125 yX10_sortOf, .instanceMethod yX10_sortOf, .selects RX10 yX10_sortOf yX10_sortOf, .code yX10_sortOf cX10_sortOf 2 (some .int), .fieldLink RX10 15 "TalePlay$World" "sorts" "[I", .fieldLink RX10 21 "TalePlay$World" "kindOf" "[I", .fieldLink RX11 37 "TalePlay" "bulks" "LTalePlay$Bulks;", .methodLink RX11 131 yX11_places, .instanceMethod yX11_places, .selects RX11 yX11_places yX11_places, .initialized RX11, .code yX11_places cX11_places 1 (some (.object "TalePlay$Scene")), .fieldLink RX11 46 "TalePlay" "tale" "LTalePlay$Tale;", .fieldLink RX11 257 "TalePlay$Tale" "there" "Z", .fieldLink RX11 21 "TalePlay" "book" "LTalePlay$Book;", .fieldLink RX11 203 "TalePlay$Book" "places" "LTalePlay$Scene;", .methodLink RX11 145 yX2_weigh, .instanceMethod yX2_weigh, .selects RX2 yX2_weigh yX2_weigh, .initialized RX2, .code yX2_weigh cX2_weigh 3 (some .int), .methodLink RX2 23 yX2_weighBy, .instanceMethod yX2_weighBy, .selects RX2 yX2_weighBy yX2_weighBy, .code yX2_weighBy cX2_weighBy 6 (some .int), .fieldLink RX2 15 "TalePlay$Bulks" "world" "LTalePlay$World;", .methodLink RX2 42 yX10_sortOf, .methodLink RX2 45 yX2_noteBodies, .instanceMethod yX2_noteBodies, .selects RX2 yX2_noteBodies yX2_noteBodies, .code yX2_noteBodies cX2_noteBodies 2 none, .fieldLink RX2 60 "TalePlay$Bulks" "BODIES" "[I", .methodLink RX2 63 yX2_note, .instanceMethod yX2_note, .selects RX2 yX2_note yX2_note, .code yX2_note cX2_note 2 none, .fieldLink RX2 27 "TalePlay$Bulks" "tracing" "Z", .fieldLink RX2 49 "TalePlay$World" "sizeOf" "[I", .methodLink RX2 52 yX2_weighThose, .instanceMethod yX2_weighThose, .selects RX2 yX2_weighThose yX2_weighThose, .code yX2_weighThose cX2_weighThose 7 (some .int), .fieldLink RX2 31 "TalePlay$World" "objects" "I", .methodLink RX2 56 yX6_lies, .instanceMethod yX6_lies, .selects RX6 yX6_lies yX6_lies, .initialized RX6, .code yX6_lies cX6_lies 4 (some .boolean), .fieldLink RX6 9 "TalePlay$Scene" "cells" "[I", .methodLink RX11 148 yX2_weighAllOf, .instanceMethod yX2_weighAllOf, .selects RX2 yX2_weighAllOf yX2_weighAllOf, .code yX2_weighAllOf cX2_weighAllOf 5 (some .int), .methodLink RX2 36 yX6_holderOf, .instanceMethod yX6_holderOf, .selects RX6 yX6_holderOf yX6_holderOf, .code yX6_holderOf cX6_holderOf 3 (some .int), .methodLink RX11 128 yX11_answerFinding, .instanceMethod yX11_answerFinding, .selects RX11 yX11_answerFinding yX11_answerFinding, .code yX11_answerFinding cX11_answerFinding 2 (some .int), .fieldLink RX11 72 "TalePlay" "latestFinding" "I", .fieldLink RX11 68 "TalePlay" "findingCounts" "[I", .constantLong RX11 151 (1000), .fieldLink RX11 76 "TalePlay" "told" "J", .fieldLink RX11 286 "TalePlay$Tale" "scene" "LTalePlay$Scene;"] : List Cond) ++ wsX110 ++ wsX100 ++ wsX90 ++ wsX10 ++ wsX20 ++ wsX60)
set_option maxRecDepth 20000 in
theorem gm_X11_share_X10_hasObject_109 : GoodIn wm_X11_share (wsV RX11 109 RX10 yX10_hasObject wm_X10_hasObject) := goodIn_app (goodIn_of _ (by decide +kernel)) (goodIn_r _ [6, 7, 85, 86, 87, 88, 89, 90, 91] rfl (by decide +kernel))
set_option maxRecDepth 20000 in
theorem gm_X11_share_X10_sortOf_125 : GoodIn wm_X11_share (wsV RX11 125 RX10 yX10_sortOf wm_X10_sortOf) := goodIn_app (goodIn_of _ (by decide +kernel)) (goodIn_r _ [11, 7, 12, 13, 85, 86, 87, 88, 89, 90, 91] rfl (by decide +kernel))
set_option maxRecDepth 20000 in
theorem gm_X11_share_X11_places_BP_131 : GoodIn wm_X11_share (wsV RX11 131 RX11 yX11_places wm_X11_places_BP) := goodIn_app (goodIn_of _ (by decide +kernel)) (goodIn_r _ [19, 20, 21, 22, 23, 74, 75, 76, 77, 78, 79, 80, 81, 82, 83, 84, 92, 93, 94, 95, 96, 97, 98, 99, 100, 101, 102, 103, 104, 105, 106, 107, 108, 109, 110, 111, 112, 113, 114, 115, 116, 117] rfl (by decide +kernel))
set_option maxRecDepth 20000 in
theorem gm_X11_share_X2_weigh_BP_145 : GoodIn wm_X11_share (wsV RX11 145 RX2 yX2_weigh wm_X2_weigh_BP) := goodIn_app (goodIn_of _ (by decide +kernel)) (goodIn_r _ [28, 29, 30, 31, 27, 32, 33, 34, 9, 10, 5, 11, 7, 12, 13, 35, 36, 37, 38, 39, 40, 41, 42, 43, 44, 45, 46, 47, 48, 49, 50, 51, 52, 53, 54, 55, 56, 118, 119, 120, 121, 85, 86, 87, 88, 89, 90, 91, 122, 123] rfl (by decide +kernel))
set_option maxRecDepth 20000 in
theorem gm_X11_share_X2_weighAllOf_BP_148 : GoodIn wm_X11_share (wsV RX11 148 RX2 yX2_weighAllOf wm_X2_weighAllOf_BP) := goodIn_app (goodIn_of _ (by decide +kernel)) (goodIn_r _ [60, 33, 50, 61, 62, 63, 54, 64, 56, 29, 30, 31, 27, 32, 34, 9, 10, 5, 11, 7, 12, 13, 35, 36, 37, 38, 39, 40, 41, 42, 43, 44, 45, 46, 47, 48, 49, 51, 52, 53, 55, 118, 119, 120, 121, 85, 86, 87, 88, 89, 90, 91, 122, 123] rfl (by decide +kernel))
set_option maxRecDepth 20000 in
theorem gm_X11_share_X11_answerFinding_128 : GoodIn wm_X11_share (wsV RX11 128 RX11 yX11_answerFinding wm_X11_answerFinding) := goodIn_app (goodIn_of _ (by decide +kernel)) (goodIn_r _ [68, 69, 70, 74, 75, 76, 77, 78, 79, 80, 81, 82, 83, 84] rfl (by decide +kernel))
set_option maxRecDepth 20000 in
theorem gm_X11_share_X11_places_TS_131 : GoodIn wm_X11_share (wsV RX11 131 RX11 yX11_places wm_X11_places_TS) := goodIn_app (goodIn_of _ (by decide +kernel)) (goodIn_r _ [19, 20, 21, 73, 74, 75, 76, 77, 78, 79, 80, 81, 82, 83, 84, 92, 93, 94, 95, 96, 97, 98, 99, 100, 101, 102] rfl (by decide +kernel))
set_option maxRecDepth 20000 in
theorem gm_X11_share_X2_weigh_TS_145 : GoodIn wm_X11_share (wsV RX11 145 RX2 yX2_weigh wm_X2_weigh_TS) := goodIn_app (goodIn_of _ (by decide +kernel)) (goodIn_r _ [28, 29, 30, 31, 27, 32, 33, 34, 9, 10, 5, 11, 7, 12, 13, 35, 36, 37, 38, 39, 40, 41, 42, 43, 44, 45, 46, 47, 48, 49, 50, 51, 52, 53, 54, 55, 56, 118, 119, 120, 121, 85, 86, 87, 88, 89, 90, 91, 122, 123] rfl (by decide +kernel))
set_option maxRecDepth 20000 in
theorem gm_X11_share_X2_weighAllOf_TS_148 : GoodIn wm_X11_share (wsV RX11 148 RX2 yX2_weighAllOf wm_X2_weighAllOf_TS) := goodIn_app (goodIn_of _ (by decide +kernel)) (goodIn_r _ [60, 33, 50, 61, 62, 63, 54, 64, 56, 29, 30, 31, 27, 32, 34, 9, 10, 5, 11, 7, 12, 13, 35, 36, 37, 38, 39, 40, 41, 42, 43, 44, 45, 46, 47, 48, 49, 51, 52, 53, 55, 118, 119, 120, 121, 85, 86, 87, 88, 89, 90, 91, 122, 123] rfl (by decide +kernel))
set_option maxHeartbeats 4000000 in
set_option maxRecDepth 100000 in
theorem x_X11_share (l : Launch) (D : va_G) (sz : Nat) (sk : Value) (a : Nat → Nat) (t : Nat → ClassId) (i : Nat → Int32) (q : Int64) (c : Nat → Nat → Int32) (d : Nat → Nat → Int64) (w1 : Int32) (w2 : Int32) (hI : xInv i c) (htr : (i 141).toInt = 0) : Met l yX11_share wm_X11_share ({ frames := 70, cells := 0, slots := 0, locals := 1830 }) (va_Pc [.ref (a 100), .int w1, .int w2] (yB (a 186) D sz (xwT sk a t i q c d) (xtT t))) (va_Qi (fun (r : Int32) (u : MS) => True ∧ xInv u.1 u.2.2.1 ∧ (∀ k, k ∉ ([102] : List Nat) → u.1 k = i k) ∧ (∀ k, k ∉ ([101] : List Nat) → u.2.2.1 k = c k)) (oC D (va_A (xwT sk a t i q c d) sz) (fun u : MS => xwT sk a t u.1 u.2.1 u.2.2.1 u.2.2.2) (fun _ => [])) (va_A (xwT sk a t i q c d) sz)) 0 0 (va_A (xwT sk a t i q c d) sz) := by
  refine Met.ofW (cc := cX11_share) (maxL := 5) (ret := (some .int)) (by decide) rfl ?_
  intro p e s m args below meth cd s₁ B hml hv
  obtain ⟨rfl, ⟨hsz, hP, hK, hD0⟩, hN, hZ, hBW⟩ := hv
  have hx := B.exec
  have hb := B.bytes
  have hr := B.returns
  have hts := atoms_spec (ws := wm_X11_share) B.pre
  have hown : s.vm.findClass RX11 = some m.cls := findClass_of_methodNamed B.named
  have hlocks := B.notSynchronized
  subst hsz
  have hD := hD0.self (sz := s.heap.size)
  have hZ := xZ_A hZ hP hBW
  generalize hAe : va_A (xwT sk a t i q c d) s.heap.size = A at hD hZ ⊢
  have hA : ∀ q : Nat, s.heap.size ≤ q → A q := fun q h => by rw [← hAe]; exact Or.inr h
  have hS : va_S A s.heap s.heap [] := va_S.rf
  have hfi : ∀ k, k ∉ ([] : List Nat) → i k = i k := fun _ _ => rfl
  have hfc : ∀ k, k ∉ ([] : List Nat) → c k = c k := fun _ _ => rfl
  have hl := lv_entry ([.ref (a 100), .int w1, .int w2]) (n := 5) (Nat.le_of_ble_eq_true rfl)
  rw [lg_entry_eq]
  generalize (lg_sl ([.ref (a 100), .int w1, .int w2]) ++ List.replicate (5 - (lg_sl ([.ref (a 100), .int w1, .int w2])).length) Slot.unset).toArray = ls at hl ⊢
  have hl : lv_has ls 5 [(0, .ref (a 100)), (1, .int w1), (2, .int w2)] := hl
  refine lv_aload_n hx hb dX11_share_0 rfl (lv_at hl 0 rfl) ?_
  refine xgT_X_world hx hb hts (fun _ h => List.mem_cons_of_mem _ (List.mem_append_left _ (List.mem_append_left _ (List.mem_append_left _ (List.mem_append_left _ (List.mem_append_left _ (List.mem_append_right _ h))))))) hown hK hP (hts (.fieldLink RX11 10 "TalePlay" "world" "LTalePlay$World;") (by decide +kernel)) dX11_share_1 ?_
  refine lv_iload_n hx hb dX11_share_4 rfl (lv_at hl 1 rfl) ?_
  have rb111_i : 0 ≤ (i 111).toInt ∧ (i 111).toInt ≤ 30 := hI.1 111
  refine ro_calli (va_runV (As := [.int w1]) (rest := []) ⟨hx, hb, hml, hown, hts⟩ (x_X10_hasObject l D s.heap.size .null a t i q c d w1 hI ) (cwV 1 hts gm_X11_share_X10_hasObject_109 rfl rfl rfl (by decide +kernel) ⟨Nat.le_of_ble_eq_true rfl, Nat.le_of_ble_eq_true rfl⟩) (yA_V hN (xZ_k hZ hS hA) (xkT_W hK) (xuT_W (sk := sk) hP) (ci := 10) (q0 := 0) rfl rfl) rfl rfl hl.1 rfl (lv_room (Nat.le_of_ble_eq_true rfl)) dX11_share_5 ⟨Nat.le_of_ble_eq_true rfl, Nat.le_of_ble_eq_true rfl⟩) hS hA hP (fun r1 u1 H locs hw1 hP hS => ?_)
  have hw1 : r1 = if (0 ≤ w1.toInt ∧ w1.toInt < (i 111).toInt) then 1 else 0 := hw1
  refine lv_if_eq (tgt := 22) hx hb dX11_share_8 (by decide) (fun c2 => ?_) (fun c2 => ?_)
  · have f2 := fl_f hw1 c2
    refine lv_iconst (v := (-1)) hx hb dX11_share_22 (by decide) ?_
    exact rw_iret (i, q, c, d) hx hb hr hlocks hS (hK.sub (tys' := []) [] rfl) hP hD dX11_share_23 ⟨trivial, hI, fr_w hfi (by decide), fr_w hfc (by decide)⟩
  · have f2 := fl_t hw1 c2
    refine lv_aload_n hx hb dX11_share_11 rfl (lv_at hl 0 rfl) ?_
    refine xgT_X_world hx hb hts (fun _ h => List.mem_cons_of_mem _ (List.mem_append_left _ (List.mem_append_left _ (List.mem_append_left _ (List.mem_append_left _ (List.mem_append_left _ (List.mem_append_right _ h))))))) hown hK hP (hts (.fieldLink RX11 10 "TalePlay" "world" "LTalePlay$World;") (by decide +kernel)) dX11_share_12 ?_
    refine lv_iload_n hx hb dX11_share_15 rfl (lv_at hl 2 rfl) ?_
    refine ro_calli (va_runV (As := [.int w2]) (rest := []) ⟨hx, hb, hml, hown, hts⟩ (x_X10_hasObject l D H.size .null a t i q c d w2 hI ) (cwV 1 hts gm_X11_share_X10_hasObject_109 rfl rfl rfl (by decide +kernel) ⟨Nat.le_of_ble_eq_true rfl, Nat.le_of_ble_eq_true rfl⟩) (yA_V hN (xZ_k hZ hS hA) (xkT_W hK) (xuT_W (sk := sk) hP) (ci := 10) (q0 := 0) rfl rfl) rfl rfl hl.1 rfl (lv_room (Nat.le_of_ble_eq_true rfl)) dX11_share_16 ⟨Nat.le_of_ble_eq_true rfl, Nat.le_of_ble_eq_true rfl⟩) hS hA hP (fun r3 u3 H locs hw3 hP hS => ?_)
    have hw3 : r3 = if (0 ≤ w2.toInt ∧ w2.toInt < (i 111).toInt) then 1 else 0 := hw3
    refine lv_if_ne (tgt := 24) hx hb dX11_share_19 (by decide) (fun c4 => ?_) (fun c4 => ?_)
    · have f4 := fl_t hw3 c4
      refine lv_aload_n hx hb dX11_share_24 rfl (lv_at hl 0 rfl) ?_
      refine xgT_X_world hx hb hts (fun _ h => List.mem_cons_of_mem _ (List.mem_append_left _ (List.mem_append_left _ (List.mem_append_left _ (List.mem_append_left _ (List.mem_append_left _ (List.mem_append_right _ h))))))) hown hK hP (hts (.fieldLink RX11 10 "TalePlay" "world" "LTalePlay$World;") (by decide +kernel)) dX11_share_25 ?_
      refine lv_iload_n hx hb dX11_share_28 rfl (lv_at hl 1 rfl) ?_
      refine ro_calli (va_runV (As := [.int w1]) (rest := []) ⟨hx, hb, hml, hown, hts⟩ (x_X10_sortOf l D H.size .null a t i q c d w1 hI ) (cwV 1 hts gm_X11_share_X10_sortOf_125 rfl rfl rfl (by decide +kernel) ⟨Nat.le_of_ble_eq_true rfl, Nat.le_of_ble_eq_true rfl⟩) (yA_V hN (xZ_k hZ hS hA) (xkT_W hK) (xuT_W (sk := sk) hP) (ci := 10) (q0 := 0) rfl rfl) rfl rfl hl.1 rfl (lv_room (Nat.le_of_ble_eq_true rfl)) dX11_share_29 ⟨Nat.le_of_ble_eq_true rfl, Nat.le_of_ble_eq_true rfl⟩) hS hA hP (fun r5 u5 H locs hw5 hP hS => ?_)
      have hw5 : ((r5.toInt = -9 ∧ ¬ (0 ≤ w1.toInt ∧ w1.toInt < (i 111).toInt)) ∨ (0 ≤ r5.toInt ∧ r5.toInt ≤ 5 ∧ 0 ≤ w1.toInt ∧ w1.toInt < (i 111).toInt)) := hw5
      refine lv_if_ne (tgt := 41) hx hb dX11_share_32 (by decide) (fun c6 => ?_) (fun c6 => ?_)
      · have f6 := mt (ti_eq (a := r5.toInt) (b := 0) rfl (by decide)).mpr c6
        refine lv_aload_n hx hb dX11_share_41 rfl (lv_at hl 0 rfl) ?_
        refine xgT_X_bulks hx hb hts (fun _ h => List.mem_cons_of_mem _ (List.mem_append_left _ (List.mem_append_left _ (List.mem_append_left _ (List.mem_append_left _ (List.mem_append_left _ (List.mem_append_right _ h))))))) hown hK hP (hts (.fieldLink RX11 37 "TalePlay" "bulks" "LTalePlay$Bulks;") (by decide +kernel)) dX11_share_42 ?_
        have rb146_i : 0 ≤ (i 146).toInt ∧ (i 146).toInt ≤ 1 := hI.1 146
        rcases (show ((i 146)).toInt = 0 ∨ ((i 146)).toInt = 1 by omega) with hth | hth
        · refine lv_aload_n hx hb dX11_share_45 rfl (lv_at hl 0 rfl) ?_
          refine ro_callr (va_runV (As := []) (rest := [.ref (a 138)]) ⟨hx, hb, hml, hown, hts⟩ (x_X11_places_BP l D H.size sk a t i q c d  hI (show ((i 146) : Int32).toInt = 0 from by omega)) (cwV 0 hts gm_X11_share_X11_places_BP_131 rfl rfl rfl (by decide +kernel) ⟨Nat.le_of_ble_eq_true rfl, Nat.le_of_ble_eq_true rfl⟩) (yA_V hN (xZ_k hZ hS hA) hK hP (ci := 11) (q0 := 0) rfl rfl) rfl rfl hl.1 rfl (lv_room (Nat.le_of_ble_eq_true rfl)) dX11_share_46 ⟨Nat.le_of_ble_eq_true rfl, Nat.le_of_ble_eq_true rfl⟩) hS hA hP (fun H locs hP hS => ?_)
          refine lv_iload_n hx hb dX11_share_49 rfl (lv_at hl 1 rfl) ?_
          have rb141_i : 0 ≤ (i 141).toInt ∧ (i 141).toInt ≤ 1 := hI.1 141
          refine ro_calli (va_runV (As := [.ref (a 126), .int w1]) (rest := []) ⟨hx, hb, hml, hown, hts⟩ (x_X2_weigh_BP l D H.size .null a t i q c d w1 hI (show 0 ≤ w1.toInt ∧ w1.toInt ≤ 29 from by omega) (show ((i 141) : Int32).toInt = 0 from by omega)) (cwV 2 hts gm_X11_share_X2_weigh_BP_145 rfl rfl rfl (by decide +kernel) ⟨Nat.le_of_ble_eq_true rfl, Nat.le_of_ble_eq_true rfl⟩) (yA_V hN (xZ_k hZ hS hA) (xkT_B hK) (xuT_B (sk := sk) hP) (ci := 2) (q0 := 29) rfl rfl) rfl rfl hl.1 rfl (lv_room (Nat.le_of_ble_eq_true rfl)) dX11_share_50 ⟨Nat.le_of_ble_eq_true rfl, Nat.le_of_ble_eq_true rfl⟩) hS hA hP (fun r8 u8 H locs hw8 hP hS => ?_)
          refine lv_istore_n (lv' := [(3, .int r8), (0, .ref (a 100)), (1, .int w1), (2, .int w2)]) hx hb dX11_share_53 rfl hl (by decide) rfl (fun ls hl => ?_)
          refine lv_aload_n hx hb dX11_share_54 rfl (lv_at hl 1 rfl) ?_
          refine xgT_X_bulks hx hb hts (fun _ h => List.mem_cons_of_mem _ (List.mem_append_left _ (List.mem_append_left _ (List.mem_append_left _ (List.mem_append_left _ (List.mem_append_left _ (List.mem_append_right _ h))))))) hown hK hP (hts (.fieldLink RX11 37 "TalePlay" "bulks" "LTalePlay$Bulks;") (by decide +kernel)) dX11_share_55 ?_
          refine lv_aload_n hx hb dX11_share_58 rfl (lv_at hl 1 rfl) ?_
          refine ro_callr (va_runV (As := []) (rest := [.ref (a 138)]) ⟨hx, hb, hml, hown, hts⟩ (x_X11_places_BP l D H.size sk a t i q c d  hI (show ((i 146) : Int32).toInt = 0 from by omega)) (cwV 0 hts gm_X11_share_X11_places_BP_131 rfl rfl rfl (by decide +kernel) ⟨Nat.le_of_ble_eq_true rfl, Nat.le_of_ble_eq_true rfl⟩) (yA_V hN (xZ_k hZ hS hA) hK hP (ci := 11) (q0 := 0) rfl rfl) rfl rfl hl.1 rfl (lv_room (Nat.le_of_ble_eq_true rfl)) dX11_share_59 ⟨Nat.le_of_ble_eq_true rfl, Nat.le_of_ble_eq_true rfl⟩) hS hA hP (fun H locs hP hS => ?_)
          refine lv_iload_n hx hb dX11_share_62 rfl (lv_at hl 3 rfl) ?_
          refine ro_calli (va_runV (As := [.ref (a 126), .int w2]) (rest := []) ⟨hx, hb, hml, hown, hts⟩ (x_X2_weighAllOf_BP l D H.size .null a t i q c d w2 hI (show ((i 141) : Int32).toInt = 0 from by omega)) (cwV 2 hts gm_X11_share_X2_weighAllOf_BP_148 rfl rfl rfl (by decide +kernel) ⟨Nat.le_of_ble_eq_true rfl, Nat.le_of_ble_eq_true rfl⟩) (yA_V hN (xZ_k hZ hS hA) (xkT_B hK) (xuT_B (sk := sk) hP) (ci := 2) (q0 := 29) rfl rfl) rfl rfl hl.1 rfl (lv_room (Nat.le_of_ble_eq_true rfl)) dX11_share_63 ⟨Nat.le_of_ble_eq_true rfl, Nat.le_of_ble_eq_true rfl⟩) hS hA hP (fun r10 u10 H locs hw10 hP hS => ?_)
          refine lv_istore (lv' := [(4, .int r10), (3, .int r8), (0, .ref (a 100)), (1, .int w1), (2, .int w2)]) hx hb dX11_share_66 hl (by decide) rfl (fun ls hl => ?_)
          refine lv_iload_n hx hb dX11_share_68 rfl (lv_at hl 1 rfl) ?_
          refine lv_if_lt (tgt := 77) hx hb dX11_share_69 (by decide) (fun c11 => ?_) (fun c11 => ?_)
          · have f11 := (ti_lt (a := r8.toInt) (b := 0) rfl (by decide)).mp c11
            refine lv_aload_n hx hb dX11_share_77 rfl (lv_at hl 2 rfl) ?_
            refine lv_iconst (v := 4) hx hb dX11_share_78 (by decide) ?_
            refine al_calli (va_runV (As := [.int 4]) (rest := []) ⟨hx, hb, hml, hown, hts⟩ (x_X11_answerFinding l D H.size sk a t i q c d 4 hI (show 1 ≤ 4 ∧ 4 ≤ 6 from by have h90 : (4 : Int32).toInt = 4 := (by decide); omega)) (cwV 1 hts gm_X11_share_X11_answerFinding_128 rfl rfl rfl (by decide +kernel) ⟨Nat.le_of_ble_eq_true rfl, Nat.le_of_ble_eq_true rfl⟩) (yB_V hN (xZ_k hZ hS hA) (xZ_n hZ hD) hK hP hD (ci := 11) (q0 := 0) rfl rfl) rfl rfl hl.1 rfl (lv_room (Nat.le_of_ble_eq_true rfl)) dX11_share_79 ⟨Nat.le_of_ble_eq_true rfl, Nat.le_of_ble_eq_true rfl⟩) hS hA hP hD (fun r12 u12 H locs hw12 hP hD hS => ?_)
            obtain ⟨i12, q12, c12, d12⟩ := u12
            have hw12 : r12 = (-3) ∧ xInv i12 c12 ∧ (∀ k, k ∉ ([102] : List Nat) → i12 k = i k) ∧ (∀ k, k ∉ ([101] : List Nat) → c12 k = c k) := hw12
            obtain ⟨hw12, hI, hei12, hec12⟩ := hw12
            have hfi : ∀ k, k ∉ ([102] : List Nat) → i12 k = i k := fr_z hfi hei12 (by decide) (by decide)
            have hfc : ∀ k, k ∉ ([101] : List Nat) → c12 k = c k := fr_z hfc hec12 (by decide) (by decide)
            have hw12 : r12 = (-3) := hw12
            subst hw12
            exact rw_iret (i12, q12, c12, d12) hx hb hr hlocks hS (hK.sub (tys' := []) [] rfl) hP hD dX11_share_82 ⟨trivial, hI, fr_w hfi (by decide), fr_w hfc (by decide)⟩
          · have f11 := mt (ti_lt (a := r8.toInt) (b := 0) rfl (by decide)).mpr c11
            refine lv_iload hx hb dX11_share_72 (lv_at hl 0 rfl) ?_
            refine lv_if_gt (tgt := 83) hx hb dX11_share_74 (by decide) (fun c13 => ?_) (fun c13 => ?_)
            · have f13 := (ti_lt (a := 0) (b := r10.toInt) (by decide) rfl).mp c13
              refine lv_aload_n hx hb dX11_share_83 rfl (lv_at hl 2 rfl) ?_
              refine lv_ldc2 (v := 1000) hx hb hown (hts (.constantLong RX11 151 (1000)) (by decide +kernel)) dX11_share_84 ?_
              refine lv_iload_n hx hb dX11_share_87 rfl (lv_at hl 1 rfl) ?_
              refine lv_i2l (v := r8.toInt64) hx hb dX11_share_88 rfl ?_
              refine lv_lmul hx hb dX11_share_89 ?_
              refine lv_topl (fun x14 ex14 => ?_)
              refine lv_iload hx hb dX11_share_90 (lv_at hl 0 rfl) ?_
              refine lv_i2l (v := r10.toInt64) hx hb dX11_share_92 rfl ?_
              refine lv_ldiv hx hb dX11_share_93 (fun e9 => by have e8 : r10.toInt64.toInt = (0 : Int64).toInt := congrArg Int64.toInt e9; rw [show (0 : Int64).toInt = 0 from by decide] at e8; have e7 : r10.toInt64.toInt = r10.toInt := ((Int32.toInt_toInt64 r10).trans rfl); omega) ?_
              refine lv_topl (fun x15 ex15 => ?_)
              refine xpT_X_told hx hb hts (fun _ h => List.mem_cons_of_mem _ (List.mem_append_left _ (List.mem_append_left _ (List.mem_append_left _ (List.mem_append_left _ (List.mem_append_left _ (List.mem_append_right _ h))))))) hown hK hP hD hS (hts (.fieldLink RX11 76 "TalePlay" "told" "J") (by decide +kernel)) rfl rfl dX11_share_94 (fun H locs hP hD hS => ?_)
              refine lv_iconst (v := 1) hx hb dX11_share_97 (by decide) ?_
              exact rw_iret (i, x15, c, d) hx hb hr hlocks hS (hK.sub (tys' := []) [] rfl) hP hD dX11_share_98 ⟨trivial, hI, fr_w hfi (by decide), fr_w hfc (by decide)⟩
            · have f13 := mt (ti_lt (a := 0) (b := r10.toInt) (by decide) rfl).mpr c13
              refine lv_aload_n hx hb dX11_share_77 rfl (lv_at hl 2 rfl) ?_
              refine lv_iconst (v := 4) hx hb dX11_share_78 (by decide) ?_
              refine al_calli (va_runV (As := [.int 4]) (rest := []) ⟨hx, hb, hml, hown, hts⟩ (x_X11_answerFinding l D H.size sk a t i q c d 4 hI (show 1 ≤ 4 ∧ 4 ≤ 6 from by have h90 : (4 : Int32).toInt = 4 := (by decide); omega)) (cwV 1 hts gm_X11_share_X11_answerFinding_128 rfl rfl rfl (by decide +kernel) ⟨Nat.le_of_ble_eq_true rfl, Nat.le_of_ble_eq_true rfl⟩) (yB_V hN (xZ_k hZ hS hA) (xZ_n hZ hD) hK hP hD (ci := 11) (q0 := 0) rfl rfl) rfl rfl hl.1 rfl (lv_room (Nat.le_of_ble_eq_true rfl)) dX11_share_79 ⟨Nat.le_of_ble_eq_true rfl, Nat.le_of_ble_eq_true rfl⟩) hS hA hP hD (fun r16 u16 H locs hw16 hP hD hS => ?_)
              obtain ⟨i16, q16, c16, d16⟩ := u16
              have hw16 : r16 = (-3) ∧ xInv i16 c16 ∧ (∀ k, k ∉ ([102] : List Nat) → i16 k = i k) ∧ (∀ k, k ∉ ([101] : List Nat) → c16 k = c k) := hw16
              obtain ⟨hw16, hI, hei16, hec16⟩ := hw16
              have hfi : ∀ k, k ∉ ([102] : List Nat) → i16 k = i k := fr_z hfi hei16 (by decide) (by decide)
              have hfc : ∀ k, k ∉ ([101] : List Nat) → c16 k = c k := fr_z hfc hec16 (by decide) (by decide)
              have hw16 : r16 = (-3) := hw16
              subst hw16
              exact rw_iret (i16, q16, c16, d16) hx hb hr hlocks hS (hK.sub (tys' := []) [] rfl) hP hD dX11_share_82 ⟨trivial, hI, fr_w hfi (by decide), fr_w hfc (by decide)⟩
        · refine lv_aload_n hx hb dX11_share_45 rfl (lv_at hl 0 rfl) ?_
          refine ro_callr (va_runV (As := []) (rest := [.ref (a 138)]) ⟨hx, hb, hml, hown, hts⟩ (x_X11_places_TS l D H.size sk a t i q c d  hI (show ((i 146) : Int32).toInt = 1 from by omega)) (cwV 0 hts gm_X11_share_X11_places_TS_131 rfl rfl rfl (by decide +kernel) ⟨Nat.le_of_ble_eq_true rfl, Nat.le_of_ble_eq_true rfl⟩) (yA_V hN (xZ_k hZ hS hA) hK hP (ci := 11) (q0 := 0) rfl rfl) rfl rfl hl.1 rfl (lv_room (Nat.le_of_ble_eq_true rfl)) dX11_share_46 ⟨Nat.le_of_ble_eq_true rfl, Nat.le_of_ble_eq_true rfl⟩) hS hA hP (fun H locs hP hS => ?_)
          refine lv_iload_n hx hb dX11_share_49 rfl (lv_at hl 1 rfl) ?_
          have rb141_i : 0 ≤ (i 141).toInt ∧ (i 141).toInt ≤ 1 := hI.1 141
          refine ro_calli (va_runV (As := [.ref (a 149), .int w1]) (rest := []) ⟨hx, hb, hml, hown, hts⟩ (x_X2_weigh_TS l D H.size .null a t i q c d w1 hI (show 0 ≤ w1.toInt ∧ w1.toInt ≤ 29 from by omega) (show ((i 141) : Int32).toInt = 0 from by omega)) (cwV 2 hts gm_X11_share_X2_weigh_TS_145 rfl rfl rfl (by decide +kernel) ⟨Nat.le_of_ble_eq_true rfl, Nat.le_of_ble_eq_true rfl⟩) (yA_V hN (xZ_k hZ hS hA) (xkT_BT hK) (xuT_BT (sk := sk) hP) (ci := 2) (q0 := 29) rfl rfl) rfl rfl hl.1 rfl (lv_room (Nat.le_of_ble_eq_true rfl)) dX11_share_50 ⟨Nat.le_of_ble_eq_true rfl, Nat.le_of_ble_eq_true rfl⟩) hS hA hP (fun r18 u18 H locs hw18 hP hS => ?_)
          refine lv_istore_n (lv' := [(3, .int r18), (0, .ref (a 100)), (1, .int w1), (2, .int w2)]) hx hb dX11_share_53 rfl hl (by decide) rfl (fun ls hl => ?_)
          refine lv_aload_n hx hb dX11_share_54 rfl (lv_at hl 1 rfl) ?_
          refine xgT_X_bulks hx hb hts (fun _ h => List.mem_cons_of_mem _ (List.mem_append_left _ (List.mem_append_left _ (List.mem_append_left _ (List.mem_append_left _ (List.mem_append_left _ (List.mem_append_right _ h))))))) hown hK hP (hts (.fieldLink RX11 37 "TalePlay" "bulks" "LTalePlay$Bulks;") (by decide +kernel)) dX11_share_55 ?_
          refine lv_aload_n hx hb dX11_share_58 rfl (lv_at hl 1 rfl) ?_
          refine ro_callr (va_runV (As := []) (rest := [.ref (a 138)]) ⟨hx, hb, hml, hown, hts⟩ (x_X11_places_TS l D H.size sk a t i q c d  hI (show ((i 146) : Int32).toInt = 1 from by omega)) (cwV 0 hts gm_X11_share_X11_places_TS_131 rfl rfl rfl (by decide +kernel) ⟨Nat.le_of_ble_eq_true rfl, Nat.le_of_ble_eq_true rfl⟩) (yA_V hN (xZ_k hZ hS hA) hK hP (ci := 11) (q0 := 0) rfl rfl) rfl rfl hl.1 rfl (lv_room (Nat.le_of_ble_eq_true rfl)) dX11_share_59 ⟨Nat.le_of_ble_eq_true rfl, Nat.le_of_ble_eq_true rfl⟩) hS hA hP (fun H locs hP hS => ?_)
          refine lv_iload_n hx hb dX11_share_62 rfl (lv_at hl 3 rfl) ?_
          refine ro_calli (va_runV (As := [.ref (a 149), .int w2]) (rest := []) ⟨hx, hb, hml, hown, hts⟩ (x_X2_weighAllOf_TS l D H.size .null a t i q c d w2 hI (show ((i 141) : Int32).toInt = 0 from by omega)) (cwV 2 hts gm_X11_share_X2_weighAllOf_TS_148 rfl rfl rfl (by decide +kernel) ⟨Nat.le_of_ble_eq_true rfl, Nat.le_of_ble_eq_true rfl⟩) (yA_V hN (xZ_k hZ hS hA) (xkT_BT hK) (xuT_BT (sk := sk) hP) (ci := 2) (q0 := 29) rfl rfl) rfl rfl hl.1 rfl (lv_room (Nat.le_of_ble_eq_true rfl)) dX11_share_63 ⟨Nat.le_of_ble_eq_true rfl, Nat.le_of_ble_eq_true rfl⟩) hS hA hP (fun r20 u20 H locs hw20 hP hS => ?_)
          refine lv_istore (lv' := [(4, .int r20), (3, .int r18), (0, .ref (a 100)), (1, .int w1), (2, .int w2)]) hx hb dX11_share_66 hl (by decide) rfl (fun ls hl => ?_)
          refine lv_iload_n hx hb dX11_share_68 rfl (lv_at hl 1 rfl) ?_
          refine lv_if_lt (tgt := 77) hx hb dX11_share_69 (by decide) (fun c21 => ?_) (fun c21 => ?_)
          · have f21 := (ti_lt (a := r18.toInt) (b := 0) rfl (by decide)).mp c21
            refine lv_aload_n hx hb dX11_share_77 rfl (lv_at hl 2 rfl) ?_
            refine lv_iconst (v := 4) hx hb dX11_share_78 (by decide) ?_
            refine al_calli (va_runV (As := [.int 4]) (rest := []) ⟨hx, hb, hml, hown, hts⟩ (x_X11_answerFinding l D H.size sk a t i q c d 4 hI (show 1 ≤ 4 ∧ 4 ≤ 6 from by have h90 : (4 : Int32).toInt = 4 := (by decide); omega)) (cwV 1 hts gm_X11_share_X11_answerFinding_128 rfl rfl rfl (by decide +kernel) ⟨Nat.le_of_ble_eq_true rfl, Nat.le_of_ble_eq_true rfl⟩) (yB_V hN (xZ_k hZ hS hA) (xZ_n hZ hD) hK hP hD (ci := 11) (q0 := 0) rfl rfl) rfl rfl hl.1 rfl (lv_room (Nat.le_of_ble_eq_true rfl)) dX11_share_79 ⟨Nat.le_of_ble_eq_true rfl, Nat.le_of_ble_eq_true rfl⟩) hS hA hP hD (fun r22 u22 H locs hw22 hP hD hS => ?_)
            obtain ⟨i22, q22, c22, d22⟩ := u22
            have hw22 : r22 = (-3) ∧ xInv i22 c22 ∧ (∀ k, k ∉ ([102] : List Nat) → i22 k = i k) ∧ (∀ k, k ∉ ([101] : List Nat) → c22 k = c k) := hw22
            obtain ⟨hw22, hI, hei22, hec22⟩ := hw22
            have hfi : ∀ k, k ∉ ([102] : List Nat) → i22 k = i k := fr_z hfi hei22 (by decide) (by decide)
            have hfc : ∀ k, k ∉ ([101] : List Nat) → c22 k = c k := fr_z hfc hec22 (by decide) (by decide)
            have hw22 : r22 = (-3) := hw22
            subst hw22
            exact rw_iret (i22, q22, c22, d22) hx hb hr hlocks hS (hK.sub (tys' := []) [] rfl) hP hD dX11_share_82 ⟨trivial, hI, fr_w hfi (by decide), fr_w hfc (by decide)⟩
          · have f21 := mt (ti_lt (a := r18.toInt) (b := 0) rfl (by decide)).mpr c21
            refine lv_iload hx hb dX11_share_72 (lv_at hl 0 rfl) ?_
            refine lv_if_gt (tgt := 83) hx hb dX11_share_74 (by decide) (fun c23 => ?_) (fun c23 => ?_)
            · have f23 := (ti_lt (a := 0) (b := r20.toInt) (by decide) rfl).mp c23
              refine lv_aload_n hx hb dX11_share_83 rfl (lv_at hl 2 rfl) ?_
              refine lv_ldc2 (v := 1000) hx hb hown (hts (.constantLong RX11 151 (1000)) (by decide +kernel)) dX11_share_84 ?_
              refine lv_iload_n hx hb dX11_share_87 rfl (lv_at hl 1 rfl) ?_
              refine lv_i2l (v := r18.toInt64) hx hb dX11_share_88 rfl ?_
              refine lv_lmul hx hb dX11_share_89 ?_
              refine lv_topl (fun x24 ex24 => ?_)
              refine lv_iload hx hb dX11_share_90 (lv_at hl 0 rfl) ?_
              refine lv_i2l (v := r20.toInt64) hx hb dX11_share_92 rfl ?_
              refine lv_ldiv hx hb dX11_share_93 (fun e9 => by have e8 : r20.toInt64.toInt = (0 : Int64).toInt := congrArg Int64.toInt e9; rw [show (0 : Int64).toInt = 0 from by decide] at e8; have e7 : r20.toInt64.toInt = r20.toInt := ((Int32.toInt_toInt64 r20).trans rfl); omega) ?_
              refine lv_topl (fun x25 ex25 => ?_)
              refine xpT_X_told hx hb hts (fun _ h => List.mem_cons_of_mem _ (List.mem_append_left _ (List.mem_append_left _ (List.mem_append_left _ (List.mem_append_left _ (List.mem_append_left _ (List.mem_append_right _ h))))))) hown hK hP hD hS (hts (.fieldLink RX11 76 "TalePlay" "told" "J") (by decide +kernel)) rfl rfl dX11_share_94 (fun H locs hP hD hS => ?_)
              refine lv_iconst (v := 1) hx hb dX11_share_97 (by decide) ?_
              exact rw_iret (i, x25, c, d) hx hb hr hlocks hS (hK.sub (tys' := []) [] rfl) hP hD dX11_share_98 ⟨trivial, hI, fr_w hfi (by decide), fr_w hfc (by decide)⟩
            · have f23 := mt (ti_lt (a := 0) (b := r20.toInt) (by decide) rfl).mpr c23
              refine lv_aload_n hx hb dX11_share_77 rfl (lv_at hl 2 rfl) ?_
              refine lv_iconst (v := 4) hx hb dX11_share_78 (by decide) ?_
              refine al_calli (va_runV (As := [.int 4]) (rest := []) ⟨hx, hb, hml, hown, hts⟩ (x_X11_answerFinding l D H.size sk a t i q c d 4 hI (show 1 ≤ 4 ∧ 4 ≤ 6 from by have h90 : (4 : Int32).toInt = 4 := (by decide); omega)) (cwV 1 hts gm_X11_share_X11_answerFinding_128 rfl rfl rfl (by decide +kernel) ⟨Nat.le_of_ble_eq_true rfl, Nat.le_of_ble_eq_true rfl⟩) (yB_V hN (xZ_k hZ hS hA) (xZ_n hZ hD) hK hP hD (ci := 11) (q0 := 0) rfl rfl) rfl rfl hl.1 rfl (lv_room (Nat.le_of_ble_eq_true rfl)) dX11_share_79 ⟨Nat.le_of_ble_eq_true rfl, Nat.le_of_ble_eq_true rfl⟩) hS hA hP hD (fun r26 u26 H locs hw26 hP hD hS => ?_)
              obtain ⟨i26, q26, c26, d26⟩ := u26
              have hw26 : r26 = (-3) ∧ xInv i26 c26 ∧ (∀ k, k ∉ ([102] : List Nat) → i26 k = i k) ∧ (∀ k, k ∉ ([101] : List Nat) → c26 k = c k) := hw26
              obtain ⟨hw26, hI, hei26, hec26⟩ := hw26
              have hfi : ∀ k, k ∉ ([102] : List Nat) → i26 k = i k := fr_z hfi hei26 (by decide) (by decide)
              have hfc : ∀ k, k ∉ ([101] : List Nat) → c26 k = c k := fr_z hfc hec26 (by decide) (by decide)
              have hw26 : r26 = (-3) := hw26
              subst hw26
              exact rw_iret (i26, q26, c26, d26) hx hb hr hlocks hS (hK.sub (tys' := []) [] rfl) hP hD dX11_share_82 ⟨trivial, hI, fr_w hfi (by decide), fr_w hfc (by decide)⟩
      · have f6 := (ti_eq (a := r5.toInt) (b := 0) rfl (by decide)).mp c6
        refine lv_aload_n hx hb dX11_share_35 rfl (lv_at hl 0 rfl) ?_
        refine lv_iconst (v := 3) hx hb dX11_share_36 (by decide) ?_
        refine al_calli (va_runV (As := [.int 3]) (rest := []) ⟨hx, hb, hml, hown, hts⟩ (x_X11_answerFinding l D H.size sk a t i q c d 3 hI (show 1 ≤ 3 ∧ 3 ≤ 6 from by have h90 : (3 : Int32).toInt = 3 := (by decide); omega)) (cwV 1 hts gm_X11_share_X11_answerFinding_128 rfl rfl rfl (by decide +kernel) ⟨Nat.le_of_ble_eq_true rfl, Nat.le_of_ble_eq_true rfl⟩) (yB_V hN (xZ_k hZ hS hA) (xZ_n hZ hD) hK hP hD (ci := 11) (q0 := 0) rfl rfl) rfl rfl hl.1 rfl (lv_room (Nat.le_of_ble_eq_true rfl)) dX11_share_37 ⟨Nat.le_of_ble_eq_true rfl, Nat.le_of_ble_eq_true rfl⟩) hS hA hP hD (fun r27 u27 H locs hw27 hP hD hS => ?_)
        obtain ⟨i27, q27, c27, d27⟩ := u27
        have hw27 : r27 = (-3) ∧ xInv i27 c27 ∧ (∀ k, k ∉ ([102] : List Nat) → i27 k = i k) ∧ (∀ k, k ∉ ([101] : List Nat) → c27 k = c k) := hw27
        obtain ⟨hw27, hI, hei27, hec27⟩ := hw27
        have hfi : ∀ k, k ∉ ([102] : List Nat) → i27 k = i k := fr_z hfi hei27 (by decide) (by decide)
        have hfc : ∀ k, k ∉ ([101] : List Nat) → c27 k = c k := fr_z hfc hec27 (by decide) (by decide)
        have hw27 : r27 = (-3) := hw27
        subst hw27
        exact rw_iret (i27, q27, c27, d27) hx hb hr hlocks hS (hK.sub (tys' := []) [] rfl) hP hD dX11_share_40 ⟨trivial, hI, fr_w hfi (by decide), fr_w hfc (by decide)⟩
    · have f4 := fl_f hw3 c4
      refine lv_iconst (v := (-1)) hx hb dX11_share_22 (by decide) ?_
      exact rw_iret (i, q, c, d) hx hb hr hlocks hS (hK.sub (tys' := []) [] rfl) hP hD dX11_share_23 ⟨trivial, hI, fr_w hfi (by decide), fr_w hfc (by decide)⟩

