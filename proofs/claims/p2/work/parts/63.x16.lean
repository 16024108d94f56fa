def wm_X10_sortOf_e : List Cond := .code yX10_sortOf cX10_sortOf 2 (some .int) :: (([.fieldLink RX10 37 "TalePlay$World" "objects" "I", .fieldLink RX10 15 "TalePlay$World" "sorts" "[I", .fieldLink RX10 21 "TalePlay$World" "kindOf" "[I"] : List Cond) ++ wsX100)
set_option maxHeartbeats 4000000 in
set_option maxRecDepth 100000 in
theorem x_X10_sortOf_e (l : Launch) (D : va_G) (sz : Nat) (sk : Value) (a : Nat → Nat) (t : Nat → ClassId) (i : Nat → Int32) (q : Int64) (c : Nat → Nat → Int32) (d : Nat → Nat → Int64) (w : Int32) (hI : xInv i c) : Met l yX10_sortOf wm_X10_sortOf_e ({ frames := 0, cells := 0, slots := 0, locals := 0 }) (va_Pc [.ref (a 104), .int w] (yA (a 186) D sz (xwW sk a t i q c d) (xtW t))) (va_Qi (fun (r : Int32) (_ : Unit) => (((r.toInt = -9 ∧ ¬ (0 ≤ w.toInt ∧ w.toInt < (i 111).toInt)) ∨ (0 ≤ r.toInt ∧ r.toInt ≤ 5 ∧ 0 ≤ w.toInt ∧ w.toInt < (i 111).toInt)) ∧ (SO (c 106) (c 108) (i 111).toInt w.toInt r.toInt))) oA (ro sz)) 0 0 (ro sz) := by
  refine Met.ofW (cc := cX10_sortOf) (maxL := 2) (ret := (some .int)) (by decide) rfl ?_
  intro p e s m args below meth cd s₁ B hml hv
  obtain ⟨rfl, ⟨hsz, hP, hK⟩, hN, hZ⟩ := hv
  have hx := B.exec
  have hb := B.bytes
  have hr := B.returns
  have hts := atoms_spec (ws := wm_X10_sortOf_e) B.pre
  have hown : s.vm.findClass RX10 = some m.cls := findClass_of_methodNamed B.named
  have hlocks := B.notSynchronized
  subst hsz
  have hA : ∀ q : Nat, s.heap.size ≤ q → ro s.heap.size q := fun _ h => h
  have hS : va_S (ro s.heap.size) s.heap s.heap [] := va_S.rf
  have hl := lv_entry ([.ref (a 104), .int w]) (n := 2) (Nat.le_of_ble_eq_true rfl)
  rw [lg_entry_eq]
  generalize (lg_sl ([.ref (a 104), .int w]) ++ List.replicate (2 - (lg_sl ([.ref (a 104), .int w])).length) Slot.unset).toArray = ls at hl ⊢
  have hl : lv_has ls 2 [(0, .ref (a 104)), (1, .int w)] := hl
  refine lv_iload_n hx hb dX10_sortOf_0 rfl (lv_at hl 1 rfl) ?_
  refine lv_if_lt (tgt := 26) hx hb dX10_sortOf_1 (by decide) (fun c1 => ?_) (fun c1 => ?_)
  · have f1 := (ti_lt (a := w.toInt) (b := 0) rfl (by decide)).mp c1
    refine lv_bipush (v := (-9)) hx hb dX10_sortOf_26 (by decide) ?_
    exact ro_iret hx hb hr hlocks hS dX10_sortOf_28 ⟨(show (((-9) : Int32).toInt = -9 ∧ ¬ (0 ≤ w.toInt ∧ w.toInt < (i 111).toInt)) ∨ (0 ≤ ((-9) : Int32).toInt ∧ ((-9) : Int32).toInt ≤ 5 ∧ 0 ≤ w.toInt ∧ w.toInt < (i 111).toInt) from by have h9 : ((-9) : Int32).toInt = -9 := (by decide); omega), (show SO (c 106) (c 108) (i 111).toInt w.toInt ((-9) : Int32).toInt from SO_n (by omega))⟩
  · have f1 := mt (ti_lt (a := w.toInt) (b := 0) rfl (by decide)).mpr c1
    refine lv_iload_n hx hb dX10_sortOf_4 rfl (lv_at hl 1 rfl) ?_
    refine lv_aload_n hx hb dX10_sortOf_5 rfl (lv_at hl 0 rfl) ?_
    refine xgW_W_objects (v := (i 111)) rfl hx hb hts (fun _ h => List.mem_cons_of_mem _ (List.mem_append_right _ h)) hown hK hP (hts (.fieldLink RX10 37 "TalePlay$World" "objects" "I") (by decide +kernel)) dX10_sortOf_6 ?_
    have rb111_i : 0 ≤ (i 111).toInt ∧ (i 111).toInt ≤ 30 := hI.1 111
    refine lv_icmp_ge (tgt := 26) hx hb dX10_sortOf_9 (by decide) (fun c2 => ?_) (fun c2 => ?_)
    · have f2 := (ti_le (a := (i 111).toInt) (b := w.toInt) rfl rfl).mp c2
      refine lv_bipush (v := (-9)) hx hb dX10_sortOf_26 (by decide) ?_
      exact ro_iret hx hb hr hlocks hS dX10_sortOf_28 ⟨(show (((-9) : Int32).toInt = -9 ∧ ¬ (0 ≤ w.toInt ∧ w.toInt < (i 111).toInt)) ∨ (0 ≤ ((-9) : Int32).toInt ∧ ((-9) : Int32).toInt ≤ 5 ∧ 0 ≤ w.toInt ∧ w.toInt < (i 111).toInt) from by have h9 : ((-9) : Int32).toInt = -9 := (by decide); omega), (show SO (c 106) (c 108) (i 111).toInt w.toInt ((-9) : Int32).toInt from SO_n (by omega))⟩
    · have f2 := mt (ti_le (a := (i 111).toInt) (b := w.toInt) rfl rfl).mpr c2
      refine lv_aload_n hx hb dX10_sortOf_12 rfl (lv_at hl 0 rfl) ?_
      refine xgW_W_sorts hx hb hts (fun _ h => List.mem_cons_of_mem _ (List.mem_append_right _ h)) hown hK hP (hts (.fieldLink RX10 15 "TalePlay$World" "sorts" "[I") (by decide +kernel)) dX10_sortOf_13 ?_
      refine lv_aload_n hx hb dX10_sortOf_16 rfl (lv_at hl 0 rfl) ?_
      refine xgW_W_kindOf hx hb hts (fun _ h => List.mem_cons_of_mem _ (List.mem_append_right _ h)) hown hK hP (hts (.fieldLink RX10 21 "TalePlay$World" "kindOf" "[I") (by decide +kernel)) dX10_sortOf_17 ?_
      refine lv_iload_n hx hb dX10_sortOf_20 rfl (lv_at hl 1 rfl) ?_
      refine xlW_108 hx hb hK hP (vp_in_iff.mpr (by have h9 : w.toInt = w.toInt := rfl; omega)) dX10_sortOf_21 (fun x3 ex3 => ?_)
      have rx3 : 0 ≤ x3.toInt ∧ x3.toInt ≤ 23 := by rw [ex3]; exact hI.2 108 _
      refine xlW_106 hx hb hK hP (vp_in_iff.mpr (by have h9 : x3.toInt = x3.toInt := rfl; omega)) dX10_sortOf_22 (fun x4 ex4 => ?_)
      have rx4 : 0 ≤ x4.toInt ∧ x4.toInt ≤ 5 := by rw [ex4]; exact hI.2 106 _
      refine lv_goto (tgt := 28) hx hb dX10_sortOf_23 (by decide) ?_
      exact ro_iret hx hb hr hlocks hS dX10_sortOf_28 ⟨(show (x4.toInt = -9 ∧ ¬ (0 ≤ w.toInt ∧ w.toInt < (i 111).toInt)) ∨ (0 ≤ x4.toInt ∧ x4.toInt ≤ 5 ∧ 0 ≤ w.toInt ∧ w.toInt < (i 111).toInt) from by omega), (show SO (c 106) (c 108) (i 111).toInt w.toInt x4.toInt from SO_y (by omega) (by omega) ex3 ex4)⟩

def wm_X6_roomOf_e : List Cond := .code yX6_roomOf cX6_roomOf 4 (some .int) :: (([.fieldLink RX6 15 "TalePlay$Scene" "world" "LTalePlay$World;", .methodLink RX6 29 yX10_sortOf, .instanceMethod yX10_sortOf, .selects RX10 yX10_sortOf yX10_sortOf, .initialized RX10, .code yX10_sortOf cX10_sortOf 2 (some .int), .fieldLink RX10 37 "TalePlay$World" "objects" "I", .fieldLink RX10 15 "TalePlay$World" "sorts" "[I", .fieldLink RX10 21 "TalePlay$World" "kindOf" "[I", .methodLink RX6 25 yX6_holderOf, .instanceMethod yX6_holderOf, .selects RX6 yX6_holderOf yX6_holderOf, .initialized RX6, .code yX6_holderOf cX6_holderOf 3 (some .int), .fieldLink RX6 9 "TalePlay$Scene" "cells" "[I"] : List Cond) ++ wsX60 ++ wsX100)
set_option maxRecDepth 20000 in
theorem gm_X6_roomOf_e_X10_sortOf_e_29 : GoodIn wm_X6_roomOf_e (wsV RX6 29 RX10 yX10_sortOf wm_X10_sortOf_e) := goodIn_app (goodIn_of _ (by decide +kernel)) (goodIn_r _ [6, 7, 8, 9, 18, 19, 20, 21, 22, 23, 24] rfl (by decide +kernel))
set_option maxRecDepth 20000 in
theorem gm_X6_roomOf_e_X6_holderOf_BP_25 : GoodIn wm_X6_roomOf_e (wsV RX6 25 RX6 yX6_holderOf wm_X6_holderOf_BP) := goodIn_app (goodIn_of _ (by decide +kernel)) (goodIn_r _ [14, 15, 16, 17] rfl (by decide +kernel))
set_option maxHeartbeats 4000000 in
set_option maxRecDepth 100000 in
theorem x_X6_roomOf_e (l : Launch) (D : va_G) (sz : Nat) (sk : Value) (a : Nat → Nat) (t : Nat → ClassId) (i : Nat → Int32) (q : Int64) (c : Nat → Nat → Int32) (d : Nat → Nat → Int64) (w : Int32) (hI : xInv i c) (hw : 0 ≤ w.toInt ∧ w.toInt ≤ 29) : Met l yX6_roomOf wm_X6_roomOf_e ({ frames := 1, cells := 0, slots := 0, locals := 22 }) (va_Pc [.ref (a 126), .int w] (yA (a 186) D sz (xwQ0 sk a t i q c d) (xtQ0 t))) (va_Qi (fun (r : Int32) (_ : Unit) => ((r.toInt = -9 ∨ (0 ≤ r.toInt ∧ r.toInt ≤ 29)) ∧ (Im (¬ r.toInt = -9) (SO (c 106) (c 108) (i 111).toInt w.toInt 0 ∨ ¬ (c 127 w.toNatClampNeg).toInt % 256 = 255)))) oA (ro sz)) 0 0 (ro sz) := by
  refine Met.ofW (cc := cX6_roomOf) (maxL := 4) (ret := (some .int)) (by decide) rfl ?_
  intro p e s m args below meth cd s₁ B hml hv
  obtain ⟨rfl, ⟨hsz, hP, hK⟩, hN, hZ⟩ := hv
  have hx := B.exec
  have hb := B.bytes
  have hr := B.returns
  have hts := atoms_spec (ws := wm_X6_roomOf_e) B.pre
  have hown : s.vm.findClass RX6 = some m.cls := findClass_of_methodNamed B.named
  have hlocks := B.notSynchronized
  subst hsz
  have hA : ∀ q : Nat, s.heap.size ≤ q → ro s.heap.size q := fun _ h => h
  have hS : va_S (ro s.heap.size) s.heap s.heap [] := va_S.rf
  have hl := lv_entry ([.ref (a 126), .int w]) (n := 4) (Nat.le_of_ble_eq_true rfl)
  rw [lg_entry_eq]
  generalize (lg_sl ([.ref (a 126), .int w]) ++ List.replicate (4 - (lg_sl ([.ref (a 126), .int w])).length) Slot.unset).toArray = ls at hl ⊢
  have hl : lv_has ls 4 [(0, .ref (a 126)), (1, .int w)] := hl
  refine lv_iload_n hx hb dX6_roomOf_0 rfl (lv_at hl 1 rfl) ?_
  refine lv_istore_n (lv' := [(2, .int w), (0, .ref (a 126)), (1, .int w)]) hx hb dX6_roomOf_1 rfl hl (by decide) rfl (fun ls hl => ?_)
  refine lv_iconst (v := 0) hx hb dX6_roomOf_2 (by decide) ?_
  refine lv_istore_n (lv' := [(3, .int 0), (2, .int w), (0, .ref (a 126)), (1, .int w)]) hx hb dX6_roomOf_3 rfl hl (by decide) rfl (fun ls hl => ?_)
  have lp1 : ∀ (fu : Nat) (y1_3 : Int32) (y1_2 : Int32), (0 ≤ y1_3.toInt ∧ y1_3.toInt ≤ 31) → (y1_2.toInt = -9 ∨ (0 ≤ y1_2.toInt ∧ y1_2.toInt ≤ 29)) → (y1_2.toInt = w.toInt ∨ y1_2.toInt = -9 ∨ ¬ (c 127 w.toNatClampNeg).toInt % 256 = 255) → (31 - y1_3.toInt).toNat < fu → ∀ (H : Heap) (locs : List Loc) (ls : Array Slot), va_P D vwCl (xwQ0 sk a t i q c d) H → va_S (ro s.heap.size) s.heap H locs → lv_has ls 4 [(3, .int y1_3), (2, .int y1_2), (0, .ref (a 126)), (1, .int w)] → W p l e (headSpec wm_X6_roomOf_e ({ frames := 1, cells := 0, slots := 0, locals := 22 })).room s m ([.ref (a 126), .int w] : List Value).toArray below meth cd H locs 0 0 (MQ below (va_Qi (fun (r : Int32) (_ : Unit) => ((r.toInt = -9 ∨ (0 ≤ r.toInt ∧ r.toInt ≤ 29)) ∧ (Im (¬ r.toInt = -9) (SO (c 106) (c 108) (i 111).toInt w.toInt 0 ∨ ¬ (c 127 w.toNatClampNeg).toInt % 256 = 255)))) oA (ro s.heap.size)) ([.ref (a 126), .int w] : List Value).toArray s 0 0 (ro s.heap.size)) (F0 m 4 ls []) := by
    intro fu
    induction fu with
    | zero => intro y1_3 y1_2 hy1_3 hy1_2 hz1_0 hm; exact absurd hm (Nat.not_lt_zero _)
    | succ fu ih =>
      intro y1_3 y1_2 hy1_3 hy1_2 hz1_0 hm H locs ls hP hS hl
      have ih1 := ih
      refine lv_iload_n hx hb dX6_roomOf_4 rfl (lv_at hl 0 rfl) ?_
      refine lv_bipush (v := 30) hx hb dX6_roomOf_5 (by decide) ?_
      refine lv_icmp_gt (tgt := 41) hx hb dX6_roomOf_7 (by decide) (fun c2 => ?_) (fun c2 => ?_)
      · have f2 := (ti_lt (a := 30) (b := y1_3.toInt) (by decide) rfl).mp c2
        refine lv_bipush (v := (-9)) hx hb dX6_roomOf_41 (by decide) ?_
        exact ro_iret hx hb hr hlocks hS dX6_roomOf_43 ⟨(show ((-9) : Int32).toInt = -9 ∨ (0 ≤ ((-9) : Int32).toInt ∧ ((-9) : Int32).toInt ≤ 29) from by have h9 : ((-9) : Int32).toInt = -9 := (by decide); omega), (show Im (¬ ((-9) : Int32).toInt = -9) (SO (c 106) (c 108) (i 111).toInt w.toInt 0 ∨ ¬ (c 127 w.toNatClampNeg).toInt % 256 = 255) from fun h9 => absurd (show ((-9) : Int32).toInt = -9 from by decide) h9)⟩
      · have f2 := mt (ti_lt (a := 30) (b := y1_3.toInt) (by decide) rfl).mpr c2
        refine lv_iload_n hx hb dX6_roomOf_10 rfl (lv_at hl 1 rfl) ?_
        refine lv_bipush (v := (-9)) hx hb dX6_roomOf_11 (by decide) ?_
        refine lv_icmp_eq (tgt := 41) hx hb dX6_roomOf_13 (by decide) (fun c3 => ?_) (fun c3 => ?_)
        · have f3 := (ti_eq (a := y1_2.toInt) (b := (-9)) rfl (by decide)).mp c3
          refine lv_bipush (v := (-9)) hx hb dX6_roomOf_41 (by decide) ?_
          exact ro_iret hx hb hr hlocks hS dX6_roomOf_43 ⟨(show ((-9) : Int32).toInt = -9 ∨ (0 ≤ ((-9) : Int32).toInt ∧ ((-9) : Int32).toInt ≤ 29) from by have h9 : ((-9) : Int32).toInt = -9 := (by decide); omega), (show Im (¬ ((-9) : Int32).toInt = -9) (SO (c 106) (c 108) (i 111).toInt w.toInt 0 ∨ ¬ (c 127 w.toNatClampNeg).toInt % 256 = 255) from fun h9 => absurd (show ((-9) : Int32).toInt = -9 from by decide) h9)⟩
        · have f3 := mt (ti_eq (a := y1_2.toInt) (b := (-9)) rfl (by decide)).mpr c3
          refine lv_aload_n hx hb dX6_roomOf_16 rfl (lv_at hl 2 rfl) ?_
          refine xgQ0_BP_world hx hb hts (fun _ h => List.mem_cons_of_mem _ (List.mem_append_left _ (List.mem_append_right _ h))) hown hK hP (hts (.fieldLink RX6 15 "TalePlay$Scene" "world" "LTalePlay$World;") (by decide +kernel)) dX6_roomOf_17 ?_
          refine lv_iload_n hx hb dX6_roomOf_20 rfl (lv_at hl 1 rfl) ?_
          have rb111_i : 0 ≤ (i 111).toInt ∧ (i 111).toInt ≤ 30 := hI.1 111
          refine ro_calli (va_runV (As := [.int y1_2]) (rest := []) ⟨hx, hb, hml, hown, hts⟩ (x_X10_sortOf_e l D H.size .null a t i q c d y1_2 hI ) (cwV 1 hts gm_X6_roomOf_e_X10_sortOf_e_29 rfl rfl rfl (by decide +kernel) ⟨Nat.le_of_ble_eq_true rfl, Nat.le_of_ble_eq_true rfl⟩) (yA_V hN (xZ_k hZ hS hA) (xkQ0_W hK) (xuQ0_W (sk := sk) hP) (ci := 10) (q0 := 0) rfl rfl) rfl rfl hl.1 rfl (lv_room (Nat.le_of_ble_eq_true rfl)) dX6_roomOf_21 ⟨Nat.le_of_ble_eq_true rfl, Nat.le_of_ble_eq_true rfl⟩) hS hA hP (fun r4 u4 H locs hw4 hP hS => ?_)
          have hw4 : (((r4.toInt = -9 ∧ ¬ (0 ≤ y1_2.toInt ∧ y1_2.toInt < (i 111).toInt)) ∨ (0 ≤ r4.toInt ∧ r4.toInt ≤ 5 ∧ 0 ≤ y1_2.toInt ∧ y1_2.toInt < (i 111).toInt)) ∧ (SO (c 106) (c 108) (i 111).toInt y1_2.toInt r4.toInt)) := hw4
          obtain ⟨hw4, hr4_0⟩ := hw4
          have hr4_0 : SO (c 106) (c 108) (i 111).toInt y1_2.toInt r4.toInt := hr4_0
          refine lv_if_ne (tgt := 29) hx hb dX6_roomOf_24 (by decide) (fun c5 => ?_) (fun c5 => ?_)
          · have f5 := mt (ti_eq (a := r4.toInt) (b := 0) rfl (by decide)).mpr c5
            refine lv_aload_n hx hb dX6_roomOf_29 rfl (lv_at hl 2 rfl) ?_
            refine lv_iload_n hx hb dX6_roomOf_30 rfl (lv_at hl 1 rfl) ?_
            refine ro_calli (va_runV (As := [.int y1_2]) (rest := []) ⟨hx, hb, hml, hown, hts⟩ (x_X6_holderOf_BP l D H.size .null a t i q c d y1_2 hI (show 0 ≤ y1_2.toInt ∧ y1_2.toInt ≤ 29 from by omega)) (cwV 1 hts gm_X6_roomOf_e_X6_holderOf_BP_25 rfl rfl rfl (by decide +kernel) ⟨Nat.le_of_ble_eq_true rfl, Nat.le_of_ble_eq_true rfl⟩) (yA_V hN (xZ_k hZ hS hA) (xkQ0_P0 hK) (xuQ0_P0 (sk := sk) hP) (ci := 6) (q0 := 0) rfl rfl) rfl rfl hl.1 rfl (lv_room (Nat.le_of_ble_eq_true rfl)) dX6_roomOf_31 ⟨Nat.le_of_ble_eq_true rfl, Nat.le_of_ble_eq_true rfl⟩) hS hA hP (fun r6 u6 H locs hw6 hP hS => ?_)
            have hw6 : ((r6.toInt = -9 ∧ (c 127 y1_2.toNatClampNeg).toInt % 256 = 255) ∨ (0 ≤ r6.toInt ∧ r6.toInt ≤ 29 ∧ ¬ (c 127 y1_2.toNatClampNeg).toInt % 256 = 255 ∧ r6.toInt = (c 127 y1_2.toNatClampNeg).toInt / 8 % 32)) := hw6
            refine lv_istore_n (lv' := [(2, .int r6), (3, .int y1_3), (0, .ref (a 126)), (1, .int w)]) hx hb dX6_roomOf_34 rfl hl (by decide) rfl (fun ls hl => ?_)
            obtain ⟨x7, ex7⟩ : ∃ y : Int32, y = y1_3 + 1 := ⟨_, rfl⟩
            have tx7 := ti_add (a := y1_3.toInt) (b := 1) ex7 rfl (by decide) (by omega) (by omega)
            refine lv_iinc (v := x7) (lv' := [(3, .int x7), (2, .int r6), (0, .ref (a 126)), (1, .int w)]) hx hb dX6_roomOf_35 hl (k := 1) rfl (by rw [ex7]; rfl) (by decide) rfl (fun ls hl => ?_)
            refine lv_goto (tgt := 4) hx hb dX6_roomOf_38 (by decide) ?_
            exact ih1 x7 r6 (show 0 ≤ x7.toInt ∧ x7.toInt ≤ 31 from by have h50 : x7.toInt = (y1_3.toInt + 1) := tx7; omega) (show r6.toInt = -9 ∨ (0 ≤ r6.toInt ∧ r6.toInt ≤ 29) from by have h50 : x7.toInt = (y1_3.toInt + 1) := tx7; omega) (show r6.toInt = w.toInt ∨ r6.toInt = -9 ∨ ¬ (c 127 w.toNatClampNeg).toInt % 256 = 255 from by rcases hz1_0 with h9 | h9 | h9; (· have e9 := cl_e (x := y1_2) (y := w) h9; rw [e9] at hw6; omega); (· exfalso; omega); (· exact Or.inr (Or.inr h9))) (by have h50 : x7.toInt = (y1_3.toInt + 1) := tx7; omega) _ _ _ hP hS (lv_sub hl [0, 1, 2, 3] rfl)
          · have f5 := (ti_eq (a := r4.toInt) (b := 0) rfl (by decide)).mp c5
            refine lv_iload_n hx hb dX6_roomOf_27 rfl (lv_at hl 1 rfl) ?_
            exact ro_iret hx hb hr hlocks hS dX6_roomOf_28 ⟨(show y1_2.toInt = -9 ∨ (0 ≤ y1_2.toInt ∧ y1_2.toInt ≤ 29) from by omega), (show Im (¬ y1_2.toInt = -9) (SO (c 106) (c 108) (i 111).toInt w.toInt 0 ∨ ¬ (c 127 w.toNatClampNeg).toInt % 256 = 255) from fun _ => by rcases hz1_0 with h9 | h9 | h9; (· exact Or.inl (by have h8 := hr4_0; rw [h9, show r4.toInt = 0 from by omega] at h8; exact h8)); (· exfalso; omega); (· exact Or.inr h9))⟩
  exact lp1 _ (0 : Int32) w (show 0 ≤ (0 : Int32).toInt ∧ (0 : Int32).toInt ≤ 31 from by have h50 : (0 : Int32).toInt = 0 := (by decide); omega) (show w.toInt = -9 ∨ (0 ≤ w.toInt ∧ w.toInt ≤ 29) from by have h50 : (0 : Int32).toInt = 0 := (by decide); omega) (show w.toInt = w.toInt ∨ w.toInt = -9 ∨ ¬ (c 127 w.toNatClampNeg).toInt % 256 = 255 from Or.inl rfl) (Nat.lt_succ_self _) _ _ _ hP hS (lv_sub hl [0, 1, 2, 3] rfl)

def wm_X0_reasonOfX_TA : List Cond := .code yX0_reasonOfX cX0_reasonOfX 3 (some .int) :: (([.methodLink RX0 42 yX0_reasonToGo, .instanceMethod yX0_reasonToGo, .selects RX0 yX0_reasonToGo yX0_reasonToGo, .initialized RX0, .code yX0_reasonToGo cX0_reasonToGo 4 (some .int), .methodLink RX0 91 yX0_isByRoom, .instanceMethod yX0_isByRoom, .selects RX0 yX0_isByRoom yX0_isByRoom, .code yX0_isByRoom cX0_isByRoom 1 (some .boolean), .fieldLink RX0 33 "TalePlay$Acts" "scene" "LTalePlay$Scene;", .fieldLink RX0 38 "TalePlay$Acts" "player" "I", .methodLink RX0 80 yX6_formOf, .instanceMethod yX6_formOf, .selects RX6 yX6_formOf yX6_formOf, .initialized RX6, .code yX6_formOf cX6_formOf 3 (some .int), .fieldLink RX6 9 "TalePlay$Scene" "cells" "[I", .fieldLink RX0 9 "TalePlay$Acts" "world" "LTalePlay$World;", .methodLink RX0 83 yX6_holderOf, .instanceMethod yX6_holderOf, .selects RX6 yX6_holderOf yX6_holderOf, .code yX6_holderOf cX6_holderOf 3 (some .int), .methodLink RX0 86 yX10_sortOf, .instanceMethod yX10_sortOf, .selects RX10 yX10_sortOf yX10_sortOf, .initialized RX10, .code yX10_sortOf cX10_sortOf 2 (some .int), .fieldLink RX10 37 "TalePlay$World" "objects" "I", .fieldLink RX10 15 "TalePlay$World" "sorts" "[I", .fieldLink RX10 21 "TalePlay$World" "kindOf" "[I", .fieldLink RX0 19 "TalePlay$Acts" "roads" "LTalePlay$Roads;", .fieldLink RX0 95 "TalePlay$Roads" "leads" "[I", .fieldLink RX0 101 "TalePlay$Roads" "doors" "[I", .methodLink RX0 104 yX6_has, .instanceMethod yX6_has, .selects RX6 yX6_has yX6_has, .code yX6_has cX6_has 3 (some .boolean), .methodLink RX0 46 yX0_reasonToTake, .instanceMethod yX0_reasonToTake, .selects RX0 yX0_reasonToTake yX0_reasonToTake, .code yX0_reasonToTake cX0_reasonToTake 3 (some .int), .fieldLink RX0 34 "TalePlay$Acts" "sight" "LTalePlay$Sight;", .fieldLink RX0 108 "TalePlay$Sight" "seen" "[Z", .methodLink RX0 112 yX6_isUp, .instanceMethod yX6_isUp, .selects RX6 yX6_isUp yX6_isUp, .code yX6_isUp cX6_isUp 5 (some .boolean), .methodLink RX6 25 yX6_holderOf, .methodLink RX0 49 yX0_isHeld, .instanceMethod yX0_isHeld, .selects RX0 yX0_isHeld yX0_isHeld, .code yX0_isHeld cX0_isHeld 2 (some .boolean), .methodLink RX0 74 yX6_lies, .instanceMethod yX6_lies, .selects RX6 yX6_lies yX6_lies, .code yX6_lies cX6_lies 4 (some .boolean), .methodLink RX0 115 yX10_isGoods, .instanceMethod yX10_isGoods, .selects RX10 yX10_isGoods yX10_isGoods, .code yX10_isGoods cX10_isGoods 2 (some .boolean), .methodLink RX10 44 yX10_isMovable, .instanceMethod yX10_isMovable, .selects RX10 yX10_isMovable yX10_isMovable, .code yX10_isMovable cX10_isMovable 3 (some .boolean), .methodLink RX10 40 yX10_sortOf, .fieldLink RX0 118 "TalePlay$Sight" "reached" "[Z", .methodLink RX0 121 yX0_isAnothers, .instanceMethod yX0_isAnothers, .selects RX0 yX0_isAnothers yX0_isAnothers, .code yX0_isAnothers cX0_isAnothers 4 (some .boolean), .fieldLink RX0 23 "TalePlay$Acts" "bulks" "LTalePlay$Bulks;", .code yX2_weighBy cX2_weighBy 6 (some .int), .fieldLink RX2 15 "TalePlay$Bulks" "world" "LTalePlay$World;", .methodLink RX2 42 yX10_sortOf, .methodLink RX2 45 yX2_noteBodies, .instanceMethod yX2_noteBodies, .selects RX2 yX2_noteBodies yX2_noteBodies, .initialized RX2, .code yX2_noteBodies cX2_noteBodies 2 none, .fieldLink RX2 60 "TalePlay$Bulks" "BODIES" "[I", .methodLink RX2 63 yX2_note, .instanceMethod yX2_note, .selects RX2 yX2_note yX2_note, .code yX2_note cX2_note 2 none, .fieldLink RX2 27 "TalePlay$Bulks" "tracing" "Z", .fieldLink RX2 49 "TalePlay$World" "sizeOf" "[I", .methodLink RX2 52 yX2_weighThose, .instanceMethod yX2_weighThose, .selects RX2 yX2_weighThose yX2_weighThose, .code yX2_weighThose cX2_weighThose 7 (some .int), .fieldLink RX2 31 "TalePlay$World" "objects" "I", .methodLink RX2 56 yX6_lies, .methodLink RX2 23 yX2_weighBy, .instanceMethod yX2_weighBy, .selects RX2 yX2_weighBy yX2_weighBy, .methodLink RX0 53 yX0_reasonOfShutter, .instanceMethod yX0_reasonOfShutter, .selects RX0 yX0_reasonOfShutter yX0_reasonOfShutter, .code yX0_reasonOfShutter cX0_reasonOfShutter 4 (some .int), .methodLink RX0 137 yX10_isShutter, .instanceMethod yX10_isShutter, .selects RX10 yX10_isShutter yX10_isShutter, .code yX10_isShutter cX10_isShutter 3 (some .boolean), .methodLink RX0 140 yX0_reasonOfLeaf, .static yX0_reasonOfLeaf, .code yX0_reasonOfLeaf cX0_reasonOfLeaf 3 (some .int), .methodLink RX0 57 yX0_reasonToWear, .instanceMethod yX0_reasonToWear, .selects RX0 yX0_reasonToWear yX0_reasonToWear, .code yX0_reasonToWear cX0_reasonToWear 2 (some .int), .methodLink RX0 60 yX0_reasonToEnter, .instanceMethod yX0_reasonToEnter, .selects RX0 yX0_reasonToEnter yX0_reasonToEnter, .code yX0_reasonToEnter cX0_reasonToEnter 3 (some .int), .methodLink RX0 63 yX0_reasonToLeave, .instanceMethod yX0_reasonToLeave, .selects RX0 yX0_reasonToLeave yX0_reasonToLeave, .code yX0_reasonToLeave cX0_reasonToLeave 3 (some .int)] : List Cond) ++ wsX00 ++ wsX60 ++ wsX100 ++ wsX50 ++ wsX80 ++ wsX20)
set_option maxRecDepth 20000 in
theorem gm_X0_reasonOfX_TA_X0_reasonToGo_TA_42 : GoodIn wm_X0_reasonOfX_TA (wsV RX0 42 RX0 yX0_reasonToGo wm_X0_reasonToGo_TA) := goodIn_app (goodIn_of _ (by decide +kernel)) (goodIn_r _ [5, 6, 7, 8, 4, 9, 10, 11, 12, 13, 14, 15, 16, 17, 18, 19, 20, 21, 22, 23, 24, 25, 26, 27, 28, 29, 30, 31, 32, 33, 34, 35, 36, 37, 119, 120, 121, 122, 123, 124, 125, 126, 127, 128, 129, 130, 131, 132, 133, 134, 135, 136, 137, 138, 139, 140, 141, 142, 143, 144, 145] rfl (by decide +kernel))
set_option maxRecDepth 20000 in
theorem gm_X0_reasonOfX_TA_X0_reasonToTake_TA_46 : GoodIn wm_X0_reasonOfX_TA (wsV RX0 46 RX0 yX0_reasonToTake wm_X0_reasonToTake_TA) := goodIn_app (goodIn_of _ (by decide +kernel)) (goodIn_r _ [41, 42, 43, 11, 10, 44, 45, 46, 15, 47, 48, 20, 21, 22, 17, 49, 50, 51, 4, 52, 53, 54, 55, 56, 18, 57, 58, 59, 26, 60, 61, 62, 63, 64, 65, 24, 25, 27, 28, 29, 30, 34, 35, 36, 37, 12, 13, 14, 16, 66, 67, 68, 69, 70, 19, 23, 71, 72, 73, 74, 75, 76, 77, 78, 79, 80, 81, 82, 83, 84, 85, 86, 87, 88, 89, 90, 91, 92, 93, 94, 95, 119, 120, 121, 122, 123, 124, 125, 146, 147, 148, 149, 150, 151, 126, 127, 128, 129, 130, 131, 132, 133, 134, 152, 153, 154, 155] rfl (by decide +kernel))
set_option maxRecDepth 20000 in
theorem gm_X0_reasonOfX_TA_X0_isHeld_TA_49 : GoodIn wm_X0_reasonOfX_TA (wsV RX0 49 RX0 yX0_isHeld wm_X0_isHeld_TA) := goodIn_app (goodIn_of _ (by decide +kernel)) (goodIn_r _ [52, 10, 11, 53, 54, 55, 15, 56, 17, 119, 120, 121, 122, 123, 124, 125, 126, 127] rfl (by decide +kernel))
set_option maxRecDepth 20000 in
theorem gm_X0_reasonOfX_TA_X0_reasonOfShutter_TA_53 : GoodIn wm_X0_reasonOfX_TA (wsV RX0 53 RX0 yX0_reasonOfShutter wm_X0_reasonOfShutter_TA) := goodIn_app (goodIn_of _ (by decide +kernel)) (goodIn_r _ [99, 42, 43, 18, 100, 101, 102, 26, 103, 65, 24, 25, 27, 28, 29, 30, 10, 34, 35, 36, 15, 37, 17, 104, 105, 4, 106, 66, 119, 120, 121, 122, 123, 124, 125, 146, 147, 148, 149, 150, 151, 128, 129, 130, 131, 132, 133, 134, 126, 127] rfl (by decide +kernel))
set_option maxRecDepth 20000 in
theorem gm_X0_reasonOfX_TA_X0_reasonToWear_TA_57 : GoodIn wm_X0_reasonOfX_TA (wsV RX0 57 RX0 yX0_reasonToWear wm_X0_reasonToWear_TA) := goodIn_app (goodIn_of _ (by decide +kernel)) (goodIn_r _ [110, 49, 50, 51, 4, 52, 10, 11, 53, 54, 55, 15, 56, 17, 34, 35, 36, 37, 119, 120, 121, 122, 123, 124, 125, 126, 127] rfl (by decide +kernel))
set_option maxRecDepth 20000 in
theorem gm_X0_reasonOfX_TA_X0_reasonToEnter_TA_60 : GoodIn wm_X0_reasonOfX_TA (wsV RX0 60 RX0 yX0_reasonToEnter wm_X0_reasonToEnter_TA) := goodIn_app (goodIn_of _ (by decide +kernel)) (goodIn_r _ [114, 42, 43, 18, 23, 24, 25, 26, 27, 28, 29, 30, 10, 11, 44, 45, 46, 15, 47, 48, 20, 21, 22, 17, 66, 19, 34, 35, 36, 37, 119, 120, 121, 122, 123, 124, 125, 146, 147, 148, 149, 150, 151, 128, 129, 130, 131, 132, 133, 134, 126, 127] rfl (by decide +kernel))
set_option maxRecDepth 20000 in
theorem gm_X0_reasonOfX_TA_X0_reasonToLeave_TA_63 : GoodIn wm_X0_reasonOfX_TA (wsV RX0 63 RX0 yX0_reasonToLeave wm_X0_reasonToLeave_TA) := goodIn_app (goodIn_of _ (by decide +kernel)) (goodIn_r _ [118, 10, 11, 19, 20, 21, 15, 22, 17, 6, 7, 8, 4, 9, 12, 13, 14, 16, 18, 23, 24, 25, 26, 27, 28, 29, 30, 34, 35, 36, 37, 119, 120, 121, 122, 123, 124, 125, 126, 127, 128, 129, 130, 131, 132, 133, 134] rfl (by decide +kernel))
set_option maxHeartbeats 4000000 in
set_option maxRecDepth 100000 in
theorem x_X0_reasonOfX_TA (l : Launch) (D : va_G) (sz : Nat) (sk : Value) (a : Nat → Nat) (t : Nat → ClassId) (i : Nat → Int32) (q : Int64) (c : Nat → Nat → Int32) (d : Nat → Nat → Int64) (v1 : Int32) (w : Int32) (hI : xInv i c) (hx0 : v1.toInt = 0 → 0 ≤ w.toInt ∧ w.toInt ≤ 9) (hx1 : 1 ≤ v1.toInt ∧ v1.toInt ≤ 10 → 0 ≤ w.toInt ∧ w.toInt ≤ 29) (hpl : 0 ≤ (i 156).toInt ∧ (i 156).toInt ≤ 29) (htr : (i 141).toInt = 0) : Met l yX0_reasonOfX wm_X0_reasonOfX_TA ({ frames := 70, cells := 0, slots := 0, locals := 1828 }) (va_Pc [.ref (a 155), .int v1, .int w] (yA (a 186) D sz (xwT sk a t i q c d) (xtT t))) (va_Qi (fun (r : Int32) (_ : Unit) => (True ∧ (Im (r.toInt = 0) (Im (v1.toInt = 0) (AG (c 150) (c 129) (i 156) w))) ∧ (Im (r.toInt = 0) (Im (v1.toInt = 11) (AL (c 150) (i 156)))))) oA (ro sz)) 0 0 (ro sz) := by
  refine Met.ofW (cc := cX0_reasonOfX) (maxL := 3) (ret := (some .int)) (by decide) rfl ?_
  intro p e s m args below meth cd s₁ B hml hv
  obtain ⟨rfl, ⟨hsz, hP, hK⟩, hN, hZ⟩ := hv
  have hx := B.exec
  have hb := B.bytes
  have hr := B.returns
  have hts := atoms_spec (ws := wm_X0_reasonOfX_TA) B.pre
  have hown : s.vm.findClass RX0 = some m.cls := findClass_of_methodNamed B.named
  have hlocks := B.notSynchronized
  subst hsz
  have hA : ∀ q : Nat, s.heap.size ≤ q → ro s.heap.size q := fun _ h => h
  have hS : va_S (ro s.heap.size) s.heap s.heap [] := va_S.rf
  have hl := lv_entry ([.ref (a 155), .int v1, .int w]) (n := 3) (Nat.le_of_ble_eq_true rfl)
  rw [lg_entry_eq]
  generalize (lg_sl ([.ref (a 155), .int v1, .int w]) ++ List.replicate (3 - (lg_sl ([.ref (a 155), .int v1, .int w])).length) Slot.unset).toArray = ls at hl ⊢
  have hl : lv_has ls 3 [(0, .ref (a 155)), (1, .int v1), (2, .int w)] := hl
  refine lv_iload_n hx hb dX0_reasonOfX_0 rfl (lv_at hl 1 rfl) ?_
  rcases (show (v1.toInt < 0 ∨ 11 < v1.toInt) ∨ v1.toInt = 0 ∨ v1.toInt = 1 ∨ v1.toInt = 2 ∨ v1.toInt = 3 ∨ v1.toInt = 4 ∨ v1.toInt = 5 ∨ v1.toInt = 6 ∨ v1.toInt = 7 ∨ v1.toInt = 8 ∨ v1.toInt = 9 ∨ v1.toInt = 10 ∨ v1.toInt = 11 by omega) with f1 | f1 | f1 | f1 | f1 | f1 | f1 | f1 | f1 | f1 | f1 | f1 | f1
  · refine lv_tableOut (tgt := 129) hx hb dX0_reasonOfX_1 f1 (by decide) ?_
    refine lv_iconst (v := 0) hx hb dX0_reasonOfX_129 (by decide) ?_
    exact ro_iret hx hb hr hlocks hS dX0_reasonOfX_130 ⟨trivial, (show Im ((0 : Int32).toInt = 0) (Im (v1.toInt = 0) (AG (c 150) (c 129) (i 156) w)) from fun _ h8 => absurd h8 (by omega)), (show Im ((0 : Int32).toInt = 0) (Im (v1.toInt = 11) (AL (c 150) (i 156))) from fun _ h8 => absurd h8 (by omega))⟩
  · refine lv_tableIn (off := 63) (tgt := 64) hx hb dX0_reasonOfX_1 (by omega) (by omega) (by rw [f1]; rfl) (by decide) ?_
    refine lv_aload_n hx hb dX0_reasonOfX_64 rfl (lv_at hl 0 rfl) ?_
    refine lv_iload_n hx hb dX0_reasonOfX_65 rfl (lv_at hl 2 rfl) ?_
    have rb156_i : (i 156).toInt = -9 ∨ (0 ≤ (i 156).toInt ∧ (i 156).toInt ≤ 29) := hI.1 156
    refine ro_calli (va_runV (As := [.int w]) (rest := []) ⟨hx, hb, hml, hown, hts⟩ (x_X0_reasonToGo_TA l D s.heap.size sk a t i q c d w hI (show 0 ≤ w.toInt ∧ w.toInt ≤ 9 from by omega) (show 0 ≤ ((i 156) : Int32).toInt ∧ ((i 156) : Int32).toInt ≤ 29 from by omega)) (cwV 1 hts gm_X0_reasonOfX_TA_X0_reasonToGo_TA_42 rfl rfl rfl (by decide +kernel) ⟨Nat.le_of_ble_eq_true rfl, Nat.le_of_ble_eq_true rfl⟩) (yA_V hN (xZ_k hZ hS hA) hK hP (ci := 0) (q0 := 42) rfl rfl) rfl rfl hl.1 rfl (lv_room (Nat.le_of_ble_eq_true rfl)) dX0_reasonOfX_66 ⟨Nat.le_of_ble_eq_true rfl, Nat.le_of_ble_eq_true rfl⟩) hS hA hP (fun r2 u2 H locs hw2 hP hS => ?_)
    have hw2 : ((0 ≤ r2.toInt ∧ r2.toInt ≤ 3) ∧ (Im (r2.toInt = 0) (AG (c 150) (c 129) (i 156) w))) := hw2
    obtain ⟨hw2, hr2_0⟩ := hw2
    have hr2_0 : Im (r2.toInt = 0) (AG (c 150) (c 129) (i 156) w) := hr2_0
    refine lv_goto (tgt := 130) hx hb dX0_reasonOfX_69 (by decide) ?_
    exact ro_iret hx hb hr hlocks hS dX0_reasonOfX_130 ⟨trivial, (show Im (r2.toInt = 0) (Im (v1.toInt = 0) (AG (c 150) (c 129) (i 156) w)) from fun h9 _ => hr2_0 h9), (show Im (r2.toInt = 0) (Im (v1.toInt = 11) (AL (c 150) (i 156))) from fun _ h8 => absurd h8 (by omega))⟩
  · refine lv_tableIn (off := 71) (tgt := 72) hx hb dX0_reasonOfX_1 (by omega) (by omega) (by rw [f1]; rfl) (by decide) ?_
    refine lv_aload_n hx hb dX0_reasonOfX_72 rfl (lv_at hl 0 rfl) ?_
    refine lv_iload_n hx hb dX0_reasonOfX_73 rfl (lv_at hl 2 rfl) ?_
    have rb141_i : 0 ≤ (i 141).toInt ∧ (i 141).toInt ≤ 1 := hI.1 141
    have rb156_i : (i 156).toInt = -9 ∨ (0 ≤ (i 156).toInt ∧ (i 156).toInt ≤ 29) := hI.1 156
    refine ro_calli (va_runV (As := [.int w]) (rest := []) ⟨hx, hb, hml, hown, hts⟩ (x_X0_reasonToTake_TA l D s.heap.size sk a t i q c d w hI (show 0 ≤ w.toInt ∧ w.toInt ≤ 29 from by omega) (show 0 ≤ ((i 156) : Int32).toInt ∧ ((i 156) : Int32).toInt ≤ 29 from by omega) (show ((i 141) : Int32).toInt = 0 from by omega)) (cwV 1 hts gm_X0_reasonOfX_TA_X0_reasonToTake_TA_46 rfl rfl rfl (by decide +kernel) ⟨Nat.le_of_ble_eq_true rfl, Nat.le_of_ble_eq_true rfl⟩) (yA_V hN (xZ_k hZ hS hA) hK hP (ci := 0) (q0 := 42) rfl rfl) rfl rfl hl.1 rfl (lv_room (Nat.le_of_ble_eq_true rfl)) dX0_reasonOfX_74 ⟨Nat.le_of_ble_eq_true rfl, Nat.le_of_ble_eq_true rfl⟩) hS hA hP (fun r3 u3 H locs hw3 hP hS => ?_)
    have hw3 : (0 ≤ r3.toInt ∧ r3.toInt ≤ 10) := hw3
    refine lv_goto (tgt := 130) hx hb dX0_reasonOfX_77 (by decide) ?_
    exact ro_iret hx hb hr hlocks hS dX0_reasonOfX_130 ⟨trivial, (show Im (r3.toInt = 0) (Im (v1.toInt = 0) (AG (c 150) (c 129) (i 156) w)) from fun _ h8 => absurd h8 (by omega)), (show Im (r3.toInt = 0) (Im (v1.toInt = 11) (AL (c 150) (i 156))) from fun _ h8 => absurd h8 (by omega))⟩
  · refine lv_tableIn (off := 79) (tgt := 80) hx hb dX0_reasonOfX_1 (by omega) (by omega) (by rw [f1]; rfl) (by decide) ?_
    refine lv_aload_n hx hb dX0_reasonOfX_80 rfl (lv_at hl 0 rfl) ?_
    refine lv_iload_n hx hb dX0_reasonOfX_81 rfl (lv_at hl 2 rfl) ?_
    refine ro_calli (va_runV (As := [.int w]) (rest := []) ⟨hx, hb, hml, hown, hts⟩ (x_X0_isHeld_TA l D s.heap.size sk a t i q c d w hI (show 0 ≤ w.toInt ∧ w.toInt ≤ 29 from by omega)) (cwV 1 hts gm_X0_reasonOfX_TA_X0_isHeld_TA_49 rfl rfl rfl (by decide +kernel) ⟨Nat.le_of_ble_eq_true rfl, Nat.le_of_ble_eq_true rfl⟩) (yA_V hN (xZ_k hZ hS hA) hK hP (ci := 0) (q0 := 42) rfl rfl) rfl rfl hl.1 rfl (lv_room (Nat.le_of_ble_eq_true rfl)) dX0_reasonOfX_82 ⟨Nat.le_of_ble_eq_true rfl, Nat.le_of_ble_eq_true rfl⟩) hS hA hP (fun r4 u4 H locs hw4 hP hS => ?_)
    have hw4 : (0 ≤ r4.toInt ∧ r4.toInt ≤ 1) := hw4
    refine lv_if_eq (tgt := 92) hx hb dX0_reasonOfX_85 (by decide) (fun c5 => ?_) (fun c5 => ?_)
    · have f5 := (ti_eq (a := r4.toInt) (b := 0) rfl (by decide)).mp c5
      refine lv_bipush (v := 11) hx hb dX0_reasonOfX_92 (by decide) ?_
      refine lv_goto (tgt := 130) hx hb dX0_reasonOfX_94 (by decide) ?_
      exact ro_iret hx hb hr hlocks hS dX0_reasonOfX_130 ⟨trivial, (show Im ((11 : Int32).toInt = 0) (Im (v1.toInt = 0) (AG (c 150) (c 129) (i 156) w)) from fun _ h8 => absurd h8 (by omega)), (show Im ((11 : Int32).toInt = 0) (Im (v1.toInt = 11) (AL (c 150) (i 156))) from fun _ h8 => absurd h8 (by omega))⟩
    · have f5 := mt (ti_eq (a := r4.toInt) (b := 0) rfl (by decide)).mpr c5
      refine lv_iconst (v := 0) hx hb dX0_reasonOfX_88 (by decide) ?_
      refine lv_goto (tgt := 130) hx hb dX0_reasonOfX_89 (by decide) ?_
      exact ro_iret hx hb hr hlocks hS dX0_reasonOfX_130 ⟨trivial, (show Im ((0 : Int32).toInt = 0) (Im (v1.toInt = 0) (AG (c 150) (c 129) (i 156) w)) from fun _ h8 => absurd h8 (by omega)), (show Im ((0 : Int32).toInt = 0) (Im (v1.toInt = 11) (AL (c 150) (i 156))) from fun _ h8 => absurd h8 (by omega))⟩
  · refine lv_tableIn (off := 79) (tgt := 80) hx hb dX0_reasonOfX_1 (by omega) (by omega) (by rw [f1]; rfl) (by decide) ?_
    refine lv_aload_n hx hb dX0_reasonOfX_80 rfl (lv_at hl 0 rfl) ?_
    refine lv_iload_n hx hb dX0_reasonOfX_81 rfl (lv_at hl 2 rfl) ?_
    refine ro_calli (va_runV (As := [.int w]) (rest := []) ⟨hx, hb, hml, hown, hts⟩ (x_X0_isHeld_TA l D s.heap.size sk a t i q c d w hI (show 0 ≤ w.toInt ∧ w.toInt ≤ 29 from by omega)) (cwV 1 hts gm_X0_reasonOfX_TA_X0_isHeld_TA_49 rfl rfl rfl (by decide +kernel) ⟨Nat.le_of_ble_eq_true rfl, Nat.le_of_ble_eq_true rfl⟩) (yA_V hN (xZ_k hZ hS hA) hK hP (ci := 0) (q0 := 42) rfl rfl) rfl rfl hl.1 rfl (lv_room (Nat.le_of_ble_eq_true rfl)) dX0_reasonOfX_82 ⟨Nat.le_of_ble_eq_true rfl, Nat.le_of_ble_eq_true rfl⟩) hS hA hP (fun r6 u6 H locs hw6 hP hS => ?_)
    have hw6 : (0 ≤ r6.toInt ∧ r6.toInt ≤ 1) := hw6
    refine lv_if_eq (tgt := 92) hx hb dX0_reasonOfX_85 (by decide) (fun c7 => ?_) (fun c7 => ?_)
    · have f7 := (ti_eq (a := r6.toInt) (b := 0) rfl (by decide)).mp c7
      refine lv_bipush (v := 11) hx hb dX0_reasonOfX_92 (by decide) ?_
      refine lv_goto (tgt := 130) hx hb dX0_reasonOfX_94 (by decide) ?_
      exact ro_iret hx hb hr hlocks hS dX0_reasonOfX_130 ⟨trivial, (show Im ((11 : Int32).toInt = 0) (Im (v1.toInt = 0) (AG (c 150) (c 129) (i 156) w)) from fun _ h8 => absurd h8 (by omega)), (show Im ((11 : Int32).toInt = 0) (Im (v1.toInt = 11) (AL (c 150) (i 156))) from fun _ h8 => absurd h8 (by omega))⟩
    · have f7 := mt (ti_eq (a := r6.toInt) (b := 0) rfl (by decide)).mpr c7
      refine lv_iconst (v := 0) hx hb dX0_reasonOfX_88 (by decide) ?_
      refine lv_goto (tgt := 130) hx hb dX0_reasonOfX_89 (by decide) ?_
      exact ro_iret hx hb hr hlocks hS dX0_reasonOfX_130 ⟨trivial, (show Im ((0 : Int32).toInt = 0) (Im (v1.toInt = 0) (AG (c 150) (c 129) (i 156) w)) from fun _ h8 => absurd h8 (by omega)), (show Im ((0 : Int32).toInt = 0) (Im (v1.toInt = 11) (AL (c 150) (i 156))) from fun _ h8 => absurd h8 (by omega))⟩
  · refine lv_tableIn (off := 79) (tgt := 80) hx hb dX0_reasonOfX_1 (by omega) (by omega) (by rw [f1]; rfl) (by decide) ?_
    refine lv_aload_n hx hb dX0_reasonOfX_80 rfl (lv_at hl 0 rfl) ?_
    refine lv_iload_n hx hb dX0_reasonOfX_81 rfl (lv_at hl 2 rfl) ?_
    refine ro_calli (va_runV (As := [.int w]) (rest := []) ⟨hx, hb, hml, hown, hts⟩ (x_X0_isHeld_TA l D s.heap.size sk a t i q c d w hI (show 0 ≤ w.toInt ∧ w.toInt ≤ 29 from by omega)) (cwV 1 hts gm_X0_reasonOfX_TA_X0_isHeld_TA_49 rfl rfl rfl (by decide +kernel) ⟨Nat.le_of_ble_eq_true rfl, Nat.le_of_ble_eq_true rfl⟩) (yA_V hN (xZ_k hZ hS hA) hK hP (ci := 0) (q0 := 42) rfl rfl) rfl rfl hl.1 rfl (lv_room (Nat.le_of_ble_eq_true rfl)) dX0_reasonOfX_82 ⟨Nat.le_of_ble_eq_true rfl, Nat.le_of_ble_eq_true rfl⟩) hS hA hP (fun r8 u8 H locs hw8 hP hS => ?_)
    have hw8 : (0 ≤ r8.toInt ∧ r8.toInt ≤ 1) := hw8
    refine lv_if_eq (tgt := 92) hx hb dX0_reasonOfX_85 (by decide) (fun c9 => ?_) (fun c9 => ?_)
    · have f9 := (ti_eq (a := r8.toInt) (b := 0) rfl (by decide)).mp c9
      refine lv_bipush (v := 11) hx hb dX0_reasonOfX_92 (by decide) ?_
      refine lv_goto (tgt := 130) hx hb dX0_reasonOfX_94 (by decide) ?_
      exact ro_iret hx hb hr hlocks hS dX0_reasonOfX_130 ⟨trivial, (show Im ((11 : Int32).toInt = 0) (Im (v1.toInt = 0) (AG (c 150) (c 129) (i 156) w)) from fun _ h8 => absurd h8 (by omega)), (show Im ((11 : Int32).toInt = 0) (Im (v1.toInt = 11) (AL (c 150) (i 156))) from fun _ h8 => absurd h8 (by omega))⟩
    · have f9 := mt (ti_eq (a := r8.toInt) (b := 0) rfl (by decide)).mpr c9
      refine lv_iconst (v := 0) hx hb dX0_reasonOfX_88 (by decide) ?_
      refine lv_goto (tgt := 130) hx hb dX0_reasonOfX_89 (by decide) ?_
      exact ro_iret hx hb hr hlocks hS dX0_reasonOfX_130 ⟨trivial, (show Im ((0 : Int32).toInt = 0) (Im (v1.toInt = 0) (AG (c 150) (c 129) (i 156) w)) from fun _ h8 => absurd h8 (by omega)), (show Im ((0 : Int32).toInt = 0) (Im (v1.toInt = 11) (AL (c 150) (i 156))) from fun _ h8 => absurd h8 (by omega))⟩
  · refine lv_tableIn (off := 96) (tgt := 97) hx hb dX0_reasonOfX_1 (by omega) (by omega) (by rw [f1]; rfl) (by decide) ?_
    refine lv_aload_n hx hb dX0_reasonOfX_97 rfl (lv_at hl 0 rfl) ?_
    refine lv_iload_n hx hb dX0_reasonOfX_98 rfl (lv_at hl 1 rfl) ?_
    refine lv_iload_n hx hb dX0_reasonOfX_99 rfl (lv_at hl 2 rfl) ?_
    refine ro_calli (va_runV (As := [.int v1, .int w]) (rest := []) ⟨hx, hb, hml, hown, hts⟩ (x_X0_reasonOfShutter_TA l D s.heap.size sk a t i q c d v1 w hI (show 0 ≤ w.toInt ∧ w.toInt ≤ 29 from by omega)) (cwV 2 hts gm_X0_reasonOfX_TA_X0_reasonOfShutter_TA_53 rfl rfl rfl (by decide +kernel) ⟨Nat.le_of_ble_eq_true rfl, Nat.le_of_ble_eq_true rfl⟩) (yA_V hN (xZ_k hZ hS hA) hK hP (ci := 0) (q0 := 42) rfl rfl) rfl rfl hl.1 rfl (lv_room (Nat.le_of_ble_eq_true rfl)) dX0_reasonOfX_100 ⟨Nat.le_of_ble_eq_true rfl, Nat.le_of_ble_eq_true rfl⟩) hS hA hP (fun r10 u10 H locs hw10 hP hS => ?_)
    refine lv_goto (tgt := 130) hx hb dX0_reasonOfX_103 (by decide) ?_
    exact ro_iret hx hb hr hlocks hS dX0_reasonOfX_130 ⟨trivial, (show Im (r10.toInt = 0) (Im (v1.toInt = 0) (AG (c 150) (c 129) (i 156) w)) from fun _ h8 => absurd h8 (by omega)), (show Im (r10.toInt = 0) (Im (v1.toInt = 11) (AL (c 150) (i 156))) from fun _ h8 => absurd h8 (by omega))⟩
  · refine lv_tableIn (off := 96) (tgt := 97) hx hb dX0_reasonOfX_1 (by omega) (by omega) (by rw [f1]; rfl) (by decide) ?_
    refine lv_aload_n hx hb dX0_reasonOfX_97 rfl (lv_at hl 0 rfl) ?_
    refine lv_iload_n hx hb dX0_reasonOfX_98 rfl (lv_at hl 1 rfl) ?_
    refine lv_iload_n hx hb dX0_reasonOfX_99 rfl (lv_at hl 2 rfl) ?_
    refine ro_calli (va_runV (As := [.int v1, .int w]) (rest := []) ⟨hx, hb, hml, hown, hts⟩ (x_X0_reasonOfShutter_TA l D s.heap.size sk a t i q c d v1 w hI (show 0 ≤ w.toInt ∧ w.toInt ≤ 29 from by omega)) (cwV 2 hts gm_X0_reasonOfX_TA_X0_reasonOfShutter_TA_53 rfl rfl rfl (by decide +kernel) ⟨Nat.le_of_ble_eq_true rfl, Nat.le_of_ble_eq_true rfl⟩) (yA_V hN (xZ_k hZ hS hA) hK hP (ci := 0) (q0 := 42) rfl rfl) rfl rfl hl.1 rfl (lv_room (Nat.le_of_ble_eq_true rfl)) dX0_reasonOfX_100 ⟨Nat.le_of_ble_eq_true rfl, Nat.le_of_ble_eq_true rfl⟩) hS hA hP (fun r11 u11 H locs hw11 hP hS => ?_)
    refine lv_goto (tgt := 130) hx hb dX0_reasonOfX_103 (by decide) ?_
    exact ro_iret hx hb hr hlocks hS dX0_reasonOfX_130 ⟨trivial, (show Im (r11.toInt = 0) (Im (v1.toInt = 0) (AG (c 150) (c 129) (i 156) w)) from fun _ h8 => absurd h8 (by omega)), (show Im (r11.toInt = 0) (Im (v1.toInt = 11) (AL (c 150) (i 156))) from fun _ h8 => absurd h8 (by omega))⟩
  · refine lv_tableIn (off := 96) (tgt := 97) hx hb dX0_reasonOfX_1 (by omega) (by omega) (by rw [f1]; rfl) (by decide) ?_
    refine lv_aload_n hx hb dX0_reasonOfX_97 rfl (lv_at hl 0 rfl) ?_
    refine lv_iload_n hx hb dX0_reasonOfX_98 rfl (lv_at hl 1 rfl) ?_
    refine lv_iload_n hx hb dX0_reasonOfX_99 rfl (lv_at hl 2 rfl) ?_
    refine ro_calli (va_runV (As := [.int v1, .int w]) (rest := []) ⟨hx, hb, hml, hown, hts⟩ (x_X0_reasonOfShutter_TA l D s.heap.size sk a t i q c d v1 w hI (show 0 ≤ w.toInt ∧ w.toInt ≤ 29 from by omega)) (cwV 2 hts gm_X0_reasonOfX_TA_X0_reasonOfShutter_TA_53 rfl rfl rfl (by decide +kernel) ⟨Nat.le_of_ble_eq_true rfl, Nat.le_of_ble_eq_true rfl⟩) (yA_V hN (xZ_k hZ hS hA) hK hP (ci := 0) (q0 := 42) rfl rfl) rfl rfl hl.1 rfl (lv_room (Nat.le_of_ble_eq_true rfl)) dX0_reasonOfX_100 ⟨Nat.le_of_ble_eq_true rfl, Nat.le_of_ble_eq_true rfl⟩) hS hA hP (fun r12 u12 H locs hw12 hP hS => ?_)
    refine lv_goto (tgt := 130) hx hb dX0_reasonOfX_103 (by decide) ?_
    exact ro_iret hx hb hr hlocks hS dX0_reasonOfX_130 ⟨trivial, (show Im (r12.toInt = 0) (Im (v1.toInt = 0) (AG (c 150) (c 129) (i 156) w)) from fun _ h8 => absurd h8 (by omega)), (show Im (r12.toInt = 0) (Im (v1.toInt = 11) (AL (c 150) (i 156))) from fun _ h8 => absurd h8 (by omega))⟩
  · refine lv_tableIn (off := 96) (tgt := 97) hx hb dX0_reasonOfX_1 (by omega) (by omega) (by rw [f1]; rfl) (by decide) ?_
    refine lv_aload_n hx hb dX0_reasonOfX_97 rfl (lv_at hl 0 rfl) ?_
    refine lv_iload_n hx hb dX0_reasonOfX_98 rfl (lv_at hl 1 rfl) ?_
    refine lv_iload_n hx hb dX0_reasonOfX_99 rfl (lv_at hl 2 rfl) ?_
    refine ro_calli (va_runV (As := [.int v1, .int w]) (rest := []) ⟨hx, hb, hml, hown, hts⟩ (x_X0_reasonOfShutter_TA l D s.heap.size sk a t i q c d v1 w hI (show 0 ≤ w.toInt ∧ w.toInt ≤ 29 from by omega)) (cwV 2 hts gm_X0_reasonOfX_TA_X0_reasonOfShutter_TA_53 rfl rfl rfl (by decide +kernel) ⟨Nat.le_of_ble_eq_true rfl, Nat.le_of_ble_eq_true rfl⟩) (yA_V hN (xZ_k hZ hS hA) hK hP (ci := 0) (q0 := 42) rfl rfl) rfl rfl hl.1 rfl (lv_room (Nat.le_of_ble_eq_true rfl)) dX0_reasonOfX_100 ⟨Nat.le_of_ble_eq_true rfl, Nat.le_of_ble_eq_true rfl⟩) hS hA hP (fun r13 u13 H locs hw13 hP hS => ?_)
    refine lv_goto (tgt := 130) hx hb dX0_reasonOfX_103 (by decide) ?_
    exact ro_iret hx hb hr hlocks hS dX0_reasonOfX_130 ⟨trivial, (show Im (r13.toInt = 0) (Im (v1.toInt = 0) (AG (c 150) (c 129) (i 156) w)) from fun _ h8 => absurd h8 (by omega)), (show Im (r13.toInt = 0) (Im (v1.toInt = 11) (AL (c 150) (i 156))) from fun _ h8 => absurd h8 (by omega))⟩
  · refine lv_tableIn (off := 105) (tgt := 106) hx hb dX0_reasonOfX_1 (by omega) (by omega) (by rw [f1]; rfl) (by decide) ?_
    refine lv_aload_n hx hb dX0_reasonOfX_106 rfl (lv_at hl 0 rfl) ?_
    refine lv_iload_n hx hb dX0_reasonOfX_107 rfl (lv_at hl 2 rfl) ?_
    refine ro_calli (va_runV (As := [.int w]) (rest := []) ⟨hx, hb, hml, hown, hts⟩ (x_X0_reasonToWear_TA l D s.heap.size sk a t i q c d w hI (show 0 ≤ w.toInt ∧ w.toInt ≤ 29 from by omega)) (cwV 1 hts gm_X0_reasonOfX_TA_X0_reasonToWear_TA_57 rfl rfl rfl (by decide +kernel) ⟨Nat.le_of_ble_eq_true rfl, Nat.le_of_ble_eq_true rfl⟩) (yA_V hN (xZ_k hZ hS hA) hK hP (ci := 0) (q0 := 42) rfl rfl) rfl rfl hl.1 rfl (lv_room (Nat.le_of_ble_eq_true rfl)) dX0_reasonOfX_108 ⟨Nat.le_of_ble_eq_true rfl, Nat.le_of_ble_eq_true rfl⟩) hS hA hP (fun r14 u14 H locs hw14 hP hS => ?_)
    have hw14 : (0 ≤ r14.toInt ∧ r14.toInt ≤ 19) := hw14
    refine lv_goto (tgt := 130) hx hb dX0_reasonOfX_111 (by decide) ?_
    exact ro_iret hx hb hr hlocks hS dX0_reasonOfX_130 ⟨trivial, (show Im (r14.toInt = 0) (Im (v1.toInt = 0) (AG (c 150) (c 129) (i 156) w)) from fun _ h8 => absurd h8 (by omega)), (show Im (r14.toInt = 0) (Im (v1.toInt = 11) (AL (c 150) (i 156))) from fun _ h8 => absurd h8 (by omega))⟩
  · refine lv_tableIn (off := 113) (tgt := 114) hx hb dX0_reasonOfX_1 (by omega) (by omega) (by rw [f1]; rfl) (by decide) ?_
    refine lv_aload_n hx hb dX0_reasonOfX_114 rfl (lv_at hl 0 rfl) ?_
    refine lv_iload_n hx hb dX0_reasonOfX_115 rfl (lv_at hl 2 rfl) ?_
    have rb156_i : (i 156).toInt = -9 ∨ (0 ≤ (i 156).toInt ∧ (i 156).toInt ≤ 29) := hI.1 156
    refine ro_calli (va_runV (As := [.int w]) (rest := []) ⟨hx, hb, hml, hown, hts⟩ (x_X0_reasonToEnter_TA l D s.heap.size sk a t i q c d w hI (show 0 ≤ w.toInt ∧ w.toInt ≤ 29 from by omega) (show 0 ≤ ((i 156) : Int32).toInt ∧ ((i 156) : Int32).toInt ≤ 29 from by omega)) (cwV 1 hts gm_X0_reasonOfX_TA_X0_reasonToEnter_TA_60 rfl rfl rfl (by decide +kernel) ⟨Nat.le_of_ble_eq_true rfl, Nat.le_of_ble_eq_true rfl⟩) (yA_V hN (xZ_k hZ hS hA) hK hP (ci := 0) (q0 := 42) rfl rfl) rfl rfl hl.1 rfl (lv_room (Nat.le_of_ble_eq_true rfl)) dX0_reasonOfX_116 ⟨Nat.le_of_ble_eq_true rfl, Nat.le_of_ble_eq_true rfl⟩) hS hA hP (fun r15 u15 H locs hw15 hP hS => ?_)
    have hw15 : (0 ≤ r15.toInt ∧ r15.toInt ≤ 20) := hw15
    refine lv_goto (tgt := 130) hx hb dX0_reasonOfX_119 (by decide) ?_
    exact ro_iret hx hb hr hlocks hS dX0_reasonOfX_130 ⟨trivial, (show Im (r15.toInt = 0) (Im (v1.toInt = 0) (AG (c 150) (c 129) (i 156) w)) from fun _ h8 => absurd h8 (by omega)), (show Im (r15.toInt = 0) (Im (v1.toInt = 11) (AL (c 150) (i 156))) from fun _ h8 => absurd h8 (by omega))⟩
  · refine lv_tableIn (off := 121) (tgt := 122) hx hb dX0_reasonOfX_1 (by omega) (by omega) (by rw [f1]; rfl) (by decide) ?_
    refine lv_aload_n hx hb dX0_reasonOfX_122 rfl (lv_at hl 0 rfl) ?_
    have rb156_i : (i 156).toInt = -9 ∨ (0 ≤ (i 156).toInt ∧ (i 156).toInt ≤ 29) := hI.1 156
    refine ro_calli (va_runV (As := []) (rest := []) ⟨hx, hb, hml, hown, hts⟩ (x_X0_reasonToLeave_TA l D s.heap.size sk a t i q c d  hI (show 0 ≤ ((i 156) : Int32).toInt ∧ ((i 156) : Int32).toInt ≤ 29 from by omega)) (cwV 0 hts gm_X0_reasonOfX_TA_X0_reasonToLeave_TA_63 rfl rfl rfl (by decide +kernel) ⟨Nat.le_of_ble_eq_true rfl, Nat.le_of_ble_eq_true rfl⟩) (yA_V hN (xZ_k hZ hS hA) hK hP (ci := 0) (q0 := 42) rfl rfl) rfl rfl hl.1 rfl (lv_room (Nat.le_of_ble_eq_true rfl)) dX0_reasonOfX_123 ⟨Nat.le_of_ble_eq_true rfl, Nat.le_of_ble_eq_true rfl⟩) hS hA hP (fun r16 u16 H locs hw16 hP hS => ?_)
    have hw16 : ((0 ≤ r16.toInt ∧ r16.toInt ≤ 21) ∧ (Im (r16.toInt = 0) (AL (c 150) (i 156)))) := hw16
    obtain ⟨hw16, hr16_0⟩ := hw16
    have hr16_0 : Im (r16.toInt = 0) (AL (c 150) (i 156)) := hr16_0
    refine lv_goto (tgt := 130) hx hb dX0_reasonOfX_126 (by decide) ?_
    exact ro_iret hx hb hr hlocks hS dX0_reasonOfX_130 ⟨trivial, (show Im (r16.toInt = 0) (Im (v1.toInt = 0) (AG (c 150) (c 129) (i 156) w)) from fun _ h8 => absurd h8 (by omega)), (show Im (r16.toInt = 0) (Im (v1.toInt = 11) (AL (c 150) (i 156))) from fun h9 _ => hr16_0 h9)⟩

def wm_X0_reasonOfY_TA : List Cond := .code yX0_reasonOfY cX0_reasonOfY 4 (some .int) :: (([.methodLink RX0 67 yX0_reasonToPut, .instanceMethod yX0_reasonToPut, .selects RX0 yX0_reasonToPut yX0_reasonToPut, .initialized RX0, .code yX0_reasonToPut cX0_reasonToPut 4 (some .int), .fieldLink RX0 34 "TalePlay$Acts" "sight" "LTalePlay$Sight;", .fieldLink RX0 108 "TalePlay$Sight" "seen" "[Z", .fieldLink RX0 9 "TalePlay$Acts" "world" "LTalePlay$World;", .methodLink RX0 86 yX10_sortOf, .instanceMethod yX10_sortOf, .selects RX10 yX10_sortOf yX10_sortOf, .initialized RX10, .code yX10_sortOf cX10_sortOf 2 (some .int), .fieldLink RX10 37 "TalePlay$World" "objects" "I", .fieldLink RX10 15 "TalePlay$World" "sorts" "[I", .fieldLink RX10 21 "TalePlay$World" "kindOf" "[I", .fieldLink RX0 33 "TalePlay$Acts" "scene" "LTalePlay$Scene;", .methodLink RX0 112 yX6_isUp, .instanceMethod yX6_isUp, .selects RX6 yX6_isUp yX6_isUp, .initialized RX6, .code yX6_isUp cX6_isUp 5 (some .boolean), .methodLink RX6 25 yX6_holderOf, .instanceMethod yX6_holderOf, .selects RX6 yX6_holderOf yX6_holderOf, .code yX6_holderOf cX6_holderOf 3 (some .int), .fieldLink RX6 9 "TalePlay$Scene" "cells" "[I", .fieldLink RX0 118 "TalePlay$Sight" "reached" "[Z", .methodLink RX0 134 yX6_countOf, .instanceMethod yX6_countOf, .selects RX6 yX6_countOf yX6_countOf, .code yX6_countOf cX6_countOf 5 (some .int), .fieldLink RX6 15 "TalePlay$Scene" "world" "LTalePlay$World;", .fieldLink RX6 34 "TalePlay$World" "objects" "I", .methodLink RX6 38 yX6_lies, .instanceMethod yX6_lies, .selects RX6 yX6_lies yX6_lies, .code yX6_lies cX6_lies 4 (some .boolean), .methodLink RX0 104 yX6_has, .instanceMethod yX6_has, .selects RX6 yX6_has yX6_has, .code yX6_has cX6_has 3 (some .boolean), .methodLink RX0 71 yX0_reasonOfKey, .instanceMethod yX0_reasonOfKey, .selects RX0 yX0_reasonOfKey yX0_reasonOfKey, .code yX0_reasonOfKey cX0_reasonOfKey 3 (some .int), .methodLink RX0 49 yX0_isHeld, .instanceMethod yX0_isHeld, .selects RX0 yX0_isHeld yX0_isHeld, .code yX0_isHeld cX0_isHeld 2 (some .boolean), .fieldLink RX0 38 "TalePlay$Acts" "player" "I", .methodLink RX0 74 yX6_lies, .fieldLink RX0 15 "TalePlay$Acts" "book" "LTalePlay$Book;", .methodLink RX0 144 yX1_keyOf, .instanceMethod yX1_keyOf, .selects RX1 yX1_keyOf yX1_keyOf, .initialized RX1, .code yX1_keyOf cX1_keyOf 3 (some .int), .fieldLink RX1 37 "TalePlay$Book" "keyBy" "[I", .fieldLink RX1 15 "TalePlay$Book" "as" "[I"] : List Cond) ++ wsX00 ++ wsX80 ++ wsX100 ++ wsX60 ++ wsX10)
set_option maxRecDepth 20000 in
theorem gm_X0_reasonOfY_TA_X0_reasonToPut_TA_67 : GoodIn wm_X0_reasonOfY_TA (wsV RX0 67 RX0 yX0_reasonToPut wm_X0_reasonToPut_TA) := goodIn_app (goodIn_of _ (by decide +kernel)) (goodIn_r _ [5, 6, 7, 8, 9, 10, 11, 12, 13, 14, 15, 16, 17, 18, 19, 20, 21, 22, 23, 24, 25, 26, 27, 28, 29, 30, 31, 32, 33, 34, 35, 36, 37, 38, 39, 40, 41, 42, 61, 62, 63, 64, 65, 66, 67, 68, 69, 70, 71, 72, 73, 74, 75, 76, 77, 78, 79, 80, 81, 82] rfl (by decide +kernel))
set_option maxRecDepth 20000 in
theorem gm_X0_reasonOfY_TA_X0_reasonOfKey_TA_71 : GoodIn wm_X0_reasonOfY_TA (wsV RX0 71 RX0 yX0_reasonOfKey wm_X0_reasonOfKey_TA) := goodIn_app (goodIn_of _ (by decide +kernel)) (goodIn_r _ [46, 47, 48, 49, 4, 50, 17, 51, 52, 36, 37, 21, 38, 27, 53, 54, 55, 56, 57, 58, 59, 60, 61, 62, 63, 64, 65, 66, 67, 81, 82, 83, 84, 85, 86, 87, 88, 89, 90, 91, 92, 93, 94, 95, 96, 97] rfl (by decide +kernel))
set_option maxHeartbeats 4000000 in
set_option maxRecDepth 100000 in
theorem x_X0_reasonOfY_TA (l : Launch) (D : va_G) (sz : Nat) (sk : Value) (a : Nat → Nat) (t : Nat → ClassId) (i : Nat → Int32) (q : Int64) (c : Nat → Nat → Int32) (d : Nat → Nat → Int64) (v1 : Int32) (w : Int32) (w2 : Int32) (hI : xInv i c) (hx0 : v1.toInt = 0 → 0 ≤ w.toInt ∧ w.toInt ≤ 9) (hx1 : 1 ≤ v1.toInt ∧ v1.toInt ≤ 10 → 0 ≤ w.toInt ∧ w.toInt ≤ 29) (hy1 : v1.toInt = 3 ∨ v1.toInt = 4 ∨ v1.toInt = 7 ∨ v1.toInt = 8 → 0 ≤ w2.toInt ∧ w2.toInt ≤ 29) : Met l yX0_reasonOfY wm_X0_reasonOfY_TA ({ frames := 3, cells := 0, slots := 0, locals := 70 }) (va_Pc [.ref (a 155), .int v1, .int w, .int w2] (yA (a 186) D sz (xwT sk a t i q c d) (xtT t))) (va_Qi (fun (r : Int32) (_ : Unit) => True) oA (ro sz)) 0 0 (ro sz) := by
  refine Met.ofW (cc := cX0_reasonOfY) (maxL := 4) (ret := (some .int)) (by decide) rfl ?_
  intro p e s m args below meth cd s₁ B hml hv
  obtain ⟨rfl, ⟨hsz, hP, hK⟩, hN, hZ⟩ := hv
  have hx := B.exec
  have hb := B.bytes
  have hr := B.returns
  have hts := atoms_spec (ws := wm_X0_reasonOfY_TA) B.pre
  have hown : s.vm.findClass RX0 = some m.cls := findClass_of_methodNamed B.named
  have hlocks := B.notSynchronized
  subst hsz
  have hA : ∀ q : Nat, s.heap.size ≤ q → ro s.heap.size q := fun _ h => h
  have hS : va_S (ro s.heap.size) s.heap s.heap [] := va_S.rf
  have hl := lv_entry ([.ref (a 155), .int v1, .int w, .int w2]) (n := 4) (Nat.le_of_ble_eq_true rfl)
  rw [lg_entry_eq]
  generalize (lg_sl ([.ref (a 155), .int v1, .int w, .int w2]) ++ List.replicate (4 - (lg_sl ([.ref (a 155), .int v1, .int w, .int w2])).length) Slot.unset).toArray = ls at hl ⊢
  have hl : lv_has ls 4 [(0, .ref (a 155)), (1, .int v1), (2, .int w), (3, .int w2)] := hl
  refine lv_iload_n hx hb dX0_reasonOfY_0 rfl (lv_at hl 1 rfl) ?_
  rcases (show (v1.toInt < 3 ∨ 8 < v1.toInt) ∨ v1.toInt = 3 ∨ v1.toInt = 4 ∨ v1.toInt = 5 ∨ v1.toInt = 6 ∨ v1.toInt = 7 ∨ v1.toInt = 8 by omega) with f1 | f1 | f1 | f1 | f1 | f1 | f1
  · refine lv_tableOut (tgt := 69) hx hb dX0_reasonOfY_1 f1 (by decide) ?_
    refine lv_iconst (v := 0) hx hb dX0_reasonOfY_69 (by decide) ?_
    exact ro_iret hx hb hr hlocks hS dX0_reasonOfY_70 trivial
  · refine lv_tableIn (off := 39) (tgt := 40) hx hb dX0_reasonOfY_1 (by omega) (by omega) (by rw [f1]; rfl) (by decide) ?_
    refine lv_aload_n hx hb dX0_reasonOfY_40 rfl (lv_at hl 0 rfl) ?_
    refine lv_iload_n hx hb dX0_reasonOfY_41 rfl (lv_at hl 2 rfl) ?_
    refine lv_iconst (v := 0) hx hb dX0_reasonOfY_42 (by decide) ?_
    refine lv_iload_n hx hb dX0_reasonOfY_43 rfl (lv_at hl 3 rfl) ?_
    refine ro_calli (va_runV (As := [.int w, .int 0, .int w2]) (rest := []) ⟨hx, hb, hml, hown, hts⟩ (x_X0_reasonToPut_TA l D s.heap.size sk a t i q c d w 0 w2 hI (show 0 ≤ w.toInt ∧ w.toInt ≤ 29 from by have h91 : (0 : Int32).toInt = 0 := (by decide); omega) (show 0 ≤ w2.toInt ∧ w2.toInt ≤ 29 from by have h91 : (0 : Int32).toInt = 0 := (by decide); omega)) (cwV 3 hts gm_X0_reasonOfY_TA_X0_reasonToPut_TA_67 rfl rfl rfl (by decide +kernel) ⟨Nat.le_of_ble_eq_true rfl, Nat.le_of_ble_eq_true rfl⟩) (yA_V hN (xZ_k hZ hS hA) hK hP (ci := 0) (q0 := 42) rfl rfl) rfl rfl hl.1 rfl (lv_room (Nat.le_of_ble_eq_true rfl)) dX0_reasonOfY_44 ⟨Nat.le_of_ble_eq_true rfl, Nat.le_of_ble_eq_true rfl⟩) hS hA hP (fun r2 u2 H locs hw2 hP hS => ?_)
    have hw2 : (0 ≤ r2.toInt ∧ r2.toInt ≤ 14) := hw2
    refine lv_goto (tgt := 70) hx hb dX0_reasonOfY_47 (by decide) ?_
    exact ro_iret hx hb hr hlocks hS dX0_reasonOfY_70 trivial
  · refine lv_tableIn (off := 49) (tgt := 50) hx hb dX0_reasonOfY_1 (by omega) (by omega) (by rw [f1]; rfl) (by decide) ?_
    refine lv_aload_n hx hb dX0_reasonOfY_50 rfl (lv_at hl 0 rfl) ?_
    refine lv_iload_n hx hb dX0_reasonOfY_51 rfl (lv_at hl 2 rfl) ?_
    refine lv_iconst (v := 1) hx hb dX0_reasonOfY_52 (by decide) ?_
    refine lv_iload_n hx hb dX0_reasonOfY_53 rfl (lv_at hl 3 rfl) ?_
    refine ro_calli (va_runV (As := [.int w, .int 1, .int w2]) (rest := []) ⟨hx, hb, hml, hown, hts⟩ (x_X0_reasonToPut_TA l D s.heap.size sk a t i q c d w 1 w2 hI (show 0 ≤ w.toInt ∧ w.toInt ≤ 29 from by have h91 : (1 : Int32).toInt = 1 := (by decide); omega) (show 0 ≤ w2.toInt ∧ w2.toInt ≤ 29 from by have h91 : (1 : Int32).toInt = 1 := (by decide); omega)) (cwV 3 hts gm_X0_reasonOfY_TA_X0_reasonToPut_TA_67 rfl rfl rfl (by decide +kernel) ⟨Nat.le_of_ble_eq_true rfl, Nat.le_of_ble_eq_true rfl⟩) (yA_V hN (xZ_k hZ hS hA) hK hP (ci := 0) (q0 := 42) rfl rfl) rfl rfl hl.1 rfl (lv_room (Nat.le_of_ble_eq_true rfl)) dX0_reasonOfY_54 ⟨Nat.le_of_ble_eq_true rfl, Nat.le_of_ble_eq_true rfl⟩) hS hA hP (fun r3 u3 H locs hw3 hP hS => ?_)
    have hw3 : (0 ≤ r3.toInt ∧ r3.toInt ≤ 14) := hw3
    refine lv_goto (tgt := 70) hx hb dX0_reasonOfY_57 (by decide) ?_
    exact ro_iret hx hb hr hlocks hS dX0_reasonOfY_70 trivial
  · refine lv_tableIn (off := 68) (tgt := 69) hx hb dX0_reasonOfY_1 (by omega) (by omega) (by rw [f1]; rfl) (by decide) ?_
    refine lv_iconst (v := 0) hx hb dX0_reasonOfY_69 (by decide) ?_
    exact ro_iret hx hb hr hlocks hS dX0_reasonOfY_70 trivial
  · refine lv_tableIn (off := 68) (tgt := 69) hx hb dX0_reasonOfY_1 (by omega) (by omega) (by rw [f1]; rfl) (by decide) ?_
    refine lv_iconst (v := 0) hx hb dX0_reasonOfY_69 (by decide) ?_
    exact ro_iret hx hb hr hlocks hS dX0_reasonOfY_70 trivial
  · refine lv_tableIn (off := 59) (tgt := 60) hx hb dX0_reasonOfY_1 (by omega) (by omega) (by rw [f1]; rfl) (by decide) ?_
    refine lv_aload_n hx hb dX0_reasonOfY_60 rfl (lv_at hl 0 rfl) ?_
    refine lv_iload_n hx hb dX0_reasonOfY_61 rfl (lv_at hl 2 rfl) ?_
    refine lv_iload_n hx hb dX0_reasonOfY_62 rfl (lv_at hl 3 rfl) ?_
    refine ro_calli (va_runV (As := [.int w, .int w2]) (rest := []) ⟨hx, hb, hml, hown, hts⟩ (x_X0_reasonOfKey_TA l D s.heap.size sk a t i q c d w w2 hI (show 0 ≤ w.toInt ∧ w.toInt ≤ 29 from by omega) (show 0 ≤ w2.toInt ∧ w2.toInt ≤ 29 from by omega)) (cwV 2 hts gm_X0_reasonOfY_TA_X0_reasonOfKey_TA_71 rfl rfl rfl (by decide +kernel) ⟨Nat.le_of_ble_eq_true rfl, Nat.le_of_ble_eq_true rfl⟩) (yA_V hN (xZ_k hZ hS hA) hK hP (ci := 0) (q0 := 42) rfl rfl) rfl rfl hl.1 rfl (lv_room (Nat.le_of_ble_eq_true rfl)) dX0_reasonOfY_63 ⟨Nat.le_of_ble_eq_true rfl, Nat.le_of_ble_eq_true rfl⟩) hS hA hP (fun r4 u4 H locs hw4 hP hS => ?_)
    have hw4 : (0 ≤ r4.toInt ∧ r4.toInt ≤ 18) := hw4
    refine lv_goto (tgt := 70) hx hb dX0_reasonOfY_66 (by decide) ?_
    exact ro_iret hx hb hr hlocks hS dX0_reasonOfY_70 trivial
  · refine lv_tableIn (off := 59) (tgt := 60) hx hb dX0_reasonOfY_1 (by omega) (by omega) (by rw [f1]; rfl) (by decide) ?_
    refine lv_aload_n hx hb dX0_reasonOfY_60 rfl (lv_at hl 0 rfl) ?_
    refine lv_iload_n hx hb dX0_reasonOfY_61 rfl (lv_at hl 2 rfl) ?_
    refine lv_iload_n hx hb dX0_reasonOfY_62 rfl (lv_at hl 3 rfl) ?_
    refine ro_calli (va_runV (As := [.int w, .int w2]) (rest := []) ⟨hx, hb, hml, hown, hts⟩ (x_X0_reasonOfKey_TA l D s.heap.size sk a t i q c d w w2 hI (show 0 ≤ w.toInt ∧ w.toInt ≤ 29 from by omega) (show 0 ≤ w2.toInt ∧ w2.toInt ≤ 29 from by omega)) (cwV 2 hts gm_X0_reasonOfY_TA_X0_reasonOfKey_TA_71 rfl rfl rfl (by decide +kernel) ⟨Nat.le_of_ble_eq_true rfl, Nat.le_of_ble_eq_true rfl⟩) (yA_V hN (xZ_k hZ hS hA) hK hP (ci := 0) (q0 := 42) rfl rfl) rfl rfl hl.1 rfl (lv_room (Nat.le_of_ble_eq_true rfl)) dX0_reasonOfY_63 ⟨Nat.le_of_ble_eq_true rfl, Nat.le_of_ble_eq_true rfl⟩) hS hA hP (fun r5 u5 H locs hw5 hP hS => ?_)
    have hw5 : (0 ≤ r5.toInt ∧ r5.toInt ≤ 18) := hw5
    refine lv_goto (tgt := 70) hx hb dX0_reasonOfY_66 (by decide) ?_
    exact ro_iret hx hb hr hlocks hS dX0_reasonOfY_70 trivial

def wm_X0_subjectOf_TA : List Cond := .code yX0_subjectOf cX0_subjectOf 3 (some .int) :: (([.fieldLink RX0 38 "TalePlay$Acts" "player" "I"] : List Cond) ++ wsX00)
set_option maxHeartbeats 4000000 in
set_option maxRecDepth 100000 in
theorem x_X0_subjectOf_TA (l : Launch) (D : va_G) (sz : Nat) (sk : Value) (a : Nat → Nat) (t : Nat → ClassId) (i : Nat → Int32) (q : Int64) (c : Nat → Nat → Int32) (d : Nat → Nat → Int64) (v1 : Int32) (w : Int32) (hI : xInv i c) : Met l yX0_subjectOf wm_X0_subjectOf_TA ({ frames := 0, cells := 0, slots := 0, locals := 0 }) (va_Pc [.ref (a 155), .int v1, .int w] (yA (a 186) D sz (xwT sk a t i q c d) (xtT t))) (va_Qi (fun (r : Int32) (_ : Unit) => ((r.toInt = (i 156).toInt ∧ (v1.toInt = 0 ∨ 10 ≤ v1.toInt)) ∨ (r.toInt = w.toInt ∧ ¬ (v1.toInt = 0 ∨ 10 ≤ v1.toInt)))) oA (ro sz)) 0 0 (ro sz) := by
  refine Met.ofW (cc := cX0_subjectOf) (maxL := 3) (ret := (some .int)) (by decide) rfl ?_
  intro p e s m args below meth cd s₁ B hml hv
  obtain ⟨rfl, ⟨hsz, hP, hK⟩, hN, hZ⟩ := hv
  have hx := B.exec
  have hb := B.bytes
  have hr := B.returns
  have hts := atoms_spec (ws := wm_X0_subjectOf_TA) B.pre
  have hown : s.vm.findClass RX0 = some m.cls := findClass_of_methodNamed B.named
  have hlocks := B.notSynchronized
  subst hsz
  have hA : ∀ q : Nat, s.heap.size ≤ q → ro s.heap.size q := fun _ h => h
  have hS : va_S (ro s.heap.size) s.heap s.heap [] := va_S.rf
  have hl := lv_entry ([.ref (a 155), .int v1, .int w]) (n := 3) (Nat.le_of_ble_eq_true rfl)
  rw [lg_entry_eq]
  generalize (lg_sl ([.ref (a 155), .int v1, .int w]) ++ List.replicate (3 - (lg_sl ([.ref (a 155), .int v1, .int w])).length) Slot.unset).toArray = ls at hl ⊢
  have hl : lv_has ls 3 [(0, .ref (a 155)), (1, .int v1), (2, .int w)] := hl
  refine lv_iload_n hx hb dX0_subjectOf_0 rfl (lv_at hl 1 rfl) ?_
  refine lv_if_eq (tgt := 10) hx hb dX0_subjectOf_1 (by decide) (fun c1 => ?_) (fun c1 => ?_)
  · have f1 := (ti_eq (a := v1.toInt) (b := 0) rfl (by decide)).mp c1
    refine lv_aload_n hx hb dX0_subjectOf_10 rfl (lv_at hl 0 rfl) ?_
    refine xgT_TA_player (v := (i 156)) rfl hx hb hts (fun _ h => List.mem_cons_of_mem _ (List.mem_append_right _ h)) hown hK hP (hts (.fieldLink RX0 38 "TalePlay$Acts" "player" "I") (by decide +kernel)) dX0_subjectOf_11 ?_
    have rb156_i : (i 156).toInt = -9 ∨ (0 ≤ (i 156).toInt ∧ (i 156).toInt ≤ 29) := hI.1 156
    refine lv_goto (tgt := 18) hx hb dX0_subjectOf_14 (by decide) ?_
    exact ro_iret hx hb hr hlocks hS dX0_subjectOf_18 (show ((i 156).toInt = (i 156).toInt ∧ (v1.toInt = 0 ∨ 10 ≤ v1.toInt)) ∨ ((i 156).toInt = w.toInt ∧ ¬ (v1.toInt = 0 ∨ 10 ≤ v1.toInt)) from by omega)
  · have f1 := mt (ti_eq (a := v1.toInt) (b := 0) rfl (by decide)).mpr c1
    refine lv_iload_n hx hb dX0_subjectOf_4 rfl (lv_at hl 1 rfl) ?_
    refine lv_bipush (v := 10) hx hb dX0_subjectOf_5 (by decide) ?_
    refine lv_icmp_lt (tgt := 17) hx hb dX0_subjectOf_7 (by decide) (fun c2 => ?_) (fun c2 => ?_)
    · have f2 := (ti_lt (a := v1.toInt) (b := 10) rfl (by decide)).mp c2
      refine lv_iload_n hx hb dX0_subjectOf_17 rfl (lv_at hl 2 rfl) ?_
      exact ro_iret hx hb hr hlocks hS dX0_subjectOf_18 (show (w.toInt = (i 156).toInt ∧ (v1.toInt = 0 ∨ 10 ≤ v1.toInt)) ∨ (w.toInt = w.toInt ∧ ¬ (v1.toInt = 0 ∨ 10 ≤ v1.toInt)) from by omega)
    · have f2 := mt (ti_lt (a := v1.toInt) (b := 10) rfl (by decide)).mpr c2
      refine lv_aload_n hx hb dX0_subjectOf_10 rfl (lv_at hl 0 rfl) ?_
      refine xgT_TA_player (v := (i 156)) rfl hx hb hts (fun _ h => List.mem_cons_of_mem _ (List.mem_append_right _ h)) hown hK hP (hts (.fieldLink RX0 38 "TalePlay$Acts" "player" "I") (by decide +kernel)) dX0_subjectOf_11 ?_
      have rb156_i : (i 156).toInt = -9 ∨ (0 ≤ (i 156).toInt ∧ (i 156).toInt ≤ 29) := hI.1 156
      refine lv_goto (tgt := 18) hx hb dX0_subjectOf_14 (by decide) ?_
      exact ro_iret hx hb hr hlocks hS dX0_subjectOf_18 (show ((i 156).toInt = (i 156).toInt ∧ (v1.toInt = 0 ∨ 10 ≤ v1.toInt)) ∨ ((i 156).toInt = w.toInt ∧ ¬ (v1.toInt = 0 ∨ 10 ≤ v1.toInt)) from by omega)

def wm_X0_placedAs_TA : List Cond := .code yX0_placedAs cX0_placedAs 3 (some .int) :: (([.fieldLink RX0 33 "TalePlay$Acts" "scene" "LTalePlay$Scene;", .methodLink RX0 80 yX6_formOf, .instanceMethod yX6_formOf, .selects RX6 yX6_formOf yX6_formOf, .initialized RX6, .code yX6_formOf cX6_formOf 3 (some .int), .fieldLink RX6 9 "TalePlay$Scene" "cells" "[I", .methodLink RX0 83 yX6_holderOf, .instanceMethod yX6_holderOf, .selects RX6 yX6_holderOf yX6_holderOf, .code yX6_holderOf cX6_holderOf 3 (some .int), .methodLink RX0 155 yX6_placed, .static yX6_placed, .code yX6_placed cX6_placed 3 (some .int)] : List Cond) ++ wsX00 ++ wsX60)
set_option maxRecDepth 20000 in
theorem gm_X0_placedAs_TA_X6_formOf_TS_80 : GoodIn wm_X0_placedAs_TA (wsV RX0 80 RX6 yX6_formOf wm_X6_formOf_TS) := goodIn_app (goodIn_of _ (by decide +kernel)) (goodIn_r _ [6, 7, 22, 23] rfl (by decide +kernel))
set_option maxRecDepth 20000 in
theorem gm_X0_placedAs_TA_X6_holderOf_TS_83 : GoodIn wm_X0_placedAs_TA (wsV RX0 83 RX6 yX6_holderOf wm_X6_holderOf_TS) := goodIn_app (goodIn_of _ (by decide +kernel)) (goodIn_r _ [11, 7, 22, 23] rfl (by decide +kernel))
set_option maxRecDepth 20000 in
theorem gm_X0_placedAs_TA_X6_placed_155 : GoodIn wm_X0_placedAs_TA (va_wsS RX0 155 yX6_placed wm_X6_placed) := goodIn_app (goodIn_of _ (by decide +kernel)) (goodIn_r _ [14] rfl (by decide +kernel))
set_option maxHeartbeats 4000000 in
set_option maxRecDepth 100000 in
theorem x_X0_placedAs_TA (l : Launch) (D : va_G) (sz : Nat) (sk : Value) (a : Nat → Nat) (t : Nat → ClassId) (i : Nat → Int32) (q : Int64) (c : Nat → Nat → Int32) (d : Nat → Nat → Int64) (c1 : Int32) (w : Int32) (hI : xInv i c) (hc1 : 0 ≤ c1.toInt ∧ c1.toInt ≤ 16383) (hw : 0 ≤ w.toInt ∧ w.toInt ≤ 29) (hpm : ¬ (c 150 w.toNatClampNeg).toInt % 256 = 255) : Met l yX0_placedAs wm_X0_placedAs_TA ({ frames := 1, cells := 0, slots := 0, locals := 22 }) (va_Pc [.ref (a 155), .int c1, .int w] (yA (a 186) D sz (xwT sk a t i q c d) (xtT t))) (va_Qi (fun (r : Int32) (_ : Unit) => (0 ≤ r.toInt ∧ r.toInt ≤ 16383 ∧ ¬ r.toInt % 256 = 255 ∧ r.toInt % 8 ≤ 4 ∧ r.toInt / 8 % 32 ≤ 29)) oA (ro sz)) 0 0 (ro sz) := by
  refine Met.ofW (cc := cX0_placedAs) (maxL := 3) (ret := (some .int)) (by decide) rfl ?_
  intro p e s m args below meth cd s₁ B hml hv
  obtain ⟨rfl, ⟨hsz, hP, hK⟩, hN, hZ⟩ := hv
  have hx := B.exec
  have hb := B.bytes
  have hr := B.returns
  have hts := atoms_spec (ws := wm_X0_placedAs_TA) B.pre
  have hown : s.vm.findClass RX0 = some m.cls := findClass_of_methodNamed B.named
  have hlocks := B.notSynchronized
  subst hsz
  have hA : ∀ q : Nat, s.heap.size ≤ q → ro s.heap.size q := fun _ h => h
  have hS : va_S (ro s.heap.size) s.heap s.heap [] := va_S.rf
  have hl := lv_entry ([.ref (a 155), .int c1, .int w]) (n := 3) (Nat.le_of_ble_eq_true rfl)
  rw [lg_entry_eq]
  generalize (lg_sl ([.ref (a 155), .int c1, .int w]) ++ List.replicate (3 - (lg_sl ([.ref (a 155), .int c1, .int w])).length) Slot.unset).toArray = ls at hl ⊢
  have hl : lv_has ls 3 [(0, .ref (a 155)), (1, .int c1), (2, .int w)] := hl
  refine lv_iload_n hx hb dX0_placedAs_0 rfl (lv_at hl 1 rfl) ?_
  refine lv_aload_n hx hb dX0_placedAs_1 rfl (lv_at hl 0 rfl) ?_
  refine xgT_TA_scene hx hb hts (fun _ h => List.mem_cons_of_mem _ (List.mem_append_left _ (List.mem_append_right _ h))) hown hK hP (hts (.fieldLink RX0 33 "TalePlay$Acts" "scene" "LTalePlay$Scene;") (by decide +kernel)) dX0_placedAs_2 ?_
  refine lv_iload_n hx hb dX0_placedAs_5 rfl (lv_at hl 2 rfl) ?_
  refine ro_calli (va_runV (As := [.int w]) (rest := [.int c1]) ⟨hx, hb, hml, hown, hts⟩ (x_X6_formOf_TS l D s.heap.size .null a t i q c d w hI (show 0 ≤ w.toInt ∧ w.toInt ≤ 29 from by omega)) (cwV 1 hts gm_X0_placedAs_TA_X6_formOf_TS_80 rfl rfl rfl (by decide +kernel) ⟨Nat.le_of_ble_eq_true rfl, Nat.le_of_ble_eq_true rfl⟩) (yA_V hN (xZ_k hZ hS hA) (xkT_P1 hK) (xuT_P1 (sk := sk) hP) (ci := 6) (q0 := 0) rfl rfl) rfl rfl hl.1 rfl (lv_room (Nat.le_of_ble_eq_true rfl)) dX0_placedAs_6 ⟨Nat.le_of_ble_eq_true rfl, Nat.le_of_ble_eq_true rfl⟩) hS hA hP (fun r1 u1 H locs hw1 hP hS => ?_)
  have hw1 : ((r1.toInt = -9 ∧ (c 150 w.toNatClampNeg).toInt % 256 = 255) ∨ (0 ≤ r1.toInt ∧ r1.toInt ≤ 4 ∧ ¬ (c 150 w.toNatClampNeg).toInt % 256 = 255 ∧ r1.toInt = (c 150 w.toNatClampNeg).toInt % 8)) := hw1
  refine lv_aload_n hx hb dX0_placedAs_9 rfl (lv_at hl 0 rfl) ?_
  refine xgT_TA_scene hx hb hts (fun _ h => List.mem_cons_of_mem _ (List.mem_append_left _ (List.mem_append_right _ h))) hown hK hP (hts (.fieldLink RX0 33 "TalePlay$Acts" "scene" "LTalePlay$Scene;") (by decide +kernel)) dX0_placedAs_10 ?_
  refine lv_iload_n hx hb dX0_placedAs_13 rfl (lv_at hl 2 rfl) ?_
  refine ro_calli (va_runV (As := [.int w]) (rest := [.int r1, .int c1]) ⟨hx, hb, hml, hown, hts⟩ (x_X6_holderOf_TS l D H.size .null a t i q c d w hI (show 0 ≤ w.toInt ∧ w.toInt ≤ 29 from by omega)) (cwV 1 hts gm_X0_placedAs_TA_X6_holderOf_TS_83 rfl rfl rfl (by decide +kernel) ⟨Nat.le_of_ble_eq_true rfl, Nat.le_of_ble_eq_true rfl⟩) (yA_V hN (xZ_k hZ hS hA) (xkT_P1 hK) (xuT_P1 (sk := sk) hP) (ci := 6) (q0 := 0) rfl rfl) rfl rfl hl.1 rfl (lv_room (Nat.le_of_ble_eq_true rfl)) dX0_placedAs_14 ⟨Nat.le_of_ble_eq_true rfl, Nat.le_of_ble_eq_true rfl⟩) hS hA hP (fun r2 u2 H locs hw2 hP hS => ?_)
  have hw2 : ((r2.toInt = -9 ∧ (c 150 w.toNatClampNeg).toInt % 256 = 255) ∨ (0 ≤ r2.toInt ∧ r2.toInt ≤ 29 ∧ ¬ (c 150 w.toNatClampNeg).toInt % 256 = 255 ∧ r2.toInt = (c 150 w.toNatClampNeg).toInt / 8 % 32)) := hw2
  have hPc := hP.sub (ws' := []) [] rfl
  have hKc := hK.sub (tys' := []) [] rfl
  refine ro_calli (va_runS (As := [.int c1, .int r1, .int r2]) (rest := []) ⟨hx, hb, hml, hown, hts⟩ (c_X6_placed l D H.size c1 r1 r2 c1.toInt r1.toInt r2.toInt rfl rfl rfl (by omega) (by omega) (by omega)) (va_cwS 3 hts gm_X0_placedAs_TA_X6_placed_155 rfl rfl rfl (by decide +kernel) ⟨Nat.le_of_ble_eq_true rfl, Nat.le_of_ble_eq_true rfl⟩) (pA_S hKc hPc) rfl rfl hl.1 rfl (lv_room (Nat.le_of_ble_eq_true rfl)) dX0_placedAs_17 ⟨Nat.le_of_ble_eq_true rfl, Nat.le_of_ble_eq_true rfl⟩) hS hA hP (fun r4 u4 H locs hw4 hP hS => ?_)
  have hw4 : r4.toInt = c1.toInt / 256 * 256 + r2.toInt * 8 + r1.toInt := hw4
  exact ro_iret hx hb hr hlocks hS dX0_placedAs_20 (show 0 ≤ r4.toInt ∧ r4.toInt ≤ 16383 ∧ ¬ r4.toInt % 256 = 255 ∧ r4.toInt % 8 ≤ 4 ∧ r4.toInt / 8 % 32 ≤ 29 from by omega)

def wm_X0_outcomeOf_TA : List Cond := .code yX0_outcomeOf cX0_outcomeOf 5 (some .int) :: (([.fieldLink RX0 33 "TalePlay$Acts" "scene" "LTalePlay$Scene;", .fieldLink RX0 149 "TalePlay$Scene" "cells" "[I", .methodLink RX0 152 yX0_subjectOf, .instanceMethod yX0_subjectOf, .selects RX0 yX0_subjectOf yX0_subjectOf, .initialized RX0, .code yX0_subjectOf cX0_subjectOf 3 (some .int), .fieldLink RX0 38 "TalePlay$Acts" "player" "I", .fieldLink RX0 19 "TalePlay$Acts" "roads" "LTalePlay$Roads;", .fieldLink RX0 95 "TalePlay$Roads" "leads" "[I", .methodLink RX0 83 yX6_holderOf, .instanceMethod yX6_holderOf, .selects RX6 yX6_holderOf yX6_holderOf, .initialized RX6, .code yX6_holderOf cX6_holderOf 3 (some .int), .fieldLink RX6 9 "TalePlay$Scene" "cells" "[I", .methodLink RX0 155 yX6_placed, .static yX6_placed, .code yX6_placed cX6_placed 3 (some .int), .methodLink RX0 80 yX6_formOf, .instanceMethod yX6_formOf, .selects RX6 yX6_formOf yX6_formOf, .code yX6_formOf cX6_formOf 3 (some .int), .methodLink RX0 158 yX6_flagged, .static yX6_flagged, .code yX6_flagged cX6_flagged 4 (some .int), .fieldLink RX0 9 "TalePlay$Acts" "world" "LTalePlay$World;", .methodLink RX0 86 yX10_sortOf, .instanceMethod yX10_sortOf, .selects RX10 yX10_sortOf yX10_sortOf, .initialized RX10, .code yX10_sortOf cX10_sortOf 2 (some .int), .fieldLink RX10 37 "TalePlay$World" "objects" "I", .fieldLink RX10 15 "TalePlay$World" "sorts" "[I", .fieldLink RX10 21 "TalePlay$World" "kindOf" "[I", .methodLink RX0 162 yX0_placedAs, .instanceMethod yX0_placedAs, .selects RX0 yX0_placedAs yX0_placedAs, .code yX0_placedAs cX0_placedAs 3 (some .int)] : List Cond) ++ wsX00 ++ wsX60 ++ wsX50 ++ wsX100)
set_option maxRecDepth 20000 in
theorem gm_X0_outcomeOf_TA_X0_subjectOf_TA_152 : GoodIn wm_X0_outcomeOf_TA (wsV RX0 152 RX0 yX0_subjectOf wm_X0_subjectOf_TA) := goodIn_app (goodIn_of _ (by decide +kernel)) (goodIn_r _ [7, 8, 40, 41, 42, 43, 44, 45, 46] rfl (by decide +kernel))
set_option maxRecDepth 20000 in
theorem gm_X0_outcomeOf_TA_X6_holderOf_TS_83 : GoodIn wm_X0_outcomeOf_TA (wsV RX0 83 RX6 yX6_holderOf wm_X6_holderOf_TS) := goodIn_app (goodIn_of _ (by decide +kernel)) (goodIn_r _ [15, 16, 47, 48] rfl (by decide +kernel))
set_option maxRecDepth 20000 in
theorem gm_X0_outcomeOf_TA_X6_placed_155 : GoodIn wm_X0_outcomeOf_TA (va_wsS RX0 155 yX6_placed wm_X6_placed) := goodIn_app (goodIn_of _ (by decide +kernel)) (goodIn_r _ [19] rfl (by decide +kernel))
set_option maxRecDepth 20000 in
theorem gm_X0_outcomeOf_TA_X6_formOf_TS_80 : GoodIn wm_X0_outcomeOf_TA (wsV RX0 80 RX6 yX6_formOf wm_X6_formOf_TS) := goodIn_app (goodIn_of _ (by decide +kernel)) (goodIn_r _ [23, 16, 47, 48] rfl (by decide +kernel))
set_option maxRecDepth 20000 in
theorem gm_X0_outcomeOf_TA_X6_flagged_158 : GoodIn wm_X0_outcomeOf_TA (va_wsS RX0 158 yX6_flagged wm_X6_flagged) := goodIn_app (goodIn_of _ (by decide +kernel)) (goodIn_r _ [26] rfl (by decide +kernel))
set_option maxRecDepth 20000 in
theorem gm_X0_outcomeOf_TA_X10_sortOf_86 : GoodIn wm_X0_outcomeOf_TA (wsV RX0 86 RX10 yX10_sortOf wm_X10_sortOf) := goodIn_app (goodIn_of _ (by decide +kernel)) (goodIn_r _ [32, 33, 34, 35, 60, 61, 62, 63, 64, 65, 66] rfl (by decide +kernel))
set_option maxRecDepth 20000 in
theorem gm_X0_outcomeOf_TA_X0_placedAs_TA_162 : GoodIn wm_X0_outcomeOf_TA (wsV RX0 162 RX0 yX0_placedAs wm_X0_placedAs_TA) := goodIn_app (goodIn_of _ (by decide +kernel)) (goodIn_r _ [39, 1, 20, 21, 22, 14, 23, 16, 11, 12, 13, 15, 17, 18, 19, 40, 41, 42, 43, 44, 45, 46, 47, 48] rfl (by decide +kernel))
set_option maxHeartbeats 4000000 in
set_option maxRecDepth 100000 in
theorem x_X0_outcomeOf_TA (l : Launch) (D : va_G) (sz : Nat) (sk : Value) (a : Nat → Nat) (t : Nat → ClassId) (i : Nat → Int32) (q : Int64) (c : Nat → Nat → Int32) (d : Nat → Nat → Int64) (v1 : Int32) (w : Int32) (w2 : Int32) (hI : xInv i c) (hv1 : 0 ≤ v1.toInt ∧ v1.toInt ≤ 12) (hx0 : v1.toInt = 0 → 0 ≤ w.toInt ∧ w.toInt ≤ 9) (hx1 : 1 ≤ v1.toInt ∧ v1.toInt ≤ 10 → 0 ≤ w.toInt ∧ w.toInt ≤ 29) (hy1 : v1.toInt = 3 ∨ v1.toInt = 4 ∨ v1.toInt = 7 ∨ v1.toInt = 8 → 0 ≤ w2.toInt ∧ w2.toInt ≤ 29) (hpl : 0 ≤ (i 156).toInt ∧ (i 156).toInt ≤ 29) (hag : Im (v1.toInt = 0) (AG (c 150) (c 129) (i 156) w)) (hal : Im (v1.toInt = 11) (AL (c 150) (i 156))) (hdr : Im (v1.toInt = 2) (¬ (c 150 (i 156).toNatClampNeg).toInt % 256 = 255)) : Met l yX0_outcomeOf wm_X0_outcomeOf_TA ({ frames := 2, cells := 0, slots := 0, locals := 44 }) (va_Pc [.ref (a 155), .int v1, .int w, .int w2] (yA (a 186) D sz (xwT sk a t i q c d) (xtT t))) (va_Qi (fun (r : Int32) (_ : Unit) => ((0 ≤ r.toInt ∧ r.toInt ≤ 16383 ∧ (r.toInt % 256 = 255 ∨ (r.toInt % 8 ≤ 4 ∧ r.toInt / 8 % 32 ≤ 29))) ∧ (Im (v1.toInt = 0 ∨ 10 ≤ v1.toInt) (Im (¬ (c 150 (i 156).toNatClampNeg).toInt % 256 = 255) (¬ r.toInt % 256 = 255))) ∧ (Im (¬ (v1.toInt = 0 ∨ 10 ≤ v1.toInt)) (Im (¬ (c 150 w.toNatClampNeg).toInt % 256 = 255) (¬ r.toInt % 256 = 255))))) oA (ro sz)) 0 0 (ro sz) := by
  refine Met.ofW (cc := cX0_outcomeOf) (maxL := 5) (ret := (some .int)) (by decide) rfl ?_
  intro p e s m args below meth cd s₁ B hml hv
  obtain ⟨rfl, ⟨hsz, hP, hK⟩, hN, hZ⟩ := hv
  have hx := B.exec
  have hb := B.bytes
  have hr := B.returns
  have hts := atoms_spec (ws := wm_X0_outcomeOf_TA) B.pre
  have hown : s.vm.findClass RX0 = some m.cls := findClass_of_methodNamed B.named
  have hlocks := B.notSynchronized
  subst hsz
  have hA : ∀ q : Nat, s.heap.size ≤ q → ro s.heap.size q := fun _ h => h
  have hS : va_S (ro s.heap.size) s.heap s.heap [] := va_S.rf
  have hl := lv_entry ([.ref (a 155), .int v1, .int w, .int w2]) (n := 5) (Nat.le_of_ble_eq_true rfl)
  rw [lg_entry_eq]
  generalize (lg_sl ([.ref (a 155), .int v1, .int w, .int w2]) ++ List.replicate (5 - (lg_sl ([.ref (a 155), .int v1, .int w, .int w2])).length) Slot.unset).toArray = ls at hl ⊢
  have hl : lv_has ls 5 [(0, .ref (a 155)), (1, .int v1), (2, .int w), (3, .int w2)] := hl
  refine lv_aload_n hx hb dX0_outcomeOf_0 rfl (lv_at hl 0 rfl) ?_
  refine xgT_TA_scene hx hb hts (fun _ h => List.mem_cons_of_mem _ (List.mem_append_left _ (List.mem_append_left _ (List.mem_append_left _ (List.mem_append_right _ h))))) hown hK hP (hts (.fieldLink RX0 33 "TalePlay$Acts" "scene" "LTalePlay$Scene;") (by decide +kernel)) dX0_outcomeOf_1 ?_
  refine xgT_TS_cells hx hb hts (fun _ h => List.mem_cons_of_mem _ (List.mem_append_left _ (List.mem_append_left _ (List.mem_append_right _ h)))) hown hK hP (hts (.fieldLink RX0 149 "TalePlay$Scene" "cells" "[I") (by decide +kernel)) dX0_outcomeOf_4 ?_
  refine lv_aload_n hx hb dX0_outcomeOf_7 rfl (lv_at hl 0 rfl) ?_
  refine lv_iload_n hx hb dX0_outcomeOf_8 rfl (lv_at hl 1 rfl) ?_
  refine lv_iload_n hx hb dX0_outcomeOf_9 rfl (lv_at hl 2 rfl) ?_
  have rb156_i : (i 156).toInt = -9 ∨ (0 ≤ (i 156).toInt ∧ (i 156).toInt ≤ 29) := hI.1 156
  refine ro_calli (va_runV (As := [.int v1, .int w]) (rest := [.ref (a 150)]) ⟨hx, hb, hml, hown, hts⟩ (x_X0_subjectOf_TA l D s.heap.size sk a t i q c d v1 w hI ) (cwV 2 hts gm_X0_outcomeOf_TA_X0_subjectOf_TA_152 rfl rfl rfl (by decide +kernel) ⟨Nat.le_of_ble_eq_true rfl, Nat.le_of_ble_eq_true rfl⟩) (yA_V hN (xZ_k hZ hS hA) hK hP (ci := 0) (q0 := 42) rfl rfl) rfl rfl hl.1 rfl (lv_room (Nat.le_of_ble_eq_true rfl)) dX0_outcomeOf_10 ⟨Nat.le_of_ble_eq_true rfl, Nat.le_of_ble_eq_true rfl⟩) hS hA hP (fun r1 u1 H locs hw1 hP hS => ?_)
  have hw1 : ((r1.toInt = (i 156).toInt ∧ (v1.toInt = 0 ∨ 10 ≤ v1.toInt)) ∨ (r1.toInt = w.toInt ∧ ¬ (v1.toInt = 0 ∨ 10 ≤ v1.toInt))) := hw1
  refine xlT_150 hx hb hK hP (vp_in_iff.mpr (by have h9 : r1.toInt = r1.toInt := rfl; omega)) dX0_outcomeOf_13 (fun x2 ex2 => ?_)
  have rx2 : 0 ≤ x2.toInt ∧ x2.toInt ≤ 16383 ∧ (x2.toInt % 256 = 255 ∨ (x2.toInt % 8 ≤ 4 ∧ x2.toInt / 8 % 32 ≤ 29)) := by rw [ex2]; exact hI.2 150 _
  have hce1 : Im (v1.toInt = 0 ∨ 10 ≤ v1.toInt) ((c 150 (i 156).toNatClampNeg).toInt = x2.toInt) := fun h9 => by rw [ex2, cl_e (x := r1) (y := (i 156)) (by omega)]
  have hce2 : Im (¬ (v1.toInt = 0 ∨ 10 ≤ v1.toInt)) ((c 150 w.toNatClampNeg).toInt = x2.toInt) := fun h9 => by rw [ex2, cl_e (x := r1) (y := w) (by omega)]
  refine lv_istore (lv' := [(4, .int x2), (0, .ref (a 155)), (1, .int v1), (2, .int w), (3, .int w2)]) hx hb dX0_outcomeOf_14 hl (by decide) rfl (fun ls hl => ?_)
  refine lv_iload_n hx hb dX0_outcomeOf_16 rfl (lv_at hl 2 rfl) ?_
  rcases (show (v1.toInt < 0 ∨ 11 < v1.toInt) ∨ v1.toInt = 0 ∨ v1.toInt = 1 ∨ v1.toInt = 2 ∨ v1.toInt = 3 ∨ v1.toInt = 4 ∨ v1.toInt = 5 ∨ v1.toInt = 6 ∨ v1.toInt = 7 ∨ v1.toInt = 8 ∨ v1.toInt = 9 ∨ v1.toInt = 10 ∨ v1.toInt = 11 by omega) with f3 | f3 | f3 | f3 | f3 | f3 | f3 | f3 | f3 | f3 | f3 | f3 | f3
  · refine lv_tableOut (tgt := 274) hx hb dX0_outcomeOf_17 f3 (by decide) ?_
    refine lv_iload hx hb dX0_outcomeOf_274 (lv_at hl 0 rfl) ?_
    exact ro_iret hx hb hr hlocks hS dX0_outcomeOf_276 ⟨(show 0 ≤ x2.toInt ∧ x2.toInt ≤ 16383 ∧ (x2.toInt % 256 = 255 ∨ (x2.toInt % 8 ≤ 4 ∧ x2.toInt / 8 % 32 ≤ 29)) from by omega), (show Im (v1.toInt = 0 ∨ 10 ≤ v1.toInt) (Im (¬ (c 150 (i 156).toNatClampNeg).toInt % 256 = 255) (¬ x2.toInt % 256 = 255)) from fun h8 h9 => by have h7 := hce1 h8; omega), (show Im (¬ (v1.toInt = 0 ∨ 10 ≤ v1.toInt)) (Im (¬ (c 150 w.toNatClampNeg).toInt % 256 = 255) (¬ x2.toInt % 256 = 255)) from fun h8 h9 => by have h7 := hce2 h8; omega)⟩
  · refine lv_tableIn (off := 63) (tgt := 80) hx hb dX0_outcomeOf_17 (by omega) (by omega) (by rw [f3]; rfl) (by decide) ?_
    refine lv_iload hx hb dX0_outcomeOf_80 (lv_at hl 0 rfl) ?_
    refine lv_iconst (v := 0) hx hb dX0_outcomeOf_82 (by decide) ?_
    refine lv_aload_n hx hb dX0_outcomeOf_83 rfl (lv_at hl 1 rfl) ?_
    refine xgT_TA_roads hx hb hts (fun _ h => List.mem_cons_of_mem _ (List.mem_append_left _ (List.mem_append_left _ (List.mem_append_left _ (List.mem_append_right _ h))))) hown hK hP (hts (.fieldLink RX0 19 "TalePlay$Acts" "roads" "LTalePlay$Roads;") (by decide +kernel)) dX0_outcomeOf_84 ?_
    refine xgT_R_leads hx hb hts (fun _ h => List.mem_cons_of_mem _ (List.mem_append_left _ (List.mem_append_right _ h))) hown hK hP (hts (.fieldLink RX0 95 "TalePlay$Roads" "leads" "[I") (by decide +kernel)) dX0_outcomeOf_87 ?_
    refine lv_aload_n hx hb dX0_outcomeOf_90 rfl (lv_at hl 1 rfl) ?_
    refine xgT_TA_scene hx hb hts (fun _ h => List.mem_cons_of_mem _ (List.mem_append_left _ (List.mem_append_left _ (List.mem_append_left _ (List.mem_append_right _ h))))) hown hK hP (hts (.fieldLink RX0 33 "TalePlay$Acts" "scene" "LTalePlay$Scene;") (by decide +kernel)) dX0_outcomeOf_91 ?_
    refine lv_aload_n hx hb dX0_outcomeOf_94 rfl (lv_at hl 1 rfl) ?_
    refine xgT_TA_player (v := (i 156)) rfl hx hb hts (fun _ h => List.mem_cons_of_mem _ (List.mem_append_left _ (List.mem_append_left _ (List.mem_append_left _ (List.mem_append_right _ h))))) hown hK hP (hts (.fieldLink RX0 38 "TalePlay$Acts" "player" "I") (by decide +kernel)) dX0_outcomeOf_95 ?_
    refine ro_calli (va_runV (As := [.int (i 156)]) (rest := [.ref (a 129), .int 0, .int x2]) ⟨hx, hb, hml, hown, hts⟩ (x_X6_holderOf_TS l D H.size .null a t i q c d (i 156) hI (show 0 ≤ (i 156).toInt ∧ (i 156).toInt ≤ 29 from by omega)) (cwV 1 hts gm_X0_outcomeOf_TA_X6_holderOf_TS_83 rfl rfl rfl (by decide +kernel) ⟨Nat.le_of_ble_eq_true rfl, Nat.le_of_ble_eq_true rfl⟩) (yA_V hN (xZ_k hZ hS hA) (xkT_P1 hK) (xuT_P1 (sk := sk) hP) (ci := 6) (q0 := 0) rfl rfl) rfl rfl hl.1 rfl (lv_room (Nat.le_of_ble_eq_true rfl)) dX0_outcomeOf_98 ⟨Nat.le_of_ble_eq_true rfl, Nat.le_of_ble_eq_true rfl⟩) hS hA hP (fun r4 u4 H locs hw4 hP hS => ?_)
    have hw4 : ((r4.toInt = -9 ∧ (c 150 (i 156).toNatClampNeg).toInt % 256 = 255) ∨ (0 ≤ r4.toInt ∧ r4.toInt ≤ 29 ∧ ¬ (c 150 (i 156).toNatClampNeg).toInt % 256 = 255 ∧ r4.toInt = (c 150 (i 156).toNatClampNeg).toInt / 8 % 32)) := hw4
    have hag2 := hag (by omega)
    have hag3 : ¬ (c 150 (i 156).toNatClampNeg).toInt % 256 = 255 := hag2.1
    refine lv_bipush (v := 10) hx hb dX0_outcomeOf_101 (by decide) ?_
    refine lv_imul hx hb dX0_outcomeOf_103 ?_
    refine lv_topi (fun x5 ex5 => ?_)
    have tx5 := ti_mul (a := r4.toInt) (b := 10) ex5 rfl (by decide) (by omega) (by omega)
    refine lv_iload_n hx hb dX0_outcomeOf_104 rfl (lv_at hl 3 rfl) ?_
    refine lv_iadd hx hb dX0_outcomeOf_105 ?_
    refine lv_topi (fun x6 ex6 => ?_)
    have tx6 := ti_add (a := (r4.toInt * 10)) (b := w.toInt) ex6 tx5 rfl (by omega) (by omega)
    refine xlT_129 hx hb hK hP (vp_in_iff.mpr (by have h9 : x6.toInt = ((r4.toInt * 10) + w.toInt) := tx6; omega)) dX0_outcomeOf_106 (fun x7 ex7 => ?_)
    have rx7 : x7.toInt = -9 ∨ (0 ≤ x7.toInt ∧ x7.toInt ≤ 29) := by rw [ex7]; exact hI.2 129 _
    have hag4 : ¬ x7.toInt = -9 := by have h8 := hag2.2; rw [ix_n (show x6.toInt = (c 150 (i 156).toNatClampNeg).toInt / 8 % 32 * 10 + w.toInt from by have h9 : x6.toInt = ((r4.toInt * 10) + w.toInt) := tx6; omega) ex7] at h8; exact h8
    have hPc := hP.sub (ws' := []) [] rfl
    have hKc := hK.sub (tys' := []) [] rfl
    refine ro_calli (va_runS (As := [.int x2, .int 0, .int x7]) (rest := []) ⟨hx, hb, hml, hown, hts⟩ (c_X6_placed l D H.size x2 0 x7 x2.toInt 0 x7.toInt rfl (by decide) rfl (by omega) (by omega) (by omega)) (va_cwS 3 hts gm_X0_outcomeOf_TA_X6_placed_155 rfl rfl rfl (by decide +kernel) ⟨Nat.le_of_ble_eq_true rfl, Nat.le_of_ble_eq_true rfl⟩) (pA_S hKc hPc) rfl rfl hl.1 rfl (lv_room (Nat.le_of_ble_eq_true rfl)) dX0_outcomeOf_107 ⟨Nat.le_of_ble_eq_true rfl, Nat.le_of_ble_eq_true rfl⟩) hS hA hP (fun r9 u9 H locs hw9 hP hS => ?_)
    have hw9 : r9.toInt = x2.toInt / 256 * 256 + x7.toInt * 8 + 0 := hw9
    refine lv_goto (tgt := 276) hx hb dX0_outcomeOf_110 (by decide) ?_
    exact ro_iret hx hb hr hlocks hS dX0_outcomeOf_276 ⟨(show 0 ≤ r9.toInt ∧ r9.toInt ≤ 16383 ∧ (r9.toInt % 256 = 255 ∨ (r9.toInt % 8 ≤ 4 ∧ r9.toInt / 8 % 32 ≤ 29)) from by omega), (show Im (v1.toInt = 0 ∨ 10 ≤ v1.toInt) (Im (¬ (c 150 (i 156).toNatClampNeg).toInt % 256 = 255) (¬ r9.toInt % 256 = 255)) from fun h8 h9 => by have h7 := hce1 h8; omega), (show Im (¬ (v1.toInt = 0 ∨ 10 ≤ v1.toInt)) (Im (¬ (c 150 w.toNatClampNeg).toInt % 256 = 255) (¬ r9.toInt % 256 = 255)) from fun h8 h9 => by have h7 := hce2 h8; omega)⟩
  · refine lv_tableIn (off := 96) (tgt := 113) hx hb dX0_outcomeOf_17 (by omega) (by omega) (by rw [f3]; rfl) (by decide) ?_
    refine lv_iload hx hb dX0_outcomeOf_113 (lv_at hl 0 rfl) ?_
    refine lv_iconst (v := 2) hx hb dX0_outcomeOf_115 (by decide) ?_
    refine lv_aload_n hx hb dX0_outcomeOf_116 rfl (lv_at hl 1 rfl) ?_
    refine xgT_TA_player (v := (i 156)) rfl hx hb hts (fun _ h => List.mem_cons_of_mem _ (List.mem_append_left _ (List.mem_append_left _ (List.mem_append_left _ (List.mem_append_right _ h))))) hown hK hP (hts (.fieldLink RX0 38 "TalePlay$Acts" "player" "I") (by decide +kernel)) dX0_outcomeOf_117 ?_
    have hPc := hP.sub (ws' := []) [] rfl
    have hKc := hK.sub (tys' := []) [] rfl
    refine ro_calli (va_runS (As := [.int x2, .int 2, .int (i 156)]) (rest := []) ⟨hx, hb, hml, hown, hts⟩ (c_X6_placed l D H.size x2 2 (i 156) x2.toInt 2 ((i 156).toInt) rfl (by decide) rfl (by omega) (by omega) (by omega)) (va_cwS 3 hts gm_X0_outcomeOf_TA_X6_placed_155 rfl rfl rfl (by decide +kernel) ⟨Nat.le_of_ble_eq_true rfl, Nat.le_of_ble_eq_true rfl⟩) (pA_S hKc hPc) rfl rfl hl.1 rfl (lv_room (Nat.le_of_ble_eq_true rfl)) dX0_outcomeOf_120 ⟨Nat.le_of_ble_eq_true rfl, Nat.le_of_ble_eq_true rfl⟩) hS hA hP (fun r11 u11 H locs hw11 hP hS => ?_)
    have hw11 : r11.toInt = x2.toInt / 256 * 256 + ((i 156).toInt) * 8 + 2 := hw11
    refine lv_goto (tgt := 276) hx hb dX0_outcomeOf_123 (by decide) ?_
    exact ro_iret hx hb hr hlocks hS dX0_outcomeOf_276 ⟨(show 0 ≤ r11.toInt ∧ r11.toInt ≤ 16383 ∧ (r11.toInt % 256 = 255 ∨ (r11.toInt % 8 ≤ 4 ∧ r11.toInt / 8 % 32 ≤ 29)) from by omega), (show Im (v1.toInt = 0 ∨ 10 ≤ v1.toInt) (Im (¬ (c 150 (i 156).toNatClampNeg).toInt % 256 = 255) (¬ r11.toInt % 256 = 255)) from fun h8 h9 => by have h7 := hce1 h8; omega), (show Im (¬ (v1.toInt = 0 ∨ 10 ≤ v1.toInt)) (Im (¬ (c 150 w.toNatClampNeg).toInt % 256 = 255) (¬ r11.toInt % 256 = 255)) from fun h8 h9 => by have h7 := hce2 h8; omega)⟩
  · refine lv_tableIn (off := 109) (tgt := 126) hx hb dX0_outcomeOf_17 (by omega) (by omega) (by rw [f3]; rfl) (by decide) ?_
    have hdr2 := hdr (by omega)
    refine lv_iload hx hb dX0_outcomeOf_126 (lv_at hl 0 rfl) ?_
    refine lv_aload_n hx hb dX0_outcomeOf_128 rfl (lv_at hl 1 rfl) ?_
    refine xgT_TA_scene hx hb hts (fun _ h => List.mem_cons_of_mem _ (List.mem_append_left _ (List.mem_append_left _ (List.mem_append_left _ (List.mem_append_right _ h))))) hown hK hP (hts (.fieldLink RX0 33 "TalePlay$Acts" "scene" "LTalePlay$Scene;") (by decide +kernel)) dX0_outcomeOf_129 ?_
    refine lv_aload_n hx hb dX0_outcomeOf_132 rfl (lv_at hl 1 rfl) ?_
    refine xgT_TA_player (v := (i 156)) rfl hx hb hts (fun _ h => List.mem_cons_of_mem _ (List.mem_append_left _ (List.mem_append_left _ (List.mem_append_left _ (List.mem_append_right _ h))))) hown hK hP (hts (.fieldLink RX0 38 "TalePlay$Acts" "player" "I") (by decide +kernel)) dX0_outcomeOf_133 ?_
    refine ro_calli (va_runV (As := [.int (i 156)]) (rest := [.int x2]) ⟨hx, hb, hml, hown, hts⟩ (x_X6_formOf_TS l D H.size .null a t i q c d (i 156) hI (show 0 ≤ (i 156).toInt ∧ (i 156).toInt ≤ 29 from by omega)) (cwV 1 hts gm_X0_outcomeOf_TA_X6_formOf_TS_80 rfl rfl rfl (by decide +kernel) ⟨Nat.le_of_ble_eq_true rfl, Nat.le_of_ble_eq_true rfl⟩) (yA_V hN (xZ_k hZ hS hA) (xkT_P1 hK) (xuT_P1 (sk := sk) hP) (ci := 6) (q0 := 0) rfl rfl) rfl rfl hl.1 rfl (lv_room (Nat.le_of_ble_eq_true rfl)) dX0_outcomeOf_136 ⟨Nat.le_of_ble_eq_true rfl, Nat.le_of_ble_eq_true rfl⟩) hS hA hP (fun r12 u12 H locs hw12 hP hS => ?_)
    have hw12 : ((r12.toInt = -9 ∧ (c 150 (i 156).toNatClampNeg).toInt % 256 = 255) ∨ (0 ≤ r12.toInt ∧ r12.toInt ≤ 4 ∧ ¬ (c 150 (i 156).toNatClampNeg).toInt % 256 = 255 ∧ r12.toInt = (c 150 (i 156).toNatClampNeg).toInt % 8)) := hw12
    refine lv_aload_n hx hb dX0_outcomeOf_139 rfl (lv_at hl 1 rfl) ?_
    refine xgT_TA_scene hx hb hts (fun _ h => List.mem_cons_of_mem _ (List.mem_append_left _ (List.mem_append_left _ (List.mem_append_left _ (List.mem_append_right _ h))))) hown hK hP (hts (.fieldLink RX0 33 "TalePlay$Acts" "scene" "LTalePlay$Scene;") (by decide +kernel)) dX0_outcomeOf_140 ?_
    refine lv_aload_n hx hb dX0_outcomeOf_143 rfl (lv_at hl 1 rfl) ?_
    refine xgT_TA_player (v := (i 156)) rfl hx hb hts (fun _ h => List.mem_cons_of_mem _ (List.mem_append_left _ (List.mem_append_left _ (List.mem_append_left _ (List.mem_append_right _ h))))) hown hK hP (hts (.fieldLink RX0 38 "TalePlay$Acts" "player" "I") (by decide +kernel)) dX0_outcomeOf_144 ?_
    refine ro_calli (va_runV (As := [.int (i 156)]) (rest := [.int r12, .int x2]) ⟨hx, hb, hml, hown, hts⟩ (x_X6_holderOf_TS l D H.size .null a t i q c d (i 156) hI (show 0 ≤ (i 156).toInt ∧ (i 156).toInt ≤ 29 from by omega)) (cwV 1 hts gm_X0_outcomeOf_TA_X6_holderOf_TS_83 rfl rfl rfl (by decide +kernel) ⟨Nat.le_of_ble_eq_true rfl, Nat.le_of_ble_eq_true rfl⟩) (yA_V hN (xZ_k hZ hS hA) (xkT_P1 hK) (xuT_P1 (sk := sk) hP) (ci := 6) (q0 := 0) rfl rfl) rfl rfl hl.1 rfl (lv_room (Nat.le_of_ble_eq_true rfl)) dX0_outcomeOf_147 ⟨Nat.le_of_ble_eq_true rfl, Nat.le_of_ble_eq_true rfl⟩) hS hA hP (fun r13 u13 H locs hw13 hP hS => ?_)
    have hw13 : ((r13.toInt = -9 ∧ (c 150 (i 156).toNatClampNeg).toInt % 256 = 255) ∨ (0 ≤ r13.toInt ∧ r13.toInt ≤ 29 ∧ ¬ (c 150 (i 156).toNatClampNeg).toInt % 256 = 255 ∧ r13.toInt = (c 150 (i 156).toNatClampNeg).toInt / 8 % 32)) := hw13
    have hPc := hP.sub (ws' := []) [] rfl
    have hKc := hK.sub (tys' := []) [] rfl
    refine ro_calli (va_runS (As := [.int x2, .int r12, .int r13]) (rest := []) ⟨hx, hb, hml, hown, hts⟩ (c_X6_placed l D H.size x2 r12 r13 x2.toInt r12.toInt r13.toInt rfl rfl rfl (by omega) (by omega) (by omega)) (va_cwS 3 hts gm_X0_outcomeOf_TA_X6_placed_155 rfl rfl rfl (by decide +kernel) ⟨Nat.le_of_ble_eq_true rfl, Nat.le_of_ble_eq_true rfl⟩) (pA_S hKc hPc) rfl rfl hl.1 rfl (lv_room (Nat.le_of_ble_eq_true rfl)) dX0_outcomeOf_150 ⟨Nat.le_of_ble_eq_true rfl, Nat.le_of_ble_eq_true rfl⟩) hS hA hP (fun r15 u15 H locs hw15 hP hS => ?_)
    have hw15 : r15.toInt = x2.toInt / 256 * 256 + r13.toInt * 8 + r12.toInt := hw15
    refine lv_goto (tgt := 276) hx hb dX0_outcomeOf_153 (by decide) ?_
    exact ro_iret hx hb hr hlocks hS dX0_outcomeOf_276 ⟨(show 0 ≤ r15.toInt ∧ r15.toInt ≤ 16383 ∧ (r15.toInt % 256 = 255 ∨ (r15.toInt % 8 ≤ 4 ∧ r15.toInt / 8 % 32 ≤ 29)) from by omega), (show Im (v1.toInt = 0 ∨ 10 ≤ v1.toInt) (Im (¬ (c 150 (i 156).toNatClampNeg).toInt % 256 = 255) (¬ r15.toInt % 256 = 255)) from fun h8 h9 => by have h7 := hce1 h8; omega), (show Im (¬ (v1.toInt = 0 ∨ 10 ≤ v1.toInt)) (Im (¬ (c 150 w.toNatClampNeg).toInt % 256 = 255) (¬ r15.toInt % 256 = 255)) from fun h8 h9 => by have h7 := hce2 h8; omega)⟩
  · refine lv_tableIn (off := 139) (tgt := 156) hx hb dX0_outcomeOf_17 (by omega) (by omega) (by rw [f3]; rfl) (by decide) ?_
    refine lv_iload hx hb dX0_outcomeOf_156 (lv_at hl 0 rfl) ?_
    refine lv_iconst (v := 0) hx hb dX0_outcomeOf_158 (by decide) ?_
    refine lv_iload_n hx hb dX0_outcomeOf_159 rfl (lv_at hl 4 rfl) ?_
    have hPc := hP.sub (ws' := []) [] rfl
    have hKc := hK.sub (tys' := []) [] rfl
    refine ro_calli (va_runS (As := [.int x2, .int 0, .int w2]) (rest := []) ⟨hx, hb, hml, hown, hts⟩ (c_X6_placed l D H.size x2 0 w2 x2.toInt 0 w2.toInt rfl (by decide) rfl (by omega) (by omega) (by omega)) (va_cwS 3 hts gm_X0_outcomeOf_TA_X6_placed_155 rfl rfl rfl (by decide +kernel) ⟨Nat.le_of_ble_eq_true rfl, Nat.le_of_ble_eq_true rfl⟩) (pA_S hKc hPc) rfl rfl hl.1 rfl (lv_room (Nat.le_of_ble_eq_true rfl)) dX0_outcomeOf_160 ⟨Nat.le_of_ble_eq_true rfl, Nat.le_of_ble_eq_true rfl⟩) hS hA hP (fun r17 u17 H locs hw17 hP hS => ?_)
    have hw17 : r17.toInt = x2.toInt / 256 * 256 + w2.toInt * 8 + 0 := hw17
    refine lv_goto (tgt := 276) hx hb dX0_outcomeOf_163 (by decide) ?_
    exact ro_iret hx hb hr hlocks hS dX0_outcomeOf_276 ⟨(show 0 ≤ r17.toInt ∧ r17.toInt ≤ 16383 ∧ (r17.toInt % 256 = 255 ∨ (r17.toInt % 8 ≤ 4 ∧ r17.toInt / 8 % 32 ≤ 29)) from by omega), (show Im (v1.toInt = 0 ∨ 10 ≤ v1.toInt) (Im (¬ (c 150 (i 156).toNatClampNeg).toInt % 256 = 255) (¬ r17.toInt % 256 = 255)) from fun h8 h9 => by have h7 := hce1 h8; omega), (show Im (¬ (v1.toInt = 0 ∨ 10 ≤ v1.toInt)) (Im (¬ (c 150 w.toNatClampNeg).toInt % 256 = 255) (¬ r17.toInt % 256 = 255)) from fun h8 h9 => by have h7 := hce2 h8; omega)⟩
  · refine lv_tableIn (off := 149) (tgt := 166) hx hb dX0_outcomeOf_17 (by omega) (by omega) (by rw [f3]; rfl) (by decide) ?_
    refine lv_iload hx hb dX0_outcomeOf_166 (lv_at hl 0 rfl) ?_
    refine lv_iconst (v := 1) hx hb dX0_outcomeOf_168 (by decide) ?_
    refine lv_iload_n hx hb dX0_outcomeOf_169 rfl (lv_at hl 4 rfl) ?_
    have hPc := hP.sub (ws' := []) [] rfl
    have hKc := hK.sub (tys' := []) [] rfl
    refine ro_calli (va_runS (As := [.int x2, .int 1, .int w2]) (rest := []) ⟨hx, hb, hml, hown, hts⟩ (c_X6_placed l D H.size x2 1 w2 x2.toInt 1 w2.toInt rfl (by decide) rfl (by omega) (by omega) (by omega)) (va_cwS 3 hts gm_X0_outcomeOf_TA_X6_placed_155 rfl rfl rfl (by decide +kernel) ⟨Nat.le_of_ble_eq_true rfl, Nat.le_of_ble_eq_true rfl⟩) (pA_S hKc hPc) rfl rfl hl.1 rfl (lv_room (Nat.le_of_ble_eq_true rfl)) dX0_outcomeOf_170 ⟨Nat.le_of_ble_eq_true rfl, Nat.le_of_ble_eq_true rfl⟩) hS hA hP (fun r19 u19 H locs hw19 hP hS => ?_)
    have hw19 : r19.toInt = x2.toInt / 256 * 256 + w2.toInt * 8 + 1 := hw19
    refine lv_goto (tgt := 276) hx hb dX0_outcomeOf_173 (by decide) ?_
    exact ro_iret hx hb hr hlocks hS dX0_outcomeOf_276 ⟨(show 0 ≤ r19.toInt ∧ r19.toInt ≤ 16383 ∧ (r19.toInt % 256 = 255 ∨ (r19.toInt % 8 ≤ 4 ∧ r19.toInt / 8 % 32 ≤ 29)) from by omega), (show Im (v1.toInt = 0 ∨ 10 ≤ v1.toInt) (Im (¬ (c 150 (i 156).toNatClampNeg).toInt % 256 = 255) (¬ r19.toInt % 256 = 255)) from fun h8 h9 => by have h7 := hce1 h8; omega), (show Im (¬ (v1.toInt = 0 ∨ 10 ≤ v1.toInt)) (Im (¬ (c 150 w.toNatClampNeg).toInt % 256 = 255) (¬ r19.toInt % 256 = 255)) from fun h8 h9 => by have h7 := hce2 h8; omega)⟩
  · refine lv_tableIn (off := 159) (tgt := 176) hx hb dX0_outcomeOf_17 (by omega) (by omega) (by rw [f3]; rfl) (by decide) ?_
    refine lv_iload hx hb dX0_outcomeOf_176 (lv_at hl 0 rfl) ?_
    refine lv_iconst (v := 0) hx hb dX0_outcomeOf_178 (by decide) ?_
    refine lv_iload_n hx hb dX0_outcomeOf_179 rfl (lv_at hl 2 rfl) ?_
    refine lv_iconst (v := 5) hx hb dX0_outcomeOf_180 (by decide) ?_
    refine lv_icmp_ne (tgt := 188) hx hb dX0_outcomeOf_181 (by decide) (fun c20 => ?_) (fun c20 => ?_)
    · have f20 := mt (ti_eq (a := v1.toInt) (b := 5) rfl (by decide)).mpr c20
      refine lv_iconst (v := 0) hx hb dX0_outcomeOf_188 (by decide) ?_
      have hPc := hP.sub (ws' := []) [] rfl
      have hKc := hK.sub (tys' := []) [] rfl
      refine ro_calli (va_runS (As := [.int x2, .int 0, .int 0]) (rest := []) ⟨hx, hb, hml, hown, hts⟩ (c_X6_flagged l D H.size x2 0 0 x2.toInt 0 rfl (by decide) (by omega) (by omega)) (va_cwS 3 hts gm_X0_outcomeOf_TA_X6_flagged_158 rfl rfl rfl (by decide +kernel) ⟨Nat.le_of_ble_eq_true rfl, Nat.le_of_ble_eq_true rfl⟩) (pA_S hKc hPc) rfl rfl hl.1 rfl (lv_room (Nat.le_of_ble_eq_true rfl)) dX0_outcomeOf_189 ⟨Nat.le_of_ble_eq_true rfl, Nat.le_of_ble_eq_true rfl⟩) hS hA hP (fun r22 u22 H locs hw22 hP hS => ?_)
      have hw22 : 0 ≤ r22.toInt ∧ r22.toInt ≤ 16383 ∧ r22.toInt % 256 = x2.toInt % 256 := hw22
      refine lv_goto (tgt := 276) hx hb dX0_outcomeOf_192 (by decide) ?_
      exact ro_iret hx hb hr hlocks hS dX0_outcomeOf_276 ⟨(show 0 ≤ r22.toInt ∧ r22.toInt ≤ 16383 ∧ (r22.toInt % 256 = 255 ∨ (r22.toInt % 8 ≤ 4 ∧ r22.toInt / 8 % 32 ≤ 29)) from by omega), (show Im (v1.toInt = 0 ∨ 10 ≤ v1.toInt) (Im (¬ (c 150 (i 156).toNatClampNeg).toInt % 256 = 255) (¬ r22.toInt % 256 = 255)) from fun h8 h9 => by have h7 := hce1 h8; omega), (show Im (¬ (v1.toInt = 0 ∨ 10 ≤ v1.toInt)) (Im (¬ (c 150 w.toNatClampNeg).toInt % 256 = 255) (¬ r22.toInt % 256 = 255)) from fun h8 h9 => by have h7 := hce2 h8; omega)⟩
    · have f20 := (ti_eq (a := v1.toInt) (b := 5) rfl (by decide)).mp c20
      refine lv_iconst (v := 1) hx hb dX0_outcomeOf_184 (by decide) ?_
      refine lv_goto (tgt := 189) hx hb dX0_outcomeOf_185 (by decide) ?_
      have hPc := hP.sub (ws' := []) [] rfl
      have hKc := hK.sub (tys' := []) [] rfl
      refine ro_calli (va_runS (As := [.int x2, .int 0, .int 1]) (rest := []) ⟨hx, hb, hml, hown, hts⟩ (c_X6_flagged l D H.size x2 0 1 x2.toInt 0 rfl (by decide) (by omega) (by omega)) (va_cwS 3 hts gm_X0_outcomeOf_TA_X6_flagged_158 rfl rfl rfl (by decide +kernel) ⟨Nat.le_of_ble_eq_true rfl, Nat.le_of_ble_eq_true rfl⟩) (pA_S hKc hPc) rfl rfl hl.1 rfl (lv_room (Nat.le_of_ble_eq_true rfl)) dX0_outcomeOf_189 ⟨Nat.le_of_ble_eq_true rfl, Nat.le_of_ble_eq_true rfl⟩) hS hA hP (fun r24 u24 H locs hw24 hP hS => ?_)
      have hw24 : 0 ≤ r24.toInt ∧ r24.toInt ≤ 16383 ∧ r24.toInt % 256 = x2.toInt % 256 := hw24
      refine lv_goto (tgt := 276) hx hb dX0_outcomeOf_192 (by decide) ?_
      exact ro_iret hx hb hr hlocks hS dX0_outcomeOf_276 ⟨(show 0 ≤ r24.toInt ∧ r24.toInt ≤ 16383 ∧ (r24.toInt % 256 = 255 ∨ (r24.toInt % 8 ≤ 4 ∧ r24.toInt / 8 % 32 ≤ 29)) from by omega), (show Im (v1.toInt = 0 ∨ 10 ≤ v1.toInt) (Im (¬ (c 150 (i 156).toNatClampNeg).toInt % 256 = 255) (¬ r24.toInt % 256 = 255)) from fun h8 h9 => by have h7 := hce1 h8; omega), (show Im (¬ (v1.toInt = 0 ∨ 10 ≤ v1.toInt)) (Im (¬ (c 150 w.toNatClampNeg).toInt % 256 = 255) (¬ r24.toInt % 256 = 255)) from fun h8 h9 => by have h7 := hce2 h8; omega)⟩
  · refine lv_tableIn (off := 159) (tgt := 176) hx hb dX0_outcomeOf_17 (by omega) (by omega) (by rw [f3]; rfl) (by decide) ?_
    refine lv_iload hx hb dX0_outcomeOf_176 (lv_at hl 0 rfl) ?_
    refine lv_iconst (v := 0) hx hb dX0_outcomeOf_178 (by decide) ?_
    refine lv_iload_n hx hb dX0_outcomeOf_179 rfl (lv_at hl 2 rfl) ?_
    refine lv_iconst (v := 5) hx hb dX0_outcomeOf_180 (by decide) ?_
    refine lv_icmp_ne (tgt := 188) hx hb dX0_outcomeOf_181 (by decide) (fun c25 => ?_) (fun c25 => ?_)
    · have f25 := mt (ti_eq (a := v1.toInt) (b := 5) rfl (by decide)).mpr c25
      refine lv_iconst (v := 0) hx hb dX0_outcomeOf_188 (by decide) ?_
      have hPc := hP.sub (ws' := []) [] rfl
      have hKc := hK.sub (tys' := []) [] rfl
      refine ro_calli (va_runS (As := [.int x2, .int 0, .int 0]) (rest := []) ⟨hx, hb, hml, hown, hts⟩ (c_X6_flagged l D H.size x2 0 0 x2.toInt 0 rfl (by decide) (by omega) (by omega)) (va_cwS 3 hts gm_X0_outcomeOf_TA_X6_flagged_158 rfl rfl rfl (by decide +kernel) ⟨Nat.le_of_ble_eq_true rfl, Nat.le_of_ble_eq_true rfl⟩) (pA_S hKc hPc) rfl rfl hl.1 rfl (lv_room (Nat.le_of_ble_eq_true rfl)) dX0_outcomeOf_189 ⟨Nat.le_of_ble_eq_true rfl, Nat.le_of_ble_eq_true rfl⟩) hS hA hP (fun r27 u27 H locs hw27 hP hS => ?_)
      have hw27 : 0 ≤ r27.toInt ∧ r27.toInt ≤ 16383 ∧ r27.toInt % 256 = x2.toInt % 256 := hw27
      refine lv_goto (tgt := 276) hx hb dX0_outcomeOf_192 (by decide) ?_
      exact ro_iret hx hb hr hlocks hS dX0_outcomeOf_276 ⟨(show 0 ≤ r27.toInt ∧ r27.toInt ≤ 16383 ∧ (r27.toInt % 256 = 255 ∨ (r27.toInt % 8 ≤ 4 ∧ r27.toInt / 8 % 32 ≤ 29)) from by omega), (show Im (v1.toInt = 0 ∨ 10 ≤ v1.toInt) (Im (¬ (c 150 (i 156).toNatClampNeg).toInt % 256 = 255) (¬ r27.toInt % 256 = 255)) from fun h8 h9 => by have h7 := hce1 h8; omega), (show Im (¬ (v1.toInt = 0 ∨ 10 ≤ v1.toInt)) (Im (¬ (c 150 w.toNatClampNeg).toInt % 256 = 255) (¬ r27.toInt % 256 = 255)) from fun h8 h9 => by have h7 := hce2 h8; omega)⟩
    · have f25 := (ti_eq (a := v1.toInt) (b := 5) rfl (by decide)).mp c25
      refine lv_iconst (v := 1) hx hb dX0_outcomeOf_184 (by decide) ?_
      refine lv_goto (tgt := 189) hx hb dX0_outcomeOf_185 (by decide) ?_
      have hPc := hP.sub (ws' := []) [] rfl
      have hKc := hK.sub (tys' := []) [] rfl
      refine ro_calli (va_runS (As := [.int x2, .int 0, .int 1]) (rest := []) ⟨hx, hb, hml, hown, hts⟩ (c_X6_flagged l D H.size x2 0 1 x2.toInt 0 rfl (by decide) (by omega) (by omega)) (va_cwS 3 hts gm_X0_outcomeOf_TA_X6_flagged_158 rfl rfl rfl (by decide +kernel) ⟨Nat.le_of_ble_eq_true rfl, Nat.le_of_ble_eq_true rfl⟩) (pA_S hKc hPc) rfl rfl hl.1 rfl (lv_room (Nat.le_of_ble_eq_true rfl)) dX0_outcomeOf_189 ⟨Nat.le_of_ble_eq_true rfl, Nat.le_of_ble_eq_true rfl⟩) hS hA hP (fun r29 u29 H locs hw29 hP hS => ?_)
      have hw29 : 0 ≤ r29.toInt ∧ r29.toInt ≤ 16383 ∧ r29.toInt % 256 = x2.toInt % 256 := hw29
      refine lv_goto (tgt := 276) hx hb dX0_outcomeOf_192 (by decide) ?_
      exact ro_iret hx hb hr hlocks hS dX0_outcomeOf_276 ⟨(show 0 ≤ r29.toInt ∧ r29.toInt ≤ 16383 ∧ (r29.toInt % 256 = 255 ∨ (r29.toInt % 8 ≤ 4 ∧ r29.toInt / 8 % 32 ≤ 29)) from by omega), (show Im (v1.toInt = 0 ∨ 10 ≤ v1.toInt) (Im (¬ (c 150 (i 156).toNatClampNeg).toInt % 256 = 255) (¬ r29.toInt % 256 = 255)) from fun h8 h9 => by have h7 := hce1 h8; omega), (show Im (¬ (v1.toInt = 0 ∨ 10 ≤ v1.toInt)) (Im (¬ (c 150 w.toNatClampNeg).toInt % 256 = 255) (¬ r29.toInt % 256 = 255)) from fun h8 h9 => by have h7 := hce2 h8; omega)⟩
  · refine lv_tableIn (off := 178) (tgt := 195) hx hb dX0_outcomeOf_17 (by omega) (by omega) (by rw [f3]; rfl) (by decide) ?_
    refine lv_iload hx hb dX0_outcomeOf_195 (lv_at hl 0 rfl) ?_
    refine lv_iconst (v := 1) hx hb dX0_outcomeOf_197 (by decide) ?_
    refine lv_iload_n hx hb dX0_outcomeOf_198 rfl (lv_at hl 2 rfl) ?_
    refine lv_bipush (v := 8) hx hb dX0_outcomeOf_199 (by decide) ?_
    refine lv_icmp_ne (tgt := 208) hx hb dX0_outcomeOf_201 (by decide) (fun c30 => ?_) (fun c30 => ?_)
    · have f30 := mt (ti_eq (a := v1.toInt) (b := 8) rfl (by decide)).mpr c30
      refine lv_iconst (v := 0) hx hb dX0_outcomeOf_208 (by decide) ?_
      have hPc := hP.sub (ws' := []) [] rfl
      have hKc := hK.sub (tys' := []) [] rfl
      refine ro_calli (va_runS (As := [.int x2, .int 1, .int 0]) (rest := []) ⟨hx, hb, hml, hown, hts⟩ (c_X6_flagged l D H.size x2 1 0 x2.toInt 1 rfl (by decide) (by omega) (by omega)) (va_cwS 3 hts gm_X0_outcomeOf_TA_X6_flagged_158 rfl rfl rfl (by decide +kernel) ⟨Nat.le_of_ble_eq_true rfl, Nat.le_of_ble_eq_true rfl⟩) (pA_S hKc hPc) rfl rfl hl.1 rfl (lv_room (Nat.le_of_ble_eq_true rfl)) dX0_outcomeOf_209 ⟨Nat.le_of_ble_eq_true rfl, Nat.le_of_ble_eq_true rfl⟩) hS hA hP (fun r32 u32 H locs hw32 hP hS => ?_)
      have hw32 : 0 ≤ r32.toInt ∧ r32.toInt ≤ 16383 ∧ r32.toInt % 256 = x2.toInt % 256 := hw32
      refine lv_goto (tgt := 276) hx hb dX0_outcomeOf_212 (by decide) ?_
      exact ro_iret hx hb hr hlocks hS dX0_outcomeOf_276 ⟨(show 0 ≤ r32.toInt ∧ r32.toInt ≤ 16383 ∧ (r32.toInt % 256 = 255 ∨ (r32.toInt % 8 ≤ 4 ∧ r32.toInt / 8 % 32 ≤ 29)) from by omega), (show Im (v1.toInt = 0 ∨ 10 ≤ v1.toInt) (Im (¬ (c 150 (i 156).toNatClampNeg).toInt % 256 = 255) (¬ r32.toInt % 256 = 255)) from fun h8 h9 => by have h7 := hce1 h8; omega), (show Im (¬ (v1.toInt = 0 ∨ 10 ≤ v1.toInt)) (Im (¬ (c 150 w.toNatClampNeg).toInt % 256 = 255) (¬ r32.toInt % 256 = 255)) from fun h8 h9 => by have h7 := hce2 h8; omega)⟩
    · have f30 := (ti_eq (a := v1.toInt) (b := 8) rfl (by decide)).mp c30
      refine lv_iconst (v := 1) hx hb dX0_outcomeOf_204 (by decide) ?_
      refine lv_goto (tgt := 209) hx hb dX0_outcomeOf_205 (by decide) ?_
      have hPc := hP.sub (ws' := []) [] rfl
      have hKc := hK.sub (tys' := []) [] rfl
      refine ro_calli (va_runS (As := [.int x2, .int 1, .int 1]) (rest := []) ⟨hx, hb, hml, hown, hts⟩ (c_X6_flagged l D H.size x2 1 1 x2.toInt 1 rfl (by decide) (by omega) (by omega)) (va_cwS 3 hts gm_X0_outcomeOf_TA_X6_flagged_158 rfl rfl rfl (by decide +kernel) ⟨Nat.le_of_ble_eq_true rfl, Nat.le_of_ble_eq_true rfl⟩) (pA_S hKc hPc) rfl rfl hl.1 rfl (lv_room (Nat.le_of_ble_eq_true rfl)) dX0_outcomeOf_209 ⟨Nat.le_of_ble_eq_true rfl, Nat.le_of_ble_eq_true rfl⟩) hS hA hP (fun r34 u34 H locs hw34 hP hS => ?_)
      have hw34 : 0 ≤ r34.toInt ∧ r34.toInt ≤ 16383 ∧ r34.toInt % 256 = x2.toInt % 256 := hw34
      refine lv_goto (tgt := 276) hx hb dX0_outcomeOf_212 (by decide) ?_
      exact ro_iret hx hb hr hlocks hS dX0_outcomeOf_276 ⟨(show 0 ≤ r34.toInt ∧ r34.toInt ≤ 16383 ∧ (r34.toInt % 256 = 255 ∨ (r34.toInt % 8 ≤ 4 ∧ r34.toInt / 8 % 32 ≤ 29)) from by omega), (show Im (v1.toInt = 0 ∨ 10 ≤ v1.toInt) (Im (¬ (c 150 (i 156).toNatClampNeg).toInt % 256 = 255) (¬ r34.toInt % 256 = 255)) from fun h8 h9 => by have h7 := hce1 h8; omega), (show Im (¬ (v1.toInt = 0 ∨ 10 ≤ v1.toInt)) (Im (¬ (c 150 w.toNatClampNeg).toInt % 256 = 255) (¬ r34.toInt % 256 = 255)) from fun h8 h9 => by have h7 := hce2 h8; omega)⟩
  · refine lv_tableIn (off := 178) (tgt := 195) hx hb dX0_outcomeOf_17 (by omega) (by omega) (by rw [f3]; rfl) (by decide) ?_
    refine lv_iload hx hb dX0_outcomeOf_195 (lv_at hl 0 rfl) ?_
    refine lv_iconst (v := 1) hx hb dX0_outcomeOf_197 (by decide) ?_
    refine lv_iload_n hx hb dX0_outcomeOf_198 rfl (lv_at hl 2 rfl) ?_
    refine lv_bipush (v := 8) hx hb dX0_outcomeOf_199 (by decide) ?_
    refine lv_icmp_ne (tgt := 208) hx hb dX0_outcomeOf_201 (by decide) (fun c35 => ?_) (fun c35 => ?_)
    · have f35 := mt (ti_eq (a := v1.toInt) (b := 8) rfl (by decide)).mpr c35
      refine lv_iconst (v := 0) hx hb dX0_outcomeOf_208 (by decide) ?_
      have hPc := hP.sub (ws' := []) [] rfl
      have hKc := hK.sub (tys' := []) [] rfl
      refine ro_calli (va_runS (As := [.int x2, .int 1, .int 0]) (rest := []) ⟨hx, hb, hml, hown, hts⟩ (c_X6_flagged l D H.size x2 1 0 x2.toInt 1 rfl (by decide) (by omega) (by omega)) (va_cwS 3 hts gm_X0_outcomeOf_TA_X6_flagged_158 rfl rfl rfl (by decide +kernel) ⟨Nat.le_of_ble_eq_true rfl, Nat.le_of_ble_eq_true rfl⟩) (pA_S hKc hPc) rfl rfl hl.1 rfl (lv_room (Nat.le_of_ble_eq_true rfl)) dX0_outcomeOf_209 ⟨Nat.le_of_ble_eq_true rfl, Nat.le_of_ble_eq_true rfl⟩) hS hA hP (fun r37 u37 H locs hw37 hP hS => ?_)
      have hw37 : 0 ≤ r37.toInt ∧ r37.toInt ≤ 16383 ∧ r37.toInt % 256 = x2.toInt % 256 := hw37
      refine lv_goto (tgt := 276) hx hb dX0_outcomeOf_212 (by decide) ?_
      exact ro_iret hx hb hr hlocks hS dX0_outcomeOf_276 ⟨(show 0 ≤ r37.toInt ∧ r37.toInt ≤ 16383 ∧ (r37.toInt % 256 = 255 ∨ (r37.toInt % 8 ≤ 4 ∧ r37.toInt / 8 % 32 ≤ 29)) from by omega), (show Im (v1.toInt = 0 ∨ 10 ≤ v1.toInt) (Im (¬ (c 150 (i 156).toNatClampNeg).toInt % 256 = 255) (¬ r37.toInt % 256 = 255)) from fun h8 h9 => by have h7 := hce1 h8; omega), (show Im (¬ (v1.toInt = 0 ∨ 10 ≤ v1.toInt)) (Im (¬ (c 150 w.toNatClampNeg).toInt % 256 = 255) (¬ r37.toInt % 256 = 255)) from fun h8 h9 => by have h7 := hce2 h8; omega)⟩
    · have f35 := (ti_eq (a := v1.toInt) (b := 8) rfl (by decide)).mp c35
      refine lv_iconst (v := 1) hx hb dX0_outcomeOf_204 (by decide) ?_
      refine lv_goto (tgt := 209) hx hb dX0_outcomeOf_205 (by decide) ?_
      have hPc := hP.sub (ws' := []) [] rfl
      have hKc := hK.sub (tys' := []) [] rfl
      refine ro_calli (va_runS (As := [.int x2, .int 1, .int 1]) (rest := []) ⟨hx, hb, hml, hown, hts⟩ (c_X6_flagged l D H.size x2 1 1 x2.toInt 1 rfl (by decide) (by omega) (by omega)) (va_cwS 3 hts gm_X0_outcomeOf_TA_X6_flagged_158 rfl rfl rfl (by decide +kernel) ⟨Nat.le_of_ble_eq_true rfl, Nat.le_of_ble_eq_true rfl⟩) (pA_S hKc hPc) rfl rfl hl.1 rfl (lv_room (Nat.le_of_ble_eq_true rfl)) dX0_outcomeOf_209 ⟨Nat.le_of_ble_eq_true rfl, Nat.le_of_ble_eq_true rfl⟩) hS hA hP (fun r39 u39 H locs hw39 hP hS => ?_)
      have hw39 : 0 ≤ r39.toInt ∧ r39.toInt ≤ 16383 ∧ r39.toInt % 256 = x2.toInt % 256 := hw39
      refine lv_goto (tgt := 276) hx hb dX0_outcomeOf_212 (by decide) ?_
      exact ro_iret hx hb hr hlocks hS dX0_outcomeOf_276 ⟨(show 0 ≤ r39.toInt ∧ r39.toInt ≤ 16383 ∧ (r39.toInt % 256 = 255 ∨ (r39.toInt % 8 ≤ 4 ∧ r39.toInt / 8 % 32 ≤ 29)) from by omega), (show Im (v1.toInt = 0 ∨ 10 ≤ v1.toInt) (Im (¬ (c 150 (i 156).toNatClampNeg).toInt % 256 = 255) (¬ r39.toInt % 256 = 255)) from fun h8 h9 => by have h7 := hce1 h8; omega), (show Im (¬ (v1.toInt = 0 ∨ 10 ≤ v1.toInt)) (Im (¬ (c 150 w.toNatClampNeg).toInt % 256 = 255) (¬ r39.toInt % 256 = 255)) from fun h8 h9 => by have h7 := hce2 h8; omega)⟩
  · refine lv_tableIn (off := 198) (tgt := 215) hx hb dX0_outcomeOf_17 (by omega) (by omega) (by rw [f3]; rfl) (by decide) ?_
    refine lv_iload hx hb dX0_outcomeOf_215 (lv_at hl 0 rfl) ?_
    refine lv_iconst (v := 3) hx hb dX0_outcomeOf_217 (by decide) ?_
    refine lv_aload_n hx hb dX0_outcomeOf_218 rfl (lv_at hl 1 rfl) ?_
    refine xgT_TA_player (v := (i 156)) rfl hx hb hts (fun _ h => List.mem_cons_of_mem _ (List.mem_append_left _ (List.mem_append_left _ (List.mem_append_left _ (List.mem_append_right _ h))))) hown hK hP (hts (.fieldLink RX0 38 "TalePlay$Acts" "player" "I") (by decide +kernel)) dX0_outcomeOf_219 ?_
    have hPc := hP.sub (ws' := []) [] rfl
    have hKc := hK.sub (tys' := []) [] rfl
    refine ro_calli (va_runS (As := [.int x2, .int 3, .int (i 156)]) (rest := []) ⟨hx, hb, hml, hown, hts⟩ (c_X6_placed l D H.size x2 3 (i 156) x2.toInt 3 ((i 156).toInt) rfl (by decide) rfl (by omega) (by omega) (by omega)) (va_cwS 3 hts gm_X0_outcomeOf_TA_X6_placed_155 rfl rfl rfl (by decide +kernel) ⟨Nat.le_of_ble_eq_true rfl, Nat.le_of_ble_eq_true rfl⟩) (pA_S hKc hPc) rfl rfl hl.1 rfl (lv_room (Nat.le_of_ble_eq_true rfl)) dX0_outcomeOf_222 ⟨Nat.le_of_ble_eq_true rfl, Nat.le_of_ble_eq_true rfl⟩) hS hA hP (fun r41 u41 H locs hw41 hP hS => ?_)
    have hw41 : r41.toInt = x2.toInt / 256 * 256 + ((i 156).toInt) * 8 + 3 := hw41
    refine lv_goto (tgt := 276) hx hb dX0_outcomeOf_225 (by decide) ?_
    exact ro_iret hx hb hr hlocks hS dX0_outcomeOf_276 ⟨(show 0 ≤ r41.toInt ∧ r41.toInt ≤ 16383 ∧ (r41.toInt % 256 = 255 ∨ (r41.toInt % 8 ≤ 4 ∧ r41.toInt / 8 % 32 ≤ 29)) from by omega), (show Im (v1.toInt = 0 ∨ 10 ≤ v1.toInt) (Im (¬ (c 150 (i 156).toNatClampNeg).toInt % 256 = 255) (¬ r41.toInt % 256 = 255)) from fun h8 h9 => by have h7 := hce1 h8; omega), (show Im (¬ (v1.toInt = 0 ∨ 10 ≤ v1.toInt)) (Im (¬ (c 150 w.toNatClampNeg).toInt % 256 = 255) (¬ r41.toInt % 256 = 255)) from fun h8 h9 => by have h7 := hce2 h8; omega)⟩
  · refine lv_tableIn (off := 211) (tgt := 228) hx hb dX0_outcomeOf_17 (by omega) (by omega) (by rw [f3]; rfl) (by decide) ?_
    refine lv_iload hx hb dX0_outcomeOf_228 (lv_at hl 0 rfl) ?_
    refine lv_aload_n hx hb dX0_outcomeOf_230 rfl (lv_at hl 1 rfl) ?_
    refine xgT_TA_world hx hb hts (fun _ h => List.mem_cons_of_mem _ (List.mem_append_left _ (List.mem_append_left _ (List.mem_append_left _ (List.mem_append_right _ h))))) hown hK hP (hts (.fieldLink RX0 9 "TalePlay$Acts" "world" "LTalePlay$World;") (by decide +kernel)) dX0_outcomeOf_231 ?_
    refine lv_iload_n hx hb dX0_outcomeOf_234 rfl (lv_at hl 3 rfl) ?_
    have rb111_i : 0 ≤ (i 111).toInt ∧ (i 111).toInt ≤ 30 := hI.1 111
    refine ro_calli (va_runV (As := [.int w]) (rest := [.int x2]) ⟨hx, hb, hml, hown, hts⟩ (x_X10_sortOf l D H.size .null a t i q c d w hI ) (cwV 1 hts gm_X0_outcomeOf_TA_X10_sortOf_86 rfl rfl rfl (by decide +kernel) ⟨Nat.le_of_ble_eq_true rfl, Nat.le_of_ble_eq_true rfl⟩) (yA_V hN (xZ_k hZ hS hA) (xkT_W hK) (xuT_W (sk := sk) hP) (ci := 10) (q0 := 0) rfl rfl) rfl rfl hl.1 rfl (lv_room (Nat.le_of_ble_eq_true rfl)) dX0_outcomeOf_235 ⟨Nat.le_of_ble_eq_true rfl, Nat.le_of_ble_eq_true rfl⟩) hS hA hP (fun r42 u42 H locs hw42 hP hS => ?_)
    have hw42 : ((r42.toInt = -9 ∧ ¬ (0 ≤ w.toInt ∧ w.toInt < (i 111).toInt)) ∨ (0 ≤ r42.toInt ∧ r42.toInt ≤ 5 ∧ 0 ≤ w.toInt ∧ w.toInt < (i 111).toInt)) := hw42
    refine lv_iconst (v := 3) hx hb dX0_outcomeOf_238 (by decide) ?_
    refine lv_icmp_ne (tgt := 246) hx hb dX0_outcomeOf_239 (by decide) (fun c43 => ?_) (fun c43 => ?_)
    · have f43 := mt (ti_eq (a := r42.toInt) (b := 3) rfl (by decide)).mpr c43
      refine lv_iconst (v := 1) hx hb dX0_outcomeOf_246 (by decide) ?_
      refine lv_iload_n hx hb dX0_outcomeOf_247 rfl (lv_at hl 3 rfl) ?_
      have hPc := hP.sub (ws' := []) [] rfl
      have hKc := hK.sub (tys' := []) [] rfl
      refine ro_calli (va_runS (As := [.int x2, .int 1, .int w]) (rest := []) ⟨hx, hb, hml, hown, hts⟩ (c_X6_placed l D H.size x2 1 w x2.toInt 1 w.toInt rfl (by decide) rfl (by omega) (by omega) (by omega)) (va_cwS 3 hts gm_X0_outcomeOf_TA_X6_placed_155 rfl rfl rfl (by decide +kernel) ⟨Nat.le_of_ble_eq_true rfl, Nat.le_of_ble_eq_true rfl⟩) (pA_S hKc hPc) rfl rfl hl.1 rfl (lv_room (Nat.le_of_ble_eq_true rfl)) dX0_outcomeOf_248 ⟨Nat.le_of_ble_eq_true rfl, Nat.le_of_ble_eq_true rfl⟩) hS hA hP (fun r45 u45 H locs hw45 hP hS => ?_)
      have hw45 : r45.toInt = x2.toInt / 256 * 256 + w.toInt * 8 + 1 := hw45
      refine lv_goto (tgt := 276) hx hb dX0_outcomeOf_251 (by decide) ?_
      exact ro_iret hx hb hr hlocks hS dX0_outcomeOf_276 ⟨(show 0 ≤ r45.toInt ∧ r45.toInt ≤ 16383 ∧ (r45.toInt % 256 = 255 ∨ (r45.toInt % 8 ≤ 4 ∧ r45.toInt / 8 % 32 ≤ 29)) from by omega), (show Im (v1.toInt = 0 ∨ 10 ≤ v1.toInt) (Im (¬ (c 150 (i 156).toNatClampNeg).toInt % 256 = 255) (¬ r45.toInt % 256 = 255)) from fun h8 h9 => by have h7 := hce1 h8; omega), (show Im (¬ (v1.toInt = 0 ∨ 10 ≤ v1.toInt)) (Im (¬ (c 150 w.toNatClampNeg).toInt % 256 = 255) (¬ r45.toInt % 256 = 255)) from fun h8 h9 => by have h7 := hce2 h8; omega)⟩
    · have f43 := (ti_eq (a := r42.toInt) (b := 3) rfl (by decide)).mp c43
      refine lv_iconst (v := 0) hx hb dX0_outcomeOf_242 (by decide) ?_
      refine lv_goto (tgt := 247) hx hb dX0_outcomeOf_243 (by decide) ?_
      refine lv_iload_n hx hb dX0_outcomeOf_247 rfl (lv_at hl 3 rfl) ?_
      have hPc := hP.sub (ws' := []) [] rfl
      have hKc := hK.sub (tys' := []) [] rfl
      refine ro_calli (va_runS (As := [.int x2, .int 0, .int w]) (rest := []) ⟨hx, hb, hml, hown, hts⟩ (c_X6_placed l D H.size x2 0 w x2.toInt 0 w.toInt rfl (by decide) rfl (by omega) (by omega) (by omega)) (va_cwS 3 hts gm_X0_outcomeOf_TA_X6_placed_155 rfl rfl rfl (by decide +kernel) ⟨Nat.le_of_ble_eq_true rfl, Nat.le_of_ble_eq_true rfl⟩) (pA_S hKc hPc) rfl rfl hl.1 rfl (lv_room (Nat.le_of_ble_eq_true rfl)) dX0_outcomeOf_248 ⟨Nat.le_of_ble_eq_true rfl, Nat.le_of_ble_eq_true rfl⟩) hS hA hP (fun r47 u47 H locs hw47 hP hS => ?_)
      have hw47 : r47.toInt = x2.toInt / 256 * 256 + w.toInt * 8 + 0 := hw47
      refine lv_goto (tgt := 276) hx hb dX0_outcomeOf_251 (by decide) ?_
      exact ro_iret hx hb hr hlocks hS dX0_outcomeOf_276 ⟨(show 0 ≤ r47.toInt ∧ r47.toInt ≤ 16383 ∧ (r47.toInt % 256 = 255 ∨ (r47.toInt % 8 ≤ 4 ∧ r47.toInt / 8 % 32 ≤ 29)) from by omega), (show Im (v1.toInt = 0 ∨ 10 ≤ v1.toInt) (Im (¬ (c 150 (i 156).toNatClampNeg).toInt % 256 = 255) (¬ r47.toInt % 256 = 255)) from fun h8 h9 => by have h7 := hce1 h8; omega), (show Im (¬ (v1.toInt = 0 ∨ 10 ≤ v1.toInt)) (Im (¬ (c 150 w.toNatClampNeg).toInt % 256 = 255) (¬ r47.toInt % 256 = 255)) from fun h8 h9 => by have h7 := hce2 h8; omega)⟩
  · refine lv_tableIn (off := 237) (tgt := 254) hx hb dX0_outcomeOf_17 (by omega) (by omega) (by rw [f3]; rfl) (by decide) ?_
    have hal2 := hal (by omega)
    have hal3 : ¬ (c 150 (i 156).toNatClampNeg).toInt % 256 = 255 := hal2.1
    refine lv_aload_n hx hb dX0_outcomeOf_254 rfl (lv_at hl 1 rfl) ?_
    refine lv_iload hx hb dX0_outcomeOf_255 (lv_at hl 0 rfl) ?_
    refine lv_aload_n hx hb dX0_outcomeOf_257 rfl (lv_at hl 1 rfl) ?_
    refine xgT_TA_scene hx hb hts (fun _ h => List.mem_cons_of_mem _ (List.mem_append_left _ (List.mem_append_left _ (List.mem_append_left _ (List.mem_append_right _ h))))) hown hK hP (hts (.fieldLink RX0 33 "TalePlay$Acts" "scene" "LTalePlay$Scene;") (by decide +kernel)) dX0_outcomeOf_258 ?_
    refine lv_aload_n hx hb dX0_outcomeOf_261 rfl (lv_at hl 1 rfl) ?_
    refine xgT_TA_player (v := (i 156)) rfl hx hb hts (fun _ h => List.mem_cons_of_mem _ (List.mem_append_left _ (List.mem_append_left _ (List.mem_append_left _ (List.mem_append_right _ h))))) hown hK hP (hts (.fieldLink RX0 38 "TalePlay$Acts" "player" "I") (by decide +kernel)) dX0_outcomeOf_262 ?_
    refine ro_calli (va_runV (As := [.int (i 156)]) (rest := [.int x2, .ref (a 155)]) ⟨hx, hb, hml, hown, hts⟩ (x_X6_holderOf_TS l D H.size .null a t i q c d (i 156) hI (show 0 ≤ (i 156).toInt ∧ (i 156).toInt ≤ 29 from by omega)) (cwV 1 hts gm_X0_outcomeOf_TA_X6_holderOf_TS_83 rfl rfl rfl (by decide +kernel) ⟨Nat.le_of_ble_eq_true rfl, Nat.le_of_ble_eq_true rfl⟩) (yA_V hN (xZ_k hZ hS hA) (xkT_P1 hK) (xuT_P1 (sk := sk) hP) (ci := 6) (q0 := 0) rfl rfl) rfl rfl hl.1 rfl (lv_room (Nat.le_of_ble_eq_true rfl)) dX0_outcomeOf_265 ⟨Nat.le_of_ble_eq_true rfl, Nat.le_of_ble_eq_true rfl⟩) hS hA hP (fun r48 u48 H locs hw48 hP hS => ?_)
    have hw48 : ((r48.toInt = -9 ∧ (c 150 (i 156).toNatClampNeg).toInt % 256 = 255) ∨ (0 ≤ r48.toInt ∧ r48.toInt ≤ 29 ∧ ¬ (c 150 (i 156).toNatClampNeg).toInt % 256 = 255 ∧ r48.toInt = (c 150 (i 156).toNatClampNeg).toInt / 8 % 32)) := hw48
    refine ro_calli (va_runV (As := [.int x2, .int r48]) (rest := []) ⟨hx, hb, hml, hown, hts⟩ (x_X0_placedAs_TA l D H.size sk a t i q c d x2 r48 hI (show 0 ≤ x2.toInt ∧ x2.toInt ≤ 16383 from by omega) (show 0 ≤ r48.toInt ∧ r48.toInt ≤ 29 from by omega) (by have h8 := hal2.2; rw [ix_n (f := c 150) (s := r48) (show r48.toInt = (c 150 (i 156).toNatClampNeg).toInt / 8 % 32 from by omega) rfl] at h8; exact h8)) (cwV 2 hts gm_X0_outcomeOf_TA_X0_placedAs_TA_162 rfl rfl rfl (by decide +kernel) ⟨Nat.le_of_ble_eq_true rfl, Nat.le_of_ble_eq_true rfl⟩) (yA_V hN (xZ_k hZ hS hA) hK hP (ci := 0) (q0 := 42) rfl rfl) rfl rfl hl.1 rfl (lv_room (Nat.le_of_ble_eq_true rfl)) dX0_outcomeOf_268 ⟨Nat.le_of_ble_eq_true rfl, Nat.le_of_ble_eq_true rfl⟩) hS hA hP (fun r49 u49 H locs hw49 hP hS => ?_)
    have hw49 : (0 ≤ r49.toInt ∧ r49.toInt ≤ 16383 ∧ ¬ r49.toInt % 256 = 255 ∧ r49.toInt % 8 ≤ 4 ∧ r49.toInt / 8 % 32 ≤ 29) := hw49
    refine lv_goto (tgt := 276) hx hb dX0_outcomeOf_271 (by decide) ?_
    exact ro_iret hx hb hr hlocks hS dX0_outcomeOf_276 ⟨(show 0 ≤ r49.toInt ∧ r49.toInt ≤ 16383 ∧ (r49.toInt % 256 = 255 ∨ (r49.toInt % 8 ≤ 4 ∧ r49.toInt / 8 % 32 ≤ 29)) from by omega), (show Im (v1.toInt = 0 ∨ 10 ≤ v1.toInt) (Im (¬ (c 150 (i 156).toNatClampNeg).toInt % 256 = 255) (¬ r49.toInt % 256 = 255)) from fun h8 h9 => by have h7 := hce1 h8; omega), (show Im (¬ (v1.toInt = 0 ∨ 10 ≤ v1.toInt)) (Im (¬ (c 150 w.toNatClampNeg).toInt % 256 = 255) (¬ r49.toInt % 256 = 255)) from fun h8 h9 => by have h7 := hce2 h8; omega)⟩

def wm_X0_reasonOfX_SA : List Cond := .code yX0_reasonOfX cX0_reasonOfX 3 (some .int) :: (([.methodLink RX0 42 yX0_reasonToGo, .instanceMethod yX0_reasonToGo, .selects RX0 yX0_reasonToGo yX0_reasonToGo, .initialized RX0, .code yX0_reasonToGo cX0_reasonToGo 4 (some .int), .methodLink RX0 91 yX0_isByRoom, .instanceMethod yX0_isByRoom, .selects RX0 yX0_isByRoom yX0_isByRoom, .code yX0_isByRoom cX0_isByRoom 1 (some .boolean), .fieldLink RX0 33 "TalePlay$Acts" "scene" "LTalePlay$Scene;", .fieldLink RX0 38 "TalePlay$Acts" "player" "I", .methodLink RX0 80 yX6_formOf, .instanceMethod yX6_formOf, .selects RX6 yX6_formOf yX6_formOf, .initialized RX6, .code yX6_formOf cX6_formOf 3 (some .int), .fieldLink RX6 9 "TalePlay$Scene" "cells" "[I", .fieldLink RX0 9 "TalePlay$Acts" "world" "LTalePlay$World;", .methodLink RX0 83 yX6_holderOf, .instanceMethod yX6_holderOf, .selects RX6 yX6_holderOf yX6_holderOf, .code yX6_holderOf cX6_holderOf 3 (some .int), .methodLink RX0 86 yX10_sortOf, .instanceMethod yX10_sortOf, .selects RX10 yX10_sortOf yX10_sortOf, .initialized RX10, .code yX10_sortOf cX10_sortOf 2 (some .int), .fieldLink RX10 37 "TalePlay$World" "objects" "I", .fieldLink RX10 15 "TalePlay$World" "sorts" "[I", .fieldLink RX10 21 "TalePlay$World" "kindOf" "[I", .fieldLink RX0 19 "TalePlay$Acts" "roads" "LTalePlay$Roads;", .fieldLink RX0 95 "TalePlay$Roads" "leads" "[I", .fieldLink RX0 101 "TalePlay$Roads" "doors" "[I", .methodLink RX0 104 yX6_has, .instanceMethod yX6_has, .selects RX6 yX6_has yX6_has, .code yX6_has cX6_has 3 (some .boolean), .methodLink RX0 46 yX0_reasonToTake, .instanceMethod yX0_reasonToTake, .selects RX0 yX0_reasonToTake yX0_reasonToTake, .code yX0_reasonToTake cX0_reasonToTake 3 (some .int), .fieldLink RX0 34 "TalePlay$Acts" "sight" "LTalePlay$Sight;", .fieldLink RX0 108 "TalePlay$Sight" "seen" "[Z", .methodLink RX0 112 yX6_isUp, .instanceMethod yX6_isUp, .selects RX6 yX6_isUp yX6_isUp, .code yX6_isUp cX6_isUp 5 (some .boolean), .methodLink RX6 25 yX6_holderOf, .methodLink RX0 49 yX0_isHeld, .instanceMethod yX0_isHeld, .selects RX0 yX0_isHeld yX0_isHeld, .code yX0_isHeld cX0_isHeld 2 (some .boolean), .methodLink RX0 74 yX6_lies, .instanceMethod yX6_lies, .selects RX6 yX6_lies yX6_lies, .code yX6_lies cX6_lies 4 (some .boolean), .methodLink RX0 115 yX10_isGoods, .instanceMethod yX10_isGoods, .selects RX10 yX10_isGoods yX10_isGoods, .code yX10_isGoods cX10_isGoods 2 (some .boolean), .methodLink RX10 44 yX10_isMovable, .instanceMethod yX10_isMovable, .selects RX10 yX10_isMovable yX10_isMovable, .code yX10_isMovable cX10_isMovable 3 (some .boolean), .methodLink RX10 40 yX10_sortOf, .fieldLink RX0 118 "TalePlay$Sight" "reached" "[Z", .methodLink RX0 121 yX0_isAnothers, .instanceMethod yX0_isAnothers, .selects RX0 yX0_isAnothers yX0_isAnothers, .code yX0_isAnothers cX0_isAnothers 4 (some .boolean), .fieldLink RX0 23 "TalePlay$Acts" "bulks" "LTalePlay$Bulks;", .code yX2_weighBy cX2_weighBy 6 (some .int), .fieldLink RX2 15 "TalePlay$Bulks" "world" "LTalePlay$World;", .methodLink RX2 42 yX10_sortOf, .methodLink RX2 45 yX2_noteBodies, .instanceMethod yX2_noteBodies, .selects RX2 yX2_noteBodies yX2_noteBodies, .initialized RX2, .code yX2_noteBodies cX2_noteBodies 2 none, .fieldLink RX2 60 "TalePlay$Bulks" "BODIES" "[I", .methodLink RX2 63 yX2_note, .instanceMethod yX2_note, .selects RX2 yX2_note yX2_note, .code yX2_note cX2_note 2 none, .fieldLink RX2 27 "TalePlay$Bulks" "tracing" "Z", .fieldLink RX2 49 "TalePlay$World" "sizeOf" "[I", .methodLink RX2 52 yX2_weighThose, .instanceMethod yX2_weighThose, .selects RX2 yX2_weighThose yX2_weighThose, .code yX2_weighThose cX2_weighThose 7 (some .int), .fieldLink RX2 31 "TalePlay$World" "objects" "I", .methodLink RX2 56 yX6_lies, .methodLink RX2 23 yX2_weighBy, .instanceMethod yX2_weighBy, .selects RX2 yX2_weighBy yX2_weighBy, .methodLink RX0 53 yX0_reasonOfShutter, .instanceMethod yX0_reasonOfShutter, .selects RX0 yX0_reasonOfShutter yX0_reasonOfShutter, .code yX0_reasonOfShutter cX0_reasonOfShutter 4 (some .int), .methodLink RX0 137 yX10_isShutter, .instanceMethod yX10_isShutter, .selects RX10 yX10_isShutter yX10_isShutter, .code yX10_isShutter cX10_isShutter 3 (some .boolean), .methodLink RX0 140 yX0_reasonOfLeaf, .static yX0_reasonOfLeaf, .code yX0_reasonOfLeaf cX0_reasonOfLeaf 3 (some .int), .methodLink RX0 57 yX0_reasonToWear, .instanceMethod yX0_reasonToWear, .selects RX0 yX0_reasonToWear yX0_reasonToWear, .code yX0_reasonToWear cX0_reasonToWear 2 (some .int), .methodLink RX0 60 yX0_reasonToEnter, .instanceMethod yX0_reasonToEnter, .selects RX0 yX0_reasonToEnter yX0_reasonToEnter, .code yX0_reasonToEnter cX0_reasonToEnter 3 (some .int), .methodLink RX0 63 yX0_reasonToLeave, .instanceMethod yX0_reasonToLeave, .selects RX0 yX0_reasonToLeave yX0_reasonToLeave, .code yX0_reasonToLeave cX0_reasonToLeave 3 (some .int)] : List Cond) ++ wsX00 ++ wsX60 ++ wsX100 ++ wsX50 ++ wsX80 ++ wsX20)
set_option maxRecDepth 20000 in
theorem gm_X0_reasonOfX_SA_X0_reasonToGo_SA_42 : GoodIn wm_X0_reasonOfX_SA (wsV RX0 42 RX0 yX0_reasonToGo wm_X0_reasonToGo_SA) := goodIn_app (goodIn_of _ (by decide +kernel)) (goodIn_r _ [5, 6, 7, 8, 4, 9, 10, 11, 12, 13, 14, 15, 16, 17, 18, 19, 20, 21, 22, 23, 24, 25, 26, 27, 28, 29, 30, 31, 32, 33, 34, 35, 36, 37, 119, 120, 121, 122, 123, 124, 125, 126, 127, 128, 129, 130, 131, 132, 133, 134, 135, 136, 137, 138, 139, 140, 141, 142, 143, 144, 145] rfl (by decide +kernel))
set_option maxRecDepth 20000 in
theorem gm_X0_reasonOfX_SA_X0_reasonToTake_SA_46 : GoodIn wm_X0_reasonOfX_SA (wsV RX0 46 RX0 yX0_reasonToTake wm_X0_reasonToTake_SA) := goodIn_app (goodIn_of _ (by decide +kernel)) (goodIn_r _ [41, 42, 43, 11, 10, 44, 45, 46, 15, 47, 48, 20, 21, 22, 17, 49, 50, 51, 4, 52, 53, 54, 55, 56, 18, 57, 58, 59, 26, 60, 61, 62, 63, 64, 65, 24, 25, 27, 28, 29, 30, 34, 35, 36, 37, 12, 13, 14, 16, 66, 67, 68, 69, 70, 19, 23, 71, 72, 73, 74, 75, 76, 77, 78, 79, 80, 81, 82, 83, 84, 85, 86, 87, 88, 89, 90, 91, 92, 93, 94, 95, 119, 120, 121, 122, 123, 124, 125, 146, 147, 148, 149, 150, 151, 126, 127, 128, 129, 130, 131, 132, 133, 134, 152, 153, 154, 155] rfl (by decide +kernel))
set_option maxRecDepth 20000 in
theorem gm_X0_reasonOfX_SA_X0_isHeld_SA_49 : GoodIn wm_X0_reasonOfX_SA (wsV RX0 49 RX0 yX0_isHeld wm_X0_isHeld_SA) := goodIn_app (goodIn_of _ (by decide +kernel)) (goodIn_r _ [52, 10, 11, 53, 54, 55, 15, 56, 17, 119, 120, 121, 122, 123, 124, 125, 126, 127] rfl (by decide +kernel))
set_option maxRecDepth 20000 in
theorem gm_X0_reasonOfX_SA_X0_reasonOfShutter_SA_53 : GoodIn wm_X0_reasonOfX_SA (wsV RX0 53 RX0 yX0_reasonOfShutter wm_X0_reasonOfShutter_SA) := goodIn_app (goodIn_of _ (by decide +kernel)) (goodIn_r _ [99, 42, 43, 18, 100, 101, 102, 26, 103, 65, 24, 25, 27, 28, 29, 30, 10, 34, 35, 36, 15, 37, 17, 104, 105, 4, 106, 66, 119, 120, 121, 122, 123, 124, 125, 146, 147, 148, 149, 150, 151, 128, 129, 130, 131, 132, 133, 134, 126, 127] rfl (by decide +kernel))
set_option maxRecDepth 20000 in
theorem gm_X0_reasonOfX_SA_X0_reasonToWear_SA_57 : GoodIn wm_X0_reasonOfX_SA (wsV RX0 57 RX0 yX0_reasonToWear wm_X0_reasonToWear_SA) := goodIn_app (goodIn_of _ (by decide +kernel)) (goodIn_r _ [110, 49, 50, 51, 4, 52, 10, 11, 53, 54, 55, 15, 56, 17, 34, 35, 36, 37, 119, 120, 121, 122, 123, 124, 125, 126, 127] rfl (by decide +kernel))
set_option maxRecDepth 20000 in
theorem gm_X0_reasonOfX_SA_X0_reasonToEnter_SA_60 : GoodIn wm_X0_reasonOfX_SA (wsV RX0 60 RX0 yX0_reasonToEnter wm_X0_reasonToEnter_SA) := goodIn_app (goodIn_of _ (by decide +kernel)) (goodIn_r _ [114, 42, 43, 18, 23, 24, 25, 26, 27, 28, 29, 30, 10, 11, 44, 45, 46, 15, 47, 48, 20, 21, 22, 17, 66, 19, 34, 35, 36, 37, 119, 120, 121, 122, 123, 124, 125, 146, 147, 148, 149, 150, 151, 128, 129, 130, 131, 132, 133, 134, 126, 127] rfl (by decide +kernel))
set_option maxRecDepth 20000 in
theorem gm_X0_reasonOfX_SA_X0_reasonToLeave_SA_63 : GoodIn wm_X0_reasonOfX_SA (wsV RX0 63 RX0 yX0_reasonToLeave wm_X0_reasonToLeave_SA) := goodIn_app (goodIn_of _ (by decide +kernel)) (goodIn_r _ [118, 10, 11, 19, 20, 21, 15, 22, 17, 6, 7, 8, 4, 9, 12, 13, 14, 16, 18, 23, 24, 25, 26, 27, 28, 29, 30, 34, 35, 36, 37, 119, 120, 121, 122, 123, 124, 125, 126, 127, 128, 129, 130, 131, 132, 133, 134] rfl (by decide +kernel))
set_option maxHeartbeats 4000000 in
set_option maxRecDepth 100000 in
theorem x_X0_reasonOfX_SA (l : Launch) (D : va_G) (sz : Nat) (sk : Value) (a : Nat → Nat) (t : Nat → ClassId) (i : Nat → Int32) (q : Int64) (c : Nat → Nat → Int32) (d : Nat → Nat → Int64) (v1 : Int32) (w : Int32) (hI : xInv i c) (hx0 : v1.toInt = 0 → 0 ≤ w.toInt ∧ w.toInt ≤ 9) (hx1 : 1 ≤ v1.toInt ∧ v1.toInt ≤ 10 → 0 ≤ w.toInt ∧ w.toInt ≤ 29) (hpl : 0 ≤ (i 185).toInt ∧ (i 185).toInt ≤ 29) (htr : (i 141).toInt = 0) : Met l yX0_reasonOfX wm_X0_reasonOfX_SA ({ frames := 70, cells := 0, slots := 0, locals := 1828 }) (va_Pc [.ref (a 184), .int v1, .int w] (yA (a 186) D sz (xwS sk a t i q c d) (xtS t))) (va_Qi (fun (r : Int32) (_ : Unit) => (True ∧ (Im (r.toInt = 0) (Im (v1.toInt = 0) (AG (c 179) (c 129) (i 185) w))) ∧ (Im (r.toInt = 0) (Im (v1.toInt = 11) (AL (c 179) (i 185)))))) oA (ro sz)) 0 0 (ro sz) := by
  refine Met.ofW (cc := cX0_reasonOfX) (maxL := 3) (ret := (some .int)) (by decide) rfl ?_
  intro p e s m args below meth cd s₁ B hml hv
  obtain ⟨rfl, ⟨hsz, hP, hK⟩, hN, hZ⟩ := hv
  have hx := B.exec
  have hb := B.bytes
  have hr := B.returns
  have hts := atoms_spec (ws := wm_X0_reasonOfX_SA) B.pre
  have hown : s.vm.findClass RX0 = some m.cls := findClass_of_methodNamed B.named
  have hlocks := B.notSynchronized
  subst hsz
  have hA : ∀ q : Nat, s.heap.size ≤ q → ro s.heap.size q := fun _ h => h
  have hS : va_S (ro s.heap.size) s.heap s.heap [] := va_S.rf
  have hl := lv_entry ([.ref (a 184), .int v1, .int w]) (n := 3) (Nat.le_of_ble_eq_true rfl)
  rw [lg_entry_eq]
  generalize (lg_sl ([.ref (a 184), .int v1, .int w]) ++ List.replicate (3 - (lg_sl ([.ref (a 184), .int v1, .int w])).length) Slot.unset).toArray = ls at hl ⊢
  have hl : lv_has ls 3 [(0, .ref (a 184)), (1, .int v1), (2, .int w)] := hl
  refine lv_iload_n hx hb dX0_reasonOfX_0 rfl (lv_at hl 1 rfl) ?_
  rcases (show (v1.toInt < 0 ∨ 11 < v1.toInt) ∨ v1.toInt = 0 ∨ v1.toInt = 1 ∨ v1.toInt = 2 ∨ v1.toInt = 3 ∨ v1.toInt = 4 ∨ v1.toInt = 5 ∨ v1.toInt = 6 ∨ v1.toInt = 7 ∨ v1.toInt = 8 ∨ v1.toInt = 9 ∨ v1.toInt = 10 ∨ v1.toInt = 11 by omega) with f1 | f1 | f1 | f1 | f1 | f1 | f1 | f1 | f1 | f1 | f1 | f1 | f1
  · refine lv_tableOut (tgt := 129) hx hb dX0_reasonOfX_1 f1 (by decide) ?_
    refine lv_iconst (v := 0) hx hb dX0_reasonOfX_129 (by decide) ?_
    exact ro_iret hx hb hr hlocks hS dX0_reasonOfX_130 ⟨trivial, (show Im ((0 : Int32).toInt = 0) (Im (v1.toInt = 0) (AG (c 179) (c 129) (i 185) w)) from fun _ h8 => absurd h8 (by omega)), (show Im ((0 : Int32).toInt = 0) (Im (v1.toInt = 11) (AL (c 179) (i 185))) from fun _ h8 => absurd h8 (by omega))⟩
  · refine lv_tableIn (off := 63) (tgt := 64) hx hb dX0_reasonOfX_1 (by omega) (by omega) (by rw [f1]; rfl) (by decide) ?_
    refine lv_aload_n hx hb dX0_reasonOfX_64 rfl (lv_at hl 0 rfl) ?_
    refine lv_iload_n hx hb dX0_reasonOfX_65 rfl (lv_at hl 2 rfl) ?_
    have rb185_i : (i 185).toInt = -9 ∨ (0 ≤ (i 185).toInt ∧ (i 185).toInt ≤ 29) := hI.1 185
    refine ro_calli (va_runV (As := [.int w]) (rest := []) ⟨hx, hb, hml, hown, hts⟩ (x_X0_reasonToGo_SA l D s.heap.size .null a t i q c d w hI (show 0 ≤ w.toInt ∧ w.toInt ≤ 9 from by omega) (show 0 ≤ ((i 185) : Int32).toInt ∧ ((i 185) : Int32).toInt ≤ 29 from by omega)) (cwV 1 hts gm_X0_reasonOfX_SA_X0_reasonToGo_SA_42 rfl rfl rfl (by decide +kernel) ⟨Nat.le_of_ble_eq_true rfl, Nat.le_of_ble_eq_true rfl⟩) (yA_V hN (xZ_k hZ hS hA) hK hP (ci := 0) (q0 := 43) rfl rfl) rfl rfl hl.1 rfl (lv_room (Nat.le_of_ble_eq_true rfl)) dX0_reasonOfX_66 ⟨Nat.le_of_ble_eq_true rfl, Nat.le_of_ble_eq_true rfl⟩) hS hA hP (fun r2 u2 H locs hw2 hP hS => ?_)
    have hw2 : ((0 ≤ r2.toInt ∧ r2.toInt ≤ 3) ∧ (Im (r2.toInt = 0) (AG (c 179) (c 129) (i 185) w))) := hw2
    obtain ⟨hw2, hr2_0⟩ := hw2
    have hr2_0 : Im (r2.toInt = 0) (AG (c 179) (c 129) (i 185) w) := hr2_0
    refine lv_goto (tgt := 130) hx hb dX0_reasonOfX_69 (by decide) ?_
    exact ro_iret hx hb hr hlocks hS dX0_reasonOfX_130 ⟨trivial, (show Im (r2.toInt = 0) (Im (v1.toInt = 0) (AG (c 179) (c 129) (i 185) w)) from fun h9 _ => hr2_0 h9), (show Im (r2.toInt = 0) (Im (v1.toInt = 11) (AL (c 179) (i 185))) from fun _ h8 => absurd h8 (by omega))⟩
  · refine lv_tableIn (off := 71) (tgt := 72) hx hb dX0_reasonOfX_1 (by omega) (by omega) (by rw [f1]; rfl) (by decide) ?_
    refine lv_aload_n hx hb dX0_reasonOfX_72 rfl (lv_at hl 0 rfl) ?_
    refine lv_iload_n hx hb dX0_reasonOfX_73 rfl (lv_at hl 2 rfl) ?_
    have rb141_i : 0 ≤ (i 141).toInt ∧ (i 141).toInt ≤ 1 := hI.1 141
    have rb185_i : (i 185).toInt = -9 ∨ (0 ≤ (i 185).toInt ∧ (i 185).toInt ≤ 29) := hI.1 185
    refine ro_calli (va_runV (As := [.int w]) (rest := []) ⟨hx, hb, hml, hown, hts⟩ (x_X0_reasonToTake_SA l D s.heap.size .null a t i q c d w hI (show 0 ≤ w.toInt ∧ w.toInt ≤ 29 from by omega) (show 0 ≤ ((i 185) : Int32).toInt ∧ ((i 185) : Int32).toInt ≤ 29 from by omega) (show ((i 141) : Int32).toInt = 0 from by omega)) (cwV 1 hts gm_X0_reasonOfX_SA_X0_reasonToTake_SA_46 rfl rfl rfl (by decide +kernel) ⟨Nat.le_of_ble_eq_true rfl, Nat.le_of_ble_eq_true rfl⟩) (yA_V hN (xZ_k hZ hS hA) hK hP (ci := 0) (q0 := 43) rfl rfl) rfl rfl hl.1 rfl (lv_room (Nat.le_of_ble_eq_true rfl)) dX0_reasonOfX_74 ⟨Nat.le_of_ble_eq_true rfl, Nat.le_of_ble_eq_true rfl⟩) hS hA hP (fun r3 u3 H locs hw3 hP hS => ?_)
    have hw3 : (0 ≤ r3.toInt ∧ r3.toInt ≤ 10) := hw3
    refine lv_goto (tgt := 130) hx hb dX0_reasonOfX_77 (by decide) ?_
    exact ro_iret hx hb hr hlocks hS dX0_reasonOfX_130 ⟨trivial, (show Im (r3.toInt = 0) (Im (v1.toInt = 0) (AG (c 179) (c 129) (i 185) w)) from fun _ h8 => absurd h8 (by omega)), (show Im (r3.toInt = 0) (Im (v1.toInt = 11) (AL (c 179) (i 185))) from fun _ h8 => absurd h8 (by omega))⟩
  · refine lv_tableIn (off := 79) (tgt := 80) hx hb dX0_reasonOfX_1 (by omega) (by omega) (by rw [f1]; rfl) (by decide) ?_
    refine lv_aload_n hx hb dX0_reasonOfX_80 rfl (lv_at hl 0 rfl) ?_
    refine lv_iload_n hx hb dX0_reasonOfX_81 rfl (lv_at hl 2 rfl) ?_
    refine ro_calli (va_runV (As := [.int w]) (rest := []) ⟨hx, hb, hml, hown, hts⟩ (x_X0_isHeld_SA l D s.heap.size .null a t i q c d w hI (show 0 ≤ w.toInt ∧ w.toInt ≤ 29 from by omega)) (cwV 1 hts gm_X0_reasonOfX_SA_X0_isHeld_SA_49 rfl rfl rfl (by decide +kernel) ⟨Nat.le_of_ble_eq_true rfl, Nat.le_of_ble_eq_true rfl⟩) (yA_V hN (xZ_k hZ hS hA) hK hP (ci := 0) (q0 := 43) rfl rfl) rfl rfl hl.1 rfl (lv_room (Nat.le_of_ble_eq_true rfl)) dX0_reasonOfX_82 ⟨Nat.le_of_ble_eq_true rfl, Nat.le_of_ble_eq_true rfl⟩) hS hA hP (fun r4 u4 H locs hw4 hP hS => ?_)
    have hw4 : (0 ≤ r4.toInt ∧ r4.toInt ≤ 1) := hw4
    refine lv_if_eq (tgt := 92) hx hb dX0_reasonOfX_85 (by decide) (fun c5 => ?_) (fun c5 => ?_)
    · have f5 := (ti_eq (a := r4.toInt) (b := 0) rfl (by decide)).mp c5
      refine lv_bipush (v := 11) hx hb dX0_reasonOfX_92 (by decide) ?_
      refine lv_goto (tgt := 130) hx hb dX0_reasonOfX_94 (by decide) ?_
      exact ro_iret hx hb hr hlocks hS dX0_reasonOfX_130 ⟨trivial, (show Im ((11 : Int32).toInt = 0) (Im (v1.toInt = 0) (AG (c 179) (c 129) (i 185) w)) from fun _ h8 => absurd h8 (by omega)), (show Im ((11 : Int32).toInt = 0) (Im (v1.toInt = 11) (AL (c 179) (i 185))) from fun _ h8 => absurd h8 (by omega))⟩
    · have f5 := mt (ti_eq (a := r4.toInt) (b := 0) rfl (by decide)).mpr c5
      refine lv_iconst (v := 0) hx hb dX0_reasonOfX_88 (by decide) ?_
      refine lv_goto (tgt := 130) hx hb dX0_reasonOfX_89 (by decide) ?_
      exact ro_iret hx hb hr hlocks hS dX0_reasonOfX_130 ⟨trivial, (show Im ((0 : Int32).toInt = 0) (Im (v1.toInt = 0) (AG (c 179) (c 129) (i 185) w)) from fun _ h8 => absurd h8 (by omega)), (show Im ((0 : Int32).toInt = 0) (Im (v1.toInt = 11) (AL (c 179) (i 185))) from fun _ h8 => absurd h8 (by omega))⟩
  · refine lv_tableIn (off := 79) (tgt := 80) hx hb dX0_reasonOfX_1 (by omega) (by omega) (by rw [f1]; rfl) (by decide) ?_
    refine lv_aload_n hx hb dX0_reasonOfX_80 rfl (lv_at hl 0 rfl) ?_
    refine lv_iload_n hx hb dX0_reasonOfX_81 rfl (lv_at hl 2 rfl) ?_
    refine ro_calli (va_runV (As := [.int w]) (rest := []) ⟨hx, hb, hml, hown, hts⟩ (x_X0_isHeld_SA l D s.heap.size .null a t i q c d w hI (show 0 ≤ w.toInt ∧ w.toInt ≤ 29 from by omega)) (cwV 1 hts gm_X0_reasonOfX_SA_X0_isHeld_SA_49 rfl rfl rfl (by decide +kernel) ⟨Nat.le_of_ble_eq_true rfl, Nat.le_of_ble_eq_true rfl⟩) (yA_V hN (xZ_k hZ hS hA) hK hP (ci := 0) (q0 := 43) rfl rfl) rfl rfl hl.1 rfl (lv_room (Nat.le_of_ble_eq_true rfl)) dX0_reasonOfX_82 ⟨Nat.le_of_ble_eq_true rfl, Nat.le_of_ble_eq_true rfl⟩) hS hA hP (fun r6 u6 H locs hw6 hP hS => ?_)
    have hw6 : (0 ≤ r6.toInt ∧ r6.toInt ≤ 1) := hw6
    refine lv_if_eq (tgt := 92) hx hb dX0_reasonOfX_85 (by decide) (fun c7 => ?_) (fun c7 => ?_)
    · have f7 := (ti_eq (a := r6.toInt) (b := 0) rfl (by decide)).mp c7
      refine lv_bipush (v := 11) hx hb dX0_reasonOfX_92 (by decide) ?_
      refine lv_goto (tgt := 130) hx hb dX0_reasonOfX_94 (by decide) ?_
      exact ro_iret hx hb hr hlocks hS dX0_reasonOfX_130 ⟨trivial, (show Im ((11 : Int32).toInt = 0) (Im (v1.toInt = 0) (AG (c 179) (c 129) (i 185) w)) from fun _ h8 => absurd h8 (by omega)), (show Im ((11 : Int32).toInt = 0) (Im (v1.toInt = 11) (AL (c 179) (i 185))) from fun _ h8 => absurd h8 (by omega))⟩
    · have f7 := mt (ti_eq (a := r6.toInt) (b := 0) rfl (by decide)).mpr c7
      refine lv_iconst (v := 0) hx hb dX0_reasonOfX_88 (by decide) ?_
      refine lv_goto (tgt := 130) hx hb dX0_reasonOfX_89 (by decide) ?_
      exact ro_iret hx hb hr hlocks hS dX0_reasonOfX_130 ⟨trivial, (show Im ((0 : Int32).toInt = 0) (Im (v1.toInt = 0) (AG (c 179) (c 129) (i 185) w)) from fun _ h8 => absurd h8 (by omega)), (show Im ((0 : Int32).toInt = 0) (Im (v1.toInt = 11) (AL (c 179) (i 185))) from fun _ h8 => absurd h8 (by omega))⟩
  · refine lv_tableIn (off := 79) (tgt := 80) hx hb dX0_reasonOfX_1 (by omega) (by omega) (by rw [f1]; rfl) (by decide) ?_
    refine lv_aload_n hx hb dX0_reasonOfX_80 rfl (lv_at hl 0 rfl) ?_
    refine lv_iload_n hx hb dX0_reasonOfX_81 rfl (lv_at hl 2 rfl) ?_
    refine ro_calli (va_runV (As := [.int w]) (rest := []) ⟨hx, hb, hml, hown, hts⟩ (x_X0_isHeld_SA l D s.heap.size .null a t i q c d w hI (show 0 ≤ w.toInt ∧ w.toInt ≤ 29 from by omega)) (cwV 1 hts gm_X0_reasonOfX_SA_X0_isHeld_SA_49 rfl rfl rfl (by decide +kernel) ⟨Nat.le_of_ble_eq_true rfl, Nat.le_of_ble_eq_true rfl⟩) (yA_V hN (xZ_k hZ hS hA) hK hP (ci := 0) (q0 := 43) rfl rfl) rfl rfl hl.1 rfl (lv_room (Nat.le_of_ble_eq_true rfl)) dX0_reasonOfX_82 ⟨Nat.le_of_ble_eq_true rfl, Nat.le_of_ble_eq_true rfl⟩) hS hA hP (fun r8 u8 H locs hw8 hP hS => ?_)
    have hw8 : (0 ≤ r8.toInt ∧ r8.toInt ≤ 1) := hw8
    refine lv_if_eq (tgt := 92) hx hb dX0_reasonOfX_85 (by decide) (fun c9 => ?_) (fun c9 => ?_)
    · have f9 := (ti_eq (a := r8.toInt) (b := 0) rfl (by decide)).mp c9
      refine lv_bipush (v := 11) hx hb dX0_reasonOfX_92 (by decide) ?_
      refine lv_goto (tgt := 130) hx hb dX0_reasonOfX_94 (by decide) ?_
      exact ro_iret hx hb hr hlocks hS dX0_reasonOfX_130 ⟨trivial, (show Im ((11 : Int32).toInt = 0) (Im (v1.toInt = 0) (AG (c 179) (c 129) (i 185) w)) from fun _ h8 => absurd h8 (by omega)), (show Im ((11 : Int32).toInt = 0) (Im (v1.toInt = 11) (AL (c 179) (i 185))) from fun _ h8 => absurd h8 (by omega))⟩
    · have f9 := mt (ti_eq (a := r8.toInt) (b := 0) rfl (by decide)).mpr c9
      refine lv_iconst (v := 0) hx hb dX0_reasonOfX_88 (by decide) ?_
      refine lv_goto (tgt := 130) hx hb dX0_reasonOfX_89 (by decide) ?_
      exact ro_iret hx hb hr hlocks hS dX0_reasonOfX_130 ⟨trivial, (show Im ((0 : Int32).toInt = 0) (Im (v1.toInt = 0) (AG (c 179) (c 129) (i 185) w)) from fun _ h8 => absurd h8 (by omega)), (show Im ((0 : Int32).toInt = 0) (Im (v1.toInt = 11) (AL (c 179) (i 185))) from fun _ h8 => absurd h8 (by omega))⟩
  · refine lv_tableIn (off := 96) (tgt := 97) hx hb dX0_reasonOfX_1 (by omega) (by omega) (by rw [f1]; rfl) (by decide) ?_
    refine lv_aload_n hx hb dX0_reasonOfX_97 rfl (lv_at hl 0 rfl) ?_
    refine lv_iload_n hx hb dX0_reasonOfX_98 rfl (lv_at hl 1 rfl) ?_
    refine lv_iload_n hx hb dX0_reasonOfX_99 rfl (lv_at hl 2 rfl) ?_
    refine ro_calli (va_runV (As := [.int v1, .int w]) (rest := []) ⟨hx, hb, hml, hown, hts⟩ (x_X0_reasonOfShutter_SA l D s.heap.size .null a t i q c d v1 w hI (show 0 ≤ w.toInt ∧ w.toInt ≤ 29 from by omega)) (cwV 2 hts gm_X0_reasonOfX_SA_X0_reasonOfShutter_SA_53 rfl rfl rfl (by decide +kernel) ⟨Nat.le_of_ble_eq_true rfl, Nat.le_of_ble_eq_true rfl⟩) (yA_V hN (xZ_k hZ hS hA) hK hP (ci := 0) (q0 := 43) rfl rfl) rfl rfl hl.1 rfl (lv_room (Nat.le_of_ble_eq_true rfl)) dX0_reasonOfX_100 ⟨Nat.le_of_ble_eq_true rfl, Nat.le_of_ble_eq_true rfl⟩) hS hA hP (fun r10 u10 H locs hw10 hP hS => ?_)
    refine lv_goto (tgt := 130) hx hb dX0_reasonOfX_103 (by decide) ?_
    exact ro_iret hx hb hr hlocks hS dX0_reasonOfX_130 ⟨trivial, (show Im (r10.toInt = 0) (Im (v1.toInt = 0) (AG (c 179) (c 129) (i 185) w)) from fun _ h8 => absurd h8 (by omega)), (show Im (r10.toInt = 0) (Im (v1.toInt = 11) (AL (c 179) (i 185))) from fun _ h8 => absurd h8 (by omega))⟩
  · refine lv_tableIn (off := 96) (tgt := 97) hx hb dX0_reasonOfX_1 (by omega) (by omega) (by rw [f1]; rfl) (by decide) ?_
    refine lv_aload_n hx hb dX0_reasonOfX_97 rfl (lv_at hl 0 rfl) ?_
    refine lv_iload_n hx hb dX0_reasonOfX_98 rfl (lv_at hl 1 rfl) ?_
    refine lv_iload_n hx hb dX0_reasonOfX_99 rfl (lv_at hl 2 rfl) ?_
    refine ro_calli (va_runV (As := [.int v1, .int w]) (rest := []) ⟨hx, hb, hml, hown, hts⟩ (x_X0_reasonOfShutter_SA l D s.heap.size .null a t i q c d v1 w hI (show 0 ≤ w.toInt ∧ w.toInt ≤ 29 from by omega)) (cwV 2 hts gm_X0_reasonOfX_SA_X0_reasonOfShutter_SA_53 rfl rfl rfl (by decide +kernel) ⟨Nat.le_of_ble_eq_true rfl, Nat.le_of_ble_eq_true rfl⟩) (yA_V hN (xZ_k hZ hS hA) hK hP (ci := 0) (q0 := 43) rfl rfl) rfl rfl hl.1 rfl (lv_room (Nat.le_of_ble_eq_true rfl)) dX0_reasonOfX_100 ⟨Nat.le_of_ble_eq_true rfl, Nat.le_of_ble_eq_true rfl⟩) hS hA hP (fun r11 u11 H locs hw11 hP hS => ?_)
    refine lv_goto (tgt := 130) hx hb dX0_reasonOfX_103 (by decide) ?_
    exact ro_iret hx hb hr hlocks hS dX0_reasonOfX_130 ⟨trivial, (show Im (r11.toInt = 0) (Im (v1.toInt = 0) (AG (c 179) (c 129) (i 185) w)) from fun _ h8 => absurd h8 (by omega)), (show Im (r11.toInt = 0) (Im (v1.toInt = 11) (AL (c 179) (i 185))) from fun _ h8 => absurd h8 (by omega))⟩
  · refine lv_tableIn (off := 96) (tgt := 97) hx hb dX0_reasonOfX_1 (by omega) (by omega) (by rw [f1]; rfl) (by decide) ?_
    refine lv_aload_n hx hb dX0_reasonOfX_97 rfl (lv_at hl 0 rfl) ?_
    refine lv_iload_n hx hb dX0_reasonOfX_98 rfl (lv_at hl 1 rfl) ?_
    refine lv_iload_n hx hb dX0_reasonOfX_99 rfl (lv_at hl 2 rfl) ?_
    refine ro_calli (va_runV (As := [.int v1, .int w]) (rest := []) ⟨hx, hb, hml, hown, hts⟩ (x_X0_reasonOfShutter_SA l D s.heap.size .null a t i q c d v1 w hI (show 0 ≤ w.toInt ∧ w.toInt ≤ 29 from by omega)) (cwV 2 hts gm_X0_reasonOfX_SA_X0_reasonOfShutter_SA_53 rfl rfl rfl (by decide +kernel) ⟨Nat.le_of_ble_eq_true rfl, Nat.le_of_ble_eq_true rfl⟩) (yA_V hN (xZ_k hZ hS hA) hK hP (ci := 0) (q0 := 43) rfl rfl) rfl rfl hl.1 rfl (lv_room (Nat.le_of_ble_eq_true rfl)) dX0_reasonOfX_100 ⟨Nat.le_of_ble_eq_true rfl, Nat.le_of_ble_eq_true rfl⟩) hS hA hP (fun r12 u12 H locs hw12 hP hS => ?_)
    refine lv_goto (tgt := 130) hx hb dX0_reasonOfX_103 (by decide) ?_
    exact ro_iret hx hb hr hlocks hS dX0_reasonOfX_130 ⟨trivial, (show Im (r12.toInt = 0) (Im (v1.toInt = 0) (AG (c 179) (c 129) (i 185) w)) from fun _ h8 => absurd h8 (by omega)), (show Im (r12.toInt = 0) (Im (v1.toInt = 11) (AL (c 179) (i 185))) from fun _ h8 => absurd h8 (by omega))⟩
  · refine lv_tableIn (off := 96) (tgt := 97) hx hb dX0_reasonOfX_1 (by omega) (by omega) (by rw [f1]; rfl) (by decide) ?_
    refine lv_aload_n hx hb dX0_reasonOfX_97 rfl (lv_at hl 0 rfl) ?_
    refine lv_iload_n hx hb dX0_reasonOfX_98 rfl (lv_at hl 1 rfl) ?_
    refine lv_iload_n hx hb dX0_reasonOfX_99 rfl (lv_at hl 2 rfl) ?_
    refine ro_calli (va_runV (As := [.int v1, .int w]) (rest := []) ⟨hx, hb, hml, hown, hts⟩ (x_X0_reasonOfShutter_SA l D s.heap.size .null a t i q c d v1 w hI (show 0 ≤ w.toInt ∧ w.toInt ≤ 29 from by omega)) (cwV 2 hts gm_X0_reasonOfX_SA_X0_reasonOfShutter_SA_53 rfl rfl rfl (by decide +kernel) ⟨Nat.le_of_ble_eq_true rfl, Nat.le_of_ble_eq_true rfl⟩) (yA_V hN (xZ_k hZ hS hA) hK hP (ci := 0) (q0 := 43) rfl rfl) rfl rfl hl.1 rfl (lv_room (Nat.le_of_ble_eq_true rfl)) dX0_reasonOfX_100 ⟨Nat.le_of_ble_eq_true rfl, Nat.le_of_ble_eq_true rfl⟩) hS hA hP (fun r13 u13 H locs hw13 hP hS => ?_)
    refine lv_goto (tgt := 130) hx hb dX0_reasonOfX_103 (by decide) ?_
    exact ro_iret hx hb hr hlocks hS dX0_reasonOfX_130 ⟨trivial, (show Im (r13.toInt = 0) (Im (v1.toInt = 0) (AG (c 179) (c 129) (i 185) w)) from fun _ h8 => absurd h8 (by omega)), (show Im (r13.toInt = 0) (Im (v1.toInt = 11) (AL (c 179) (i 185))) from fun _ h8 => absurd h8 (by omega))⟩
  · refine lv_tableIn (off := 105) (tgt := 106) hx hb dX0_reasonOfX_1 (by omega) (by omega) (by rw [f1]; rfl) (by decide) ?_
    refine lv_aload_n hx hb dX0_reasonOfX_106 rfl (lv_at hl 0 rfl) ?_
    refine lv_iload_n hx hb dX0_reasonOfX_107 rfl (lv_at hl 2 rfl) ?_
    refine ro_calli (va_runV (As := [.int w]) (rest := []) ⟨hx, hb, hml, hown, hts⟩ (x_X0_reasonToWear_SA l D s.heap.size .null a t i q c d w hI (show 0 ≤ w.toInt ∧ w.toInt ≤ 29 from by omega)) (cwV 1 hts gm_X0_reasonOfX_SA_X0_reasonToWear_SA_57 rfl rfl rfl (by decide +kernel) ⟨Nat.le_of_ble_eq_true rfl, Nat.le_of_ble_eq_true rfl⟩) (yA_V hN (xZ_k hZ hS hA) hK hP (ci := 0) (q0 := 43) rfl rfl) rfl rfl hl.1 rfl (lv_room (Nat.le_of_ble_eq_true rfl)) dX0_reasonOfX_108 ⟨Nat.le_of_ble_eq_true rfl, Nat.le_of_ble_eq_true rfl⟩) hS hA hP (fun r14 u14 H locs hw14 hP hS => ?_)
    have hw14 : (0 ≤ r14.toInt ∧ r14.toInt ≤ 19) := hw14
    refine lv_goto (tgt := 130) hx hb dX0_reasonOfX_111 (by decide) ?_
    exact ro_iret hx hb hr hlocks hS dX0_reasonOfX_130 ⟨trivial, (show Im (r14.toInt = 0) (Im (v1.toInt = 0) (AG (c 179) (c 129) (i 185) w)) from fun _ h8 => absurd h8 (by omega)), (show Im (r14.toInt = 0) (Im (v1.toInt = 11) (AL (c 179) (i 185))) from fun _ h8 => absurd h8 (by omega))⟩
  · refine lv_tableIn (off := 113) (tgt := 114) hx hb dX0_reasonOfX_1 (by omega) (by omega) (by rw [f1]; rfl) (by decide) ?_
    refine lv_aload_n hx hb dX0_reasonOfX_114 rfl (lv_at hl 0 rfl) ?_
    refine lv_iload_n hx hb dX0_reasonOfX_115 rfl (lv_at hl 2 rfl) ?_
    have rb185_i : (i 185).toInt = -9 ∨ (0 ≤ (i 185).toInt ∧ (i 185).toInt ≤ 29) := hI.1 185
    refine ro_calli (va_runV (As := [.int w]) (rest := []) ⟨hx, hb, hml, hown, hts⟩ (x_X0_reasonToEnter_SA l D s.heap.size .null a t i q c d w hI (show 0 ≤ w.toInt ∧ w.toInt ≤ 29 from by omega) (show 0 ≤ ((i 185) : Int32).toInt ∧ ((i 185) : Int32).toInt ≤ 29 from by omega)) (cwV 1 hts gm_X0_reasonOfX_SA_X0_reasonToEnter_SA_60 rfl rfl rfl (by decide +kernel) ⟨Nat.le_of_ble_eq_true rfl, Nat.le_of_ble_eq_true rfl⟩) (yA_V hN (xZ_k hZ hS hA) hK hP (ci := 0) (q0 := 43) rfl rfl) rfl rfl hl.1 rfl (lv_room (Nat.le_of_ble_eq_true rfl)) dX0_reasonOfX_116 ⟨Nat.le_of_ble_eq_true rfl, Nat.le_of_ble_eq_true rfl⟩) hS hA hP (fun r15 u15 H locs hw15 hP hS => ?_)
    have hw15 : (0 ≤ r15.toInt ∧ r15.toInt ≤ 20) := hw15
    refine lv_goto (tgt := 130) hx hb dX0_reasonOfX_119 (by decide) ?_
    exact ro_iret hx hb hr hlocks hS dX0_reasonOfX_130 ⟨trivial, (show Im (r15.toInt = 0) (Im (v1.toInt = 0) (AG (c 179) (c 129) (i 185) w)) from fun _ h8 => absurd h8 (by omega)), (show Im (r15.toInt = 0) (Im (v1.toInt = 11) (AL (c 179) (i 185))) from fun _ h8 => absurd h8 (by omega))⟩
  · refine lv_tableIn (off := 121) (tgt := 122) hx hb dX0_reasonOfX_1 (by omega) (by omega) (by rw [f1]; rfl) (by decide) ?_
    refine lv_aload_n hx hb dX0_reasonOfX_122 rfl (lv_at hl 0 rfl) ?_
    have rb185_i : (i 185).toInt = -9 ∨ (0 ≤ (i 185).toInt ∧ (i 185).toInt ≤ 29) := hI.1 185
    refine ro_calli (va_runV (As := []) (rest := []) ⟨hx, hb, hml, hown, hts⟩ (x_X0_reasonToLeave_SA l D s.heap.size .null a t i q c d  hI (show 0 ≤ ((i 185) : Int32).toInt ∧ ((i 185) : Int32).toInt ≤ 29 from by omega)) (cwV 0 hts gm_X0_reasonOfX_SA_X0_reasonToLeave_SA_63 rfl rfl rfl (by decide +kernel) ⟨Nat.le_of_ble_eq_true rfl, Nat.le_of_ble_eq_true rfl⟩) (yA_V hN (xZ_k hZ hS hA) hK hP (ci := 0) (q0 := 43) rfl rfl) rfl rfl hl.1 rfl (lv_room (Nat.le_of_ble_eq_true rfl)) dX0_reasonOfX_123 ⟨Nat.le_of_ble_eq_true rfl, Nat.le_of_ble_eq_true rfl⟩) hS hA hP (fun r16 u16 H locs hw16 hP hS => ?_)
    have hw16 : ((0 ≤ r16.toInt ∧ r16.toInt ≤ 21) ∧ (Im (r16.toInt = 0) (AL (c 179) (i 185)))) := hw16
    obtain ⟨hw16, hr16_0⟩ := hw16
    have hr16_0 : Im (r16.toInt = 0) (AL (c 179) (i 185)) := hr16_0
    refine lv_goto (tgt := 130) hx hb dX0_reasonOfX_126 (by decide) ?_
    exact ro_iret hx hb hr hlocks hS dX0_reasonOfX_130 ⟨trivial, (show Im (r16.toInt = 0) (Im (v1.toInt = 0) (AG (c 179) (c 129) (i 185) w)) from fun _ h8 => absurd h8 (by omega)), (show Im (r16.toInt = 0) (Im (v1.toInt = 11) (AL (c 179) (i 185))) from fun h9 _ => hr16_0 h9)⟩

def wm_X0_reasonOfY_SA : List Cond := .code yX0_reasonOfY cX0_reasonOfY 4 (some .int) :: (([.methodLink RX0 67 yX0_reasonToPut, .instanceMethod yX0_reasonToPut, .selects RX0 yX0_reasonToPut yX0_reasonToPut, .initialized RX0, .code yX0_reasonToPut cX0_reasonToPut 4 (some .int), .fieldLink RX0 34 "TalePlay$Acts" "sight" "LTalePlay$Sight;", .fieldLink RX0 108 "TalePlay$Sight" "seen" "[Z", .fieldLink RX0 9 "TalePlay$Acts" "world" "LTalePlay$World;", .methodLink RX0 86 yX10_sortOf, .instanceMethod yX10_sortOf, .selects RX10 yX10_sortOf yX10_sortOf, .initialized RX10, .code yX10_sortOf cX10_sortOf 2 (some .int), .fieldLink RX10 37 "TalePlay$World" "objects" "I", .fieldLink RX10 15 "TalePlay$World" "sorts" "[I", .fieldLink RX10 21 "TalePlay$World" "kindOf" "[I", .fieldLink RX0 33 "TalePlay$Acts" "scene" "LTalePlay$Scene;", .methodLink RX0 112 yX6_isUp, .instanceMethod yX6_isUp, .selects RX6 yX6_isUp yX6_isUp, .initialized RX6, .code yX6_isUp cX6_isUp 5 (some .boolean), .methodLink RX6 25 yX6_holderOf, .instanceMethod yX6_holderOf, .selects RX6 yX6_holderOf yX6_holderOf, .code yX6_holderOf cX6_holderOf 3 (some .int), .fieldLink RX6 9 "TalePlay$Scene" "cells" "[I", .fieldLink RX0 118 "TalePlay$Sight" "reached" "[Z", .methodLink RX0 134 yX6_countOf, .instanceMethod yX6_countOf, .selects RX6 yX6_countOf yX6_countOf, .code yX6_countOf cX6_countOf 5 (some .int), .fieldLink RX6 15 "TalePlay$Scene" "world" "LTalePlay$World;", .fieldLink RX6 34 "TalePlay$World" "objects" "I", .methodLink RX6 38 yX6_lies, .instanceMethod yX6_lies, .selects RX6 yX6_lies yX6_lies, .code yX6_lies cX6_lies 4 (some .boolean), .methodLink RX0 104 yX6_has, .instanceMethod yX6_has, .selects RX6 yX6_has yX6_has, .code yX6_has cX6_has 3 (some .boolean), .methodLink RX0 71 yX0_reasonOfKey, .instanceMethod yX0_reasonOfKey, .selects RX0 yX0_reasonOfKey yX0_reasonOfKey, .code yX0_reasonOfKey cX0_reasonOfKey 3 (some .int), .methodLink RX0 49 yX0_isHeld, .instanceMethod yX0_isHeld, .selects RX0 yX0_isHeld yX0_isHeld, .code yX0_isHeld cX0_isHeld 2 (some .boolean), .fieldLink RX0 38 "TalePlay$Acts" "player" "I", .methodLink RX0 74 yX6_lies, .fieldLink RX0 15 "TalePlay$Acts" "book" "LTalePlay$Book;", .methodLink RX0 144 yX1_keyOf, .instanceMethod yX1_keyOf, .selects RX1 yX1_keyOf yX1_keyOf, .initialized RX1, .code yX1_keyOf cX1_keyOf 3 (some .int), .fieldLink RX1 37 "TalePlay$Book" "keyBy" "[I", .fieldLink RX1 15 "TalePlay$Book" "as" "[I"] : List Cond) ++ wsX00 ++ wsX80 ++ wsX100 ++ wsX60 ++ wsX10)
set_option maxRecDepth 20000 in
theorem gm_X0_reasonOfY_SA_X0_reasonToPut_SA_67 : GoodIn wm_X0_reasonOfY_SA (wsV RX0 67 RX0 yX0_reasonToPut wm_X0_reasonToPut_SA) := goodIn_app (goodIn_of _ (by decide +kernel)) (goodIn_r _ [5, 6, 7, 8, 9, 10, 11, 12, 13, 14, 15, 16, 17, 18, 19, 20, 21, 22, 23, 24, 25, 26, 27, 28, 29, 30, 31, 32, 33, 34, 35, 36, 37, 38, 39, 40, 41, 42, 61, 62, 63, 64, 65, 66, 67, 68, 69, 70, 71, 72, 73, 74, 75, 76, 77, 78, 79, 80, 81, 82] rfl (by decide +kernel))
set_option maxRecDepth 20000 in
theorem gm_X0_reasonOfY_SA_X0_reasonOfKey_SA_71 : GoodIn wm_X0_reasonOfY_SA (wsV RX0 71 RX0 yX0_reasonOfKey wm_X0_reasonOfKey_SA) := goodIn_app (goodIn_of _ (by decide +kernel)) (goodIn_r _ [46, 47, 48, 49, 4, 50, 17, 51, 52, 36, 37, 21, 38, 27, 53, 54, 55, 56, 57, 58, 59, 60, 61, 62, 63, 64, 65, 66, 67, 81, 82, 83, 84, 85, 86, 87, 88, 89, 90, 91, 92, 93, 94, 95, 96, 97] rfl (by decide +kernel))
set_option maxHeartbeats 4000000 in
set_option maxRecDepth 100000 in
theorem x_X0_reasonOfY_SA (l : Launch) (D : va_G) (sz : Nat) (sk : Value) (a : Nat → Nat) (t : Nat → ClassId) (i : Nat → Int32) (q : Int64) (c : Nat → Nat → Int32) (d : Nat → Nat → Int64) (v1 : Int32) (w : Int32) (w2 : Int32) (hI : xInv i c) (hx0 : v1.toInt = 0 → 0 ≤ w.toInt ∧ w.toInt ≤ 9) (hx1 : 1 ≤ v1.toInt ∧ v1.toInt ≤ 10 → 0 ≤ w.toInt ∧ w.toInt ≤ 29) (hy1 : v1.toInt = 3 ∨ v1.toInt = 4 ∨ v1.toInt = 7 ∨ v1.toInt = 8 → 0 ≤ w2.toInt ∧ w2.toInt ≤ 29) : Met l yX0_reasonOfY wm_X0_reasonOfY_SA ({ frames := 3, cells := 0, slots := 0, locals := 70 }) (va_Pc [.ref (a 184), .int v1, .int w, .int w2] (yA (a 186) D sz (xwS sk a t i q c d) (xtS t))) (va_Qi (fun (r : Int32) (_ : Unit) => True) oA (ro sz)) 0 0 (ro sz) := by
  refine Met.ofW (cc := cX0_reasonOfY) (maxL := 4) (ret := (some .int)) (by decide) rfl ?_
  intro p e s m args below meth cd s₁ B hml hv
  obtain ⟨rfl, ⟨hsz, hP, hK⟩, hN, hZ⟩ := hv
  have hx := B.exec
  have hb := B.bytes
  have hr := B.returns
  have hts := atoms_spec (ws := wm_X0_reasonOfY_SA) B.pre
  have hown : s.vm.findClass RX0 = some m.cls := findClass_of_methodNamed B.named
  have hlocks := B.notSynchronized
  subst hsz
  have hA : ∀ q : Nat, s.heap.size ≤ q → ro s.heap.size q := fun _ h => h
  have hS : va_S (ro s.heap.size) s.heap s.heap [] := va_S.rf
  have hl := lv_entry ([.ref (a 184), .int v1, .int w, .int w2]) (n := 4) (Nat.le_of_ble_eq_true rfl)
  rw [lg_entry_eq]
  generalize (lg_sl ([.ref (a 184), .int v1, .int w, .int w2]) ++ List.replicate (4 - (lg_sl ([.ref (a 184), .int v1, .int w, .int w2])).length) Slot.unset).toArray = ls at hl ⊢
  have hl : lv_has ls 4 [(0, .ref (a 184)), (1, .int v1), (2, .int w), (3, .int w2)] := hl
  refine lv_iload_n hx hb dX0_reasonOfY_0 rfl (lv_at hl 1 rfl) ?_
  rcases (show (v1.toInt < 3 ∨ 8 < v1.toInt) ∨ v1.toInt = 3 ∨ v1.toInt = 4 ∨ v1.toInt = 5 ∨ v1.toInt = 6 ∨ v1.toInt = 7 ∨ v1.toInt = 8 by omega) with f1 | f1 | f1 | f1 | f1 | f1 | f1
  · refine lv_tableOut (tgt := 69) hx hb dX0_reasonOfY_1 f1 (by decide) ?_
    refine lv_iconst (v := 0) hx hb dX0_reasonOfY_69 (by decide) ?_
    exact ro_iret hx hb hr hlocks hS dX0_reasonOfY_70 trivial
  · refine lv_tableIn (off := 39) (tgt := 40) hx hb dX0_reasonOfY_1 (by omega) (by omega) (by rw [f1]; rfl) (by decide) ?_
    refine lv_aload_n hx hb dX0_reasonOfY_40 rfl (lv_at hl 0 rfl) ?_
    refine lv_iload_n hx hb dX0_reasonOfY_41 rfl (lv_at hl 2 rfl) ?_
    refine lv_iconst (v := 0) hx hb dX0_reasonOfY_42 (by decide) ?_
    refine lv_iload_n hx hb dX0_reasonOfY_43 rfl (lv_at hl 3 rfl) ?_
    refine ro_calli (va_runV (As := [.int w, .int 0, .int w2]) (rest := []) ⟨hx, hb, hml, hown, hts⟩ (x_X0_reasonToPut_SA l D s.heap.size .null a t i q c d w 0 w2 hI (show 0 ≤ w.toInt ∧ w.toInt ≤ 29 from by have h91 : (0 : Int32).toInt = 0 := (by decide); omega) (show 0 ≤ w2.toInt ∧ w2.toInt ≤ 29 from by have h91 : (0 : Int32).toInt = 0 := (by decide); omega)) (cwV 3 hts gm_X0_reasonOfY_SA_X0_reasonToPut_SA_67 rfl rfl rfl (by decide +kernel) ⟨Nat.le_of_ble_eq_true rfl, Nat.le_of_ble_eq_true rfl⟩) (yA_V hN (xZ_k hZ hS hA) hK hP (ci := 0) (q0 := 43) rfl rfl) rfl rfl hl.1 rfl (lv_room (Nat.le_of_ble_eq_true rfl)) dX0_reasonOfY_44 ⟨Nat.le_of_ble_eq_true rfl, Nat.le_of_ble_eq_true rfl⟩) hS hA hP (fun r2 u2 H locs hw2 hP hS => ?_)
    have hw2 : (0 ≤ r2.toInt ∧ r2.toInt ≤ 14) := hw2
    refine lv_goto (tgt := 70) hx hb dX0_reasonOfY_47 (by decide) ?_
    exact ro_iret hx hb hr hlocks hS dX0_reasonOfY_70 trivial
  · refine lv_tableIn (off := 49) (tgt := 50) hx hb dX0_reasonOfY_1 (by omega) (by omega) (by rw [f1]; rfl) (by decide) ?_
    refine lv_aload_n hx hb dX0_reasonOfY_50 rfl (lv_at hl 0 rfl) ?_
    refine lv_iload_n hx hb dX0_reasonOfY_51 rfl (lv_at hl 2 rfl) ?_
    refine lv_iconst (v := 1) hx hb dX0_reasonOfY_52 (by decide) ?_
    refine lv_iload_n hx hb dX0_reasonOfY_53 rfl (lv_at hl 3 rfl) ?_
    refine ro_calli (va_runV (As := [.int w, .int 1, .int w2]) (rest := []) ⟨hx, hb, hml, hown, hts⟩ (x_X0_reasonToPut_SA l D s.heap.size .null a t i q c d w 1 w2 hI (show 0 ≤ w.toInt ∧ w.toInt ≤ 29 from by have h91 : (1 : Int32).toInt = 1 := (by decide); omega) (show 0 ≤ w2.toInt ∧ w2.toInt ≤ 29 from by have h91 : (1 : Int32).toInt = 1 := (by decide); omega)) (cwV 3 hts gm_X0_reasonOfY_SA_X0_reasonToPut_SA_67 rfl rfl rfl (by decide +kernel) ⟨Nat.le_of_ble_eq_true rfl, Nat.le_of_ble_eq_true rfl⟩) (yA_V hN (xZ_k hZ hS hA) hK hP (ci := 0) (q0 := 43) rfl rfl) rfl rfl hl.1 rfl (lv_room (Nat.le_of_ble_eq_true rfl)) dX0_reasonOfY_54 ⟨Nat.le_of_ble_eq_true rfl, Nat.le_of_ble_eq_true rfl⟩) hS hA hP (fun r3 u3 H locs hw3 hP hS => ?_)
    have hw3 : (0 ≤ r3.toInt ∧ r3.toInt ≤ 14) := hw3
    refine lv_goto (tgt := 70) hx hb dX0_reasonOfY_57 (by decide) ?_
    exact ro_iret hx hb hr hlocks hS dX0_reasonOfY_70 trivial
  · refine lv_tableIn (off := 68) (tgt := 69) hx hb dX0_reasonOfY_1 (by omega) (by omega) (by rw [f1]; rfl) (by decide) ?_
    refine lv_iconst (v := 0) hx hb dX0_reasonOfY_69 (by decide) ?_
    exact ro_iret hx hb hr hlocks hS dX0_reasonOfY_70 trivial
  · refine lv_tableIn (off := 68) (tgt := 69) hx hb dX0_reasonOfY_1 (by omega) (by omega) (by rw [f1]; rfl) (by decide) ?_
    refine lv_iconst (v := 0) hx hb dX0_reasonOfY_69 (by decide) ?_
    exact ro_iret hx hb hr hlocks hS dX0_reasonOfY_70 trivial
  · refine lv_tableIn (off := 59) (tgt := 60) hx hb dX0_reasonOfY_1 (by omega) (by omega) (by rw [f1]; rfl) (by decide) ?_
    refine lv_aload_n hx hb dX0_reasonOfY_60 rfl (lv_at hl 0 rfl) ?_
    refine lv_iload_n hx hb dX0_reasonOfY_61 rfl (lv_at hl 2 rfl) ?_
    refine lv_iload_n hx hb dX0_reasonOfY_62 rfl (lv_at hl 3 rfl) ?_
    refine ro_calli (va_runV (As := [.int w, .int w2]) (rest := []) ⟨hx, hb, hml, hown, hts⟩ (x_X0_reasonOfKey_SA l D s.heap.size .null a t i q c d w w2 hI (show 0 ≤ w.toInt ∧ w.toInt ≤ 29 from by omega) (show 0 ≤ w2.toInt ∧ w2.toInt ≤ 29 from by omega)) (cwV 2 hts gm_X0_reasonOfY_SA_X0_reasonOfKey_SA_71 rfl rfl rfl (by decide +kernel) ⟨Nat.le_of_ble_eq_true rfl, Nat.le_of_ble_eq_true rfl⟩) (yA_V hN (xZ_k hZ hS hA) hK hP (ci := 0) (q0 := 43) rfl rfl) rfl rfl hl.1 rfl (lv_room (Nat.le_of_ble_eq_true rfl)) dX0_reasonOfY_63 ⟨Nat.le_of_ble_eq_true rfl, Nat.le_of_ble_eq_true rfl⟩) hS hA hP (fun r4 u4 H locs hw4 hP hS => ?_)
    have hw4 : (0 ≤ r4.toInt ∧ r4.toInt ≤ 18) := hw4
    refine lv_goto (tgt := 70) hx hb dX0_reasonOfY_66 (by decide) ?_
    exact ro_iret hx hb hr hlocks hS dX0_reasonOfY_70 trivial
  · refine lv_tableIn (off := 59) (tgt := 60) hx hb dX0_reasonOfY_1 (by omega) (by omega) (by rw [f1]; rfl) (by decide) ?_
    refine lv_aload_n hx hb dX0_reasonOfY_60 rfl (lv_at hl 0 rfl) ?_
    refine lv_iload_n hx hb dX0_reasonOfY_61 rfl (lv_at hl 2 rfl) ?_
    refine lv_iload_n hx hb dX0_reasonOfY_62 rfl (lv_at hl 3 rfl) ?_
    refine ro_calli (va_runV (As := [.int w, .int w2]) (rest := []) ⟨hx, hb, hml, hown, hts⟩ (x_X0_reasonOfKey_SA l D s.heap.size .null a t i q c d w w2 hI (show 0 ≤ w.toInt ∧ w.toInt ≤ 29 from by omega) (show 0 ≤ w2.toInt ∧ w2.toInt ≤ 29 from by omega)) (cwV 2 hts gm_X0_reasonOfY_SA_X0_reasonOfKey_SA_71 rfl rfl rfl (by decide +kernel) ⟨Nat.le_of_ble_eq_true rfl, Nat.le_of_ble_eq_true rfl⟩) (yA_V hN (xZ_k hZ hS hA) hK hP (ci := 0) (q0 := 43) rfl rfl) rfl rfl hl.1 rfl (lv_room (Nat.le_of_ble_eq_true rfl)) dX0_reasonOfY_63 ⟨Nat.le_of_ble_eq_true rfl, Nat.le_of_ble_eq_true rfl⟩) hS hA hP (fun r5 u5 H locs hw5 hP hS => ?_)
    have hw5 : (0 ≤ r5.toInt ∧ r5.toInt ≤ 18) := hw5
    refine lv_goto (tgt := 70) hx hb dX0_reasonOfY_66 (by decide) ?_
    exact ro_iret hx hb hr hlocks hS dX0_reasonOfY_70 trivial

def wm_X0_subjectOf_SA : List Cond := .code yX0_subjectOf cX0_subjectOf 3 (some .int) :: (([.fieldLink RX0 38 "TalePlay$Acts" "player" "I"] : List Cond) ++ wsX00)
set_option maxHeartbeats 4000000 in
set_option maxRecDepth 100000 in
theorem x_X0_subjectOf_SA (l : Launch) (D : va_G) (sz : Nat) (sk : Value) (a : Nat → Nat) (t : Nat → ClassId) (i : Nat → Int32) (q : Int64) (c : Nat → Nat → Int32) (d : Nat → Nat → Int64) (v1 : Int32) (w : Int32) (hI : xInv i c) : Met l yX0_subjectOf wm_X0_subjectOf_SA ({ frames := 0, cells := 0, slots := 0, locals := 0 }) (va_Pc [.ref (a 184), .int v1, .int w] (yA (a 186) D sz (xwS sk a t i q c d) (xtS t))) (va_Qi (fun (r : Int32) (_ : Unit) => ((r.toInt = (i 185).toInt ∧ (v1.toInt = 0 ∨ 10 ≤ v1.toInt)) ∨ (r.toInt = w.toInt ∧ ¬ (v1.toInt = 0 ∨ 10 ≤ v1.toInt)))) oA (ro sz)) 0 0 (ro sz) := by
  refine Met.ofW (cc := cX0_subjectOf) (maxL := 3) (ret := (some .int)) (by decide) rfl ?_
  intro p e s m args below meth cd s₁ B hml hv
  obtain ⟨rfl, ⟨hsz, hP, hK⟩, hN, hZ⟩ := hv
  have hx := B.exec
  have hb := B.bytes
  have hr := B.returns
  have hts := atoms_spec (ws := wm_X0_subjectOf_SA) B.pre
  have hown : s.vm.findClass RX0 = some m.cls := findClass_of_methodNamed B.named
  have hlocks := B.notSynchronized
  subst hsz
  have hA : ∀ q : Nat, s.heap.size ≤ q → ro s.heap.size q := fun _ h => h
  have hS : va_S (ro s.heap.size) s.heap s.heap [] := va_S.rf
  have hl := lv_entry ([.ref (a 184), .int v1, .int w]) (n := 3) (Nat.le_of_ble_eq_true rfl)
  rw [lg_entry_eq]
  generalize (lg_sl ([.ref (a 184), .int v1, .int w]) ++ List.replicate (3 - (lg_sl ([.ref (a 184), .int v1, .int w])).length) Slot.unset).toArray = ls at hl ⊢
  have hl : lv_has ls 3 [(0, .ref (a 184)), (1, .int v1), (2, .int w)] := hl
  refine lv_iload_n hx hb dX0_subjectOf_0 rfl (lv_at hl 1 rfl) ?_
  refine lv_if_eq (tgt := 10) hx hb dX0_subjectOf_1 (by decide) (fun c1 => ?_) (fun c1 => ?_)
  · have f1 := (ti_eq (a := v1.toInt) (b := 0) rfl (by decide)).mp c1
    refine lv_aload_n hx hb dX0_subjectOf_10 rfl (lv_at hl 0 rfl) ?_
    refine xgS_SA_player (v := (i 185)) rfl hx hb hts (fun _ h => List.mem_cons_of_mem _ (List.mem_append_right _ h)) hown hK hP (hts (.fieldLink RX0 38 "TalePlay$Acts" "player" "I") (by decide +kernel)) dX0_subjectOf_11 ?_
    have rb185_i : (i 185).toInt = -9 ∨ (0 ≤ (i 185).toInt ∧ (i 185).toInt ≤ 29) := hI.1 185
    refine lv_goto (tgt := 18) hx hb dX0_subjectOf_14 (by decide) ?_
    exact ro_iret hx hb hr hlocks hS dX0_subjectOf_18 (show ((i 185).toInt = (i 185).toInt ∧ (v1.toInt = 0 ∨ 10 ≤ v1.toInt)) ∨ ((i 185).toInt = w.toInt ∧ ¬ (v1.toInt = 0 ∨ 10 ≤ v1.toInt)) from by omega)
  · have f1 := mt (ti_eq (a := v1.toInt) (b := 0) rfl (by decide)).mpr c1
    refine lv_iload_n hx hb dX0_subjectOf_4 rfl (lv_at hl 1 rfl) ?_
    refine lv_bipush (v := 10) hx hb dX0_subjectOf_5 (by decide) ?_
    refine lv_icmp_lt (tgt := 17) hx hb dX0_subjectOf_7 (by decide) (fun c2 => ?_) (fun c2 => ?_)
    · have f2 := (ti_lt (a := v1.toInt) (b := 10) rfl (by decide)).mp c2
      refine lv_iload_n hx hb dX0_subjectOf_17 rfl (lv_at hl 2 rfl) ?_
      exact ro_iret hx hb hr hlocks hS dX0_subjectOf_18 (show (w.toInt = (i 185).toInt ∧ (v1.toInt = 0 ∨ 10 ≤ v1.toInt)) ∨ (w.toInt = w.toInt ∧ ¬ (v1.toInt = 0 ∨ 10 ≤ v1.toInt)) from by omega)
    · have f2 := mt (ti_lt (a := v1.toInt) (b := 10) rfl (by decide)).mpr c2
      refine lv_aload_n hx hb dX0_subjectOf_10 rfl (lv_at hl 0 rfl) ?_
      refine xgS_SA_player (v := (i 185)) rfl hx hb hts (fun _ h => List.mem_cons_of_mem _ (List.mem_append_right _ h)) hown hK hP (hts (.fieldLink RX0 38 "TalePlay$Acts" "player" "I") (by decide +kernel)) dX0_subjectOf_11 ?_
      have rb185_i : (i 185).toInt = -9 ∨ (0 ≤ (i 185).toInt ∧ (i 185).toInt ≤ 29) := hI.1 185
      refine lv_goto (tgt := 18) hx hb dX0_subjectOf_14 (by decide) ?_
      exact ro_iret hx hb hr hlocks hS dX0_subjectOf_18 (show ((i 185).toInt = (i 185).toInt ∧ (v1.toInt = 0 ∨ 10 ≤ v1.toInt)) ∨ ((i 185).toInt = w.toInt ∧ ¬ (v1.toInt = 0 ∨ 10 ≤ v1.toInt)) from by omega)

def wm_X0_placedAs_SA : List Cond := .code yX0_placedAs cX0_placedAs 3 (some .int) :: (([.fieldLink RX0 33 "TalePlay$Acts" "scene" "LTalePlay$Scene;", .methodLink RX0 80 yX6_formOf, .instanceMethod yX6_formOf, .selects RX6 yX6_formOf yX6_formOf, .initialized RX6, .code yX6_formOf cX6_formOf 3 (some .int), .fieldLink RX6 9 "TalePlay$Scene" "cells" "[I", .methodLink RX0 83 yX6_holderOf, .instanceMethod yX6_holderOf, .selects RX6 yX6_holderOf yX6_holderOf, .code yX6_holderOf cX6_holderOf 3 (some .int), .methodLink RX0 155 yX6_placed, .static yX6_placed, .code yX6_placed cX6_placed 3 (some .int)] : List Cond) ++ wsX00 ++ wsX60)
set_option maxRecDepth 20000 in
theorem gm_X0_placedAs_SA_X6_formOf_SS_80 : GoodIn wm_X0_placedAs_SA (wsV RX0 80 RX6 yX6_formOf wm_X6_formOf_SS) := goodIn_app (goodIn_of _ (by decide +kernel)) (goodIn_r _ [6, 7, 22, 23] rfl (by decide +kernel))
set_option maxRecDepth 20000 in
theorem gm_X0_placedAs_SA_X6_holderOf_SS_83 : GoodIn wm_X0_placedAs_SA (wsV RX0 83 RX6 yX6_holderOf wm_X6_holderOf_SS) := goodIn_app (goodIn_of _ (by decide +kernel)) (goodIn_r _ [11, 7, 22, 23] rfl (by decide +kernel))
set_option maxRecDepth 20000 in
theorem gm_X0_placedAs_SA_X6_placed_155 : GoodIn wm_X0_placedAs_SA (va_wsS RX0 155 yX6_placed wm_X6_placed) := goodIn_app (goodIn_of _ (by decide +kernel)) (goodIn_r _ [14] rfl (by decide +kernel))
set_option maxHeartbeats 4000000 in
set_option maxRecDepth 100000 in
theorem x_X0_placedAs_SA (l : Launch) (D : va_G) (sz : Nat) (sk : Value) (a : Nat → Nat) (t : Nat → ClassId) (i : Nat → Int32) (q : Int64) (c : Nat → Nat → Int32) (d : Nat → Nat → Int64) (c1 : Int32) (w : Int32) (hI : xInv i c) (hc1 : 0 ≤ c1.toInt ∧ c1.toInt ≤ 16383) (hw : 0 ≤ w.toInt ∧ w.toInt ≤ 29) (hpm : ¬ (c 179 w.toNatClampNeg).toInt % 256 = 255) : Met l yX0_placedAs wm_X0_placedAs_SA ({ frames := 1, cells := 0, slots := 0, locals := 22 }) (va_Pc [.ref (a 184), .int c1, .int w] (yA (a 186) D sz (xwS sk a t i q c d) (xtS t))) (va_Qi (fun (r : Int32) (_ : Unit) => (0 ≤ r.toInt ∧ r.toInt ≤ 16383 ∧ ¬ r.toInt % 256 = 255 ∧ r.toInt % 8 ≤ 4 ∧ r.toInt / 8 % 32 ≤ 29)) oA (ro sz)) 0 0 (ro sz) := by
  refine Met.ofW (cc := cX0_placedAs) (maxL := 3) (ret := (some .int)) (by decide) rfl ?_
  intro p e s m args below meth cd s₁ B hml hv
  obtain ⟨rfl, ⟨hsz, hP, hK⟩, hN, hZ⟩ := hv
  have hx := B.exec
  have hb := B.bytes
  have hr := B.returns
  have hts := atoms_spec (ws := wm_X0_placedAs_SA) B.pre
  have hown : s.vm.findClass RX0 = some m.cls := findClass_of_methodNamed B.named
  have hlocks := B.notSynchronized
  subst hsz
  have hA : ∀ q : Nat, s.heap.size ≤ q → ro s.heap.size q := fun _ h => h
  have hS : va_S (ro s.heap.size) s.heap s.heap [] := va_S.rf
  have hl := lv_entry ([.ref (a 184), .int c1, .int w]) (n := 3) (Nat.le_of_ble_eq_true rfl)
  rw [lg_entry_eq]
  generalize (lg_sl ([.ref (a 184), .int c1, .int w]) ++ List.replicate (3 - (lg_sl ([.ref (a 184), .int c1, .int w])).length) Slot.unset).toArray = ls at hl ⊢
  have hl : lv_has ls 3 [(0, .ref (a 184)), (1, .int c1), (2, .int w)] := hl
  refine lv_iload_n hx hb dX0_placedAs_0 rfl (lv_at hl 1 rfl) ?_
  refine lv_aload_n hx hb dX0_placedAs_1 rfl (lv_at hl 0 rfl) ?_
  refine xgS_SA_scene hx hb hts (fun _ h => List.mem_cons_of_mem _ (List.mem_append_left _ (List.mem_append_right _ h))) hown hK hP (hts (.fieldLink RX0 33 "TalePlay$Acts" "scene" "LTalePlay$Scene;") (by decide +kernel)) dX0_placedAs_2 ?_
  refine lv_iload_n hx hb dX0_placedAs_5 rfl (lv_at hl 2 rfl) ?_
  refine ro_calli (va_runV (As := [.int w]) (rest := [.int c1]) ⟨hx, hb, hml, hown, hts⟩ (x_X6_formOf_SS l D s.heap.size .null a t i q c d w hI (show 0 ≤ w.toInt ∧ w.toInt ≤ 29 from by omega)) (cwV 1 hts gm_X0_placedAs_SA_X6_formOf_SS_80 rfl rfl rfl (by decide +kernel) ⟨Nat.le_of_ble_eq_true rfl, Nat.le_of_ble_eq_true rfl⟩) (yA_V hN (xZ_k hZ hS hA) (xkS_P2 hK) (xuS_P2 (sk := sk) hP) (ci := 6) (q0 := 0) rfl rfl) rfl rfl hl.1 rfl (lv_room (Nat.le_of_ble_eq_true rfl)) dX0_placedAs_6 ⟨Nat.le_of_ble_eq_true rfl, Nat.le_of_ble_eq_true rfl⟩) hS hA hP (fun r1 u1 H locs hw1 hP hS => ?_)
  have hw1 : ((r1.toInt = -9 ∧ (c 179 w.toNatClampNeg).toInt % 256 = 255) ∨ (0 ≤ r1.toInt ∧ r1.toInt ≤ 4 ∧ ¬ (c 179 w.toNatClampNeg).toInt % 256 = 255 ∧ r1.toInt = (c 179 w.toNatClampNeg).toInt % 8)) := hw1
  refine lv_aload_n hx hb dX0_placedAs_9 rfl (lv_at hl 0 rfl) ?_
  refine xgS_SA_scene hx hb hts (fun _ h => List.mem_cons_of_mem _ (List.mem_append_left _ (List.mem_append_right _ h))) hown hK hP (hts (.fieldLink RX0 33 "TalePlay$Acts" "scene" "LTalePlay$Scene;") (by decide +kernel)) dX0_placedAs_10 ?_
  refine lv_iload_n hx hb dX0_placedAs_13 rfl (lv_at hl 2 rfl) ?_
  refine ro_calli (va_runV (As := [.int w]) (rest := [.int r1, .int c1]) ⟨hx, hb, hml, hown, hts⟩ (x_X6_holderOf_SS l D H.size .null a t i q c d w hI (show 0 ≤ w.toInt ∧ w.toInt ≤ 29 from by omega)) (cwV 1 hts gm_X0_placedAs_SA_X6_holderOf_SS_83 rfl rfl rfl (by decide +kernel) ⟨Nat.le_of_ble_eq_true rfl, Nat.le_of_ble_eq_true rfl⟩) (yA_V hN (xZ_k hZ hS hA) (xkS_P2 hK) (xuS_P2 (sk := sk) hP) (ci := 6) (q0 := 0) rfl rfl) rfl rfl hl.1 rfl (lv_room (Nat.le_of_ble_eq_true rfl)) dX0_placedAs_14 ⟨Nat.le_of_ble_eq_true rfl, Nat.le_of_ble_eq_true rfl⟩) hS hA hP (fun r2 u2 H locs hw2 hP hS => ?_)
  have hw2 : ((r2.toInt = -9 ∧ (c 179 w.toNatClampNeg).toInt % 256 = 255) ∨ (0 ≤ r2.toInt ∧ r2.toInt ≤ 29 ∧ ¬ (c 179 w.toNatClampNeg).toInt % 256 = 255 ∧ r2.toInt = (c 179 w.toNatClampNeg).toInt / 8 % 32)) := hw2
  have hPc := hP.sub (ws' := []) [] rfl
  have hKc := hK.sub (tys' := []) [] rfl
  refine ro_calli (va_runS (As := [.int c1, .int r1, .int r2]) (rest := []) ⟨hx, hb, hml, hown, hts⟩ (c_X6_placed l D H.size c1 r1 r2 c1.toInt r1.toInt r2.toInt rfl rfl rfl (by omega) (by omega) (by omega)) (va_cwS 3 hts gm_X0_placedAs_SA_X6_placed_155 rfl rfl rfl (by decide +kernel) ⟨Nat.le_of_ble_eq_true rfl, Nat.le_of_ble_eq_true rfl⟩) (pA_S hKc hPc) rfl rfl hl.1 rfl (lv_room (Nat.le_of_ble_eq_true rfl)) dX0_placedAs_17 ⟨Nat.le_of_ble_eq_true rfl, Nat.le_of_ble_eq_true rfl⟩) hS hA hP (fun r4 u4 H locs hw4 hP hS => ?_)
  have hw4 : r4.toInt = c1.toInt / 256 * 256 + r2.toInt * 8 + r1.toInt := hw4
  exact ro_iret hx hb hr hlocks hS dX0_placedAs_20 (show 0 ≤ r4.toInt ∧ r4.toInt ≤ 16383 ∧ ¬ r4.toInt % 256 = 255 ∧ r4.toInt % 8 ≤ 4 ∧ r4.toInt / 8 % 32 ≤ 29 from by omega)

def wm_X0_outcomeOf_SA : List Cond := .code yX0_outcomeOf cX0_outcomeOf 5 (some .int) :: (([.fieldLink RX0 33 "TalePlay$Acts" "scene" "LTalePlay$Scene;", .fieldLink RX0 149 "TalePlay$Scene" "cells" "[I", .methodLink RX0 152 yX0_subjectOf, .instanceMethod yX0_subjectOf, .selects RX0 yX0_subjectOf yX0_subjectOf, .initialized RX0, .code yX0_subjectOf cX0_subjectOf 3 (some .int), .fieldLink RX0 38 "TalePlay$Acts" "player" "I", .fieldLink RX0 19 "TalePlay$Acts" "roads" "LTalePlay$Roads;", .fieldLink RX0 95 "TalePlay$Roads" "leads" "[I", .methodLink RX0 83 yX6_holderOf, .instanceMethod yX6_holderOf, .selects RX6 yX6_holderOf yX6_holderOf, .initialized RX6, .code yX6_holderOf cX6_holderOf 3 (some .int), .fieldLink RX6 9 "TalePlay$Scene" "cells" "[I", .methodLink RX0 155 yX6_placed, .static yX6_placed, .code yX6_placed cX6_placed 3 (some .int), .methodLink RX0 80 yX6_formOf, .instanceMethod yX6_formOf, .selects RX6 yX6_formOf yX6_formOf, .code yX6_formOf cX6_formOf 3 (some .int), .methodLink RX0 158 yX6_flagged, .static yX6_flagged, .code yX6_flagged cX6_flagged 4 (some .int), .fieldLink RX0 9 "TalePlay$Acts" "world" "LTalePlay$World;", .methodLink RX0 86 yX10_sortOf, .instanceMethod yX10_sortOf, .selects RX10 yX10_sortOf yX10_sortOf, .initialized RX10, .code yX10_sortOf cX10_sortOf 2 (some .int), .fieldLink RX10 37 "TalePlay$World" "objects" "I", .fieldLink RX10 15 "TalePlay$World" "sorts" "[I", .fieldLink RX10 21 "TalePlay$World" "kindOf" "[I", .methodLink RX0 162 yX0_placedAs, .instanceMethod yX0_placedAs, .selects RX0 yX0_placedAs yX0_placedAs, .code yX0_placedAs cX0_placedAs 3 (some .int)] : List Cond) ++ wsX00 ++ wsX60 ++ wsX50 ++ wsX100)
set_option maxRecDepth 20000 in
theorem gm_X0_outcomeOf_SA_X0_subjectOf_SA_152 : GoodIn wm_X0_outcomeOf_SA (wsV RX0 152 RX0 yX0_subjectOf wm_X0_subjectOf_SA) := goodIn_app (goodIn_of _ (by decide +kernel)) (goodIn_r _ [7, 8, 40, 41, 42, 43, 44, 45, 46] rfl (by decide +kernel))
set_option maxRecDepth 20000 in
theorem gm_X0_outcomeOf_SA_X6_holderOf_SS_83 : GoodIn wm_X0_outcomeOf_SA (wsV RX0 83 RX6 yX6_holderOf wm_X6_holderOf_SS) := goodIn_app (goodIn_of _ (by decide +kernel)) (goodIn_r _ [15, 16, 47, 48] rfl (by decide +kernel))
set_option maxRecDepth 20000 in
theorem gm_X0_outcomeOf_SA_X6_placed_155 : GoodIn wm_X0_outcomeOf_SA (va_wsS RX0 155 yX6_placed wm_X6_placed) := goodIn_app (goodIn_of _ (by decide +kernel)) (goodIn_r _ [19] rfl (by decide +kernel))
set_option maxRecDepth 20000 in
theorem gm_X0_outcomeOf_SA_X6_formOf_SS_80 : GoodIn wm_X0_outcomeOf_SA (wsV RX0 80 RX6 yX6_formOf wm_X6_formOf_SS) := goodIn_app (goodIn_of _ (by decide +kernel)) (goodIn_r _ [23, 16, 47, 48] rfl (by decide +kernel))
set_option maxRecDepth 20000 in
theorem gm_X0_outcomeOf_SA_X6_flagged_158 : GoodIn wm_X0_outcomeOf_SA (va_wsS RX0 158 yX6_flagged wm_X6_flagged) := goodIn_app (goodIn_of _ (by decide +kernel)) (goodIn_r _ [26] rfl (by decide +kernel))
set_option maxRecDepth 20000 in
theorem gm_X0_outcomeOf_SA_X10_sortOf_86 : GoodIn wm_X0_outcomeOf_SA (wsV RX0 86 RX10 yX10_sortOf wm_X10_sortOf) := goodIn_app (goodIn_of _ (by decide +kernel)) (goodIn_r _ [32, 33, 34, 35, 60, 61, 62, 63, 64, 65, 66] rfl (by decide +kernel))
set_option maxRecDepth 20000 in
theorem gm_X0_outcomeOf_SA_X0_placedAs_SA_162 : GoodIn wm_X0_outcomeOf_SA (wsV RX0 162 RX0 yX0_placedAs wm_X0_placedAs_SA) := goodIn_app (goodIn_of _ (by decide +kernel)) (goodIn_r _ [39, 1, 20, 21, 22, 14, 23, 16, 11, 12, 13, 15, 17, 18, 19, 40, 41, 42, 43, 44, 45, 46, 47, 48] rfl (by decide +kernel))
set_option maxHeartbeats 4000000 in
set_option maxRecDepth 100000 in
theorem x_X0_outcomeOf_SA (l : Launch) (D : va_G) (sz : Nat) (sk : Value) (a : Nat → Nat) (t : Nat → ClassId) (i : Nat → Int32) (q : Int64) (c : Nat → Nat → Int32) (d : Nat → Nat → Int64) (v1 : Int32) (w : Int32) (w2 : Int32) (hI : xInv i c) (hv1 : 0 ≤ v1.toInt ∧ v1.toInt ≤ 12) (hx0 : v1.toInt = 0 → 0 ≤ w.toInt ∧ w.toInt ≤ 9) (hx1 : 1 ≤ v1.toInt ∧ v1.toInt ≤ 10 → 0 ≤ w.toInt ∧ w.toInt ≤ 29) (hy1 : v1.toInt = 3 ∨ v1.toInt = 4 ∨ v1.toInt = 7 ∨ v1.toInt = 8 → 0 ≤ w2.toInt ∧ w2.toInt ≤ 29) (hpl : 0 ≤ (i 185).toInt ∧ (i 185).toInt ≤ 29) (hag : Im (v1.toInt = 0) (AG (c 179) (c 129) (i 185) w)) (hal : Im (v1.toInt = 11) (AL (c 179) (i 185))) (hdr : Im (v1.toInt = 2) (¬ (c 179 (i 185).toNatClampNeg).toInt % 256 = 255)) : Met l yX0_outcomeOf wm_X0_outcomeOf_SA ({ frames := 2, cells := 0, slots := 0, locals := 44 }) (va_Pc [.ref (a 184), .int v1, .int w, .int w2] (yA (a 186) D sz (xwS sk a t i q c d) (xtS t))) (va_Qi (fun (r : Int32) (_ : Unit) => ((0 ≤ r.toInt ∧ r.toInt ≤ 16383 ∧ (r.toInt % 256 = 255 ∨ (r.toInt % 8 ≤ 4 ∧ r.toInt / 8 % 32 ≤ 29))) ∧ (Im (v1.toInt = 0 ∨ 10 ≤ v1.toInt) (Im (¬ (c 179 (i 185).toNatClampNeg).toInt % 256 = 255) (¬ r.toInt % 256 = 255))) ∧ (Im (¬ (v1.toInt = 0 ∨ 10 ≤ v1.toInt)) (Im (¬ (c 179 w.toNatClampNeg).toInt % 256 = 255) (¬ r.toInt % 256 = 255))))) oA (ro sz)) 0 0 (ro sz) := by
  refine Met.ofW (cc := cX0_outcomeOf) (maxL := 5) (ret := (some .int)) (by decide) rfl ?_
  intro p e s m args below meth cd s₁ B hml hv
  obtain ⟨rfl, ⟨hsz, hP, hK⟩, hN, hZ⟩ := hv
  have hx := B.exec
  have hb := B.bytes
  have hr := B.returns
  have hts := atoms_spec (ws := wm_X0_outcomeOf_SA) B.pre
  have hown : s.vm.findClass RX0 = some m.cls := findClass_of_methodNamed B.named
  have hlocks := B.notSynchronized
  subst hsz
  have hA : ∀ q : Nat, s.heap.size ≤ q → ro s.heap.size q := fun _ h => h
  have hS : va_S (ro s.heap.size) s.heap s.heap [] := va_S.rf
  have hl := lv_entry ([.ref (a 184), .int v1, .int w, .int w2]) (n := 5) (Nat.le_of_ble_eq_true rfl)
  rw [lg_entry_eq]
  generalize (lg_sl ([.ref (a 184), .int v1, .int w, .int w2]) ++ List.replicate (5 - (lg_sl ([.ref (a 184), .int v1, .int w, .int w2])).length) Slot.unset).toArray = ls at hl ⊢
  have hl : lv_has ls 5 [(0, .ref (a 184)), (1, .int v1), (2, .int w), (3, .int w2)] := hl
  refine lv_aload_n hx hb dX0_outcomeOf_0 rfl (lv_at hl 0 rfl) ?_
  refine xgS_SA_scene hx hb hts (fun _ h => List.mem_cons_of_mem _ (List.mem_append_left _ (List.mem_append_left _ (List.mem_append_left _ (List.mem_append_right _ h))))) hown hK hP (hts (.fieldLink RX0 33 "TalePlay$Acts" "scene" "LTalePlay$Scene;") (by decide +kernel)) dX0_outcomeOf_1 ?_
  refine xgS_SS_cells hx hb hts (fun _ h => List.mem_cons_of_mem _ (List.mem_append_left _ (List.mem_append_left _ (List.mem_append_right _ h)))) hown hK hP (hts (.fieldLink RX0 149 "TalePlay$Scene" "cells" "[I") (by decide +kernel)) dX0_outcomeOf_4 ?_
  refine lv_aload_n hx hb dX0_outcomeOf_7 rfl (lv_at hl 0 rfl) ?_
  refine lv_iload_n hx hb dX0_outcomeOf_8 rfl (lv_at hl 1 rfl) ?_
  refine lv_iload_n hx hb dX0_outcomeOf_9 rfl (lv_at hl 2 rfl) ?_
  have rb185_i : (i 185).toInt = -9 ∨ (0 ≤ (i 185).toInt ∧ (i 185).toInt ≤ 29) := hI.1 185
  refine ro_calli (va_runV (As := [.int v1, .int w]) (rest := [.ref (a 179)]) ⟨hx, hb, hml, hown, hts⟩ (x_X0_subjectOf_SA l D s.heap.size .null a t i q c d v1 w hI ) (cwV 2 hts gm_X0_outcomeOf_SA_X0_subjectOf_SA_152 rfl rfl rfl (by decide +kernel) ⟨Nat.le_of_ble_eq_true rfl, Nat.le_of_ble_eq_true rfl⟩) (yA_V hN (xZ_k hZ hS hA) hK hP (ci := 0) (q0 := 43) rfl rfl) rfl rfl hl.1 rfl (lv_room (Nat.le_of_ble_eq_true rfl)) dX0_outcomeOf_10 ⟨Nat.le_of_ble_eq_true rfl, Nat.le_of_ble_eq_true rfl⟩) hS hA hP (fun r1 u1 H locs hw1 hP hS => ?_)
  have hw1 : ((r1.toInt = (i 185).toInt ∧ (v1.toInt = 0 ∨ 10 ≤ v1.toInt)) ∨ (r1.toInt = w.toInt ∧ ¬ (v1.toInt = 0 ∨ 10 ≤ v1.toInt))) := hw1
  refine xlS_179 hx hb hK hP (vp_in_iff.mpr (by have h9 : r1.toInt = r1.toInt := rfl; omega)) dX0_outcomeOf_13 (fun x2 ex2 => ?_)
  have rx2 : 0 ≤ x2.toInt ∧ x2.toInt ≤ 16383 ∧ (x2.toInt % 256 = 255 ∨ (x2.toInt % 8 ≤ 4 ∧ x2.toInt / 8 % 32 ≤ 29)) := by rw [ex2]; exact hI.2 179 _
  have hce1 : Im (v1.toInt = 0 ∨ 10 ≤ v1.toInt) ((c 179 (i 185).toNatClampNeg).toInt = x2.toInt) := fun h9 => by rw [ex2, cl_e (x := r1) (y := (i 185)) (by omega)]
  have hce2 : Im (¬ (v1.toInt = 0 ∨ 10 ≤ v1.toInt)) ((c 179 w.toNatClampNeg).toInt = x2.toInt) := fun h9 => by rw [ex2, cl_e (x := r1) (y := w) (by omega)]
  refine lv_istore (lv' := [(4, .int x2), (0, .ref (a 184)), (1, .int v1), (2, .int w), (3, .int w2)]) hx hb dX0_outcomeOf_14 hl (by decide) rfl (fun ls hl => ?_)
  refine lv_iload_n hx hb dX0_outcomeOf_16 rfl (lv_at hl 2 rfl) ?_
  rcases (show (v1.toInt < 0 ∨ 11 < v1.toInt) ∨ v1.toInt = 0 ∨ v1.toInt = 1 ∨ v1.toInt = 2 ∨ v1.toInt = 3 ∨ v1.toInt = 4 ∨ v1.toInt = 5 ∨ v1.toInt = 6 ∨ v1.toInt = 7 ∨ v1.toInt = 8 ∨ v1.toInt = 9 ∨ v1.toInt = 10 ∨ v1.toInt = 11 by omega) with f3 | f3 | f3 | f3 | f3 | f3 | f3 | f3 | f3 | f3 | f3 | f3 | f3
  · refine lv_tableOut (tgt := 274) hx hb dX0_outcomeOf_17 f3 (by decide) ?_
    refine lv_iload hx hb dX0_outcomeOf_274 (lv_at hl 0 rfl) ?_
    exact ro_iret hx hb hr hlocks hS dX0_outcomeOf_276 ⟨(show 0 ≤ x2.toInt ∧ x2.toInt ≤ 16383 ∧ (x2.toInt % 256 = 255 ∨ (x2.toInt % 8 ≤ 4 ∧ x2.toInt / 8 % 32 ≤ 29)) from by omega), (show Im (v1.toInt = 0 ∨ 10 ≤ v1.toInt) (Im (¬ (c 179 (i 185).toNatClampNeg).toInt % 256 = 255) (¬ x2.toInt % 256 = 255)) from fun h8 h9 => by have h7 := hce1 h8; omega), (show Im (¬ (v1.toInt = 0 ∨ 10 ≤ v1.toInt)) (Im (¬ (c 179 w.toNatClampNeg).toInt % 256 = 255) (¬ x2.toInt % 256 = 255)) from fun h8 h9 => by have h7 := hce2 h8; omega)⟩
  · refine lv_tableIn (off := 63) (tgt := 80) hx hb dX0_outcomeOf_17 (by omega) (by omega) (by rw [f3]; rfl) (by decide) ?_
    refine lv_iload hx hb dX0_outcomeOf_80 (lv_at hl 0 rfl) ?_
    refine lv_iconst (v := 0) hx hb dX0_outcomeOf_82 (by decide) ?_
    refine lv_aload_n hx hb dX0_outcomeOf_83 rfl (lv_at hl 1 rfl) ?_
    refine xgS_SA_roads hx hb hts (fun _ h => List.mem_cons_of_mem _ (List.mem_append_left _ (List.mem_append_left _ (List.mem_append_left _ (List.mem_append_right _ h))))) hown hK hP (hts (.fieldLink RX0 19 "TalePlay$Acts" "roads" "LTalePlay$Roads;") (by decide +kernel)) dX0_outcomeOf_84 ?_
    refine xgS_R_leads hx hb hts (fun _ h => List.mem_cons_of_mem _ (List.mem_append_left _ (List.mem_append_right _ h))) hown hK hP (hts (.fieldLink RX0 95 "TalePlay$Roads" "leads" "[I") (by decide +kernel)) dX0_outcomeOf_87 ?_
    refine lv_aload_n hx hb dX0_outcomeOf_90 rfl (lv_at hl 1 rfl) ?_
    refine xgS_SA_scene hx hb hts (fun _ h => List.mem_cons_of_mem _ (List.mem_append_left _ (List.mem_append_left _ (List.mem_append_left _ (List.mem_append_right _ h))))) hown hK hP (hts (.fieldLink RX0 33 "TalePlay$Acts" "scene" "LTalePlay$Scene;") (by decide +kernel)) dX0_outcomeOf_91 ?_
    refine lv_aload_n hx hb dX0_outcomeOf_94 rfl (lv_at hl 1 rfl) ?_
    refine xgS_SA_player (v := (i 185)) rfl hx hb hts (fun _ h => List.mem_cons_of_mem _ (List.mem_append_left _ (List.mem_append_left _ (List.mem_append_left _ (List.mem_append_right _ h))))) hown hK hP (hts (.fieldLink RX0 38 "TalePlay$Acts" "player" "I") (by decide +kernel)) dX0_outcomeOf_95 ?_
    refine ro_calli (va_runV (As := [.int (i 185)]) (rest := [.ref (a 129), .int 0, .int x2]) ⟨hx, hb, hml, hown, hts⟩ (x_X6_holderOf_SS l D H.size .null a t i q c d (i 185) hI (show 0 ≤ (i 185).toInt ∧ (i 185).toInt ≤ 29 from by omega)) (cwV 1 hts gm_X0_outcomeOf_SA_X6_holderOf_SS_83 rfl rfl rfl (by decide +kernel) ⟨Nat.le_of_ble_eq_true rfl, Nat.le_of_ble_eq_true rfl⟩) (yA_V hN (xZ_k hZ hS hA) (xkS_P2 hK) (xuS_P2 (sk := sk) hP) (ci := 6) (q0 := 0) rfl rfl) rfl rfl hl.1 rfl (lv_room (Nat.le_of_ble_eq_true rfl)) dX0_outcomeOf_98 ⟨Nat.le_of_ble_eq_true rfl, Nat.le_of_ble_eq_true rfl⟩) hS hA hP (fun r4 u4 H locs hw4 hP hS => ?_)
    have hw4 : ((r4.toInt = -9 ∧ (c 179 (i 185).toNatClampNeg).toInt % 256 = 255) ∨ (0 ≤ r4.toInt ∧ r4.toInt ≤ 29 ∧ ¬ (c 179 (i 185).toNatClampNeg).toInt % 256 = 255 ∧ r4.toInt = (c 179 (i 185).toNatClampNeg).toInt / 8 % 32)) := hw4
    have hag2 := hag (by omega)
    have hag3 : ¬ (c 179 (i 185).toNatClampNeg).toInt % 256 = 255 := hag2.1
    refine lv_bipush (v := 10) hx hb dX0_outcomeOf_101 (by decide) ?_
    refine lv_imul hx hb dX0_outcomeOf_103 ?_
    refine lv_topi (fun x5 ex5 => ?_)
    have tx5 := ti_mul (a := r4.toInt) (b := 10) ex5 rfl (by decide) (by omega) (by omega)
    refine lv_iload_n hx hb dX0_outcomeOf_104 rfl (lv_at hl 3 rfl) ?_
    refine lv_iadd hx hb dX0_outcomeOf_105 ?_
    refine lv_topi (fun x6 ex6 => ?_)
    have tx6 := ti_add (a := (r4.toInt * 10)) (b := w.toInt) ex6 tx5 rfl (by omega) (by omega)
    refine xlS_129 hx hb hK hP (vp_in_iff.mpr (by have h9 : x6.toInt = ((r4.toInt * 10) + w.toInt) := tx6; omega)) dX0_outcomeOf_106 (fun x7 ex7 => ?_)
    have rx7 : x7.toInt = -9 ∨ (0 ≤ x7.toInt ∧ x7.toInt ≤ 29) := by rw [ex7]; exact hI.2 129 _
    have hag4 : ¬ x7.toInt = -9 := by have h8 := hag2.2; rw [ix_n (show x6.toInt = (c 179 (i 185).toNatClampNeg).toInt / 8 % 32 * 10 + w.toInt from by have h9 : x6.toInt = ((r4.toInt * 10) + w.toInt) := tx6; omega) ex7] at h8; exact h8
    have hPc := hP.sub (ws' := []) [] rfl
    have hKc := hK.sub (tys' := []) [] rfl
    refine ro_calli (va_runS (As := [.int x2, .int 0, .int x7]) (rest := []) ⟨hx, hb, hml, hown, hts⟩ (c_X6_placed l D H.size x2 0 x7 x2.toInt 0 x7.toInt rfl (by decide) rfl (by omega) (by omega) (by omega)) (va_cwS 3 hts gm_X0_outcomeOf_SA_X6_placed_155 rfl rfl rfl (by decide +kernel) ⟨Nat.le_of_ble_eq_true rfl, Nat.le_of_ble_eq_true rfl⟩) (pA_S hKc hPc) rfl rfl hl.1 rfl (lv_room (Nat.le_of_ble_eq_true rfl)) dX0_outcomeOf_107 ⟨Nat.le_of_ble_eq_true rfl, Nat.le_of_ble_eq_true rfl⟩) hS hA hP (fun r9 u9 H locs hw9 hP hS => ?_)
    have hw9 : r9.toInt = x2.toInt / 256 * 256 + x7.toInt * 8 + 0 := hw9
    refine lv_goto (tgt := 276) hx hb dX0_outcomeOf_110 (by decide) ?_
    exact ro_iret hx hb hr hlocks hS dX0_outcomeOf_276 ⟨(show 0 ≤ r9.toInt ∧ r9.toInt ≤ 16383 ∧ (r9.toInt % 256 = 255 ∨ (r9.toInt % 8 ≤ 4 ∧ r9.toInt / 8 % 32 ≤ 29)) from by omega), (show Im (v1.toInt = 0 ∨ 10 ≤ v1.toInt) (Im (¬ (c 179 (i 185).toNatClampNeg).toInt % 256 = 255) (¬ r9.toInt % 256 = 255)) from fun h8 h9 => by have h7 := hce1 h8; omega), (show Im (¬ (v1.toInt = 0 ∨ 10 ≤ v1.toInt)) (Im (¬ (c 179 w.toNatClampNeg).toInt % 256 = 255) (¬ r9.toInt % 256 = 255)) from fun h8 h9 => by have h7 := hce2 h8; omega)⟩
  · refine lv_tableIn (off := 96) (tgt := 113) hx hb dX0_outcomeOf_17 (by omega) (by omega) (by rw [f3]; rfl) (by decide) ?_
    refine lv_iload hx hb dX0_outcomeOf_113 (lv_at hl 0 rfl) ?_
    refine lv_iconst (v := 2) hx hb dX0_outcomeOf_115 (by decide) ?_
    refine lv_aload_n hx hb dX0_outcomeOf_116 rfl (lv_at hl 1 rfl) ?_
    refine xgS_SA_player (v := (i 185)) rfl hx hb hts (fun _ h => List.mem_cons_of_mem _ (List.mem_append_left _ (List.mem_append_left _ (List.mem_append_left _ (List.mem_append_right _ h))))) hown hK hP (hts (.fieldLink RX0 38 "TalePlay$Acts" "player" "I") (by decide +kernel)) dX0_outcomeOf_117 ?_
    have hPc := hP.sub (ws' := []) [] rfl
    have hKc := hK.sub (tys' := []) [] rfl
    refine ro_calli (va_runS (As := [.int x2, .int 2, .int (i 185)]) (rest := []) ⟨hx, hb, hml, hown, hts⟩ (c_X6_placed l D H.size x2 2 (i 185) x2.toInt 2 ((i 185).toInt) rfl (by decide) rfl (by omega) (by omega) (by omega)) (va_cwS 3 hts gm_X0_outcomeOf_SA_X6_placed_155 rfl rfl rfl (by decide +kernel) ⟨Nat.le_of_ble_eq_true rfl, Nat.le_of_ble_eq_true rfl⟩) (pA_S hKc hPc) rfl rfl hl.1 rfl (lv_room (Nat.le_of_ble_eq_true rfl)) dX0_outcomeOf_120 ⟨Nat.le_of_ble_eq_true rfl, Nat.le_of_ble_eq_true rfl⟩) hS hA hP (fun r11 u11 H locs hw11 hP hS => ?_)
    have hw11 : r11.toInt = x2.toInt / 256 * 256 + ((i 185).toInt) * 8 + 2 := hw11
    refine lv_goto (tgt := 276) hx hb dX0_outcomeOf_123 (by decide) ?_
    exact ro_iret hx hb hr hlocks hS dX0_outcomeOf_276 ⟨(show 0 ≤ r11.toInt ∧ r11.toInt ≤ 16383 ∧ (r11.toInt % 256 = 255 ∨ (r11.toInt % 8 ≤ 4 ∧ r11.toInt / 8 % 32 ≤ 29)) from by omega), (show Im (v1.toInt = 0 ∨ 10 ≤ v1.toInt) (Im (¬ (c 179 (i 185).toNatClampNeg).toInt % 256 = 255) (¬ r11.toInt % 256 = 255)) from fun h8 h9 => by have h7 := hce1 h8; omega), (show Im (¬ (v1.toInt = 0 ∨ 10 ≤ v1.toInt)) (Im (¬ (c 179 w.toNatClampNeg).toInt % 256 = 255) (¬ r11.toInt % 256 = 255)) from fun h8 h9 => by have h7 := hce2 h8; omega)⟩
  · refine lv_tableIn (off := 109) (tgt := 126) hx hb dX0_outcomeOf_17 (by omega) (by omega) (by rw [f3]; rfl) (by decide) ?_
    have hdr2 := hdr (by omega)
    refine lv_iload hx hb dX0_outcomeOf_126 (lv_at hl 0 rfl) ?_
    refine lv_aload_n hx hb dX0_outcomeOf_128 rfl (lv_at hl 1 rfl) ?_
    refine xgS_SA_scene hx hb hts (fun _ h => List.mem_cons_of_mem _ (List.mem_append_left _ (List.mem_append_left _ (List.mem_append_left _ (List.mem_append_right _ h))))) hown hK hP (hts (.fieldLink RX0 33 "TalePlay$Acts" "scene" "LTalePlay$Scene;") (by decide +kernel)) dX0_outcomeOf_129 ?_
    refine lv_aload_n hx hb dX0_outcomeOf_132 rfl (lv_at hl 1 rfl) ?_
    refine xgS_SA_player (v := (i 185)) rfl hx hb hts (fun _ h => List.mem_cons_of_mem _ (List.mem_append_left _ (List.mem_append_left _ (List.mem_append_left _ (List.mem_append_right _ h))))) hown hK hP (hts (.fieldLink RX0 38 "TalePlay$Acts" "player" "I") (by decide +kernel)) dX0_outcomeOf_133 ?_
    refine ro_calli (va_runV (As := [.int (i 185)]) (rest := [.int x2]) ⟨hx, hb, hml, hown, hts⟩ (x_X6_formOf_SS l D H.size .null a t i q c d (i 185) hI (show 0 ≤ (i 185).toInt ∧ (i 185).toInt ≤ 29 from by omega)) (cwV 1 hts gm_X0_outcomeOf_SA_X6_formOf_SS_80 rfl rfl rfl (by decide +kernel) ⟨Nat.le_of_ble_eq_true rfl, Nat.le_of_ble_eq_true rfl⟩) (yA_V hN (xZ_k hZ hS hA) (xkS_P2 hK) (xuS_P2 (sk := sk) hP) (ci := 6) (q0 := 0) rfl rfl) rfl rfl hl.1 rfl (lv_room (Nat.le_of_ble_eq_true rfl)) dX0_outcomeOf_136 ⟨Nat.le_of_ble_eq_true rfl, Nat.le_of_ble_eq_true rfl⟩) hS hA hP (fun r12 u12 H locs hw12 hP hS => ?_)
    have hw12 : ((r12.toInt = -9 ∧ (c 179 (i 185).toNatClampNeg).toInt % 256 = 255) ∨ (0 ≤ r12.toInt ∧ r12.toInt ≤ 4 ∧ ¬ (c 179 (i 185).toNatClampNeg).toInt % 256 = 255 ∧ r12.toInt = (c 179 (i 185).toNatClampNeg).toInt % 8)) := hw12
    refine lv_aload_n hx hb dX0_outcomeOf_139 rfl (lv_at hl 1 rfl) ?_
    refine xgS_SA_scene hx hb hts (fun _ h => List.mem_cons_of_mem _ (List.mem_append_left _ (List.mem_append_left _ (List.mem_append_left _ (List.mem_append_right _ h))))) hown hK hP (hts (.fieldLink RX0 33 "TalePlay$Acts" "scene" "LTalePlay$Scene;") (by decide +kernel)) dX0_outcomeOf_140 ?_
    refine lv_aload_n hx hb dX0_outcomeOf_143 rfl (lv_at hl 1 rfl) ?_
    refine xgS_SA_player (v := (i 185)) rfl hx hb hts (fun _ h => List.mem_cons_of_mem _ (List.mem_append_left _ (List.mem_append_left _ (List.mem_append_left _ (List.mem_append_right _ h))))) hown hK hP (hts (.fieldLink RX0 38 "TalePlay$Acts" "player" "I") (by decide +kernel)) dX0_outcomeOf_144 ?_
    refine ro_calli (va_runV (As := [.int (i 185)]) (rest := [.int r12, .int x2]) ⟨hx, hb, hml, hown, hts⟩ (x_X6_holderOf_SS l D H.size .null a t i q c d (i 185) hI (show 0 ≤ (i 185).toInt ∧ (i 185).toInt ≤ 29 from by omega)) (cwV 1 hts gm_X0_outcomeOf_SA_X6_holderOf_SS_83 rfl rfl rfl (by decide +kernel) ⟨Nat.le_of_ble_eq_true rfl, Nat.le_of_ble_eq_true rfl⟩) (yA_V hN (xZ_k hZ hS hA) (xkS_P2 hK) (xuS_P2 (sk := sk) hP) (ci := 6) (q0 := 0) rfl rfl) rfl rfl hl.1 rfl (lv_room (Nat.le_of_ble_eq_true rfl)) dX0_outcomeOf_147 ⟨Nat.le_of_ble_eq_true rfl, Nat.le_of_ble_eq_true rfl⟩) hS hA hP (fun r13 u13 H locs hw13 hP hS => ?_)
    have hw13 : ((r13.toInt = -9 ∧ (c 179 (i 185).toNatClampNeg).toInt % 256 = 255) ∨ (0 ≤ r13.toInt ∧ r13.toInt ≤ 29 ∧ ¬ (c 179 (i 185).toNatClampNeg).toInt % 256 = 255 ∧ r13.toInt = (c 179 (i 185).toNatClampNeg).toInt / 8 % 32)) := hw13
    have hPc := hP.sub (ws' := []) [] rfl
    have hKc := hK.sub (tys' := []) [] rfl
    refine ro_calli (va_runS (As := [.int x2, .int r12, .int r13]) (rest := []) ⟨hx, hb, hml, hown, hts⟩ (c_X6_placed l D H.size x2 r12 r13 x2.toInt r12.toInt r13.toInt rfl rfl rfl (by omega) (by omega) (by omega)) (va_cwS 3 hts gm_X0_outcomeOf_SA_X6_placed_155 rfl rfl rfl (by decide +kernel) ⟨Nat.le_of_ble_eq_true rfl, Nat.le_of_ble_eq_true rfl⟩) (pA_S hKc hPc) rfl rfl hl.1 rfl (lv_room (Nat.le_of_ble_eq_true rfl)) dX0_outcomeOf_150 ⟨Nat.le_of_ble_eq_true rfl, Nat.le_of_ble_eq_true rfl⟩) hS hA hP (fun r15 u15 H locs hw15 hP hS => ?_)
    have hw15 : r15.toInt = x2.toInt / 256 * 256 + r13.toInt * 8 + r12.toInt := hw15
    refine lv_goto (tgt := 276) hx hb dX0_outcomeOf_153 (by decide) ?_
    exact ro_iret hx hb hr hlocks hS dX0_outcomeOf_276 ⟨(show 0 ≤ r15.toInt ∧ r15.toInt ≤ 16383 ∧ (r15.toInt % 256 = 255 ∨ (r15.toInt % 8 ≤ 4 ∧ r15.toInt / 8 % 32 ≤ 29)) from by omega), (show Im (v1.toInt = 0 ∨ 10 ≤ v1.toInt) (Im (¬ (c 179 (i 185).toNatClampNeg).toInt % 256 = 255) (¬ r15.toInt % 256 = 255)) from fun h8 h9 => by have h7 := hce1 h8; omega), (show Im (¬ (v1.toInt = 0 ∨ 10 ≤ v1.toInt)) (Im (¬ (c 179 w.toNatClampNeg).toInt % 256 = 255) (¬ r15.toInt % 256 = 255)) from fun h8 h9 => by have h7 := hce2 h8; omega)⟩
  · refine lv_tableIn (off := 139) (tgt := 156) hx hb dX0_outcomeOf_17 (by omega) (by omega) (by rw [f3]; rfl) (by decide) ?_
    refine lv_iload hx hb dX0_outcomeOf_156 (lv_at hl 0 rfl) ?_
    refine lv_iconst (v := 0) hx hb dX0_outcomeOf_158 (by decide) ?_
    refine lv_iload_n hx hb dX0_outcomeOf_159 rfl (lv_at hl 4 rfl) ?_
    have hPc := hP.sub (ws' := []) [] rfl
    have hKc := hK.sub (tys' := []) [] rfl
    refine ro_calli (va_runS (As := [.int x2, .int 0, .int w2]) (rest := []) ⟨hx, hb, hml, hown, hts⟩ (c_X6_placed l D H.size x2 0 w2 x2.toInt 0 w2.toInt rfl (by decide) rfl (by omega) (by omega) (by omega)) (va_cwS 3 hts gm_X0_outcomeOf_SA_X6_placed_155 rfl rfl rfl (by decide +kernel) ⟨Nat.le_of_ble_eq_true rfl, Nat.le_of_ble_eq_true rfl⟩) (pA_S hKc hPc) rfl rfl hl.1 rfl (lv_room (Nat.le_of_ble_eq_true rfl)) dX0_outcomeOf_160 ⟨Nat.le_of_ble_eq_true rfl, Nat.le_of_ble_eq_true rfl⟩) hS hA hP (fun r17 u17 H locs hw17 hP hS => ?_)
    have hw17 : r17.toInt = x2.toInt / 256 * 256 + w2.toInt * 8 + 0 := hw17
    refine lv_goto (tgt := 276) hx hb dX0_outcomeOf_163 (by decide) ?_
    exact ro_iret hx hb hr hlocks hS dX0_outcomeOf_276 ⟨(show 0 ≤ r17.toInt ∧ r17.toInt ≤ 16383 ∧ (r17.toInt % 256 = 255 ∨ (r17.toInt % 8 ≤ 4 ∧ r17.toInt / 8 % 32 ≤ 29)) from by omega), (show Im (v1.toInt = 0 ∨ 10 ≤ v1.toInt) (Im (¬ (c 179 (i 185).toNatClampNeg).toInt % 256 = 255) (¬ r17.toInt % 256 = 255)) from fun h8 h9 => by have h7 := hce1 h8; omega), (show Im (¬ (v1.toInt = 0 ∨ 10 ≤ v1.toInt)) (Im (¬ (c 179 w.toNatClampNeg).toInt % 256 = 255) (¬ r17.toInt % 256 = 255)) from fun h8 h9 => by have h7 := hce2 h8; omega)⟩
  · refine lv_tableIn (off := 149) (tgt := 166) hx hb dX0_outcomeOf_17 (by omega) (by omega) (by rw [f3]; rfl) (by decide) ?_
    refine lv_iload hx hb dX0_outcomeOf_166 (lv_at hl 0 rfl) ?_
    refine lv_iconst (v := 1) hx hb dX0_outcomeOf_168 (by decide) ?_
    refine lv_iload_n hx hb dX0_outcomeOf_169 rfl (lv_at hl 4 rfl) ?_
    have hPc := hP.sub (ws' := []) [] rfl
    have hKc := hK.sub (tys' := []) [] rfl
    refine ro_calli (va_runS (As := [.int x2, .int 1, .int w2]) (rest := []) ⟨hx, hb, hml, hown, hts⟩ (c_X6_placed l D H.size x2 1 w2 x2.toInt 1 w2.toInt rfl (by decide) rfl (by omega) (by omega) (by omega)) (va_cwS 3 hts gm_X0_outcomeOf_SA_X6_placed_155 rfl rfl rfl (by decide +kernel) ⟨Nat.le_of_ble_eq_true rfl, Nat.le_of_ble_eq_true rfl⟩) (pA_S hKc hPc) rfl rfl hl.1 rfl (lv_room (Nat.le_of_ble_eq_true rfl)) dX0_outcomeOf_170 ⟨Nat.le_of_ble_eq_true rfl, Nat.le_of_ble_eq_true rfl⟩) hS hA hP (fun r19 u19 H locs hw19 hP hS => ?_)
    have hw19 : r19.toInt = x2.toInt / 256 * 256 + w2.toInt * 8 + 1 := hw19
    refine lv_goto (tgt := 276) hx hb dX0_outcomeOf_173 (by decide) ?_
    exact ro_iret hx hb hr hlocks hS dX0_outcomeOf_276 ⟨(show 0 ≤ r19.toInt ∧ r19.toInt ≤ 16383 ∧ (r19.toInt % 256 = 255 ∨ (r19.toInt % 8 ≤ 4 ∧ r19.toInt / 8 % 32 ≤ 29)) from by omega), (show Im (v1.toInt = 0 ∨ 10 ≤ v1.toInt) (Im (¬ (c 179 (i 185).toNatClampNeg).toInt % 256 = 255) (¬ r19.toInt % 256 = 255)) from fun h8 h9 => by have h7 := hce1 h8; omega), (show Im (¬ (v1.toInt = 0 ∨ 10 ≤ v1.toInt)) (Im (¬ (c 179 w.toNatClampNeg).toInt % 256 = 255) (¬ r19.toInt % 256 = 255)) from fun h8 h9 => by have h7 := hce2 h8; omega)⟩
  · refine lv_tableIn (off := 159) (tgt := 176) hx hb dX0_outcomeOf_17 (by omega) (by omega) (by rw [f3]; rfl) (by decide) ?_
    refine lv_iload hx hb dX0_outcomeOf_176 (lv_at hl 0 rfl) ?_
    refine lv_iconst (v := 0) hx hb dX0_outcomeOf_178 (by decide) ?_
    refine lv_iload_n hx hb dX0_outcomeOf_179 rfl (lv_at hl 2 rfl) ?_
    refine lv_iconst (v := 5) hx hb dX0_outcomeOf_180 (by decide) ?_
    refine lv_icmp_ne (tgt := 188) hx hb dX0_outcomeOf_181 (by decide) (fun c20 => ?_) (fun c20 => ?_)
    · have f20 := mt (ti_eq (a := v1.toInt) (b := 5) rfl (by decide)).mpr c20
      refine lv_iconst (v := 0) hx hb dX0_outcomeOf_188 (by decide) ?_
      have hPc := hP.sub (ws' := []) [] rfl
      have hKc := hK.sub (tys' := []) [] rfl
      refine ro_calli (va_runS (As := [.int x2, .int 0, .int 0]) (rest := []) ⟨hx, hb, hml, hown, hts⟩ (c_X6_flagged l D H.size x2 0 0 x2.toInt 0 rfl (by decide) (by omega) (by omega)) (va_cwS 3 hts gm_X0_outcomeOf_SA_X6_flagged_158 rfl rfl rfl (by decide +kernel) ⟨Nat.le_of_ble_eq_true rfl, Nat.le_of_ble_eq_true rfl⟩) (pA_S hKc hPc) rfl rfl hl.1 rfl (lv_room (Nat.le_of_ble_eq_true rfl)) dX0_outcomeOf_189 ⟨Nat.le_of_ble_eq_true rfl, Nat.le_of_ble_eq_true rfl⟩) hS hA hP (fun r22 u22 H locs hw22 hP hS => ?_)
      have hw22 : 0 ≤ r22.toInt ∧ r22.toInt ≤ 16383 ∧ r22.toInt % 256 = x2.toInt % 256 := hw22
      refine lv_goto (tgt := 276) hx hb dX0_outcomeOf_192 (by decide) ?_
      exact ro_iret hx hb hr hlocks hS dX0_outcomeOf_276 ⟨(show 0 ≤ r22.toInt ∧ r22.toInt ≤ 16383 ∧ (r22.toInt % 256 = 255 ∨ (r22.toInt % 8 ≤ 4 ∧ r22.toInt / 8 % 32 ≤ 29)) from by omega), (show Im (v1.toInt = 0 ∨ 10 ≤ v1.toInt) (Im (¬ (c 179 (i 185).toNatClampNeg).toInt % 256 = 255) (¬ r22.toInt % 256 = 255)) from fun h8 h9 => by have h7 := hce1 h8; omega), (show Im (¬ (v1.toInt = 0 ∨ 10 ≤ v1.toInt)) (Im (¬ (c 179 w.toNatClampNeg).toInt % 256 = 255) (¬ r22.toInt % 256 = 255)) from fun h8 h9 => by have h7 := hce2 h8; omega)⟩
    · have f20 := (ti_eq (a := v1.toInt) (b := 5) rfl (by decide)).mp c20
      refine lv_iconst (v := 1) hx hb dX0_outcomeOf_184 (by decide) ?_
      refine lv_goto (tgt := 189) hx hb dX0_outcomeOf_185 (by decide) ?_
      have hPc := hP.sub (ws' := []) [] rfl
      have hKc := hK.sub (tys' := []) [] rfl
      refine ro_calli (va_runS (As := [.int x2, .int 0, .int 1]) (rest := []) ⟨hx, hb, hml, hown, hts⟩ (c_X6_flagged l D H.size x2 0 1 x2.toInt 0 rfl (by decide) (by omega) (by omega)) (va_cwS 3 hts gm_X0_outcomeOf_SA_X6_flagged_158 rfl rfl rfl (by decide +kernel) ⟨Nat.le_of_ble_eq_true rfl, Nat.le_of_ble_eq_true rfl⟩) (pA_S hKc hPc) rfl rfl hl.1 rfl (lv_room (Nat.le_of_ble_eq_true rfl)) dX0_outcomeOf_189 ⟨Nat.le_of_ble_eq_true rfl, Nat.le_of_ble_eq_true rfl⟩) hS hA hP (fun r24 u24 H locs hw24 hP hS => ?_)
      have hw24 : 0 ≤ r24.toInt ∧ r24.toInt ≤ 16383 ∧ r24.toInt % 256 = x2.toInt % 256 := hw24
      refine lv_goto (tgt := 276) hx hb dX0_outcomeOf_192 (by decide) ?_
      exact ro_iret hx hb hr hlocks hS dX0_outcomeOf_276 ⟨(show 0 ≤ r24.toInt ∧ r24.toInt ≤ 16383 ∧ (r24.toInt % 256 = 255 ∨ (r24.toInt % 8 ≤ 4 ∧ r24.toInt / 8 % 32 ≤ 29)) from by omega), (show Im (v1.toInt = 0 ∨ 10 ≤ v1.toInt) (Im (¬ (c 179 (i 185).toNatClampNeg).toInt % 256 = 255) (¬ r24.toInt % 256 = 255)) from fun h8 h9 => by have h7 := hce1 h8; omega), (show Im (¬ (v1.toInt = 0 ∨ 10 ≤ v1.toInt)) (Im (¬ (c 179 w.toNatClampNeg).toInt % 256 = 255) (¬ r24.toInt % 256 = 255)) from fun h8 h9 => by have h7 := hce2 h8; omega)⟩
  · refine lv_tableIn (off := 159) (tgt := 176) hx hb dX0_outcomeOf_17 (by omega) (by omega) (by rw [f3]; rfl) (by decide) ?_
    refine lv_iload hx hb dX0_outcomeOf_176 (lv_at hl 0 rfl) ?_
    refine lv_iconst (v := 0) hx hb dX0_outcomeOf_178 (by decide) ?_
    refine lv_iload_n hx hb dX0_outcomeOf_179 rfl (lv_at hl 2 rfl) ?_
    refine lv_iconst (v := 5) hx hb dX0_outcomeOf_180 (by decide) ?_
    refine lv_icmp_ne (tgt := 188) hx hb dX0_outcomeOf_181 (by decide) (fun c25 => ?_) (fun c25 => ?_)
    · have f25 := mt (ti_eq (a := v1.toInt) (b := 5) rfl (by decide)).mpr c25
      refine lv_iconst (v := 0) hx hb dX0_outcomeOf_188 (by decide) ?_
      have hPc := hP.sub (ws' := []) [] rfl
      have hKc := hK.sub (tys' := []) [] rfl
      refine ro_calli (va_runS (As := [.int x2, .int 0, .int 0]) (rest := []) ⟨hx, hb, hml, hown, hts⟩ (c_X6_flagged l D H.size x2 0 0 x2.toInt 0 rfl (by decide) (by omega) (by omega)) (va_cwS 3 hts gm_X0_outcomeOf_SA_X6_flagged_158 rfl rfl rfl (by decide +kernel) ⟨Nat.le_of_ble_eq_true rfl, Nat.le_of_ble_eq_true rfl⟩) (pA_S hKc hPc) rfl rfl hl.1 rfl (lv_room (Nat.le_of_ble_eq_true rfl)) dX0_outcomeOf_189 ⟨Nat.le_of_ble_eq_true rfl, Nat.le_of_ble_eq_true rfl⟩) hS hA hP (fun r27 u27 H locs hw27 hP hS => ?_)
      have hw27 : 0 ≤ r27.toInt ∧ r27.toInt ≤ 16383 ∧ r27.toInt % 256 = x2.toInt % 256 := hw27
      refine lv_goto (tgt := 276) hx hb dX0_outcomeOf_192 (by decide) ?_
      exact ro_iret hx hb hr hlocks hS dX0_outcomeOf_276 ⟨(show 0 ≤ r27.toInt ∧ r27.toInt ≤ 16383 ∧ (r27.toInt % 256 = 255 ∨ (r27.toInt % 8 ≤ 4 ∧ r27.toInt / 8 % 32 ≤ 29)) from by omega), (show Im (v1.toInt = 0 ∨ 10 ≤ v1.toInt) (Im (¬ (c 179 (i 185).toNatClampNeg).toInt % 256 = 255) (¬ r27.toInt % 256 = 255)) from fun h8 h9 => by have h7 := hce1 h8; omega), (show Im (¬ (v1.toInt = 0 ∨ 10 ≤ v1.toInt)) (Im (¬ (c 179 w.toNatClampNeg).toInt % 256 = 255) (¬ r27.toInt % 256 = 255)) from fun h8 h9 => by have h7 := hce2 h8; omega)⟩
    · have f25 := (ti_eq (a := v1.toInt) (b := 5) rfl (by decide)).mp c25
      refine lv_iconst (v := 1) hx hb dX0_outcomeOf_184 (by decide) ?_
      refine lv_goto (tgt := 189) hx hb dX0_outcomeOf_185 (by decide) ?_
      have hPc := hP.sub (ws' := []) [] rfl
      have hKc := hK.sub (tys' := []) [] rfl
      refine ro_calli (va_runS (As := [.int x2, .int 0, .int 1]) (rest := []) ⟨hx, hb, hml, hown, hts⟩ (c_X6_flagged l D H.size x2 0 1 x2.toInt 0 rfl (by decide) (by omega) (by omega)) (va_cwS 3 hts gm_X0_outcomeOf_SA_X6_flagged_158 rfl rfl rfl (by decide +kernel) ⟨Nat.le_of_ble_eq_true rfl, Nat.le_of_ble_eq_true rfl⟩) (pA_S hKc hPc) rfl rfl hl.1 rfl (lv_room (Nat.le_of_ble_eq_true rfl)) dX0_outcomeOf_189 ⟨Nat.le_of_ble_eq_true rfl, Nat.le_of_ble_eq_true rfl⟩) hS hA hP (fun r29 u29 H locs hw29 hP hS => ?_)
      have hw29 : 0 ≤ r29.toInt ∧ r29.toInt ≤ 16383 ∧ r29.toInt % 256 = x2.toInt % 256 := hw29
      refine lv_goto (tgt := 276) hx hb dX0_outcomeOf_192 (by decide) ?_
      exact ro_iret hx hb hr hlocks hS dX0_outcomeOf_276 ⟨(show 0 ≤ r29.toInt ∧ r29.toInt ≤ 16383 ∧ (r29.toInt % 256 = 255 ∨ (r29.toInt % 8 ≤ 4 ∧ r29.toInt / 8 % 32 ≤ 29)) from by omega), (show Im (v1.toInt = 0 ∨ 10 ≤ v1.toInt) (Im (¬ (c 179 (i 185).toNatClampNeg).toInt % 256 = 255) (¬ r29.toInt % 256 = 255)) from fun h8 h9 => by have h7 := hce1 h8; omega), (show Im (¬ (v1.toInt = 0 ∨ 10 ≤ v1.toInt)) (Im (¬ (c 179 w.toNatClampNeg).toInt % 256 = 255) (¬ r29.toInt % 256 = 255)) from fun h8 h9 => by have h7 := hce2 h8; omega)⟩
  · refine lv_tableIn (off := 178) (tgt := 195) hx hb dX0_outcomeOf_17 (by omega) (by omega) (by rw [f3]; rfl) (by decide) ?_
    refine lv_iload hx hb dX0_outcomeOf_195 (lv_at hl 0 rfl) ?_
    refine lv_iconst (v := 1) hx hb dX0_outcomeOf_197 (by decide) ?_
    refine lv_iload_n hx hb dX0_outcomeOf_198 rfl (lv_at hl 2 rfl) ?_
    refine lv_bipush (v := 8) hx hb dX0_outcomeOf_199 (by decide) ?_
    refine lv_icmp_ne (tgt := 208) hx hb dX0_outcomeOf_201 (by decide) (fun c30 => ?_) (fun c30 => ?_)
    · have f30 := mt (ti_eq (a := v1.toInt) (b := 8) rfl (by decide)).mpr c30
      refine lv_iconst (v := 0) hx hb dX0_outcomeOf_208 (by decide) ?_
      have hPc := hP.sub (ws' := []) [] rfl
      have hKc := hK.sub (tys' := []) [] rfl
      refine ro_calli (va_runS (As := [.int x2, .int 1, .int 0]) (rest := []) ⟨hx, hb, hml, hown, hts⟩ (c_X6_flagged l D H.size x2 1 0 x2.toInt 1 rfl (by decide) (by omega) (by omega)) (va_cwS 3 hts gm_X0_outcomeOf_SA_X6_flagged_158 rfl rfl rfl (by decide +kernel) ⟨Nat.le_of_ble_eq_true rfl, Nat.le_of_ble_eq_true rfl⟩) (pA_S hKc hPc) rfl rfl hl.1 rfl (lv_room (Nat.le_of_ble_eq_true rfl)) dX0_outcomeOf_209 ⟨Nat.le_of_ble_eq_true rfl, Nat.le_of_ble_eq_true rfl⟩) hS hA hP (fun r32 u32 H locs hw32 hP hS => ?_)
      have hw32 : 0 ≤ r32.toInt ∧ r32.toInt ≤ 16383 ∧ r32.toInt % 256 = x2.toInt % 256 := hw32
      refine lv_goto (tgt := 276) hx hb dX0_outcomeOf_212 (by decide) ?_
      exact ro_iret hx hb hr hlocks hS dX0_outcomeOf_276 ⟨(show 0 ≤ r32.toInt ∧ r32.toInt ≤ 16383 ∧ (r32.toInt % 256 = 255 ∨ (r32.toInt % 8 ≤ 4 ∧ r32.toInt / 8 % 32 ≤ 29)) from by omega), (show Im (v1.toInt = 0 ∨ 10 ≤ v1.toInt) (Im (¬ (c 179 (i 185).toNatClampNeg).toInt % 256 = 255) (¬ r32.toInt % 256 = 255)) from fun h8 h9 => by have h7 := hce1 h8; omega), (show Im (¬ (v1.toInt = 0 ∨ 10 ≤ v1.toInt)) (Im (¬ (c 179 w.toNatClampNeg).toInt % 256 = 255) (¬ r32.toInt % 256 = 255)) from fun h8 h9 => by have h7 := hce2 h8; omega)⟩
    · have f30 := (ti_eq (a := v1.toInt) (b := 8) rfl (by decide)).mp c30
      refine lv_iconst (v := 1) hx hb dX0_outcomeOf_204 (by decide) ?_
      refine lv_goto (tgt := 209) hx hb dX0_outcomeOf_205 (by decide) ?_
      have hPc := hP.sub (ws' := []) [] rfl
      have hKc := hK.sub (tys' := []) [] rfl
      refine ro_calli (va_runS (As := [.int x2, .int 1, .int 1]) (rest := []) ⟨hx, hb, hml, hown, hts⟩ (c_X6_flagged l D H.size x2 1 1 x2.toInt 1 rfl (by decide) (by omega) (by omega)) (va_cwS 3 hts gm_X0_outcomeOf_SA_X6_flagged_158 rfl rfl rfl (by decide +kernel) ⟨Nat.le_of_ble_eq_true rfl, Nat.le_of_ble_eq_true rfl⟩) (pA_S hKc hPc) rfl rfl hl.1 rfl (lv_room (Nat.le_of_ble_eq_true rfl)) dX0_outcomeOf_209 ⟨Nat.le_of_ble_eq_true rfl, Nat.le_of_ble_eq_true rfl⟩) hS hA hP (fun r34 u34 H locs hw34 hP hS => ?_)
      have hw34 : 0 ≤ r34.toInt ∧ r34.toInt ≤ 16383 ∧ r34.toInt % 256 = x2.toInt % 256 := hw34
      refine lv_goto (tgt := 276) hx hb dX0_outcomeOf_212 (by decide) ?_
      exact ro_iret hx hb hr hlocks hS dX0_outcomeOf_276 ⟨(show 0 ≤ r34.toInt ∧ r34.toInt ≤ 16383 ∧ (r34.toInt % 256 = 255 ∨ (r34.toInt % 8 ≤ 4 ∧ r34.toInt / 8 % 32 ≤ 29)) from by omega), (show Im (v1.toInt = 0 ∨ 10 ≤ v1.toInt) (Im (¬ (c 179 (i 185).toNatClampNeg).toInt % 256 = 255) (¬ r34.toInt % 256 = 255)) from fun h8 h9 => by have h7 := hce1 h8; omega), (show Im (¬ (v1.toInt = 0 ∨ 10 ≤ v1.toInt)) (Im (¬ (c 179 w.toNatClampNeg).toInt % 256 = 255) (¬ r34.toInt % 256 = 255)) from fun h8 h9 => by have h7 := hce2 h8; omega)⟩
  · refine lv_tableIn (off := 178) (tgt := 195) hx hb dX0_outcomeOf_17 (by omega) (by omega) (by rw [f3]; rfl) (by decide) ?_
    refine lv_iload hx hb dX0_outcomeOf_195 (lv_at hl 0 rfl) ?_
    refine lv_iconst (v := 1) hx hb dX0_outcomeOf_197 (by decide) ?_
    refine lv_iload_n hx hb dX0_outcomeOf_198 rfl (lv_at hl 2 rfl) ?_
    refine lv_bipush (v := 8) hx hb dX0_outcomeOf_199 (by decide) ?_
    refine lv_icmp_ne (tgt := 208) hx hb dX0_outcomeOf_201 (by decide) (fun c35 => ?_) (fun c35 => ?_)
    · have f35 := mt (ti_eq (a := v1.toInt) (b := 8) rfl (by decide)).mpr c35
      refine lv_iconst (v := 0) hx hb dX0_outcomeOf_208 (by decide) ?_
      have hPc := hP.sub (ws' := []) [] rfl
      have hKc := hK.sub (tys' := []) [] rfl
      refine ro_calli (va_runS (As := [.int x2, .int 1, .int 0]) (rest := []) ⟨hx, hb, hml, hown, hts⟩ (c_X6_flagged l D H.size x2 1 0 x2.toInt 1 rfl (by decide) (by omega) (by omega)) (va_cwS 3 hts gm_X0_outcomeOf_SA_X6_flagged_158 rfl rfl rfl (by decide +kernel) ⟨Nat.le_of_ble_eq_true rfl, Nat.le_of_ble_eq_true rfl⟩) (pA_S hKc hPc) rfl rfl hl.1 rfl (lv_room (Nat.le_of_ble_eq_true rfl)) dX0_outcomeOf_209 ⟨Nat.le_of_ble_eq_true rfl, Nat.le_of_ble_eq_true rfl⟩) hS hA hP (fun r37 u37 H locs hw37 hP hS => ?_)
      have hw37 : 0 ≤ r37.toInt ∧ r37.toInt ≤ 16383 ∧ r37.toInt % 256 = x2.toInt % 256 := hw37
      refine lv_goto (tgt := 276) hx hb dX0_outcomeOf_212 (by decide) ?_
      exact ro_iret hx hb hr hlocks hS dX0_outcomeOf_276 ⟨(show 0 ≤ r37.toInt ∧ r37.toInt ≤ 16383 ∧ (r37.toInt % 256 = 255 ∨ (r37.toInt % 8 ≤ 4 ∧ r37.toInt / 8 % 32 ≤ 29)) from by omega), (show Im (v1.toInt = 0 ∨ 10 ≤ v1.toInt) (Im (¬ (c 179 (i 185).toNatClampNeg).toInt % 256 = 255) (¬ r37.toInt % 256 = 255)) from fun h8 h9 => by have h7 := hce1 h8; omega), (show Im (¬ (v1.toInt = 0 ∨ 10 ≤ v1.toInt)) (Im (¬ (c 179 w.toNatClampNeg).toInt % 256 = 255) (¬ r37.toInt % 256 = 255)) from fun h8 h9 => by have h7 := hce2 h8; omega)⟩
    · have f35 := (ti_eq (a := v1.toInt) (b := 8) rfl (by decide)).mp c35
      refine lv_iconst (v := 1) hx hb dX0_outcomeOf_204 (by decide) ?_
      refine lv_goto (tgt := 209) hx hb dX0_outcomeOf_205 (by decide) ?_
      have hPc := hP.sub (ws' := []) [] rfl
      have hKc := hK.sub (tys' := []) [] rfl
      refine ro_calli (va_runS (As := [.int x2, .int 1, .int 1]) (rest := []) ⟨hx, hb, hml, hown, hts⟩ (c_X6_flagged l D H.size x2 1 1 x2.toInt 1 rfl (by decide) (by omega) (by omega)) (va_cwS 3 hts gm_X0_outcomeOf_SA_X6_flagged_158 rfl rfl rfl (by decide +kernel) ⟨Nat.le_of_ble_eq_true rfl, Nat.le_of_ble_eq_true rfl⟩) (pA_S hKc hPc) rfl rfl hl.1 rfl (lv_room (Nat.le_of_ble_eq_true rfl)) dX0_outcomeOf_209 ⟨Nat.le_of_ble_eq_true rfl, Nat.le_of_ble_eq_true rfl⟩) hS hA hP (fun r39 u39 H locs hw39 hP hS => ?_)
      have hw39 : 0 ≤ r39.toInt ∧ r39.toInt ≤ 16383 ∧ r39.toInt % 256 = x2.toInt % 256 := hw39
      refine lv_goto (tgt := 276) hx hb dX0_outcomeOf_212 (by decide) ?_
      exact ro_iret hx hb hr hlocks hS dX0_outcomeOf_276 ⟨(show 0 ≤ r39.toInt ∧ r39.toInt ≤ 16383 ∧ (r39.toInt % 256 = 255 ∨ (r39.toInt % 8 ≤ 4 ∧ r39.toInt / 8 % 32 ≤ 29)) from by omega), (show Im (v1.toInt = 0 ∨ 10 ≤ v1.toInt) (Im (¬ (c 179 (i 185).toNatClampNeg).toInt % 256 = 255) (¬ r39.toInt % 256 = 255)) from fun h8 h9 => by have h7 := hce1 h8; omega), (show Im (¬ (v1.toInt = 0 ∨ 10 ≤ v1.toInt)) (Im (¬ (c 179 w.toNatClampNeg).toInt % 256 = 255) (¬ r39.toInt % 256 = 255)) from fun h8 h9 => by have h7 := hce2 h8; omega)⟩
  · refine lv_tableIn (off := 198) (tgt := 215) hx hb dX0_outcomeOf_17 (by omega) (by omega) (by rw [f3]; rfl) (by decide) ?_
    refine lv_iload hx hb dX0_outcomeOf_215 (lv_at hl 0 rfl) ?_
    refine lv_iconst (v := 3) hx hb dX0_outcomeOf_217 (by decide) ?_
    refine lv_aload_n hx hb dX0_outcomeOf_218 rfl (lv_at hl 1 rfl) ?_
    refine xgS_SA_player (v := (i 185)) rfl hx hb hts (fun _ h => List.mem_cons_of_mem _ (List.mem_append_left _ (List.mem_append_left _ (List.mem_append_left _ (List.mem_append_right _ h))))) hown hK hP (hts (.fieldLink RX0 38 "TalePlay$Acts" "player" "I") (by decide +kernel)) dX0_outcomeOf_219 ?_
    have hPc := hP.sub (ws' := []) [] rfl
    have hKc := hK.sub (tys' := []) [] rfl
    refine ro_calli (va_runS (As := [.int x2, .int 3, .int (i 185)]) (rest := []) ⟨hx, hb, hml, hown, hts⟩ (c_X6_placed l D H.size x2 3 (i 185) x2.toInt 3 ((i 185).toInt) rfl (by decide) rfl (by omega) (by omega) (by omega)) (va_cwS 3 hts gm_X0_outcomeOf_SA_X6_placed_155 rfl rfl rfl (by decide +kernel) ⟨Nat.le_of_ble_eq_true rfl, Nat.le_of_ble_eq_true rfl⟩) (pA_S hKc hPc) rfl rfl hl.1 rfl (lv_room (Nat.le_of_ble_eq_true rfl)) dX0_outcomeOf_222 ⟨Nat.le_of_ble_eq_true rfl, Nat.le_of_ble_eq_true rfl⟩) hS hA hP (fun r41 u41 H locs hw41 hP hS => ?_)
    have hw41 : r41.toInt = x2.toInt / 256 * 256 + ((i 185).toInt) * 8 + 3 := hw41
    refine lv_goto (tgt := 276) hx hb dX0_outcomeOf_225 (by decide) ?_
    exact ro_iret hx hb hr hlocks hS dX0_outcomeOf_276 ⟨(show 0 ≤ r41.toInt ∧ r41.toInt ≤ 16383 ∧ (r41.toInt % 256 = 255 ∨ (r41.toInt % 8 ≤ 4 ∧ r41.toInt / 8 % 32 ≤ 29)) from by omega), (show Im (v1.toInt = 0 ∨ 10 ≤ v1.toInt) (Im (¬ (c 179 (i 185).toNatClampNeg).toInt % 256 = 255) (¬ r41.toInt % 256 = 255)) from fun h8 h9 => by have h7 := hce1 h8; omega), (show Im (¬ (v1.toInt = 0 ∨ 10 ≤ v1.toInt)) (Im (¬ (c 179 w.toNatClampNeg).toInt % 256 = 255) (¬ r41.toInt % 256 = 255)) from fun h8 h9 => by have h7 := hce2 h8; omega)⟩
  · refine lv_tableIn (off := 211) (tgt := 228) hx hb dX0_outcomeOf_17 (by omega) (by omega) (by rw [f3]; rfl) (by decide) ?_
    refine lv_iload hx hb dX0_outcomeOf_228 (lv_at hl 0 rfl) ?_
    refine lv_aload_n hx hb dX0_outcomeOf_230 rfl (lv_at hl 1 rfl) ?_
    refine xgS_SA_world hx hb hts (fun _ h => List.mem_cons_of_mem _ (List.mem_append_left _ (List.mem_append_left _ (List.mem_append_left _ (List.mem_append_right _ h))))) hown hK hP (hts (.fieldLink RX0 9 "TalePlay$Acts" "world" "LTalePlay$World;") (by decide +kernel)) dX0_outcomeOf_231 ?_
    refine lv_iload_n hx hb dX0_outcomeOf_234 rfl (lv_at hl 3 rfl) ?_
    have rb111_i : 0 ≤ (i 111).toInt ∧ (i 111).toInt ≤ 30 := hI.1 111
    refine ro_calli (va_runV (As := [.int w]) (rest := [.int x2]) ⟨hx, hb, hml, hown, hts⟩ (x_X10_sortOf l D H.size .null a t i q c d w hI ) (cwV 1 hts gm_X0_outcomeOf_SA_X10_sortOf_86 rfl rfl rfl (by decide +kernel) ⟨Nat.le_of_ble_eq_true rfl, Nat.le_of_ble_eq_true rfl⟩) (yA_V hN (xZ_k hZ hS hA) (xkS_W hK) (xuS_W (sk := sk) hP) (ci := 10) (q0 := 0) rfl rfl) rfl rfl hl.1 rfl (lv_room (Nat.le_of_ble_eq_true rfl)) dX0_outcomeOf_235 ⟨Nat.le_of_ble_eq_true rfl, Nat.le_of_ble_eq_true rfl⟩) hS hA hP (fun r42 u42 H locs hw42 hP hS => ?_)
    have hw42 : ((r42.toInt = -9 ∧ ¬ (0 ≤ w.toInt ∧ w.toInt < (i 111).toInt)) ∨ (0 ≤ r42.toInt ∧ r42.toInt ≤ 5 ∧ 0 ≤ w.toInt ∧ w.toInt < (i 111).toInt)) := hw42
    refine lv_iconst (v := 3) hx hb dX0_outcomeOf_238 (by decide) ?_
    refine lv_icmp_ne (tgt := 246) hx hb dX0_outcomeOf_239 (by decide) (fun c43 => ?_) (fun c43 => ?_)
    · have f43 := mt (ti_eq (a := r42.toInt) (b := 3) rfl (by decide)).mpr c43
      refine lv_iconst (v := 1) hx hb dX0_outcomeOf_246 (by decide) ?_
      refine lv_iload_n hx hb dX0_outcomeOf_247 rfl (lv_at hl 3 rfl) ?_
      have hPc := hP.sub (ws' := []) [] rfl
      have hKc := hK.sub (tys' := []) [] rfl
      refine ro_calli (va_runS (As := [.int x2, .int 1, .int w]) (rest := []) ⟨hx, hb, hml, hown, hts⟩ (c_X6_placed l D H.size x2 1 w x2.toInt 1 w.toInt rfl (by decide) rfl (by omega) (by omega) (by omega)) (va_cwS 3 hts gm_X0_outcomeOf_SA_X6_placed_155 rfl rfl rfl (by decide +kernel) ⟨Nat.le_of_ble_eq_true rfl, Nat.le_of_ble_eq_true rfl⟩) (pA_S hKc hPc) rfl rfl hl.1 rfl (lv_room (Nat.le_of_ble_eq_true rfl)) dX0_outcomeOf_248 ⟨Nat.le_of_ble_eq_true rfl, Nat.le_of_ble_eq_true rfl⟩) hS hA hP (fun r45 u45 H locs hw45 hP hS => ?_)
      have hw45 : r45.toInt = x2.toInt / 256 * 256 + w.toInt * 8 + 1 := hw45
      refine lv_goto (tgt := 276) hx hb dX0_outcomeOf_251 (by decide) ?_
      exact ro_iret hx hb hr hlocks hS dX0_outcomeOf_276 ⟨(show 0 ≤ r45.toInt ∧ r45.toInt ≤ 16383 ∧ (r45.toInt % 256 = 255 ∨ (r45.toInt % 8 ≤ 4 ∧ r45.toInt / 8 % 32 ≤ 29)) from by omega), (show Im (v1.toInt = 0 ∨ 10 ≤ v1.toInt) (Im (¬ (c 179 (i 185).toNatClampNeg).toInt % 256 = 255) (¬ r45.toInt % 256 = 255)) from fun h8 h9 => by have h7 := hce1 h8; omega), (show Im (¬ (v1.toInt = 0 ∨ 10 ≤ v1.toInt)) (Im (¬ (c 179 w.toNatClampNeg).toInt % 256 = 255) (¬ r45.toInt % 256 = 255)) from fun h8 h9 => by have h7 := hce2 h8; omega)⟩
    · have f43 := (ti_eq (a := r42.toInt) (b := 3) rfl (by decide)).mp c43
      refine lv_iconst (v := 0) hx hb dX0_outcomeOf_242 (by decide) ?_
      refine lv_goto (tgt := 247) hx hb dX0_outcomeOf_243 (by decide) ?_
      refine lv_iload_n hx hb dX0_outcomeOf_247 rfl (lv_at hl 3 rfl) ?_
      have hPc := hP.sub (ws' := []) [] rfl
      have hKc := hK.sub (tys' := []) [] rfl
      refine ro_calli (va_runS (As := [.int x2, .int 0, .int w]) (rest := []) ⟨hx, hb, hml, hown, hts⟩ (c_X6_placed l D H.size x2 0 w x2.toInt 0 w.toInt rfl (by decide) rfl (by omega) (by omega) (by omega)) (va_cwS 3 hts gm_X0_outcomeOf_SA_X6_placed_155 rfl rfl rfl (by decide +kernel) ⟨Nat.le_of_ble_eq_true rfl, Nat.le_of_ble_eq_true rfl⟩) (pA_S hKc hPc) rfl rfl hl.1 rfl (lv_room (Nat.le_of_ble_eq_true rfl)) dX0_outcomeOf_248 ⟨Nat.le_of_ble_eq_true rfl, Nat.le_of_ble_eq_true rfl⟩) hS hA hP (fun r47 u47 H locs hw47 hP hS => ?_)
      have hw47 : r47.toInt = x2.toInt / 256 * 256 + w.toInt * 8 + 0 := hw47
      refine lv_goto (tgt := 276) hx hb dX0_outcomeOf_251 (by decide) ?_
      exact ro_iret hx hb hr hlocks hS dX0_outcomeOf_276 ⟨(show 0 ≤ r47.toInt ∧ r47.toInt ≤ 16383 ∧ (r47.toInt % 256 = 255 ∨ (r47.toInt % 8 ≤ 4 ∧ r47.toInt / 8 % 32 ≤ 29)) from by omega), (show Im (v1.toInt = 0 ∨ 10 ≤ v1.toInt) (Im (¬ (c 179 (i 185).toNatClampNeg).toInt % 256 = 255) (¬ r47.toInt % 256 = 255)) from fun h8 h9 => by have h7 := hce1 h8; omega), (show Im (¬ (v1.toInt = 0 ∨ 10 ≤ v1.toInt)) (Im (¬ (c 179 w.toNatClampNeg).toInt % 256 = 255) (¬ r47.toInt % 256 = 255)) from fun h8 h9 => by have h7 := hce2 h8; omega)⟩
  · refine lv_tableIn (off := 237) (tgt := 254) hx hb dX0_outcomeOf_17 (by omega) (by omega) (by rw [f3]; rfl) (by decide) ?_
    have hal2 := hal (by omega)
    have hal3 : ¬ (c 179 (i 185).toNatClampNeg).toInt % 256 = 255 := hal2.1
    refine lv_aload_n hx hb dX0_outcomeOf_254 rfl (lv_at hl 1 rfl) ?_
    refine lv_iload hx hb dX0_outcomeOf_255 (lv_at hl 0 rfl) ?_
    refine lv_aload_n hx hb dX0_outcomeOf_257 rfl (lv_at hl 1 rfl) ?_
    refine xgS_SA_scene hx hb hts (fun _ h => List.mem_cons_of_mem _ (List.mem_append_left _ (List.mem_append_left _ (List.mem_append_left _ (List.mem_append_right _ h))))) hown hK hP (hts (.fieldLink RX0 33 "TalePlay$Acts" "scene" "LTalePlay$Scene;") (by decide +kernel)) dX0_outcomeOf_258 ?_
    refine lv_aload_n hx hb dX0_outcomeOf_261 rfl (lv_at hl 1 rfl) ?_
    refine xgS_SA_player (v := (i 185)) rfl hx hb hts (fun _ h => List.mem_cons_of_mem _ (List.mem_append_left _ (List.mem_append_left _ (List.mem_append_left _ (List.mem_append_right _ h))))) hown hK hP (hts (.fieldLink RX0 38 "TalePlay$Acts" "player" "I") (by decide +kernel)) dX0_outcomeOf_262 ?_
    refine ro_calli (va_runV (As := [.int (i 185)]) (rest := [.int x2, .ref (a 184)]) ⟨hx, hb, hml, hown, hts⟩ (x_X6_holderOf_SS l D H.size .null a t i q c d (i 185) hI (show 0 ≤ (i 185).toInt ∧ (i 185).toInt ≤ 29 from by omega)) (cwV 1 hts gm_X0_outcomeOf_SA_X6_holderOf_SS_83 rfl rfl rfl (by decide +kernel) ⟨Nat.le_of_ble_eq_true rfl, Nat.le_of_ble_eq_true rfl⟩) (yA_V hN (xZ_k hZ hS hA) (xkS_P2 hK) (xuS_P2 (sk := sk) hP) (ci := 6) (q0 := 0) rfl rfl) rfl rfl hl.1 rfl (lv_room (Nat.le_of_ble_eq_true rfl)) dX0_outcomeOf_265 ⟨Nat.le_of_ble_eq_true rfl, Nat.le_of_ble_eq_true rfl⟩) hS hA hP (fun r48 u48 H locs hw48 hP hS => ?_)
    have hw48 : ((r48.toInt = -9 ∧ (c 179 (i 185).toNatClampNeg).toInt % 256 = 255) ∨ (0 ≤ r48.toInt ∧ r48.toInt ≤ 29 ∧ ¬ (c 179 (i 185).toNatClampNeg).toInt % 256 = 255 ∧ r48.toInt = (c 179 (i 185).toNatClampNeg).toInt / 8 % 32)) := hw48
    refine ro_calli (va_runV (As := [.int x2, .int r48]) (rest := []) ⟨hx, hb, hml, hown, hts⟩ (x_X0_placedAs_SA l D H.size .null a t i q c d x2 r48 hI (show 0 ≤ x2.toInt ∧ x2.toInt ≤ 16383 from by omega) (show 0 ≤ r48.toInt ∧ r48.toInt ≤ 29 from by omega) (by have h8 := hal2.2; rw [ix_n (f := c 179) (s := r48) (show r48.toInt = (c 179 (i 185).toNatClampNeg).toInt / 8 % 32 from by omega) rfl] at h8; exact h8)) (cwV 2 hts gm_X0_outcomeOf_SA_X0_placedAs_SA_162 rfl rfl rfl (by decide +kernel) ⟨Nat.le_of_ble_eq_true rfl, Nat.le_of_ble_eq_true rfl⟩) (yA_V hN (xZ_k hZ hS hA) hK hP (ci := 0) (q0 := 43) rfl rfl) rfl rfl hl.1 rfl (lv_room (Nat.le_of_ble_eq_true rfl)) dX0_outcomeOf_268 ⟨Nat.le_of_ble_eq_true rfl, Nat.le_of_ble_eq_true rfl⟩) hS hA hP (fun r49 u49 H locs hw49 hP hS => ?_)
    have hw49 : (0 ≤ r49.toInt ∧ r49.toInt ≤ 16383 ∧ ¬ r49.toInt % 256 = 255 ∧ r49.toInt % 8 ≤ 4 ∧ r49.toInt / 8 % 32 ≤ 29) := hw49
    refine lv_goto (tgt := 276) hx hb dX0_outcomeOf_271 (by decide) ?_
    exact ro_iret hx hb hr hlocks hS dX0_outcomeOf_276 ⟨(show 0 ≤ r49.toInt ∧ r49.toInt ≤ 16383 ∧ (r49.toInt % 256 = 255 ∨ (r49.toInt % 8 ≤ 4 ∧ r49.toInt / 8 % 32 ≤ 29)) from by omega), (show Im (v1.toInt = 0 ∨ 10 ≤ v1.toInt) (Im (¬ (c 179 (i 185).toNatClampNeg).toInt % 256 = 255) (¬ r49.toInt % 256 = 255)) from fun h8 h9 => by have h7 := hce1 h8; omega), (show Im (¬ (v1.toInt = 0 ∨ 10 ≤ v1.toInt)) (Im (¬ (c 179 w.toNatClampNeg).toInt % 256 = 255) (¬ r49.toInt % 256 = 255)) from fun h8 h9 => by have h7 := hce2 h8; omega)⟩

