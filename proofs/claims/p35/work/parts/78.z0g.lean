def wm_X6_lies_eSS : List Cond := .code yX6_lies cX6_lies 4 (some .boolean) :: (([.fieldLink RX6 9 "TalePlay$Scene" "cells" "[I"] : List Cond) ++ wsX60)
set_option maxHeartbeats 4000000 in
set_option maxRecDepth 100000 in
theorem x_X6_lies_eSS (l : Launch) (D : va_G) (sz : Nat) (sk : Value) (a : Nat → Nat) (t : Nat → ClassId) (i : Nat → Int32) (q : Int64) (c : Nat → Nat → Int32) (d : Nat → Nat → Int64) (w : Int32) (f : Int32) (w2 : Int32) (hI : xInv i c) (hw : 0 ≤ w.toInt ∧ w.toInt ≤ 29) (hf : 0 ≤ f.toInt ∧ f.toInt ≤ 7) (hw2 : 0 ≤ w2.toInt ∧ w2.toInt ≤ 31) : Met l yX6_lies wm_X6_lies_eSS ({ frames := 0, cells := 0, slots := 0, locals := 0 }) (va_Pc [.ref (a 178), .int w, .int f, .int w2] (yA (a 186) D sz (xwP2 sk a t i q c d) (xtP2 t))) (va_Qi (fun (r : Int32) (_ : Unit) => ((0 ≤ r.toInt ∧ r.toInt ≤ 1) ∧ (Sm r ((c 179 w.toInt.toNat).toInt % 256 = w2.toInt * 8 + f.toInt)))) oA (ro sz)) 0 0 (ro sz) := by
  refine Met.ofW (cc := cX6_lies) (maxL := 4) (ret := (some .boolean)) (by decide +kernel) rfl ?_
  intro p e s m args below meth cd s₁ B hml hv
  obtain ⟨rfl, ⟨hsz, hP, hK⟩, hN, hZ⟩ := hv
  have hx := B.exec
  have hb := B.bytes
  have hr := B.returns
  have hts := atoms_spec (ws := wm_X6_lies_eSS) B.pre
  have hown : s.vm.findClass RX6 = some m.cls := findClass_of_methodNamed B.named
  have hlocks := B.notSynchronized
  subst hsz
  have hA : ∀ q : Nat, s.heap.size ≤ q → ro s.heap.size q := fun _ h => h
  have hS : va_S (ro s.heap.size) s.heap s.heap [] := va_S.rf
  have hl := lv_entry ([.ref (a 178), .int w, .int f, .int w2]) (n := 4) (Nat.le_of_ble_eq_true rfl)
  rw [lg_entry_eq]
  generalize (lg_sl ([.ref (a 178), .int w, .int f, .int w2]) ++ List.replicate (4 - (lg_sl ([.ref (a 178), .int w, .int f, .int w2])).length) Slot.unset).toArray = ls at hl ⊢
  have hl : lv_has ls 4 [(0, .ref (a 178)), (1, .int w), (2, .int f), (3, .int w2)] := hl
  refine lv_aload_n hx hb dX6_lies_0 rfl (lv_at hl 0 rfl) ?_
  refine xgP2_SS_cells hx hb hts (fun _ h => List.mem_cons_of_mem _ (List.mem_append_right _ h)) hown hK hP (hts (.fieldLink RX6 9 "TalePlay$Scene" "cells" "[I") (List.mem_cons_of_mem _ (List.mem_append_left _ (List.mem_of_getElem? (i := 0) rfl)))) dX6_lies_1 ?_
  refine lv_iload_n hx hb dX6_lies_4 rfl (lv_at hl 1 rfl) ?_
  refine xlP2_179 hx hb hK hP (vp_in_iff.mpr (by have h9 : w.toInt = w.toInt := rfl; omega)) dX6_lies_5 (fun x1 ex1 => ?_)
  have rx1 : 0 ≤ x1.toInt ∧ x1.toInt ≤ 16383 ∧ (x1.toInt % 256 = 255 ∨ (x1.toInt % 8 ≤ 4 ∧ x1.toInt / 8 % 32 ≤ 29)) := by rw [ex1]; exact hI.2 179 _
  have gx1 : (c 179 (w : Int32).toNatClampNeg).toInt = x1.toInt := (congrArg Int32.toInt ex1).symm
  refine lv_sipush (v := 255) hx hb dX6_lies_6 (by decide +kernel) ?_
  refine lv_iand hx hb dX6_lies_9 ?_
  refine lv_topi (fun x2 ex2 => ?_)
  have bx2 := and255 (by omega) ex2
  refine lv_iload_n hx hb dX6_lies_10 rfl (lv_at hl 3 rfl) ?_
  refine lv_iconst (v := 3) hx hb dX6_lies_11 (by decide +kernel) ?_
  refine lv_ishl hx hb dX6_lies_12 ?_
  refine lv_topi (fun x3 ex3 => ?_)
  refine lv_iload_n hx hb dX6_lies_13 rfl (lv_at hl 2 rfl) ?_
  refine lv_ior hx hb dX6_lies_14 ?_
  refine lv_topi (fun x4 ex4 => ?_)
  have bx4 := lies_c (h := w2) (f := f) (by omega) (by omega) ex3 ex4
  refine lv_icmp_ne (tgt := 22) hx hb dX6_lies_15 (by decide +kernel) (fun c5 => ?_) (fun c5 => ?_)
  · have f5 := mt (ti_eq (a := (x1.toInt % 256)) (b := (w2.toInt * 8 + f.toInt)) bx2 bx4).mpr c5
    refine lv_iconst (v := 0) hx hb dX6_lies_22 (by decide +kernel) ?_
    exact ro_zret hx hb hr hlocks hS rfl dX6_lies_23 ⟨(show 0 ≤ (0 : Int32).toInt ∧ (0 : Int32).toInt ≤ 1 from by decide +kernel), (show Sm (0 : Int32) ((c 179 w.toInt.toNat).toInt % 256 = w2.toInt * 8 + f.toInt) from sm_0 (by have h9 : (c 179 w.toInt.toNat).toInt = x1.toInt := gx1; omega))⟩
  · have f5 := (ti_eq (a := (x1.toInt % 256)) (b := (w2.toInt * 8 + f.toInt)) bx2 bx4).mp c5
    refine lv_iconst (v := 1) hx hb dX6_lies_18 (by decide +kernel) ?_
    refine lv_goto (tgt := 23) hx hb dX6_lies_19 (by decide +kernel) ?_
    exact ro_zret hx hb hr hlocks hS rfl dX6_lies_23 ⟨(show 0 ≤ (1 : Int32).toInt ∧ (1 : Int32).toInt ≤ 1 from by decide +kernel), (show Sm (1 : Int32) ((c 179 w.toInt.toNat).toInt % 256 = w2.toInt * 8 + f.toInt) from sm_1 (by have h9 : (c 179 w.toInt.toNat).toInt = x1.toInt := gx1; omega))⟩

def wm_X6_has_eSS : List Cond := .code yX6_has cX6_has 3 (some .boolean) :: (([.fieldLink RX6 9 "TalePlay$Scene" "cells" "[I"] : List Cond) ++ wsX60)
set_option maxHeartbeats 4000000 in
set_option maxRecDepth 100000 in
theorem x_X6_has_eSS (l : Launch) (D : va_G) (sz : Nat) (sk : Value) (a : Nat → Nat) (t : Nat → ClassId) (i : Nat → Int32) (q : Int64) (c : Nat → Nat → Int32) (d : Nat → Nat → Int64) (w : Int32) (f : Int32) (hI : xInv i c) (hw : 0 ≤ w.toInt ∧ w.toInt ≤ 29) (hf : 0 ≤ f.toInt ∧ f.toInt ≤ 5) : Met l yX6_has wm_X6_has_eSS ({ frames := 0, cells := 0, slots := 0, locals := 0 }) (va_Pc [.ref (a 178), .int w, .int f] (yA (a 186) D sz (xwP2 sk a t i q c d) (xtP2 t))) (va_Qi (fun (r : Int32) (_ : Unit) => ((0 ≤ r.toInt ∧ r.toInt ≤ 1) ∧ (Sm r (hbt (c 179 w.toInt.toNat) f.toInt)))) oA (ro sz)) 0 0 (ro sz) := by
  refine Met.ofW (cc := cX6_has) (maxL := 3) (ret := (some .boolean)) (by decide +kernel) rfl ?_
  intro p e s m args below meth cd s₁ B hml hv
  obtain ⟨rfl, ⟨hsz, hP, hK⟩, hN, hZ⟩ := hv
  have hx := B.exec
  have hb := B.bytes
  have hr := B.returns
  have hts := atoms_spec (ws := wm_X6_has_eSS) B.pre
  have hown : s.vm.findClass RX6 = some m.cls := findClass_of_methodNamed B.named
  have hlocks := B.notSynchronized
  subst hsz
  have hA : ∀ q : Nat, s.heap.size ≤ q → ro s.heap.size q := fun _ h => h
  have hS : va_S (ro s.heap.size) s.heap s.heap [] := va_S.rf
  have hl := lv_entry ([.ref (a 178), .int w, .int f]) (n := 3) (Nat.le_of_ble_eq_true rfl)
  rw [lg_entry_eq]
  generalize (lg_sl ([.ref (a 178), .int w, .int f]) ++ List.replicate (3 - (lg_sl ([.ref (a 178), .int w, .int f])).length) Slot.unset).toArray = ls at hl ⊢
  have hl : lv_has ls 3 [(0, .ref (a 178)), (1, .int w), (2, .int f)] := hl
  refine lv_aload_n hx hb dX6_has_0 rfl (lv_at hl 0 rfl) ?_
  refine xgP2_SS_cells hx hb hts (fun _ h => List.mem_cons_of_mem _ (List.mem_append_right _ h)) hown hK hP (hts (.fieldLink RX6 9 "TalePlay$Scene" "cells" "[I") (List.mem_cons_of_mem _ (List.mem_append_left _ (List.mem_of_getElem? (i := 0) rfl)))) dX6_has_1 ?_
  refine lv_iload_n hx hb dX6_has_4 rfl (lv_at hl 1 rfl) ?_
  refine xlP2_179 hx hb hK hP (vp_in_iff.mpr (by have h9 : w.toInt = w.toInt := rfl; omega)) dX6_has_5 (fun x1 ex1 => ?_)
  have rx1 : 0 ≤ x1.toInt ∧ x1.toInt ≤ 16383 ∧ (x1.toInt % 256 = 255 ∨ (x1.toInt % 8 ≤ 4 ∧ x1.toInt / 8 % 32 ≤ 29)) := by rw [ex1]; exact hI.2 179 _
  have gx1 : (c 179 (w : Int32).toNatClampNeg).toInt = x1.toInt := (congrArg Int32.toInt ex1).symm
  refine lv_bipush (v := 8) hx hb dX6_has_6 (by decide +kernel) ?_
  refine lv_iload_n hx hb dX6_has_8 rfl (lv_at hl 2 rfl) ?_
  refine lv_iadd hx hb dX6_has_9 ?_
  refine lv_topi (fun x2 ex2 => ?_)
  have tx2 := ti_add (a := 8) (b := f.toInt) ex2 (by decide +kernel) rfl (by omega) (by omega)
  refine lv_ishr hx hb dX6_has_10 ?_
  refine lv_topi (fun x3 ex3 => ?_)
  refine lv_iconst (v := 1) hx hb dX6_has_11 (by decide +kernel) ?_
  refine lv_iand hx hb dX6_has_12 ?_
  refine lv_topi (fun x4 ex4 => ?_)
  have hH := has_b (c := x1) (f := f) (x := x2) (by omega) (by omega) tx2 ex3 ex4
  refine lv_iconst (v := 1) hx hb dX6_has_13 (by decide +kernel) ?_
  refine lv_icmp_ne (tgt := 21) hx hb dX6_has_14 (by decide +kernel) (fun c5 => ?_) (fun c5 => ?_)
  · have f5 := mt (ti_eq (a := x4.toInt) (b := 1) rfl (by decide +kernel)).mpr c5
    refine lv_iconst (v := 0) hx hb dX6_has_21 (by decide +kernel) ?_
    exact ro_zret hx hb hr hlocks hS rfl dX6_has_22 ⟨(show 0 ≤ (0 : Int32).toInt ∧ (0 : Int32).toInt ≤ 1 from by decide +kernel), (show Sm (0 : Int32) (hbt (c 179 w.toInt.toNat) f.toInt) from sm_0 (by rcases hH with h9 | h9; (· exfalso; omega); (· have h8 := h9.2; rw [ex1] at h8; exact h8)))⟩
  · have f5 := (ti_eq (a := x4.toInt) (b := 1) rfl (by decide +kernel)).mp c5
    refine lv_iconst (v := 1) hx hb dX6_has_17 (by decide +kernel) ?_
    refine lv_goto (tgt := 22) hx hb dX6_has_18 (by decide +kernel) ?_
    exact ro_zret hx hb hr hlocks hS rfl dX6_has_22 ⟨(show 0 ≤ (1 : Int32).toInt ∧ (1 : Int32).toInt ≤ 1 from by decide +kernel), (show Sm (1 : Int32) (hbt (c 179 w.toInt.toNat) f.toInt) from sm_1 (by rcases hH with h9 | h9; (· have h8 := h9.2; rw [ex1] at h8; exact h8); (· exfalso; omega)))⟩

def wm_X6_isUp_eSS : List Cond := .code yX6_isUp cX6_isUp 5 (some .boolean) :: (([.methodLink RX6 25 yX6_holderOf, .instanceMethod yX6_holderOf, .selects RX6 yX6_holderOf yX6_holderOf, .initialized RX6, .code yX6_holderOf cX6_holderOf 3 (some .int), .fieldLink RX6 9 "TalePlay$Scene" "cells" "[I"] : List Cond) ++ wsX60)
set_option maxRecDepth 20000 in
theorem gm_X6_isUp_eSS_X6_holderOf_SS_25 : GoodIn wm_X6_isUp_eSS (wsV RX6 25 RX6 yX6_holderOf wm_X6_holderOf_SS) := goodIn_w (List.forall_mem_append.mpr ⟨List.forall_mem_cons.mpr ⟨List.mem_cons_of_mem _ (List.mem_append_left _ (List.mem_of_getElem? (i := 0) rfl)), List.forall_mem_cons.mpr ⟨List.mem_cons_of_mem _ (List.mem_append_left _ (List.mem_of_getElem? (i := 1) rfl)), List.forall_mem_cons.mpr ⟨List.mem_cons_of_mem _ (List.mem_append_left _ (List.mem_of_getElem? (i := 2) rfl)), List.forall_mem_cons.mpr ⟨List.mem_cons_of_mem _ (List.mem_append_left _ (List.mem_of_getElem? (i := 3) rfl)), (fun _ h => absurd h List.not_mem_nil)⟩⟩⟩⟩, List.forall_mem_cons.mpr ⟨List.mem_cons_of_mem _ (List.mem_append_left _ (List.mem_of_getElem? (i := 4) rfl)), List.forall_mem_append.mpr ⟨List.forall_mem_cons.mpr ⟨List.mem_cons_of_mem _ (List.mem_append_left _ (List.mem_of_getElem? (i := 5) rfl)), (fun _ h => absurd h List.not_mem_nil)⟩, (fun _ h => List.mem_cons_of_mem _ (List.mem_append_right _ h))⟩⟩⟩) (by decide +kernel)
set_option maxHeartbeats 4000000 in
set_option maxRecDepth 100000 in
theorem x_X6_isUp_eSS (l : Launch) (D : va_G) (sz : Nat) (sk : Value) (a : Nat → Nat) (t : Nat → ClassId) (i : Nat → Int32) (q : Int64) (c : Nat → Nat → Int32) (d : Nat → Nat → Int64) (w1 : Int32) (w2 : Int32) (hI : xInv i c) (hw2 : 0 ≤ w2.toInt ∧ w2.toInt ≤ 29) (hw10 : 0 ≤ w1.toInt) : Met l yX6_isUp wm_X6_isUp_eSS ({ frames := 1, cells := 0, slots := 0, locals := 22 }) (va_Pc [.ref (a 178), .int w1, .int w2] (yA (a 186) D sz (xwP2 sk a t i q c d) (xtP2 t))) (va_Qi (fun (r : Int32) (_ : Unit) => ((0 ≤ r.toInt ∧ r.toInt ≤ 1) ∧ (Sm r (ChB 30 (hF (c 179)) ((hF (c 179)) w2.toInt) w1.toInt)))) oA (ro sz)) 0 0 (ro sz) := by
  refine Met.ofW (cc := cX6_isUp) (maxL := 5) (ret := (some .boolean)) (by decide +kernel) rfl ?_
  intro p e s m args below meth cd s₁ B hml hv
  obtain ⟨rfl, ⟨hsz, hP, hK⟩, hN, hZ⟩ := hv
  have hx := B.exec
  have hb := B.bytes
  have hr := B.returns
  have hts := atoms_spec (ws := wm_X6_isUp_eSS) B.pre
  have hown : s.vm.findClass RX6 = some m.cls := findClass_of_methodNamed B.named
  have hlocks := B.notSynchronized
  subst hsz
  have hA : ∀ q : Nat, s.heap.size ≤ q → ro s.heap.size q := fun _ h => h
  have hS : va_S (ro s.heap.size) s.heap s.heap [] := va_S.rf
  have hl := lv_entry ([.ref (a 178), .int w1, .int w2]) (n := 5) (Nat.le_of_ble_eq_true rfl)
  rw [lg_entry_eq]
  generalize (lg_sl ([.ref (a 178), .int w1, .int w2]) ++ List.replicate (5 - (lg_sl ([.ref (a 178), .int w1, .int w2])).length) Slot.unset).toArray = ls at hl ⊢
  have hl : lv_has ls 5 [(0, .ref (a 178)), (1, .int w1), (2, .int w2)] := hl
  refine lv_aload_n hx hb dX6_isUp_0 rfl (lv_at hl 0 rfl) ?_
  refine lv_iload_n hx hb dX6_isUp_1 rfl (lv_at hl 2 rfl) ?_
  refine ro_calli (va_runV (As := [.int w2]) (rest := []) ⟨hx, hb, hml, hown, hts⟩ (x_X6_holderOf_SS l D s.heap.size .null a t i q c d w2 hI (show 0 ≤ w2.toInt ∧ w2.toInt ≤ 29 from by omega)) (cwV 1 hts gm_X6_isUp_eSS_X6_holderOf_SS_25 rfl rfl rfl (by decide +kernel) ⟨Nat.le_of_ble_eq_true rfl, Nat.le_of_ble_eq_true rfl⟩) (yA_V hN (xZ_k hZ hS hA) hK hP (ci := 6) (q0 := 0) rfl rfl) rfl rfl hl.1 rfl (lv_room (Nat.le_of_ble_eq_true rfl)) dX6_isUp_2 ⟨Nat.le_of_ble_eq_true rfl, Nat.le_of_ble_eq_true rfl⟩) hS hA hP (fun r1 u1 H locs hw1 hP hS => ?_)
  have hw1 : ((r1.toInt = -9 ∧ (c 179 w2.toNatClampNeg).toInt % 256 = 255) ∨ (0 ≤ r1.toInt ∧ r1.toInt ≤ 29 ∧ ¬ (c 179 w2.toNatClampNeg).toInt % 256 = 255 ∧ r1.toInt = (c 179 w2.toNatClampNeg).toInt / 8 % 32)) := hw1
  have hh0 : (hF (c 179)) w2.toInt = r1.toInt := hF_at (by omega) hw1
  refine lv_istore_n (lv' := [(3, .int r1), (0, .ref (a 178)), (1, .int w1), (2, .int w2)]) hx hb dX6_isUp_5 rfl hl (by decide +kernel) rfl (fun ls hl => ?_)
  refine lv_iconst (v := 0) hx hb dX6_isUp_6 (by decide +kernel) ?_
  refine lv_istore (lv' := [(4, .int 0), (3, .int r1), (0, .ref (a 178)), (1, .int w1), (2, .int w2)]) hx hb dX6_isUp_7 hl (by decide +kernel) rfl (fun ls hl => ?_)
  have lp2 : ∀ (fu : Nat) (y2_4 : Int32) (y2_3 : Int32), (0 ≤ y2_4.toInt ∧ y2_4.toInt ≤ 30) → (y2_3.toInt = -9 ∨ (0 ≤ y2_3.toInt ∧ y2_3.toInt ≤ 29)) → (ChB 30 (hF (c 179)) ((hF (c 179)) w2.toInt) w1.toInt ↔ ChB (30 - y2_4.toInt.toNat) (hF (c 179)) y2_3.toInt w1.toInt) → (30 - y2_4.toInt).toNat < fu → ∀ (H : Heap) (locs : List Loc) (ls : Array Slot), va_P D vwCl (xwP2 sk a t i q c d) H → va_S (ro s.heap.size) s.heap H locs → lv_has ls 5 [(4, .int y2_4), (3, .int y2_3), (0, .ref (a 178)), (1, .int w1), (2, .int w2)] → W p l e (headSpec wm_X6_isUp_eSS ({ frames := 1, cells := 0, slots := 0, locals := 22 })).room s m ([.ref (a 178), .int w1, .int w2] : List Value).toArray below meth cd H locs 0 0 (MQ below (va_Qi (fun (r : Int32) (_ : Unit) => ((0 ≤ r.toInt ∧ r.toInt ≤ 1) ∧ (Sm r (ChB 30 (hF (c 179)) ((hF (c 179)) w2.toInt) w1.toInt)))) oA (ro s.heap.size)) ([.ref (a 178), .int w1, .int w2] : List Value).toArray s 0 0 (ro s.heap.size)) (F0 m 9 ls []) := by
    intro fu
    induction fu with
    | zero => intro y2_4 y2_3 hy2_4 hy2_3 hz2_0 hm; exact absurd hm (Nat.not_lt_zero _)
    | succ fu ih =>
      intro y2_4 y2_3 hy2_4 hy2_3 hz2_0 hm H locs ls hP hS hl
      have ih2 := ih
      refine lv_iload hx hb dX6_isUp_9 (lv_at hl 0 rfl) ?_
      refine lv_bipush (v := 30) hx hb dX6_isUp_11 (by decide +kernel) ?_
      refine lv_icmp_ge (tgt := 41) hx hb dX6_isUp_13 (by decide +kernel) (fun c3 => ?_) (fun c3 => ?_)
      · have f3 := (ti_le (a := 30) (b := y2_4.toInt) (by decide +kernel) rfl).mp c3
        refine lv_iconst (v := 0) hx hb dX6_isUp_41 (by decide +kernel) ?_
        exact ro_zret hx hb hr hlocks hS rfl dX6_isUp_42 ⟨(show 0 ≤ (0 : Int32).toInt ∧ (0 : Int32).toInt ≤ 1 from by decide +kernel), (show Sm (0 : Int32) (ChB 30 (hF (c 179)) ((hF (c 179)) w2.toInt) w1.toInt) from sm_0 (ChB_x hz2_0 (by omega) hF_9 (by omega)))⟩
      · have f3 := mt (ti_le (a := 30) (b := y2_4.toInt) (by decide +kernel) rfl).mpr c3
        refine lv_iload_n hx hb dX6_isUp_16 rfl (lv_at hl 1 rfl) ?_
        refine lv_bipush (v := (-9)) hx hb dX6_isUp_17 (by decide +kernel) ?_
        refine lv_icmp_eq (tgt := 41) hx hb dX6_isUp_19 (by decide +kernel) (fun c4 => ?_) (fun c4 => ?_)
        · have f4 := (ti_eq (a := y2_3.toInt) (b := (-9)) rfl (by decide +kernel)).mp c4
          refine lv_iconst (v := 0) hx hb dX6_isUp_41 (by decide +kernel) ?_
          exact ro_zret hx hb hr hlocks hS rfl dX6_isUp_42 ⟨(show 0 ≤ (0 : Int32).toInt ∧ (0 : Int32).toInt ≤ 1 from by decide +kernel), (show Sm (0 : Int32) (ChB 30 (hF (c 179)) ((hF (c 179)) w2.toInt) w1.toInt) from sm_0 (ChB_x hz2_0 (by omega) hF_9 (by omega)))⟩
        · have f4 := mt (ti_eq (a := y2_3.toInt) (b := (-9)) rfl (by decide +kernel)).mpr c4
          refine lv_iload_n hx hb dX6_isUp_22 rfl (lv_at hl 1 rfl) ?_
          refine lv_iload_n hx hb dX6_isUp_23 rfl (lv_at hl 3 rfl) ?_
          refine lv_icmp_ne (tgt := 29) hx hb dX6_isUp_24 (by decide +kernel) (fun c5 => ?_) (fun c5 => ?_)
          · have f5 := mt (ti_eq (a := y2_3.toInt) (b := w1.toInt) rfl rfl).mpr c5
            refine lv_aload_n hx hb dX6_isUp_29 rfl (lv_at hl 2 rfl) ?_
            refine lv_iload_n hx hb dX6_isUp_30 rfl (lv_at hl 1 rfl) ?_
            refine ro_calli (va_runV (As := [.int y2_3]) (rest := []) ⟨hx, hb, hml, hown, hts⟩ (x_X6_holderOf_SS l D H.size .null a t i q c d y2_3 hI (show 0 ≤ y2_3.toInt ∧ y2_3.toInt ≤ 29 from by omega)) (cwV 1 hts gm_X6_isUp_eSS_X6_holderOf_SS_25 rfl rfl rfl (by decide +kernel) ⟨Nat.le_of_ble_eq_true rfl, Nat.le_of_ble_eq_true rfl⟩) (yA_V hN (xZ_k hZ hS hA) hK hP (ci := 6) (q0 := 0) rfl rfl) rfl rfl hl.1 rfl (lv_room (Nat.le_of_ble_eq_true rfl)) dX6_isUp_31 ⟨Nat.le_of_ble_eq_true rfl, Nat.le_of_ble_eq_true rfl⟩) hS hA hP (fun r6 u6 H locs hw6 hP hS => ?_)
            have hw6 : ((r6.toInt = -9 ∧ (c 179 y2_3.toNatClampNeg).toInt % 256 = 255) ∨ (0 ≤ r6.toInt ∧ r6.toInt ≤ 29 ∧ ¬ (c 179 y2_3.toNatClampNeg).toInt % 256 = 255 ∧ r6.toInt = (c 179 y2_3.toNatClampNeg).toInt / 8 % 32)) := hw6
            have hh1 : (hF (c 179)) y2_3.toInt = r6.toInt := hF_at (by omega) hw6
            refine lv_istore_n (lv' := [(3, .int r6), (4, .int y2_4), (0, .ref (a 178)), (1, .int w1), (2, .int w2)]) hx hb dX6_isUp_34 rfl hl (by decide +kernel) rfl (fun ls hl => ?_)
            obtain ⟨x7, ex7⟩ : ∃ y : Int32, y = y2_4 + 1 := ⟨_, rfl⟩
            have tx7 := ti_add (a := y2_4.toInt) (b := 1) ex7 rfl (by decide +kernel) (by omega) (by omega)
            refine lv_iinc (v := x7) (lv' := [(4, .int x7), (3, .int r6), (0, .ref (a 178)), (1, .int w1), (2, .int w2)]) hx hb dX6_isUp_35 hl (k := 1) rfl (by rw [ex7]; rfl) (by decide +kernel) rfl (fun ls hl => ?_)
            refine lv_goto (tgt := 9) hx hb dX6_isUp_38 (by decide +kernel) ?_
            exact ih2 x7 r6 (show 0 ≤ x7.toInt ∧ x7.toInt ≤ 30 from by have h50 : x7.toInt = (y2_4.toInt + 1) := tx7; omega) (show r6.toInt = -9 ∨ (0 ≤ r6.toInt ∧ r6.toInt ≤ 29) from by have h50 : x7.toInt = (y2_4.toInt + 1) := tx7; omega) (show ChB 30 (hF (c 179)) ((hF (c 179)) w2.toInt) w1.toInt ↔ ChB (30 - x7.toInt.toNat) (hF (c 179)) r6.toInt w1.toInt from ChB_s hz2_0 (by omega) tx7 (by omega) hh1) (by have h50 : x7.toInt = (y2_4.toInt + 1) := tx7; omega) _ _ _ hP hS (lv_sub hl [0, 1, 2, 3, 4] rfl)
          · have f5 := (ti_eq (a := y2_3.toInt) (b := w1.toInt) rfl rfl).mp c5
            refine lv_iconst (v := 1) hx hb dX6_isUp_27 (by decide +kernel) ?_
            exact ro_zret hx hb hr hlocks hS rfl dX6_isUp_28 ⟨(show 0 ≤ (1 : Int32).toInt ∧ (1 : Int32).toInt ≤ 1 from by decide +kernel), (show Sm (1 : Int32) (ChB 30 (hF (c 179)) ((hF (c 179)) w2.toInt) w1.toInt) from sm_1 (ChB_y hz2_0 (by omega) (by omega)))⟩
  exact lp2 _ (0 : Int32) r1 (show 0 ≤ (0 : Int32).toInt ∧ (0 : Int32).toInt ≤ 30 from by decide +kernel) (show r1.toInt = -9 ∨ (0 ≤ r1.toInt ∧ r1.toInt ≤ 29) from by have h50 : (0 : Int32).toInt = 0 := (by decide +kernel); omega) (show ChB 30 (hF (c 179)) ((hF (c 179)) w2.toInt) w1.toInt ↔ ChB (30 - (0 : Int32).toInt.toNat) (hF (c 179)) r1.toInt w1.toInt from ChB_e (by decide +kernel) hh0) (Nat.lt_succ_self _) _ _ _ hP hS (lv_sub hl [0, 1, 2, 3, 4] rfl)

def wm_X6_countOf_eSS : List Cond := .code yX6_countOf cX6_countOf 5 (some .int) :: (([.fieldLink RX6 15 "TalePlay$Scene" "world" "LTalePlay$World;", .fieldLink RX6 34 "TalePlay$World" "objects" "I", .methodLink RX6 38 yX6_lies, .instanceMethod yX6_lies, .selects RX6 yX6_lies yX6_lies, .initialized RX6, .code yX6_lies cX6_lies 4 (some .boolean), .fieldLink RX6 9 "TalePlay$Scene" "cells" "[I"] : List Cond) ++ wsX60 ++ wsX100)
set_option maxRecDepth 20000 in
theorem gm_X6_countOf_eSS_X6_lies_eSS_38 : GoodIn wm_X6_countOf_eSS (wsV RX6 38 RX6 yX6_lies wm_X6_lies_eSS) := goodIn_w (List.forall_mem_append.mpr ⟨List.forall_mem_cons.mpr ⟨List.mem_cons_of_mem _ (List.mem_append_left _ (List.mem_append_left _ (List.mem_of_getElem? (i := 2) rfl))), List.forall_mem_cons.mpr ⟨List.mem_cons_of_mem _ (List.mem_append_left _ (List.mem_append_left _ (List.mem_of_getElem? (i := 3) rfl))), List.forall_mem_cons.mpr ⟨List.mem_cons_of_mem _ (List.mem_append_left _ (List.mem_append_left _ (List.mem_of_getElem? (i := 4) rfl))), List.forall_mem_cons.mpr ⟨List.mem_cons_of_mem _ (List.mem_append_left _ (List.mem_append_left _ (List.mem_of_getElem? (i := 5) rfl))), (fun _ h => absurd h List.not_mem_nil)⟩⟩⟩⟩, List.forall_mem_cons.mpr ⟨List.mem_cons_of_mem _ (List.mem_append_left _ (List.mem_append_left _ (List.mem_of_getElem? (i := 6) rfl))), List.forall_mem_append.mpr ⟨List.forall_mem_cons.mpr ⟨List.mem_cons_of_mem _ (List.mem_append_left _ (List.mem_append_left _ (List.mem_of_getElem? (i := 7) rfl))), (fun _ h => absurd h List.not_mem_nil)⟩, (fun _ h => List.mem_cons_of_mem _ (List.mem_append_left _ (List.mem_append_right _ h)))⟩⟩⟩) (by decide +kernel)
set_option maxHeartbeats 4000000 in
set_option maxRecDepth 100000 in
theorem x_X6_countOf_eSS (l : Launch) (D : va_G) (sz : Nat) (sk : Value) (a : Nat → Nat) (t : Nat → ClassId) (i : Nat → Int32) (q : Int64) (c : Nat → Nat → Int32) (d : Nat → Nat → Int64) (f : Int32) (w : Int32) (hI : xInv i c) (hf : 0 ≤ f.toInt ∧ f.toInt ≤ 7) (hw : 0 ≤ w.toInt ∧ w.toInt ≤ 31) : Met l yX6_countOf wm_X6_countOf_eSS ({ frames := 1, cells := 0, slots := 0, locals := 23 }) (va_Pc [.ref (a 178), .int f, .int w] (yA (a 186) D sz (xwQ2 sk a t i q c d) (xtQ2 t))) (va_Qi (fun (r : Int32) (_ : Unit) => ((0 ≤ r.toInt ∧ r.toInt ≤ 30) ∧ (r.toInt = ((cnt (lsP (c 179) f.toInt w.toInt) (i 111).toInt.toNat : Nat) : Int)))) oA (ro sz)) 0 0 (ro sz) := by
  refine Met.ofW (cc := cX6_countOf) (maxL := 5) (ret := (some .int)) (by decide +kernel) rfl ?_
  intro p e s m args below meth cd s₁ B hml hv
  obtain ⟨rfl, ⟨hsz, hP, hK⟩, hN, hZ⟩ := hv
  have hx := B.exec
  have hb := B.bytes
  have hr := B.returns
  have hts := atoms_spec (ws := wm_X6_countOf_eSS) B.pre
  have hown : s.vm.findClass RX6 = some m.cls := findClass_of_methodNamed B.named
  have hlocks := B.notSynchronized
  subst hsz
  have hA : ∀ q : Nat, s.heap.size ≤ q → ro s.heap.size q := fun _ h => h
  have hS : va_S (ro s.heap.size) s.heap s.heap [] := va_S.rf
  have hl := lv_entry ([.ref (a 178), .int f, .int w]) (n := 5) (Nat.le_of_ble_eq_true rfl)
  rw [lg_entry_eq]
  generalize (lg_sl ([.ref (a 178), .int f, .int w]) ++ List.replicate (5 - (lg_sl ([.ref (a 178), .int f, .int w])).length) Slot.unset).toArray = ls at hl ⊢
  have hl : lv_has ls 5 [(0, .ref (a 178)), (1, .int f), (2, .int w)] := hl
  have rb111_i : 0 ≤ (i 111).toInt ∧ (i 111).toInt ≤ 30 := hI.1 111
  refine lv_iconst (v := 0) hx hb dX6_countOf_0 (by decide +kernel) ?_
  refine lv_istore_n (lv' := [(3, .int 0), (0, .ref (a 178)), (1, .int f), (2, .int w)]) hx hb dX6_countOf_1 rfl hl (by decide +kernel) rfl (fun ls hl => ?_)
  refine lv_iconst (v := 0) hx hb dX6_countOf_2 (by decide +kernel) ?_
  refine lv_istore (lv' := [(4, .int 0), (3, .int 0), (0, .ref (a 178)), (1, .int f), (2, .int w)]) hx hb dX6_countOf_3 hl (by decide +kernel) rfl (fun ls hl => ?_)
  have lp1 : ∀ (fu : Nat) (y1_4 : Int32) (y1_3 : Int32), (0 ≤ y1_4.toInt ∧ y1_4.toInt ≤ 30 ∧ y1_4.toInt ≤ (i 111).toInt) → (0 ≤ y1_3.toInt ∧ y1_3.toInt ≤ y1_4.toInt) → (y1_3.toInt = ((cnt (lsP (c 179) f.toInt w.toInt) y1_4.toInt.toNat : Nat) : Int)) → (30 - y1_4.toInt).toNat < fu → ∀ (H : Heap) (locs : List Loc) (ls : Array Slot), va_P D vwCl (xwQ2 sk a t i q c d) H → va_S (ro s.heap.size) s.heap H locs → lv_has ls 5 [(4, .int y1_4), (3, .int y1_3), (0, .ref (a 178)), (1, .int f), (2, .int w)] → W p l e (headSpec wm_X6_countOf_eSS ({ frames := 1, cells := 0, slots := 0, locals := 23 })).room s m ([.ref (a 178), .int f, .int w] : List Value).toArray below meth cd H locs 0 0 (MQ below (va_Qi (fun (r : Int32) (_ : Unit) => ((0 ≤ r.toInt ∧ r.toInt ≤ 30) ∧ (r.toInt = ((cnt (lsP (c 179) f.toInt w.toInt) (i 111).toInt.toNat : Nat) : Int)))) oA (ro s.heap.size)) ([.ref (a 178), .int f, .int w] : List Value).toArray s 0 0 (ro s.heap.size)) (F0 m 5 ls []) := by
    intro fu
    induction fu with
    | zero => intro y1_4 y1_3 hy1_4 hy1_3 hz1_0 hm; exact absurd hm (Nat.not_lt_zero _)
    | succ fu ih =>
      intro y1_4 y1_3 hy1_4 hy1_3 hz1_0 hm H locs ls hP hS hl
      have ih1 := ih
      refine lv_iload hx hb dX6_countOf_5 (lv_at hl 0 rfl) ?_
      refine lv_aload_n hx hb dX6_countOf_7 rfl (lv_at hl 2 rfl) ?_
      refine xgQ2_SS_world hx hb hts (fun _ h => List.mem_cons_of_mem _ (List.mem_append_left _ (List.mem_append_right _ h))) hown hK hP (hts (.fieldLink RX6 15 "TalePlay$Scene" "world" "LTalePlay$World;") (List.mem_cons_of_mem _ (List.mem_append_left _ (List.mem_append_left _ (List.mem_of_getElem? (i := 0) rfl))))) dX6_countOf_8 ?_
      refine xgQ2_W_objects (v := (i 111)) rfl hx hb hts (fun _ h => List.mem_cons_of_mem _ (List.mem_append_right _ h)) hown hK hP (hts (.fieldLink RX6 34 "TalePlay$World" "objects" "I") (List.mem_cons_of_mem _ (List.mem_append_left _ (List.mem_append_left _ (List.mem_of_getElem? (i := 1) rfl))))) dX6_countOf_11 ?_
      refine lv_icmp_ge (tgt := 37) hx hb dX6_countOf_14 (by decide +kernel) (fun c2 => ?_) (fun c2 => ?_)
      · have f2 := (ti_le (a := (i 111).toInt) (b := y1_4.toInt) rfl rfl).mp c2
        refine lv_iload_n hx hb dX6_countOf_37 rfl (lv_at hl 1 rfl) ?_
        exact ro_iret hx hb hr hlocks hS dX6_countOf_38 ⟨(show 0 ≤ y1_3.toInt ∧ y1_3.toInt ≤ 30 from by omega), (show y1_3.toInt = ((cnt (lsP (c 179) f.toInt w.toInt) (i 111).toInt.toNat : Nat) : Int) from by rw [show (i 111).toInt = y1_4.toInt by omega]; exact hz1_0)⟩
      · have f2 := mt (ti_le (a := (i 111).toInt) (b := y1_4.toInt) rfl rfl).mpr c2
        refine lv_aload_n hx hb dX6_countOf_17 rfl (lv_at hl 2 rfl) ?_
        refine lv_iload hx hb dX6_countOf_18 (lv_at hl 0 rfl) ?_
        refine lv_iload_n hx hb dX6_countOf_20 rfl (lv_at hl 3 rfl) ?_
        refine lv_iload_n hx hb dX6_countOf_21 rfl (lv_at hl 4 rfl) ?_
        refine ro_calli (va_runV (As := [.int y1_4, .int f, .int w]) (rest := []) ⟨hx, hb, hml, hown, hts⟩ (x_X6_lies_eSS l D H.size .null a t i q c d y1_4 f w hI (show 0 ≤ y1_4.toInt ∧ y1_4.toInt ≤ 29 from by omega) (show 0 ≤ f.toInt ∧ f.toInt ≤ 7 from by omega) (show 0 ≤ w.toInt ∧ w.toInt ≤ 31 from by omega)) (cwV 3 hts gm_X6_countOf_eSS_X6_lies_eSS_38 rfl rfl rfl (by decide +kernel) ⟨Nat.le_of_ble_eq_true rfl, Nat.le_of_ble_eq_true rfl⟩) (yA_V hN (xZ_k hZ hS hA) (xkQ2_P2 hK) (xuQ2_P2 (sk := sk) hP) (ci := 6) (q0 := 0) rfl rfl) rfl rfl hl.1 rfl (lv_room (Nat.le_of_ble_eq_true rfl)) dX6_countOf_22 ⟨Nat.le_of_ble_eq_true rfl, Nat.le_of_ble_eq_true rfl⟩) hS hA hP (fun r3 u3 H locs hw3 hP hS => ?_)
        have hw3 : ((0 ≤ r3.toInt ∧ r3.toInt ≤ 1) ∧ (Sm r3 ((c 179 y1_4.toInt.toNat).toInt % 256 = w.toInt * 8 + f.toInt))) := hw3
        obtain ⟨hw3, hr3_0⟩ := hw3
        have hr3_0 : Sm r3 ((c 179 y1_4.toInt.toNat).toInt % 256 = w.toInt * 8 + f.toInt) := hr3_0
        refine lv_if_eq (tgt := 31) hx hb dX6_countOf_25 (by decide +kernel) (fun c4 => ?_) (fun c4 => ?_)
        · have f4 := (ti_eq (a := r3.toInt) (b := 0) rfl (by decide +kernel)).mp c4
          have s4 := sm_f hr3_0 c4
          obtain ⟨x5, ex5⟩ : ∃ y : Int32, y = y1_4 + 1 := ⟨_, rfl⟩
          have tx5 := ti_add (a := y1_4.toInt) (b := 1) ex5 rfl (by decide +kernel) (by omega) (by omega)
          refine lv_iinc (v := x5) (lv' := [(4, .int x5), (3, .int y1_3), (0, .ref (a 178)), (1, .int f), (2, .int w)]) hx hb dX6_countOf_31 hl (k := 0) rfl (by rw [ex5]; rfl) (by decide +kernel) rfl (fun ls hl => ?_)
          refine lv_goto (tgt := 5) hx hb dX6_countOf_34 (by decide +kernel) ?_
          exact ih1 x5 y1_3 (show 0 ≤ x5.toInt ∧ x5.toInt ≤ 30 ∧ x5.toInt ≤ (i 111).toInt from by have h50 : x5.toInt = (y1_4.toInt + 1) := tx5; omega) (show 0 ≤ y1_3.toInt ∧ y1_3.toInt ≤ x5.toInt from by have h50 : x5.toInt = (y1_4.toInt + 1) := tx5; omega) (show y1_3.toInt = ((cnt (lsP (c 179) f.toInt w.toInt) x5.toInt.toNat : Nat) : Int) from cn_n hz1_0 (by omega) (fun h9 => s4 (lsP_e h9)) tx5) (by have h50 : x5.toInt = (y1_4.toInt + 1) := tx5; omega) _ _ _ hP hS (lv_sub hl [0, 1, 2, 3, 4] rfl)
        · have f4 := mt (ti_eq (a := r3.toInt) (b := 0) rfl (by decide +kernel)).mpr c4
          have s4 := sm_t hr3_0 c4
          obtain ⟨x6, ex6⟩ : ∃ y : Int32, y = y1_3 + 1 := ⟨_, rfl⟩
          have tx6 := ti_add (a := y1_3.toInt) (b := 1) ex6 rfl (by decide +kernel) (by omega) (by omega)
          refine lv_iinc (v := x6) (lv' := [(3, .int x6), (4, .int y1_4), (0, .ref (a 178)), (1, .int f), (2, .int w)]) hx hb dX6_countOf_28 hl (k := 1) rfl (by rw [ex6]; rfl) (by decide +kernel) rfl (fun ls hl => ?_)
          obtain ⟨x7, ex7⟩ : ∃ y : Int32, y = y1_4 + 1 := ⟨_, rfl⟩
          have tx7 := ti_add (a := y1_4.toInt) (b := 1) ex7 rfl (by decide +kernel) (by omega) (by omega)
          refine lv_iinc (v := x7) (lv' := [(4, .int x7), (3, .int x6), (0, .ref (a 178)), (1, .int f), (2, .int w)]) hx hb dX6_countOf_31 hl (k := 1) rfl (by rw [ex7]; rfl) (by decide +kernel) rfl (fun ls hl => ?_)
          refine lv_goto (tgt := 5) hx hb dX6_countOf_34 (by decide +kernel) ?_
          exact ih1 x7 x6 (show 0 ≤ x7.toInt ∧ x7.toInt ≤ 30 ∧ x7.toInt ≤ (i 111).toInt from by have h50 : x7.toInt = (y1_4.toInt + 1) := tx7; have h51 : x6.toInt = (y1_3.toInt + 1) := tx6; omega) (show 0 ≤ x6.toInt ∧ x6.toInt ≤ x7.toInt from by have h50 : x7.toInt = (y1_4.toInt + 1) := tx7; have h51 : x6.toInt = (y1_3.toInt + 1) := tx6; omega) (show x6.toInt = ((cnt (lsP (c 179) f.toInt w.toInt) x7.toInt.toNat : Nat) : Int) from cn_y hz1_0 (by omega) (lsP_y (show (c 179 y1_4.toNatClampNeg).toInt % 256 = w.toInt * 8 + f.toInt from s4)) tx6 tx7) (by have h50 : x7.toInt = (y1_4.toInt + 1) := tx7; have h51 : x6.toInt = (y1_3.toInt + 1) := tx6; omega) _ _ _ hP hS (lv_sub hl [0, 1, 2, 3, 4] rfl)
  exact lp1 _ (0 : Int32) (0 : Int32) (show 0 ≤ (0 : Int32).toInt ∧ (0 : Int32).toInt ≤ 30 ∧ (0 : Int32).toInt ≤ (i 111).toInt from by have h50 : (0 : Int32).toInt = 0 := (by decide +kernel); have h51 : (0 : Int32).toInt = 0 := (by decide +kernel); omega) (show 0 ≤ (0 : Int32).toInt ∧ (0 : Int32).toInt ≤ (0 : Int32).toInt from by decide +kernel) (show (0 : Int32).toInt = ((cnt (lsP (c 179) f.toInt w.toInt) (0 : Int32).toInt.toNat : Nat) : Int) from by rw [show (0 : Int32).toInt.toNat = 0 by decide]; rfl) (Nat.lt_succ_self _) _ _ _ hP hS (lv_sub hl [0, 1, 2, 3, 4] rfl)

def wm_X8_isCover_eSG : List Cond := .code yX8_isCover cX8_isCover 3 (some .boolean) :: (([.fieldLink RX8 18 "TalePlay$Sight" "world" "LTalePlay$World;", .methodLink RX8 34 yX10_sortOf, .instanceMethod yX10_sortOf, .selects RX10 yX10_sortOf yX10_sortOf, .initialized RX10, .code yX10_sortOf cX10_sortOf 2 (some .int), .fieldLink RX10 37 "TalePlay$World" "objects" "I", .fieldLink RX10 15 "TalePlay$World" "sorts" "[I", .fieldLink RX10 21 "TalePlay$World" "kindOf" "[I", .fieldLink RX8 26 "TalePlay$Sight" "scene" "LTalePlay$Scene;", .methodLink RX8 40 yX6_has, .instanceMethod yX6_has, .selects RX6 yX6_has yX6_has, .initialized RX6, .code yX6_has cX6_has 3 (some .boolean), .fieldLink RX6 9 "TalePlay$Scene" "cells" "[I"] : List Cond) ++ wsX80 ++ wsX100 ++ wsX60)
set_option maxRecDepth 20000 in
theorem gm_X8_isCover_eSG_X10_sortOf_e_34 : GoodIn wm_X8_isCover_eSG (wsV RX8 34 RX10 yX10_sortOf wm_X10_sortOf_e) := goodIn_w (List.forall_mem_append.mpr ⟨List.forall_mem_cons.mpr ⟨List.mem_cons_of_mem _ (List.mem_append_left _ (List.mem_append_left _ (List.mem_append_left _ (List.mem_of_getElem? (i := 1) rfl)))), List.forall_mem_cons.mpr ⟨List.mem_cons_of_mem _ (List.mem_append_left _ (List.mem_append_left _ (List.mem_append_left _ (List.mem_of_getElem? (i := 2) rfl)))), List.forall_mem_cons.mpr ⟨List.mem_cons_of_mem _ (List.mem_append_left _ (List.mem_append_left _ (List.mem_append_left _ (List.mem_of_getElem? (i := 3) rfl)))), List.forall_mem_cons.mpr ⟨List.mem_cons_of_mem _ (List.mem_append_left _ (List.mem_append_left _ (List.mem_append_left _ (List.mem_of_getElem? (i := 4) rfl)))), (fun _ h => absurd h List.not_mem_nil)⟩⟩⟩⟩, List.forall_mem_cons.mpr ⟨List.mem_cons_of_mem _ (List.mem_append_left _ (List.mem_append_left _ (List.mem_append_left _ (List.mem_of_getElem? (i := 5) rfl)))), List.forall_mem_append.mpr ⟨List.forall_mem_cons.mpr ⟨List.mem_cons_of_mem _ (List.mem_append_left _ (List.mem_append_left _ (List.mem_append_left _ (List.mem_of_getElem? (i := 6) rfl)))), List.forall_mem_cons.mpr ⟨List.mem_cons_of_mem _ (List.mem_append_left _ (List.mem_append_left _ (List.mem_append_left _ (List.mem_of_getElem? (i := 7) rfl)))), List.forall_mem_cons.mpr ⟨List.mem_cons_of_mem _ (List.mem_append_left _ (List.mem_append_left _ (List.mem_append_left _ (List.mem_of_getElem? (i := 8) rfl)))), (fun _ h => absurd h List.not_mem_nil)⟩⟩⟩, (fun _ h => List.mem_cons_of_mem _ (List.mem_append_left _ (List.mem_append_right _ h)))⟩⟩⟩) (by decide +kernel)
set_option maxRecDepth 20000 in
theorem gm_X8_isCover_eSG_X6_has_eSS_40 : GoodIn wm_X8_isCover_eSG (wsV RX8 40 RX6 yX6_has wm_X6_has_eSS) := goodIn_w (List.forall_mem_append.mpr ⟨List.forall_mem_cons.mpr ⟨List.mem_cons_of_mem _ (List.mem_append_left _ (List.mem_append_left _ (List.mem_append_left _ (List.mem_of_getElem? (i := 10) rfl)))), List.forall_mem_cons.mpr ⟨List.mem_cons_of_mem _ (List.mem_append_left _ (List.mem_append_left _ (List.mem_append_left _ (List.mem_of_getElem? (i := 11) rfl)))), List.forall_mem_cons.mpr ⟨List.mem_cons_of_mem _ (List.mem_append_left _ (List.mem_append_left _ (List.mem_append_left _ (List.mem_of_getElem? (i := 12) rfl)))), List.forall_mem_cons.mpr ⟨List.mem_cons_of_mem _ (List.mem_append_left _ (List.mem_append_left _ (List.mem_append_left _ (List.mem_of_getElem? (i := 13) rfl)))), (fun _ h => absurd h List.not_mem_nil)⟩⟩⟩⟩, List.forall_mem_cons.mpr ⟨List.mem_cons_of_mem _ (List.mem_append_left _ (List.mem_append_left _ (List.mem_append_left _ (List.mem_of_getElem? (i := 14) rfl)))), List.forall_mem_append.mpr ⟨List.forall_mem_cons.mpr ⟨List.mem_cons_of_mem _ (List.mem_append_left _ (List.mem_append_left _ (List.mem_append_left _ (List.mem_of_getElem? (i := 15) rfl)))), (fun _ h => absurd h List.not_mem_nil)⟩, (fun _ h => List.mem_cons_of_mem _ (List.mem_append_right _ h))⟩⟩⟩) (by decide +kernel)
set_option maxHeartbeats 4000000 in
set_option maxRecDepth 100000 in
theorem x_X8_isCover_eSG (l : Launch) (D : va_G) (sz : Nat) (sk : Value) (a : Nat → Nat) (t : Nat → ClassId) (i : Nat → Int32) (q : Int64) (c : Nat → Nat → Int32) (d : Nat → Nat → Int64) (w : Int32) (b1 : Int32) (hI : xInv i c) (hb1 : 0 ≤ b1.toInt ∧ b1.toInt ≤ 1) : Met l yX8_isCover wm_X8_isCover_eSG ({ frames := 1, cells := 0, slots := 0, locals := 22 }) (va_Pc [.ref (a 180), .int w, .int b1] (yA (a 186) D sz (xwS sk a t i q c d) (xtS t))) (va_Qi (fun (r : Int32) (_ : Unit) => ((0 ≤ r.toInt ∧ r.toInt ≤ 1) ∧ (Sm r (Cv (zX (c 106) (c 108) (i 111).toInt) (bT (c 179) 0) (bT (c 179) 5) ((1 : Int) ≤ b1.toInt) w.toInt)))) oA (ro sz)) 0 0 (ro sz) := by
  refine Met.ofW (cc := cX8_isCover) (maxL := 3) (ret := (some .boolean)) (by decide +kernel) rfl ?_
  intro p e s m args below meth cd s₁ B hml hv
  obtain ⟨rfl, ⟨hsz, hP, hK⟩, hN, hZ⟩ := hv
  have hx := B.exec
  have hb := B.bytes
  have hr := B.returns
  have hts := atoms_spec (ws := wm_X8_isCover_eSG) B.pre
  have hown : s.vm.findClass RX8 = some m.cls := findClass_of_methodNamed B.named
  have hlocks := B.notSynchronized
  subst hsz
  have hA : ∀ q : Nat, s.heap.size ≤ q → ro s.heap.size q := fun _ h => h
  have hS : va_S (ro s.heap.size) s.heap s.heap [] := va_S.rf
  have hl := lv_entry ([.ref (a 180), .int w, .int b1]) (n := 3) (Nat.le_of_ble_eq_true rfl)
  rw [lg_entry_eq]
  generalize (lg_sl ([.ref (a 180), .int w, .int b1]) ++ List.replicate (3 - (lg_sl ([.ref (a 180), .int w, .int b1])).length) Slot.unset).toArray = ls at hl ⊢
  have hl : lv_has ls 3 [(0, .ref (a 180)), (1, .int w), (2, .int b1)] := hl
  have rb111_i : 0 ≤ (i 111).toInt ∧ (i 111).toInt ≤ 30 := hI.1 111
  refine lv_aload_n hx hb dX8_isCover_0 rfl (lv_at hl 0 rfl) ?_
  refine xgS_SG_world hx hb hts (fun _ h => List.mem_cons_of_mem _ (List.mem_append_left _ (List.mem_append_left _ (List.mem_append_right _ h)))) hown hK hP (hts (.fieldLink RX8 18 "TalePlay$Sight" "world" "LTalePlay$World;") (List.mem_cons_of_mem _ (List.mem_append_left _ (List.mem_append_left _ (List.mem_append_left _ (List.mem_of_getElem? (i := 0) rfl)))))) dX8_isCover_1 ?_
  refine lv_iload_n hx hb dX8_isCover_4 rfl (lv_at hl 1 rfl) ?_
  refine ro_calli (va_runV (As := [.int w]) (rest := []) ⟨hx, hb, hml, hown, hts⟩ (x_X10_sortOf_e l D s.heap.size .null a t i q c d w hI ) (cwV 1 hts gm_X8_isCover_eSG_X10_sortOf_e_34 rfl rfl rfl (by decide +kernel) ⟨Nat.le_of_ble_eq_true rfl, Nat.le_of_ble_eq_true rfl⟩) (yA_V hN (xZ_k hZ hS hA) (xkS_W hK) (xuS_W (sk := sk) hP) (ci := 10) (q0 := 0) rfl rfl) rfl rfl hl.1 rfl (lv_room (Nat.le_of_ble_eq_true rfl)) dX8_isCover_5 ⟨Nat.le_of_ble_eq_true rfl, Nat.le_of_ble_eq_true rfl⟩) hS hA hP (fun r1 u1 H locs hw1 hP hS => ?_)
  have hw1 : (((r1.toInt = -9 ∧ ¬ (0 ≤ w.toInt ∧ w.toInt < (i 111).toInt)) ∨ (0 ≤ r1.toInt ∧ r1.toInt ≤ 5 ∧ 0 ≤ w.toInt ∧ w.toInt < (i 111).toInt)) ∧ (SO (c 106) (c 108) (i 111).toInt w.toInt r1.toInt)) := hw1
  obtain ⟨hw1, hr1_0⟩ := hw1
  have hr1_0 : SO (c 106) (c 108) (i 111).toInt w.toInt r1.toInt := hr1_0
  have hzo : r1.toInt = (zX (c 106) (c 108) (i 111).toInt) w.toInt := SO_z hr1_0
  refine lv_iconst (v := 3) hx hb dX8_isCover_8 (by decide +kernel) ?_
  refine lv_icmp_ne (tgt := 44) hx hb dX8_isCover_9 (by decide +kernel) (fun c2 => ?_) (fun c2 => ?_)
  · have f2 := mt (ti_eq (a := r1.toInt) (b := 3) rfl (by decide +kernel)).mpr c2
    refine lv_iconst (v := 0) hx hb dX8_isCover_44 (by decide +kernel) ?_
    exact ro_zret hx hb hr hlocks hS rfl dX8_isCover_45 ⟨(show 0 ≤ (0 : Int32).toInt ∧ (0 : Int32).toInt ≤ 1 from by decide +kernel), (show Sm (0 : Int32) (Cv (zX (c 106) (c 108) (i 111).toInt) (bT (c 179) 0) (bT (c 179) 5) ((1 : Int) ≤ b1.toInt) w.toInt) from sm_0 (fun h9 => by have h8 := h9.1; omega))⟩
  · have f2 := (ti_eq (a := r1.toInt) (b := 3) rfl (by decide +kernel)).mp c2
    refine lv_aload_n hx hb dX8_isCover_12 rfl (lv_at hl 0 rfl) ?_
    refine xgS_SG_scene hx hb hts (fun _ h => List.mem_cons_of_mem _ (List.mem_append_left _ (List.mem_append_left _ (List.mem_append_right _ h)))) hown hK hP (hts (.fieldLink RX8 26 "TalePlay$Sight" "scene" "LTalePlay$Scene;") (List.mem_cons_of_mem _ (List.mem_append_left _ (List.mem_append_left _ (List.mem_append_left _ (List.mem_of_getElem? (i := 9) rfl)))))) dX8_isCover_13 ?_
    refine lv_iload_n hx hb dX8_isCover_16 rfl (lv_at hl 1 rfl) ?_
    refine lv_iconst (v := 0) hx hb dX8_isCover_17 (by decide +kernel) ?_
    refine ro_calli (va_runV (As := [.int w, .int 0]) (rest := []) ⟨hx, hb, hml, hown, hts⟩ (x_X6_has_eSS l D H.size .null a t i q c d w 0 hI (show 0 ≤ w.toInt ∧ w.toInt ≤ 29 from by have h91 : (0 : Int32).toInt = 0 := (by decide +kernel); omega) (show 0 ≤ 0 ∧ 0 ≤ 5 from by decide +kernel)) (cwV 2 hts gm_X8_isCover_eSG_X6_has_eSS_40 rfl rfl rfl (by decide +kernel) ⟨Nat.le_of_ble_eq_true rfl, Nat.le_of_ble_eq_true rfl⟩) (yA_V hN (xZ_k hZ hS hA) (xkS_P2 hK) (xuS_P2 (sk := sk) hP) (ci := 6) (q0 := 0) rfl rfl) rfl rfl hl.1 rfl (lv_room (Nat.le_of_ble_eq_true rfl)) dX8_isCover_18 ⟨Nat.le_of_ble_eq_true rfl, Nat.le_of_ble_eq_true rfl⟩) hS hA hP (fun r3 u3 H locs hw3 hP hS => ?_)
    have hw3 : ((0 ≤ r3.toInt ∧ r3.toInt ≤ 1) ∧ (Sm r3 (hbt (c 179 w.toInt.toNat) 0))) := hw3
    obtain ⟨hw3, hr3_0⟩ := hw3
    have hr3_0 : Sm r3 (hbt (c 179 w.toInt.toNat) 0) := hr3_0
    refine lv_if_ne (tgt := 44) hx hb dX8_isCover_21 (by decide +kernel) (fun c4 => ?_) (fun c4 => ?_)
    · have f4 := mt (ti_eq (a := r3.toInt) (b := 0) rfl (by decide +kernel)).mpr c4
      have s4 := sm_t hr3_0 c4
      refine lv_iconst (v := 0) hx hb dX8_isCover_44 (by decide +kernel) ?_
      exact ro_zret hx hb hr hlocks hS rfl dX8_isCover_45 ⟨(show 0 ≤ (0 : Int32).toInt ∧ (0 : Int32).toInt ≤ 1 from by decide +kernel), (show Sm (0 : Int32) (Cv (zX (c 106) (c 108) (i 111).toInt) (bT (c 179) 0) (bT (c 179) 5) ((1 : Int) ≤ b1.toInt) w.toInt) from sm_0 (fun h9 => h9.2.1 s4))⟩
    · have f4 := (ti_eq (a := r3.toInt) (b := 0) rfl (by decide +kernel)).mp c4
      have s4 := sm_f hr3_0 c4
      refine lv_iload_n hx hb dX8_isCover_24 rfl (lv_at hl 2 rfl) ?_
      refine lv_if_ne (tgt := 40) hx hb dX8_isCover_25 (by decide +kernel) (fun c5 => ?_) (fun c5 => ?_)
      · have f5 := mt (ti_eq (a := b1.toInt) (b := 0) rfl (by decide +kernel)).mpr c5
        refine lv_iconst (v := 1) hx hb dX8_isCover_40 (by decide +kernel) ?_
        refine lv_goto (tgt := 45) hx hb dX8_isCover_41 (by decide +kernel) ?_
        exact ro_zret hx hb hr hlocks hS rfl dX8_isCover_45 ⟨(show 0 ≤ (1 : Int32).toInt ∧ (1 : Int32).toInt ≤ 1 from by decide +kernel), (show Sm (1 : Int32) (Cv (zX (c 106) (c 108) (i 111).toInt) (bT (c 179) 0) (bT (c 179) 5) ((1 : Int) ≤ b1.toInt) w.toInt) from sm_1 ⟨by omega, s4, Or.inl (by omega)⟩)⟩
      · have f5 := (ti_eq (a := b1.toInt) (b := 0) rfl (by decide +kernel)).mp c5
        refine lv_aload_n hx hb dX8_isCover_28 rfl (lv_at hl 0 rfl) ?_
        refine xgS_SG_scene hx hb hts (fun _ h => List.mem_cons_of_mem _ (List.mem_append_left _ (List.mem_append_left _ (List.mem_append_right _ h)))) hown hK hP (hts (.fieldLink RX8 26 "TalePlay$Sight" "scene" "LTalePlay$Scene;") (List.mem_cons_of_mem _ (List.mem_append_left _ (List.mem_append_left _ (List.mem_append_left _ (List.mem_of_getElem? (i := 9) rfl)))))) dX8_isCover_29 ?_
        refine lv_iload_n hx hb dX8_isCover_32 rfl (lv_at hl 1 rfl) ?_
        refine lv_iconst (v := 5) hx hb dX8_isCover_33 (by decide +kernel) ?_
        refine ro_calli (va_runV (As := [.int w, .int 5]) (rest := []) ⟨hx, hb, hml, hown, hts⟩ (x_X6_has_eSS l D H.size .null a t i q c d w 5 hI (show 0 ≤ w.toInt ∧ w.toInt ≤ 29 from by have h91 : (5 : Int32).toInt = 5 := (by decide +kernel); omega) (show 0 ≤ 5 ∧ 5 ≤ 5 from by decide +kernel)) (cwV 2 hts gm_X8_isCover_eSG_X6_has_eSS_40 rfl rfl rfl (by decide +kernel) ⟨Nat.le_of_ble_eq_true rfl, Nat.le_of_ble_eq_true rfl⟩) (yA_V hN (xZ_k hZ hS hA) (xkS_P2 hK) (xuS_P2 (sk := sk) hP) (ci := 6) (q0 := 0) rfl rfl) rfl rfl hl.1 rfl (lv_room (Nat.le_of_ble_eq_true rfl)) dX8_isCover_34 ⟨Nat.le_of_ble_eq_true rfl, Nat.le_of_ble_eq_true rfl⟩) hS hA hP (fun r6 u6 H locs hw6 hP hS => ?_)
        have hw6 : ((0 ≤ r6.toInt ∧ r6.toInt ≤ 1) ∧ (Sm r6 (hbt (c 179 w.toInt.toNat) 5))) := hw6
        obtain ⟨hw6, hr6_0⟩ := hw6
        have hr6_0 : Sm r6 (hbt (c 179 w.toInt.toNat) 5) := hr6_0
        refine lv_if_ne (tgt := 44) hx hb dX8_isCover_37 (by decide +kernel) (fun c7 => ?_) (fun c7 => ?_)
        · have f7 := mt (ti_eq (a := r6.toInt) (b := 0) rfl (by decide +kernel)).mpr c7
          have s7 := sm_t hr6_0 c7
          refine lv_iconst (v := 0) hx hb dX8_isCover_44 (by decide +kernel) ?_
          exact ro_zret hx hb hr hlocks hS rfl dX8_isCover_45 ⟨(show 0 ≤ (0 : Int32).toInt ∧ (0 : Int32).toInt ≤ 1 from by decide +kernel), (show Sm (0 : Int32) (Cv (zX (c 106) (c 108) (i 111).toInt) (bT (c 179) 0) (bT (c 179) 5) ((1 : Int) ≤ b1.toInt) w.toInt) from sm_0 (fun h9 => h9.2.2.elim (fun h8 => by omega) (fun h8 => h8 s7)))⟩
        · have f7 := (ti_eq (a := r6.toInt) (b := 0) rfl (by decide +kernel)).mp c7
          have s7 := sm_f hr6_0 c7
          refine lv_iconst (v := 1) hx hb dX8_isCover_40 (by decide +kernel) ?_
          refine lv_goto (tgt := 45) hx hb dX8_isCover_41 (by decide +kernel) ?_
          exact ro_zret hx hb hr hlocks hS rfl dX8_isCover_45 ⟨(show 0 ≤ (1 : Int32).toInt ∧ (1 : Int32).toInt ≤ 1 from by decide +kernel), (show Sm (1 : Int32) (Cv (zX (c 106) (c 108) (i 111).toInt) (bT (c 179) 0) (bT (c 179) 5) ((1 : Int) ≤ b1.toInt) w.toInt) from sm_1 ⟨by omega, s4, Or.inr s7⟩)⟩

def wm_X8_shellOf_eSG : List Cond := .code yX8_shellOf cX8_shellOf 5 (some .int) :: ((([.fieldLink RX8 26 "TalePlay$Sight" "scene" "LTalePlay$Scene;", .methodLink RX8 62 yX6_holderOf, .instanceMethod yX6_holderOf, .selects RX6 yX6_holderOf yX6_holderOf, .initialized RX6, .code yX6_holderOf cX6_holderOf 3 (some .int), .fieldLink RX6 9 "TalePlay$Scene" "cells" "[I", .fieldLink RX8 18 "TalePlay$Sight" "world" "LTalePlay$World;", .methodLink RX8 34 yX10_sortOf, .instanceMethod yX10_sortOf, .selects RX10 yX10_sortOf yX10_sortOf, .initialized RX10, .code yX10_sortOf cX10_sortOf 2 (some .int), .fieldLink RX10 37 "TalePlay$World" "objects" "I", .fieldLink RX10 15 "TalePlay$World" "sorts" "[I", .fieldLink RX10 21 "TalePlay$World" "kindOf" "[I"] : List Cond) ++ ([.methodLink RX8 65 yX8_isCover, .instanceMethod yX8_isCover, .selects RX8 yX8_isCover yX8_isCover, .initialized RX8, .code yX8_isCover cX8_isCover 3 (some .boolean), .methodLink RX8 40 yX6_has, .instanceMethod yX6_has, .selects RX6 yX6_has yX6_has, .code yX6_has cX6_has 3 (some .boolean)] : List Cond)) ++ wsX80 ++ wsX60 ++ wsX100)
set_option maxRecDepth 20000 in
theorem gm_X8_shellOf_eSG_X6_holderOf_SS_62 : GoodIn wm_X8_shellOf_eSG (wsV RX8 62 RX6 yX6_holderOf wm_X6_holderOf_SS) := goodIn_w (List.forall_mem_append.mpr ⟨List.forall_mem_cons.mpr ⟨List.mem_cons_of_mem _ (List.mem_append_left _ (List.mem_append_left _ (List.mem_append_left _ (List.mem_append_left _ (List.mem_of_getElem? (i := 1) rfl))))), List.forall_mem_cons.mpr ⟨List.mem_cons_of_mem _ (List.mem_append_left _ (List.mem_append_left _ (List.mem_append_left _ (List.mem_append_left _ (List.mem_of_getElem? (i := 2) rfl))))), List.forall_mem_cons.mpr ⟨List.mem_cons_of_mem _ (List.mem_append_left _ (List.mem_append_left _ (List.mem_append_left _ (List.mem_append_left _ (List.mem_of_getElem? (i := 3) rfl))))), List.forall_mem_cons.mpr ⟨List.mem_cons_of_mem _ (List.mem_append_left _ (List.mem_append_left _ (List.mem_append_left _ (List.mem_append_left _ (List.mem_of_getElem? (i := 4) rfl))))), (fun _ h => absurd h List.not_mem_nil)⟩⟩⟩⟩, List.forall_mem_cons.mpr ⟨List.mem_cons_of_mem _ (List.mem_append_left _ (List.mem_append_left _ (List.mem_append_left _ (List.mem_append_left _ (List.mem_of_getElem? (i := 5) rfl))))), List.forall_mem_append.mpr ⟨List.forall_mem_cons.mpr ⟨List.mem_cons_of_mem _ (List.mem_append_left _ (List.mem_append_left _ (List.mem_append_left _ (List.mem_append_left _ (List.mem_of_getElem? (i := 6) rfl))))), (fun _ h => absurd h List.not_mem_nil)⟩, (fun _ h => List.mem_cons_of_mem _ (List.mem_append_left _ (List.mem_append_right _ h)))⟩⟩⟩) (by decide +kernel)
set_option maxRecDepth 20000 in
theorem gm_X8_shellOf_eSG_X10_sortOf_e_34 : GoodIn wm_X8_shellOf_eSG (wsV RX8 34 RX10 yX10_sortOf wm_X10_sortOf_e) := goodIn_w (List.forall_mem_append.mpr ⟨List.forall_mem_cons.mpr ⟨List.mem_cons_of_mem _ (List.mem_append_left _ (List.mem_append_left _ (List.mem_append_left _ (List.mem_append_left _ (List.mem_of_getElem? (i := 8) rfl))))), List.forall_mem_cons.mpr ⟨List.mem_cons_of_mem _ (List.mem_append_left _ (List.mem_append_left _ (List.mem_append_left _ (List.mem_append_left _ (List.mem_of_getElem? (i := 9) rfl))))), List.forall_mem_cons.mpr ⟨List.mem_cons_of_mem _ (List.mem_append_left _ (List.mem_append_left _ (List.mem_append_left _ (List.mem_append_left _ (List.mem_of_getElem? (i := 10) rfl))))), List.forall_mem_cons.mpr ⟨List.mem_cons_of_mem _ (List.mem_append_left _ (List.mem_append_left _ (List.mem_append_left _ (List.mem_append_left _ (List.mem_of_getElem? (i := 11) rfl))))), (fun _ h => absurd h List.not_mem_nil)⟩⟩⟩⟩, List.forall_mem_cons.mpr ⟨List.mem_cons_of_mem _ (List.mem_append_left _ (List.mem_append_left _ (List.mem_append_left _ (List.mem_append_left _ (List.mem_of_getElem? (i := 12) rfl))))), List.forall_mem_append.mpr ⟨List.forall_mem_cons.mpr ⟨List.mem_cons_of_mem _ (List.mem_append_left _ (List.mem_append_left _ (List.mem_append_left _ (List.mem_append_left _ (List.mem_of_getElem? (i := 13) rfl))))), List.forall_mem_cons.mpr ⟨List.mem_cons_of_mem _ (List.mem_append_left _ (List.mem_append_left _ (List.mem_append_left _ (List.mem_append_left _ (List.mem_of_getElem? (i := 14) rfl))))), List.forall_mem_cons.mpr ⟨List.mem_cons_of_mem _ (List.mem_append_left _ (List.mem_append_left _ (List.mem_append_left _ (List.mem_append_left _ (List.mem_of_getElem? (i := 15) rfl))))), (fun _ h => absurd h List.not_mem_nil)⟩⟩⟩, (fun _ h => List.mem_cons_of_mem _ (List.mem_append_right _ h))⟩⟩⟩) (by decide +kernel)
set_option maxRecDepth 20000 in
theorem gm_X8_shellOf_eSG_X8_isCover_eSG_65 : GoodIn wm_X8_shellOf_eSG (wsV RX8 65 RX8 yX8_isCover wm_X8_isCover_eSG) := goodIn_w (List.forall_mem_append.mpr ⟨List.forall_mem_cons.mpr ⟨List.mem_cons_of_mem _ (List.mem_append_left _ (List.mem_append_left _ (List.mem_append_left _ (List.mem_append_right _ (List.mem_of_getElem? (i := 0) rfl))))), List.forall_mem_cons.mpr ⟨List.mem_cons_of_mem _ (List.mem_append_left _ (List.mem_append_left _ (List.mem_append_left _ (List.mem_append_right _ (List.mem_of_getElem? (i := 1) rfl))))), List.forall_mem_cons.mpr ⟨List.mem_cons_of_mem _ (List.mem_append_left _ (List.mem_append_left _ (List.mem_append_left _ (List.mem_append_right _ (List.mem_of_getElem? (i := 2) rfl))))), List.forall_mem_cons.mpr ⟨List.mem_cons_of_mem _ (List.mem_append_left _ (List.mem_append_left _ (List.mem_append_left _ (List.mem_append_right _ (List.mem_of_getElem? (i := 3) rfl))))), (fun _ h => absurd h List.not_mem_nil)⟩⟩⟩⟩, List.forall_mem_cons.mpr ⟨List.mem_cons_of_mem _ (List.mem_append_left _ (List.mem_append_left _ (List.mem_append_left _ (List.mem_append_right _ (List.mem_of_getElem? (i := 4) rfl))))), List.forall_mem_append.mpr ⟨List.forall_mem_append.mpr ⟨List.forall_mem_append.mpr ⟨List.forall_mem_cons.mpr ⟨List.mem_cons_of_mem _ (List.mem_append_left _ (List.mem_append_left _ (List.mem_append_left _ (List.mem_append_left _ (List.mem_of_getElem? (i := 7) rfl))))), List.forall_mem_cons.mpr ⟨List.mem_cons_of_mem _ (List.mem_append_left _ (List.mem_append_left _ (List.mem_append_left _ (List.mem_append_left _ (List.mem_of_getElem? (i := 8) rfl))))), List.forall_mem_cons.mpr ⟨List.mem_cons_of_mem _ (List.mem_append_left _ (List.mem_append_left _ (List.mem_append_left _ (List.mem_append_left _ (List.mem_of_getElem? (i := 9) rfl))))), List.forall_mem_cons.mpr ⟨List.mem_cons_of_mem _ (List.mem_append_left _ (List.mem_append_left _ (List.mem_append_left _ (List.mem_append_left _ (List.mem_of_getElem? (i := 10) rfl))))), List.forall_mem_cons.mpr ⟨List.mem_cons_of_mem _ (List.mem_append_left _ (List.mem_append_left _ (List.mem_append_left _ (List.mem_append_left _ (List.mem_of_getElem? (i := 11) rfl))))), List.forall_mem_cons.mpr ⟨List.mem_cons_of_mem _ (List.mem_append_left _ (List.mem_append_left _ (List.mem_append_left _ (List.mem_append_left _ (List.mem_of_getElem? (i := 12) rfl))))), List.forall_mem_cons.mpr ⟨List.mem_cons_of_mem _ (List.mem_append_left _ (List.mem_append_left _ (List.mem_append_left _ (List.mem_append_left _ (List.mem_of_getElem? (i := 13) rfl))))), List.forall_mem_cons.mpr ⟨List.mem_cons_of_mem _ (List.mem_append_left _ (List.mem_append_left _ (List.mem_append_left _ (List.mem_append_left _ (List.mem_of_getElem? (i := 14) rfl))))), List.forall_mem_cons.mpr ⟨List.mem_cons_of_mem _ (List.mem_append_left _ (List.mem_append_left _ (List.mem_append_left _ (List.mem_append_left _ (List.mem_of_getElem? (i := 15) rfl))))), List.forall_mem_cons.mpr ⟨List.mem_cons_of_mem _ (List.mem_append_left _ (List.mem_append_left _ (List.mem_append_left _ (List.mem_append_left _ (List.mem_of_getElem? (i := 0) rfl))))), List.forall_mem_cons.mpr ⟨List.mem_cons_of_mem _ (List.mem_append_left _ (List.mem_append_left _ (List.mem_append_left _ (List.mem_append_right _ (List.mem_of_getElem? (i := 5) rfl))))), List.forall_mem_cons.mpr ⟨List.mem_cons_of_mem _ (List.mem_append_left _ (List.mem_append_left _ (List.mem_append_left _ (List.mem_append_right _ (List.mem_of_getElem? (i := 6) rfl))))), List.forall_mem_cons.mpr ⟨List.mem_cons_of_mem _ (List.mem_append_left _ (List.mem_append_left _ (List.mem_append_left _ (List.mem_append_right _ (List.mem_of_getElem? (i := 7) rfl))))), List.forall_mem_cons.mpr ⟨List.mem_cons_of_mem _ (List.mem_append_left _ (List.mem_append_left _ (List.mem_append_left _ (List.mem_append_left _ (List.mem_of_getElem? (i := 4) rfl))))), List.forall_mem_cons.mpr ⟨List.mem_cons_of_mem _ (List.mem_append_left _ (List.mem_append_left _ (List.mem_append_left _ (List.mem_append_right _ (List.mem_of_getElem? (i := 8) rfl))))), List.forall_mem_cons.mpr ⟨List.mem_cons_of_mem _ (List.mem_append_left _ (List.mem_append_left _ (List.mem_append_left _ (List.mem_append_left _ (List.mem_of_getElem? (i := 6) rfl))))), (fun _ h => absurd h List.not_mem_nil)⟩⟩⟩⟩⟩⟩⟩⟩⟩⟩⟩⟩⟩⟩⟩⟩, (fun _ h => List.mem_cons_of_mem _ (List.mem_append_left _ (List.mem_append_left _ (List.mem_append_right _ h))))⟩, (fun _ h => List.mem_cons_of_mem _ (List.mem_append_right _ h))⟩, (fun _ h => List.mem_cons_of_mem _ (List.mem_append_left _ (List.mem_append_right _ h)))⟩⟩⟩) (by decide +kernel)
set_option maxHeartbeats 4000000 in
set_option maxRecDepth 100000 in
theorem x_X8_shellOf_eSG (l : Launch) (D : va_G) (sz : Nat) (sk : Value) (a : Nat → Nat) (t : Nat → ClassId) (i : Nat → Int32) (q : Int64) (c : Nat → Nat → Int32) (d : Nat → Nat → Int64) (w : Int32) (b1 : Int32) (hI : xInv i c) (hw : 0 ≤ w.toInt ∧ w.toInt ≤ 29) (hb1 : 0 ≤ b1.toInt ∧ b1.toInt ≤ 1) : Met l yX8_shellOf wm_X8_shellOf_eSG ({ frames := 2, cells := 0, slots := 0, locals := 44 }) (va_Pc [.ref (a 180), .int w, .int b1] (yA (a 186) D sz (xwS sk a t i q c d) (xtS t))) (va_Qi (fun (r : Int32) (_ : Unit) => ((r.toInt = -9 ∨ (0 ≤ r.toInt ∧ r.toInt ≤ 29)) ∧ (r.toInt = shl (zX (c 106) (c 108) (i 111).toInt) (hF (c 179)) (bT (c 179) 0) (bT (c 179) 5) ((1 : Int) ≤ b1.toInt) w.toInt))) oA (ro sz)) 0 0 (ro sz) := by
  refine Met.ofW (cc := cX8_shellOf) (maxL := 5) (ret := (some .int)) (by decide +kernel) rfl ?_
  intro p e s m args below meth cd s₁ B hml hv
  obtain ⟨rfl, ⟨hsz, hP, hK⟩, hN, hZ⟩ := hv
  have hx := B.exec
  have hb := B.bytes
  have hr := B.returns
  have hts := atoms_spec (ws := wm_X8_shellOf_eSG) B.pre
  have hown : s.vm.findClass RX8 = some m.cls := findClass_of_methodNamed B.named
  have hlocks := B.notSynchronized
  subst hsz
  have hA : ∀ q : Nat, s.heap.size ≤ q → ro s.heap.size q := fun _ h => h
  have hS : va_S (ro s.heap.size) s.heap s.heap [] := va_S.rf
  have hl := lv_entry ([.ref (a 180), .int w, .int b1]) (n := 5) (Nat.le_of_ble_eq_true rfl)
  rw [lg_entry_eq]
  generalize (lg_sl ([.ref (a 180), .int w, .int b1]) ++ List.replicate (5 - (lg_sl ([.ref (a 180), .int w, .int b1])).length) Slot.unset).toArray = ls at hl ⊢
  have hl : lv_has ls 5 [(0, .ref (a 180)), (1, .int w), (2, .int b1)] := hl
  have rb111_i : 0 ≤ (i 111).toInt ∧ (i 111).toInt ≤ 30 := hI.1 111
  refine lv_aload_n hx hb dX8_shellOf_0 rfl (lv_at hl 0 rfl) ?_
  refine xgS_SG_scene hx hb hts (fun _ h => List.mem_cons_of_mem _ (List.mem_append_left _ (List.mem_append_left _ (List.mem_append_right _ h)))) hown hK hP (hts (.fieldLink RX8 26 "TalePlay$Sight" "scene" "LTalePlay$Scene;") (List.mem_cons_of_mem _ (List.mem_append_left _ (List.mem_append_left _ (List.mem_append_left _ (List.mem_append_left _ (List.mem_of_getElem? (i := 0) rfl))))))) dX8_shellOf_1 ?_
  refine lv_iload_n hx hb dX8_shellOf_4 rfl (lv_at hl 1 rfl) ?_
  refine ro_calli (va_runV (As := [.int w]) (rest := []) ⟨hx, hb, hml, hown, hts⟩ (x_X6_holderOf_SS l D s.heap.size .null a t i q c d w hI (show 0 ≤ w.toInt ∧ w.toInt ≤ 29 from by omega)) (cwV 1 hts gm_X8_shellOf_eSG_X6_holderOf_SS_62 rfl rfl rfl (by decide +kernel) ⟨Nat.le_of_ble_eq_true rfl, Nat.le_of_ble_eq_true rfl⟩) (yA_V hN (xZ_k hZ hS hA) (xkS_P2 hK) (xuS_P2 (sk := sk) hP) (ci := 6) (q0 := 0) rfl rfl) rfl rfl hl.1 rfl (lv_room (Nat.le_of_ble_eq_true rfl)) dX8_shellOf_5 ⟨Nat.le_of_ble_eq_true rfl, Nat.le_of_ble_eq_true rfl⟩) hS hA hP (fun r1 u1 H locs hw1 hP hS => ?_)
  have hw1 : ((r1.toInt = -9 ∧ (c 179 w.toNatClampNeg).toInt % 256 = 255) ∨ (0 ≤ r1.toInt ∧ r1.toInt ≤ 29 ∧ ¬ (c 179 w.toNatClampNeg).toInt % 256 = 255 ∧ r1.toInt = (c 179 w.toNatClampNeg).toInt / 8 % 32)) := hw1
  have hh0 : (hF (c 179)) w.toInt = r1.toInt := hF_at (by omega) hw1
  refine lv_istore_n (lv' := [(3, .int r1), (0, .ref (a 180)), (1, .int w), (2, .int b1)]) hx hb dX8_shellOf_8 rfl hl (by decide +kernel) rfl (fun ls hl => ?_)
  refine lv_iconst (v := 0) hx hb dX8_shellOf_9 (by decide +kernel) ?_
  refine lv_istore (lv' := [(4, .int 0), (3, .int r1), (0, .ref (a 180)), (1, .int w), (2, .int b1)]) hx hb dX8_shellOf_10 hl (by decide +kernel) rfl (fun ls hl => ?_)
  have lp2 : ∀ (fu : Nat) (y2_4 : Int32) (y2_3 : Int32), (0 ≤ y2_4.toInt ∧ y2_4.toInt ≤ 30) → (y2_3.toInt = -9 ∨ (0 ≤ y2_3.toInt ∧ y2_3.toInt ≤ 29)) → (ShB (hF (c 179)) (StpC (zX (c 106) (c 108) (i 111).toInt) (bT (c 179) 0) (bT (c 179) 5) ((1 : Int) ≤ b1.toInt)) 30 ((hF (c 179)) w.toInt) = ShB (hF (c 179)) (StpC (zX (c 106) (c 108) (i 111).toInt) (bT (c 179) 0) (bT (c 179) 5) ((1 : Int) ≤ b1.toInt)) (30 - y2_4.toInt.toNat) y2_3.toInt) → (30 - y2_4.toInt).toNat < fu → ∀ (H : Heap) (locs : List Loc) (ls : Array Slot), va_P D vwCl (xwS sk a t i q c d) H → va_S (ro s.heap.size) s.heap H locs → lv_has ls 5 [(4, .int y2_4), (3, .int y2_3), (0, .ref (a 180)), (1, .int w), (2, .int b1)] → W p l e (headSpec wm_X8_shellOf_eSG ({ frames := 2, cells := 0, slots := 0, locals := 44 })).room s m ([.ref (a 180), .int w, .int b1] : List Value).toArray below meth cd H locs 0 0 (MQ below (va_Qi (fun (r : Int32) (_ : Unit) => ((r.toInt = -9 ∨ (0 ≤ r.toInt ∧ r.toInt ≤ 29)) ∧ (r.toInt = shl (zX (c 106) (c 108) (i 111).toInt) (hF (c 179)) (bT (c 179) 0) (bT (c 179) 5) ((1 : Int) ≤ b1.toInt) w.toInt))) oA (ro s.heap.size)) ([.ref (a 180), .int w, .int b1] : List Value).toArray s 0 0 (ro s.heap.size)) (F0 m 12 ls []) := by
    intro fu
    induction fu with
    | zero => intro y2_4 y2_3 hy2_4 hy2_3 hz2_0 hm; exact absurd hm (Nat.not_lt_zero _)
    | succ fu ih =>
      intro y2_4 y2_3 hy2_4 hy2_3 hz2_0 hm H locs ls hP hS hl
      have ih2 := ih
      refine lv_iload hx hb dX8_shellOf_12 (lv_at hl 0 rfl) ?_
      refine lv_bipush (v := 30) hx hb dX8_shellOf_14 (by decide +kernel) ?_
      refine lv_icmp_ge (tgt := 62) hx hb dX8_shellOf_16 (by decide +kernel) (fun c3 => ?_) (fun c3 => ?_)
      · have f3 := (ti_le (a := 30) (b := y2_4.toInt) (by decide +kernel) rfl).mp c3
        refine lv_bipush (v := (-9)) hx hb dX8_shellOf_62 (by decide +kernel) ?_
        exact ro_iret hx hb hr hlocks hS dX8_shellOf_64 ⟨(show ((-9) : Int32).toInt = -9 ∨ (0 ≤ ((-9) : Int32).toInt ∧ ((-9) : Int32).toInt ≤ 29) from by decide +kernel), (show ((-9) : Int32).toInt = shl (zX (c 106) (c 108) (i 111).toInt) (hF (c 179)) (bT (c 179) 0) (bT (c 179) 5) ((1 : Int) ≤ b1.toInt) w.toInt from show _ = ShB (hF (c 179)) (StpC (zX (c 106) (c 108) (i 111).toInt) (bT (c 179) 0) (bT (c 179) 5) ((1 : Int) ≤ b1.toInt)) 30 ((hF (c 179)) w.toInt) from by rw [show ((-9) : Int32).toInt = -9 by decide]; exact ShB_z hz2_0 (by omega))⟩
      · have f3 := mt (ti_le (a := 30) (b := y2_4.toInt) (by decide +kernel) rfl).mpr c3
        refine lv_iload_n hx hb dX8_shellOf_19 rfl (lv_at hl 1 rfl) ?_
        refine lv_bipush (v := (-9)) hx hb dX8_shellOf_20 (by decide +kernel) ?_
        refine lv_icmp_eq (tgt := 62) hx hb dX8_shellOf_22 (by decide +kernel) (fun c4 => ?_) (fun c4 => ?_)
        · have f4 := (ti_eq (a := y2_3.toInt) (b := (-9)) rfl (by decide +kernel)).mp c4
          refine lv_bipush (v := (-9)) hx hb dX8_shellOf_62 (by decide +kernel) ?_
          exact ro_iret hx hb hr hlocks hS dX8_shellOf_64 ⟨(show ((-9) : Int32).toInt = -9 ∨ (0 ≤ ((-9) : Int32).toInt ∧ ((-9) : Int32).toInt ≤ 29) from by decide +kernel), (show ((-9) : Int32).toInt = shl (zX (c 106) (c 108) (i 111).toInt) (hF (c 179)) (bT (c 179) 0) (bT (c 179) 5) ((1 : Int) ≤ b1.toInt) w.toInt from show _ = ShB (hF (c 179)) (StpC (zX (c 106) (c 108) (i 111).toInt) (bT (c 179) 0) (bT (c 179) 5) ((1 : Int) ≤ b1.toInt)) 30 ((hF (c 179)) w.toInt) from by rw [show ((-9) : Int32).toInt = -9 by decide]; exact ShB_z hz2_0 (by omega))⟩
        · have f4 := mt (ti_eq (a := y2_3.toInt) (b := (-9)) rfl (by decide +kernel)).mpr c4
          refine lv_aload_n hx hb dX8_shellOf_25 rfl (lv_at hl 2 rfl) ?_
          refine xgS_SG_world hx hb hts (fun _ h => List.mem_cons_of_mem _ (List.mem_append_left _ (List.mem_append_left _ (List.mem_append_right _ h)))) hown hK hP (hts (.fieldLink RX8 18 "TalePlay$Sight" "world" "LTalePlay$World;") (List.mem_cons_of_mem _ (List.mem_append_left _ (List.mem_append_left _ (List.mem_append_left _ (List.mem_append_left _ (List.mem_of_getElem? (i := 7) rfl))))))) dX8_shellOf_26 ?_
          refine lv_iload_n hx hb dX8_shellOf_29 rfl (lv_at hl 1 rfl) ?_
          refine ro_calli (va_runV (As := [.int y2_3]) (rest := []) ⟨hx, hb, hml, hown, hts⟩ (x_X10_sortOf_e l D H.size .null a t i q c d y2_3 hI ) (cwV 1 hts gm_X8_shellOf_eSG_X10_sortOf_e_34 rfl rfl rfl (by decide +kernel) ⟨Nat.le_of_ble_eq_true rfl, Nat.le_of_ble_eq_true rfl⟩) (yA_V hN (xZ_k hZ hS hA) (xkS_W hK) (xuS_W (sk := sk) hP) (ci := 10) (q0 := 0) rfl rfl) rfl rfl hl.1 rfl (lv_room (Nat.le_of_ble_eq_true rfl)) dX8_shellOf_30 ⟨Nat.le_of_ble_eq_true rfl, Nat.le_of_ble_eq_true rfl⟩) hS hA hP (fun r5 u5 H locs hw5 hP hS => ?_)
          have hw5 : (((r5.toInt = -9 ∧ ¬ (0 ≤ y2_3.toInt ∧ y2_3.toInt < (i 111).toInt)) ∨ (0 ≤ r5.toInt ∧ r5.toInt ≤ 5 ∧ 0 ≤ y2_3.toInt ∧ y2_3.toInt < (i 111).toInt)) ∧ (SO (c 106) (c 108) (i 111).toInt y2_3.toInt r5.toInt)) := hw5
          obtain ⟨hw5, hr5_0⟩ := hw5
          have hr5_0 : SO (c 106) (c 108) (i 111).toInt y2_3.toInt r5.toInt := hr5_0
          have hzo : r5.toInt = (zX (c 106) (c 108) (i 111).toInt) y2_3.toInt := SO_z hr5_0
          refine lv_if_eq (tgt := 45) hx hb dX8_shellOf_33 (by decide +kernel) (fun c6 => ?_) (fun c6 => ?_)
          · have f6 := (ti_eq (a := r5.toInt) (b := 0) rfl (by decide +kernel)).mp c6
            refine lv_iload_n hx hb dX8_shellOf_45 rfl (lv_at hl 1 rfl) ?_
            exact ro_iret hx hb hr hlocks hS dX8_shellOf_46 ⟨(show y2_3.toInt = -9 ∨ (0 ≤ y2_3.toInt ∧ y2_3.toInt ≤ 29) from by omega), (show y2_3.toInt = shl (zX (c 106) (c 108) (i 111).toInt) (hF (c 179)) (bT (c 179) 0) (bT (c 179) 5) ((1 : Int) ≤ b1.toInt) w.toInt from show _ = ShB (hF (c 179)) (StpC (zX (c 106) (c 108) (i 111).toInt) (bT (c 179) 0) (bT (c 179) 5) ((1 : Int) ≤ b1.toInt)) 30 ((hF (c 179)) w.toInt) from ShB_r hz2_0 (by omega) (by omega) (Or.inl (by omega)))⟩
          · have f6 := mt (ti_eq (a := r5.toInt) (b := 0) rfl (by decide +kernel)).mpr c6
            refine lv_aload_n hx hb dX8_shellOf_36 rfl (lv_at hl 2 rfl) ?_
            refine lv_iload_n hx hb dX8_shellOf_37 rfl (lv_at hl 1 rfl) ?_
            refine lv_iload_n hx hb dX8_shellOf_38 rfl (lv_at hl 4 rfl) ?_
            refine ro_calli (va_runV (As := [.int y2_3, .int b1]) (rest := []) ⟨hx, hb, hml, hown, hts⟩ (x_X8_isCover_eSG l D H.size .null a t i q c d y2_3 b1 hI (show 0 ≤ b1.toInt ∧ b1.toInt ≤ 1 from by omega)) (cwV 2 hts gm_X8_shellOf_eSG_X8_isCover_eSG_65 rfl rfl rfl (by decide +kernel) ⟨Nat.le_of_ble_eq_true rfl, Nat.le_of_ble_eq_true rfl⟩) (yA_V hN (xZ_k hZ hS hA) hK hP (ci := 8) (q0 := 40) rfl rfl) rfl rfl hl.1 rfl (lv_room (Nat.le_of_ble_eq_true rfl)) dX8_shellOf_39 ⟨Nat.le_of_ble_eq_true rfl, Nat.le_of_ble_eq_true rfl⟩) hS hA hP (fun r7 u7 H locs hw7 hP hS => ?_)
            have hw7 : ((0 ≤ r7.toInt ∧ r7.toInt ≤ 1) ∧ (Sm r7 (Cv (zX (c 106) (c 108) (i 111).toInt) (bT (c 179) 0) (bT (c 179) 5) ((1 : Int) ≤ b1.toInt) y2_3.toInt))) := hw7
            obtain ⟨hw7, hr7_0⟩ := hw7
            have hr7_0 : Sm r7 (Cv (zX (c 106) (c 108) (i 111).toInt) (bT (c 179) 0) (bT (c 179) 5) ((1 : Int) ≤ b1.toInt) y2_3.toInt) := hr7_0
            refine lv_if_eq (tgt := 47) hx hb dX8_shellOf_42 (by decide +kernel) (fun c8 => ?_) (fun c8 => ?_)
            · have f8 := (ti_eq (a := r7.toInt) (b := 0) rfl (by decide +kernel)).mp c8
              have s8 := sm_f hr7_0 c8
              refine lv_aload_n hx hb dX8_shellOf_47 rfl (lv_at hl 2 rfl) ?_
              refine xgS_SG_scene hx hb hts (fun _ h => List.mem_cons_of_mem _ (List.mem_append_left _ (List.mem_append_left _ (List.mem_append_right _ h)))) hown hK hP (hts (.fieldLink RX8 26 "TalePlay$Sight" "scene" "LTalePlay$Scene;") (List.mem_cons_of_mem _ (List.mem_append_left _ (List.mem_append_left _ (List.mem_append_left _ (List.mem_append_left _ (List.mem_of_getElem? (i := 0) rfl))))))) dX8_shellOf_48 ?_
              refine lv_iload_n hx hb dX8_shellOf_51 rfl (lv_at hl 1 rfl) ?_
              refine ro_calli (va_runV (As := [.int y2_3]) (rest := []) ⟨hx, hb, hml, hown, hts⟩ (x_X6_holderOf_SS l D H.size .null a t i q c d y2_3 hI (show 0 ≤ y2_3.toInt ∧ y2_3.toInt ≤ 29 from by omega)) (cwV 1 hts gm_X8_shellOf_eSG_X6_holderOf_SS_62 rfl rfl rfl (by decide +kernel) ⟨Nat.le_of_ble_eq_true rfl, Nat.le_of_ble_eq_true rfl⟩) (yA_V hN (xZ_k hZ hS hA) (xkS_P2 hK) (xuS_P2 (sk := sk) hP) (ci := 6) (q0 := 0) rfl rfl) rfl rfl hl.1 rfl (lv_room (Nat.le_of_ble_eq_true rfl)) dX8_shellOf_52 ⟨Nat.le_of_ble_eq_true rfl, Nat.le_of_ble_eq_true rfl⟩) hS hA hP (fun r9 u9 H locs hw9 hP hS => ?_)
              have hw9 : ((r9.toInt = -9 ∧ (c 179 y2_3.toNatClampNeg).toInt % 256 = 255) ∨ (0 ≤ r9.toInt ∧ r9.toInt ≤ 29 ∧ ¬ (c 179 y2_3.toNatClampNeg).toInt % 256 = 255 ∧ r9.toInt = (c 179 y2_3.toNatClampNeg).toInt / 8 % 32)) := hw9
              have hh1 : (hF (c 179)) y2_3.toInt = r9.toInt := hF_at (by omega) hw9
              refine lv_istore_n (lv' := [(3, .int r9), (4, .int y2_4), (0, .ref (a 180)), (1, .int w), (2, .int b1)]) hx hb dX8_shellOf_55 rfl hl (by decide +kernel) rfl (fun ls hl => ?_)
              obtain ⟨x10, ex10⟩ : ∃ y : Int32, y = y2_4 + 1 := ⟨_, rfl⟩
              have tx10 := ti_add (a := y2_4.toInt) (b := 1) ex10 rfl (by decide +kernel) (by omega) (by omega)
              refine lv_iinc (v := x10) (lv' := [(4, .int x10), (3, .int r9), (0, .ref (a 180)), (1, .int w), (2, .int b1)]) hx hb dX8_shellOf_56 hl (k := 1) rfl (by rw [ex10]; rfl) (by decide +kernel) rfl (fun ls hl => ?_)
              refine lv_goto (tgt := 12) hx hb dX8_shellOf_59 (by decide +kernel) ?_
              exact ih2 x10 r9 (show 0 ≤ x10.toInt ∧ x10.toInt ≤ 30 from by have h50 : x10.toInt = (y2_4.toInt + 1) := tx10; omega) (show r9.toInt = -9 ∨ (0 ≤ r9.toInt ∧ r9.toInt ≤ 29) from by have h50 : x10.toInt = (y2_4.toInt + 1) := tx10; omega) (show ShB (hF (c 179)) (StpC (zX (c 106) (c 108) (i 111).toInt) (bT (c 179) 0) (bT (c 179) 5) ((1 : Int) ≤ b1.toInt)) 30 ((hF (c 179)) w.toInt) = ShB (hF (c 179)) (StpC (zX (c 106) (c 108) (i 111).toInt) (bT (c 179) 0) (bT (c 179) 5) ((1 : Int) ≤ b1.toInt)) (30 - x10.toInt.toNat) r9.toInt from ShB_s hz2_0 (by omega) tx10 (by omega) (fun h9 => h9.elim (fun h8 => by omega) s8) hh1) (by have h50 : x10.toInt = (y2_4.toInt + 1) := tx10; omega) _ _ _ hP hS (lv_sub hl [0, 1, 2, 3, 4] rfl)
            · have f8 := mt (ti_eq (a := r7.toInt) (b := 0) rfl (by decide +kernel)).mpr c8
              have s8 := sm_t hr7_0 c8
              refine lv_iload_n hx hb dX8_shellOf_45 rfl (lv_at hl 1 rfl) ?_
              exact ro_iret hx hb hr hlocks hS dX8_shellOf_46 ⟨(show y2_3.toInt = -9 ∨ (0 ≤ y2_3.toInt ∧ y2_3.toInt ≤ 29) from by omega), (show y2_3.toInt = shl (zX (c 106) (c 108) (i 111).toInt) (hF (c 179)) (bT (c 179) 0) (bT (c 179) 5) ((1 : Int) ≤ b1.toInt) w.toInt from show _ = ShB (hF (c 179)) (StpC (zX (c 106) (c 108) (i 111).toInt) (bT (c 179) 0) (bT (c 179) 5) ((1 : Int) ≤ b1.toInt)) 30 ((hF (c 179)) w.toInt) from ShB_r hz2_0 (by omega) (by omega) (Or.inr s8))⟩
  exact lp2 _ (0 : Int32) r1 (show 0 ≤ (0 : Int32).toInt ∧ (0 : Int32).toInt ≤ 30 from by decide +kernel) (show r1.toInt = -9 ∨ (0 ≤ r1.toInt ∧ r1.toInt ≤ 29) from by have h50 : (0 : Int32).toInt = 0 := (by decide +kernel); omega) (show ShB (hF (c 179)) (StpC (zX (c 106) (c 108) (i 111).toInt) (bT (c 179) 0) (bT (c 179) 5) ((1 : Int) ≤ b1.toInt)) 30 ((hF (c 179)) w.toInt) = ShB (hF (c 179)) (StpC (zX (c 106) (c 108) (i 111).toInt) (bT (c 179) 0) (bT (c 179) 5) ((1 : Int) ≤ b1.toInt)) (30 - (0 : Int32).toInt.toNat) r1.toInt from ShB_e (by decide +kernel) hh0) (Nat.lt_succ_self _) _ _ _ hP hS (lv_sub hl [0, 1, 2, 3, 4] rfl)

def wm_X8_isInView_eSG : List Cond := .code yX8_isInView cX8_isInView 6 (some .boolean) :: ((([.fieldLink RX8 18 "TalePlay$Sight" "world" "LTalePlay$World;", .methodLink RX8 34 yX10_sortOf, .instanceMethod yX10_sortOf, .selects RX10 yX10_sortOf yX10_sortOf, .initialized RX10, .code yX10_sortOf cX10_sortOf 2 (some .int), .fieldLink RX10 37 "TalePlay$World" "objects" "I", .fieldLink RX10 15 "TalePlay$World" "sorts" "[I", .fieldLink RX10 21 "TalePlay$World" "kindOf" "[I", .fieldLink RX8 26 "TalePlay$Sight" "scene" "LTalePlay$Scene;", .methodLink RX8 62 yX6_holderOf, .instanceMethod yX6_holderOf, .selects RX6 yX6_holderOf yX6_holderOf, .initialized RX6, .code yX6_holderOf cX6_holderOf 3 (some .int), .fieldLink RX6 9 "TalePlay$Scene" "cells" "[I"] : List Cond) ++ (([.methodLink RX8 65 yX8_isCover, .instanceMethod yX8_isCover, .selects RX8 yX8_isCover yX8_isCover, .initialized RX8, .code yX8_isCover cX8_isCover 3 (some .boolean), .methodLink RX8 40 yX6_has, .instanceMethod yX6_has, .selects RX6 yX6_has yX6_has, .code yX6_has cX6_has 3 (some .boolean), .fieldLink RX8 22 "TalePlay$Sight" "roads" "LTalePlay$Roads;", .methodLink RX8 69 yX5_isSide, .instanceMethod yX5_isSide, .selects RX5 yX5_isSide yX5_isSide, .initialized RX5, .code yX5_isSide cX5_isSide 3 (some .boolean), .fieldLink RX5 24 "TalePlay$Roads" "firstSides" "[I"] : List Cond) ++ ([.fieldLink RX5 27 "TalePlay$Roads" "secondSides" "[I"] : List Cond))) ++ wsX80 ++ wsX100 ++ wsX60 ++ wsX50)
set_option maxRecDepth 20000 in
theorem gm_X8_isInView_eSG_X10_sortOf_e_34 : GoodIn wm_X8_isInView_eSG (wsV RX8 34 RX10 yX10_sortOf wm_X10_sortOf_e) := goodIn_w (List.forall_mem_append.mpr ⟨List.forall_mem_cons.mpr ⟨List.mem_cons_of_mem _ (List.mem_append_left _ (List.mem_append_left _ (List.mem_append_left _ (List.mem_append_left _ (List.mem_append_left _ (List.mem_of_getElem? (i := 1) rfl)))))), List.forall_mem_cons.mpr ⟨List.mem_cons_of_mem _ (List.mem_append_left _ (List.mem_append_left _ (List.mem_append_left _ (List.mem_append_left _ (List.mem_append_left _ (List.mem_of_getElem? (i := 2) rfl)))))), List.forall_mem_cons.mpr ⟨List.mem_cons_of_mem _ (List.mem_append_left _ (List.mem_append_left _ (List.mem_append_left _ (List.mem_append_left _ (List.mem_append_left _ (List.mem_of_getElem? (i := 3) rfl)))))), List.forall_mem_cons.mpr ⟨List.mem_cons_of_mem _ (List.mem_append_left _ (List.mem_append_left _ (List.mem_append_left _ (List.mem_append_left _ (List.mem_append_left _ (List.mem_of_getElem? (i := 4) rfl)))))), (fun _ h => absurd h List.not_mem_nil)⟩⟩⟩⟩, List.forall_mem_cons.mpr ⟨List.mem_cons_of_mem _ (List.mem_append_left _ (List.mem_append_left _ (List.mem_append_left _ (List.mem_append_left _ (List.mem_append_left _ (List.mem_of_getElem? (i := 5) rfl)))))), List.forall_mem_append.mpr ⟨List.forall_mem_cons.mpr ⟨List.mem_cons_of_mem _ (List.mem_append_left _ (List.mem_append_left _ (List.mem_append_left _ (List.mem_append_left _ (List.mem_append_left _ (List.mem_of_getElem? (i := 6) rfl)))))), List.forall_mem_cons.mpr ⟨List.mem_cons_of_mem _ (List.mem_append_left _ (List.mem_append_left _ (List.mem_append_left _ (List.mem_append_left _ (List.mem_append_left _ (List.mem_of_getElem? (i := 7) rfl)))))), List.forall_mem_cons.mpr ⟨List.mem_cons_of_mem _ (List.mem_append_left _ (List.mem_append_left _ (List.mem_append_left _ (List.mem_append_left _ (List.mem_append_left _ (List.mem_of_getElem? (i := 8) rfl)))))), (fun _ h => absurd h List.not_mem_nil)⟩⟩⟩, (fun _ h => List.mem_cons_of_mem _ (List.mem_append_left _ (List.mem_append_left _ (List.mem_append_right _ h))))⟩⟩⟩) (by decide +kernel)
set_option maxRecDepth 20000 in
theorem gm_X8_isInView_eSG_X6_holderOf_SS_62 : GoodIn wm_X8_isInView_eSG (wsV RX8 62 RX6 yX6_holderOf wm_X6_holderOf_SS) := goodIn_w (List.forall_mem_append.mpr ⟨List.forall_mem_cons.mpr ⟨List.mem_cons_of_mem _ (List.mem_append_left _ (List.mem_append_left _ (List.mem_append_left _ (List.mem_append_left _ (List.mem_append_left _ (List.mem_of_getElem? (i := 10) rfl)))))), List.forall_mem_cons.mpr ⟨List.mem_cons_of_mem _ (List.mem_append_left _ (List.mem_append_left _ (List.mem_append_left _ (List.mem_append_left _ (List.mem_append_left _ (List.mem_of_getElem? (i := 11) rfl)))))), List.forall_mem_cons.mpr ⟨List.mem_cons_of_mem _ (List.mem_append_left _ (List.mem_append_left _ (List.mem_append_left _ (List.mem_append_left _ (List.mem_append_left _ (List.mem_of_getElem? (i := 12) rfl)))))), List.forall_mem_cons.mpr ⟨List.mem_cons_of_mem _ (List.mem_append_left _ (List.mem_append_left _ (List.mem_append_left _ (List.mem_append_left _ (List.mem_append_left _ (List.mem_of_getElem? (i := 13) rfl)))))), (fun _ h => absurd h List.not_mem_nil)⟩⟩⟩⟩, List.forall_mem_cons.mpr ⟨List.mem_cons_of_mem _ (List.mem_append_left _ (List.mem_append_left _ (List.mem_append_left _ (List.mem_append_left _ (List.mem_append_left _ (List.mem_of_getElem? (i := 14) rfl)))))), List.forall_mem_append.mpr ⟨List.forall_mem_cons.mpr ⟨List.mem_cons_of_mem _ (List.mem_append_left _ (List.mem_append_left _ (List.mem_append_left _ (List.mem_append_left _ (List.mem_append_left _ (List.mem_of_getElem? (i := 15) rfl)))))), (fun _ h => absurd h List.not_mem_nil)⟩, (fun _ h => List.mem_cons_of_mem _ (List.mem_append_left _ (List.mem_append_right _ h)))⟩⟩⟩) (by decide +kernel)
set_option maxRecDepth 20000 in
theorem gm_X8_isInView_eSG_X8_isCover_eSG_65 : GoodIn wm_X8_isInView_eSG (wsV RX8 65 RX8 yX8_isCover wm_X8_isCover_eSG) := goodIn_w (List.forall_mem_append.mpr ⟨List.forall_mem_cons.mpr ⟨List.mem_cons_of_mem _ (List.mem_append_left _ (List.mem_append_left _ (List.mem_append_left _ (List.mem_append_left _ (List.mem_append_right _ (List.mem_append_left _ (List.mem_of_getElem? (i := 0) rfl))))))), List.forall_mem_cons.mpr ⟨List.mem_cons_of_mem _ (List.mem_append_left _ (List.mem_append_left _ (List.mem_append_left _ (List.mem_append_left _ (List.mem_append_right _ (List.mem_append_left _ (List.mem_of_getElem? (i := 1) rfl))))))), List.forall_mem_cons.mpr ⟨List.mem_cons_of_mem _ (List.mem_append_left _ (List.mem_append_left _ (List.mem_append_left _ (List.mem_append_left _ (List.mem_append_right _ (List.mem_append_left _ (List.mem_of_getElem? (i := 2) rfl))))))), List.forall_mem_cons.mpr ⟨List.mem_cons_of_mem _ (List.mem_append_left _ (List.mem_append_left _ (List.mem_append_left _ (List.mem_append_left _ (List.mem_append_right _ (List.mem_append_left _ (List.mem_of_getElem? (i := 3) rfl))))))), (fun _ h => absurd h List.not_mem_nil)⟩⟩⟩⟩, List.forall_mem_cons.mpr ⟨List.mem_cons_of_mem _ (List.mem_append_left _ (List.mem_append_left _ (List.mem_append_left _ (List.mem_append_left _ (List.mem_append_right _ (List.mem_append_left _ (List.mem_of_getElem? (i := 4) rfl))))))), List.forall_mem_append.mpr ⟨List.forall_mem_append.mpr ⟨List.forall_mem_append.mpr ⟨List.forall_mem_cons.mpr ⟨List.mem_cons_of_mem _ (List.mem_append_left _ (List.mem_append_left _ (List.mem_append_left _ (List.mem_append_left _ (List.mem_append_left _ (List.mem_of_getElem? (i := 0) rfl)))))), List.forall_mem_cons.mpr ⟨List.mem_cons_of_mem _ (List.mem_append_left _ (List.mem_append_left _ (List.mem_append_left _ (List.mem_append_left _ (List.mem_append_left _ (List.mem_of_getElem? (i := 1) rfl)))))), List.forall_mem_cons.mpr ⟨List.mem_cons_of_mem _ (List.mem_append_left _ (List.mem_append_left _ (List.mem_append_left _ (List.mem_append_left _ (List.mem_append_left _ (List.mem_of_getElem? (i := 2) rfl)))))), List.forall_mem_cons.mpr ⟨List.mem_cons_of_mem _ (List.mem_append_left _ (List.mem_append_left _ (List.mem_append_left _ (List.mem_append_left _ (List.mem_append_left _ (List.mem_of_getElem? (i := 3) rfl)))))), List.forall_mem_cons.mpr ⟨List.mem_cons_of_mem _ (List.mem_append_left _ (List.mem_append_left _ (List.mem_append_left _ (List.mem_append_left _ (List.mem_append_left _ (List.mem_of_getElem? (i := 4) rfl)))))), List.forall_mem_cons.mpr ⟨List.mem_cons_of_mem _ (List.mem_append_left _ (List.mem_append_left _ (List.mem_append_left _ (List.mem_append_left _ (List.mem_append_left _ (List.mem_of_getElem? (i := 5) rfl)))))), List.forall_mem_cons.mpr ⟨List.mem_cons_of_mem _ (List.mem_append_left _ (List.mem_append_left _ (List.mem_append_left _ (List.mem_append_left _ (List.mem_append_left _ (List.mem_of_getElem? (i := 6) rfl)))))), List.forall_mem_cons.mpr ⟨List.mem_cons_of_mem _ (List.mem_append_left _ (List.mem_append_left _ (List.mem_append_left _ (List.mem_append_left _ (List.mem_append_left _ (List.mem_of_getElem? (i := 7) rfl)))))), List.forall_mem_cons.mpr ⟨List.mem_cons_of_mem _ (List.mem_append_left _ (List.mem_append_left _ (List.mem_append_left _ (List.mem_append_left _ (List.mem_append_left _ (List.mem_of_getElem? (i := 8) rfl)))))), List.forall_mem_cons.mpr ⟨List.mem_cons_of_mem _ (List.mem_append_left _ (List.mem_append_left _ (List.mem_append_left _ (List.mem_append_left _ (List.mem_append_left _ (List.mem_of_getElem? (i := 9) rfl)))))), List.forall_mem_cons.mpr ⟨List.mem_cons_of_mem _ (List.mem_append_left _ (List.mem_append_left _ (List.mem_append_left _ (List.mem_append_left _ (List.mem_append_right _ (List.mem_append_left _ (List.mem_of_getElem? (i := 5) rfl))))))), List.forall_mem_cons.mpr ⟨List.mem_cons_of_mem _ (List.mem_append_left _ (List.mem_append_left _ (List.mem_append_left _ (List.mem_append_left _ (List.mem_append_right _ (List.mem_append_left _ (List.mem_of_getElem? (i := 6) rfl))))))), List.forall_mem_cons.mpr ⟨List.mem_cons_of_mem _ (List.mem_append_left _ (List.mem_append_left _ (List.mem_append_left _ (List.mem_append_left _ (List.mem_append_right _ (List.mem_append_left _ (List.mem_of_getElem? (i := 7) rfl))))))), List.forall_mem_cons.mpr ⟨List.mem_cons_of_mem _ (List.mem_append_left _ (List.mem_append_left _ (List.mem_append_left _ (List.mem_append_left _ (List.mem_append_left _ (List.mem_of_getElem? (i := 13) rfl)))))), List.forall_mem_cons.mpr ⟨List.mem_cons_of_mem _ (List.mem_append_left _ (List.mem_append_left _ (List.mem_append_left _ (List.mem_append_left _ (List.mem_append_right _ (List.mem_append_left _ (List.mem_of_getElem? (i := 8) rfl))))))), List.forall_mem_cons.mpr ⟨List.mem_cons_of_mem _ (List.mem_append_left _ (List.mem_append_left _ (List.mem_append_left _ (List.mem_append_left _ (List.mem_append_left _ (List.mem_of_getElem? (i := 15) rfl)))))), (fun _ h => absurd h List.not_mem_nil)⟩⟩⟩⟩⟩⟩⟩⟩⟩⟩⟩⟩⟩⟩⟩⟩, (fun _ h => List.mem_cons_of_mem _ (List.mem_append_left _ (List.mem_append_left _ (List.mem_append_left _ (List.mem_append_right _ h)))))⟩, (fun _ h => List.mem_cons_of_mem _ (List.mem_append_left _ (List.mem_append_left _ (List.mem_append_right _ h))))⟩, (fun _ h => List.mem_cons_of_mem _ (List.mem_append_left _ (List.mem_append_right _ h)))⟩⟩⟩) (by decide +kernel)
set_option maxRecDepth 20000 in
theorem gm_X8_isInView_eSG_X5_isSide_eR_69 : GoodIn wm_X8_isInView_eSG (wsV RX8 69 RX5 yX5_isSide wm_X5_isSide_eR) := goodIn_w (List.forall_mem_append.mpr ⟨List.forall_mem_cons.mpr ⟨List.mem_cons_of_mem _ (List.mem_append_left _ (List.mem_append_left _ (List.mem_append_left _ (List.mem_append_left _ (List.mem_append_right _ (List.mem_append_left _ (List.mem_of_getElem? (i := 10) rfl))))))), List.forall_mem_cons.mpr ⟨List.mem_cons_of_mem _ (List.mem_append_left _ (List.mem_append_left _ (List.mem_append_left _ (List.mem_append_left _ (List.mem_append_right _ (List.mem_append_left _ (List.mem_of_getElem? (i := 11) rfl))))))), List.forall_mem_cons.mpr ⟨List.mem_cons_of_mem _ (List.mem_append_left _ (List.mem_append_left _ (List.mem_append_left _ (List.mem_append_left _ (List.mem_append_right _ (List.mem_append_left _ (List.mem_of_getElem? (i := 12) rfl))))))), List.forall_mem_cons.mpr ⟨List.mem_cons_of_mem _ (List.mem_append_left _ (List.mem_append_left _ (List.mem_append_left _ (List.mem_append_left _ (List.mem_append_right _ (List.mem_append_left _ (List.mem_of_getElem? (i := 13) rfl))))))), (fun _ h => absurd h List.not_mem_nil)⟩⟩⟩⟩, List.forall_mem_cons.mpr ⟨List.mem_cons_of_mem _ (List.mem_append_left _ (List.mem_append_left _ (List.mem_append_left _ (List.mem_append_left _ (List.mem_append_right _ (List.mem_append_left _ (List.mem_of_getElem? (i := 14) rfl))))))), List.forall_mem_append.mpr ⟨List.forall_mem_cons.mpr ⟨List.mem_cons_of_mem _ (List.mem_append_left _ (List.mem_append_left _ (List.mem_append_left _ (List.mem_append_left _ (List.mem_append_right _ (List.mem_append_left _ (List.mem_of_getElem? (i := 15) rfl))))))), List.forall_mem_cons.mpr ⟨List.mem_cons_of_mem _ (List.mem_append_left _ (List.mem_append_left _ (List.mem_append_left _ (List.mem_append_left _ (List.mem_append_right _ (List.mem_append_right _ (List.mem_of_getElem? (i := 0) rfl))))))), (fun _ h => absurd h List.not_mem_nil)⟩⟩, (fun _ h => List.mem_cons_of_mem _ (List.mem_append_right _ h))⟩⟩⟩) (by decide +kernel)
set_option maxHeartbeats 4000000 in
set_option maxRecDepth 100000 in
theorem x_X8_isInView_eSG (l : Launch) (D : va_G) (sz : Nat) (sk : Value) (a : Nat → Nat) (t : Nat → ClassId) (i : Nat → Int32) (q : Int64) (c : Nat → Nat → Int32) (d : Nat → Nat → Int64) (w : Int32) (s1 : Int32) (b1 : Int32) (hI : xInv i c) (hw : 0 ≤ w.toInt ∧ w.toInt ≤ 29) (hs1 : s1.toInt = -9 ∨ (0 ≤ s1.toInt ∧ s1.toInt ≤ 29)) (hb1 : 0 ≤ b1.toInt ∧ b1.toInt ≤ 1) : Met l yX8_isInView wm_X8_isInView_eSG ({ frames := 2, cells := 0, slots := 0, locals := 44 }) (va_Pc [.ref (a 180), .int w, .int s1, .int b1] (yA (a 186) D sz (xwS sk a t i q c d) (xtS t))) (va_Qi (fun (r : Int32) (_ : Unit) => ((0 ≤ r.toInt ∧ r.toInt ≤ 1) ∧ (Sm r (Vw (zX (c 106) (c 108) (i 111).toInt) (hF (c 179)) (bT (c 179) 0) (bT (c 179) 5) (sD (c 133) (c 134)) ((1 : Int) ≤ b1.toInt) s1.toInt w.toInt)))) oA (ro sz)) 0 0 (ro sz) := by
  refine Met.ofW (cc := cX8_isInView) (maxL := 6) (ret := (some .boolean)) (by decide +kernel) rfl ?_
  intro p e s m args below meth cd s₁ B hml hv
  obtain ⟨rfl, ⟨hsz, hP, hK⟩, hN, hZ⟩ := hv
  have hx := B.exec
  have hb := B.bytes
  have hr := B.returns
  have hts := atoms_spec (ws := wm_X8_isInView_eSG) B.pre
  have hown : s.vm.findClass RX8 = some m.cls := findClass_of_methodNamed B.named
  have hlocks := B.notSynchronized
  subst hsz
  have hA : ∀ q : Nat, s.heap.size ≤ q → ro s.heap.size q := fun _ h => h
  have hS : va_S (ro s.heap.size) s.heap s.heap [] := va_S.rf
  have hl := lv_entry ([.ref (a 180), .int w, .int s1, .int b1]) (n := 6) (Nat.le_of_ble_eq_true rfl)
  rw [lg_entry_eq]
  generalize (lg_sl ([.ref (a 180), .int w, .int s1, .int b1]) ++ List.replicate (6 - (lg_sl ([.ref (a 180), .int w, .int s1, .int b1])).length) Slot.unset).toArray = ls at hl ⊢
  have hl : lv_has ls 6 [(0, .ref (a 180)), (1, .int w), (2, .int s1), (3, .int b1)] := hl
  have rb111_i : 0 ≤ (i 111).toInt ∧ (i 111).toInt ≤ 30 := hI.1 111
  refine lv_iload_n hx hb dX8_isInView_0 rfl (lv_at hl 1 rfl) ?_
  refine lv_iload_n hx hb dX8_isInView_1 rfl (lv_at hl 2 rfl) ?_
  refine lv_icmp_ne (tgt := 23) hx hb dX8_isInView_2 (by decide +kernel) (fun c1 => ?_) (fun c1 => ?_)
  · have f1 := mt (ti_eq (a := w.toInt) (b := s1.toInt) rfl rfl).mpr c1
    refine lv_aload_n hx hb dX8_isInView_23 rfl (lv_at hl 0 rfl) ?_
    refine xgS_SG_world hx hb hts (fun _ h => List.mem_cons_of_mem _ (List.mem_append_left _ (List.mem_append_left _ (List.mem_append_left _ (List.mem_append_right _ h))))) hown hK hP (hts (.fieldLink RX8 18 "TalePlay$Sight" "world" "LTalePlay$World;") (List.mem_cons_of_mem _ (List.mem_append_left _ (List.mem_append_left _ (List.mem_append_left _ (List.mem_append_left _ (List.mem_append_left _ (List.mem_of_getElem? (i := 0) rfl)))))))) dX8_isInView_24 ?_
    refine lv_iload_n hx hb dX8_isInView_27 rfl (lv_at hl 1 rfl) ?_
    refine ro_calli (va_runV (As := [.int w]) (rest := []) ⟨hx, hb, hml, hown, hts⟩ (x_X10_sortOf_e l D s.heap.size .null a t i q c d w hI ) (cwV 1 hts gm_X8_isInView_eSG_X10_sortOf_e_34 rfl rfl rfl (by decide +kernel) ⟨Nat.le_of_ble_eq_true rfl, Nat.le_of_ble_eq_true rfl⟩) (yA_V hN (xZ_k hZ hS hA) (xkS_W hK) (xuS_W (sk := sk) hP) (ci := 10) (q0 := 0) rfl rfl) rfl rfl hl.1 rfl (lv_room (Nat.le_of_ble_eq_true rfl)) dX8_isInView_28 ⟨Nat.le_of_ble_eq_true rfl, Nat.le_of_ble_eq_true rfl⟩) hS hA hP (fun r2 u2 H locs hw2 hP hS => ?_)
    have hw2 : (((r2.toInt = -9 ∧ ¬ (0 ≤ w.toInt ∧ w.toInt < (i 111).toInt)) ∨ (0 ≤ r2.toInt ∧ r2.toInt ≤ 5 ∧ 0 ≤ w.toInt ∧ w.toInt < (i 111).toInt)) ∧ (SO (c 106) (c 108) (i 111).toInt w.toInt r2.toInt)) := hw2
    obtain ⟨hw2, hr2_0⟩ := hw2
    have hr2_0 : SO (c 106) (c 108) (i 111).toInt w.toInt r2.toInt := hr2_0
    have hzw : r2.toInt = (zX (c 106) (c 108) (i 111).toInt) w.toInt := SO_z hr2_0
    refine lv_iconst (v := 2) hx hb dX8_isInView_31 (by decide +kernel) ?_
    refine lv_icmp_ne (tgt := 45) hx hb dX8_isInView_32 (by decide +kernel) (fun c3 => ?_) (fun c3 => ?_)
    · have f3 := mt (ti_eq (a := r2.toInt) (b := 2) rfl (by decide +kernel)).mpr c3
      refine lv_aload_n hx hb dX8_isInView_45 rfl (lv_at hl 0 rfl) ?_
      refine xgS_SG_scene hx hb hts (fun _ h => List.mem_cons_of_mem _ (List.mem_append_left _ (List.mem_append_left _ (List.mem_append_left _ (List.mem_append_right _ h))))) hown hK hP (hts (.fieldLink RX8 26 "TalePlay$Sight" "scene" "LTalePlay$Scene;") (List.mem_cons_of_mem _ (List.mem_append_left _ (List.mem_append_left _ (List.mem_append_left _ (List.mem_append_left _ (List.mem_append_left _ (List.mem_of_getElem? (i := 9) rfl)))))))) dX8_isInView_46 ?_
      refine lv_iload_n hx hb dX8_isInView_49 rfl (lv_at hl 1 rfl) ?_
      refine ro_calli (va_runV (As := [.int w]) (rest := []) ⟨hx, hb, hml, hown, hts⟩ (x_X6_holderOf_SS l D H.size .null a t i q c d w hI (show 0 ≤ w.toInt ∧ w.toInt ≤ 29 from by omega)) (cwV 1 hts gm_X8_isInView_eSG_X6_holderOf_SS_62 rfl rfl rfl (by decide +kernel) ⟨Nat.le_of_ble_eq_true rfl, Nat.le_of_ble_eq_true rfl⟩) (yA_V hN (xZ_k hZ hS hA) (xkS_P2 hK) (xuS_P2 (sk := sk) hP) (ci := 6) (q0 := 0) rfl rfl) rfl rfl hl.1 rfl (lv_room (Nat.le_of_ble_eq_true rfl)) dX8_isInView_50 ⟨Nat.le_of_ble_eq_true rfl, Nat.le_of_ble_eq_true rfl⟩) hS hA hP (fun r4 u4 H locs hw4 hP hS => ?_)
      have hw4 : ((r4.toInt = -9 ∧ (c 179 w.toNatClampNeg).toInt % 256 = 255) ∨ (0 ≤ r4.toInt ∧ r4.toInt ≤ 29 ∧ ¬ (c 179 w.toNatClampNeg).toInt % 256 = 255 ∧ r4.toInt = (c 179 w.toNatClampNeg).toInt / 8 % 32)) := hw4
      have hh0 : (hF (c 179)) w.toInt = r4.toInt := hF_at (by omega) hw4
      refine lv_istore (lv' := [(4, .int r4), (0, .ref (a 180)), (1, .int w), (2, .int s1), (3, .int b1)]) hx hb dX8_isInView_53 hl (by decide +kernel) rfl (fun ls hl => ?_)
      refine lv_iconst (v := 0) hx hb dX8_isInView_55 (by decide +kernel) ?_
      refine lv_istore (lv' := [(5, .int 0), (4, .int r4), (0, .ref (a 180)), (1, .int w), (2, .int s1), (3, .int b1)]) hx hb dX8_isInView_56 hl (by decide +kernel) rfl (fun ls hl => ?_)
      have lp5 : ∀ (fu : Nat) (y5_5 : Int32) (y5_4 : Int32), (0 ≤ y5_5.toInt ∧ y5_5.toInt ≤ 30) → (y5_4.toInt = -9 ∨ (0 ≤ y5_4.toInt ∧ y5_4.toInt ≤ 29)) → (InB 30 (hF (c 179)) (Cv (zX (c 106) (c 108) (i 111).toInt) (bT (c 179) 0) (bT (c 179) 5) ((1 : Int) ≤ b1.toInt)) s1.toInt ((hF (c 179)) w.toInt) ↔ InB (30 - y5_5.toInt.toNat) (hF (c 179)) (Cv (zX (c 106) (c 108) (i 111).toInt) (bT (c 179) 0) (bT (c 179) 5) ((1 : Int) ≤ b1.toInt)) s1.toInt y5_4.toInt) → (30 - y5_5.toInt).toNat < fu → ∀ (H : Heap) (locs : List Loc) (ls : Array Slot), va_P D vwCl (xwS sk a t i q c d) H → va_S (ro s.heap.size) s.heap H locs → lv_has ls 6 [(5, .int y5_5), (4, .int y5_4), (0, .ref (a 180)), (1, .int w), (2, .int s1), (3, .int b1)] → W p l e (headSpec wm_X8_isInView_eSG ({ frames := 2, cells := 0, slots := 0, locals := 44 })).room s m ([.ref (a 180), .int w, .int s1, .int b1] : List Value).toArray below meth cd H locs 0 0 (MQ below (va_Qi (fun (r : Int32) (_ : Unit) => ((0 ≤ r.toInt ∧ r.toInt ≤ 1) ∧ (Sm r (Vw (zX (c 106) (c 108) (i 111).toInt) (hF (c 179)) (bT (c 179) 0) (bT (c 179) 5) (sD (c 133) (c 134)) ((1 : Int) ≤ b1.toInt) s1.toInt w.toInt)))) oA (ro s.heap.size)) ([.ref (a 180), .int w, .int s1, .int b1] : List Value).toArray s 0 0 (ro s.heap.size)) (F0 m 58 ls []) := by
        intro fu
        induction fu with
        | zero => intro y5_5 y5_4 hy5_5 hy5_4 hz5_0 hm; exact absurd hm (Nat.not_lt_zero _)
        | succ fu ih =>
          intro y5_5 y5_4 hy5_5 hy5_4 hz5_0 hm H locs ls hP hS hl
          have ih5 := ih
          refine lv_iload hx hb dX8_isInView_58 (lv_at hl 0 rfl) ?_
          refine lv_bipush (v := 30) hx hb dX8_isInView_60 (by decide +kernel) ?_
          refine lv_icmp_ge (tgt := 109) hx hb dX8_isInView_62 (by decide +kernel) (fun c6 => ?_) (fun c6 => ?_)
          · have f6 := (ti_le (a := 30) (b := y5_5.toInt) (by decide +kernel) rfl).mp c6
            refine lv_iconst (v := 0) hx hb dX8_isInView_109 (by decide +kernel) ?_
            exact ro_zret hx hb hr hlocks hS rfl dX8_isInView_110 ⟨(show 0 ≤ (0 : Int32).toInt ∧ (0 : Int32).toInt ≤ 1 from by decide +kernel), (show Sm (0 : Int32) (Vw (zX (c 106) (c 108) (i 111).toInt) (hF (c 179)) (bT (c 179) 0) (bT (c 179) 5) (sD (c 133) (c 134)) ((1 : Int) ≤ b1.toInt) s1.toInt w.toInt) from sm_0 (fun h9 => by rcases h9.2 with h8 | h8 | h8; (· have h7 := h8.1; omega); (· have h7 := h8.2.1; omega); (· exact InB_x hz5_0 (by first | exact Or.inl (by omega) | exact Or.inr (Or.inl (by omega))) hF_9 h9.1 h8.2.2)))⟩
          · have f6 := mt (ti_le (a := 30) (b := y5_5.toInt) (by decide +kernel) rfl).mpr c6
            refine lv_iload hx hb dX8_isInView_65 (lv_at hl 1 rfl) ?_
            refine lv_bipush (v := (-9)) hx hb dX8_isInView_67 (by decide +kernel) ?_
            refine lv_icmp_eq (tgt := 109) hx hb dX8_isInView_69 (by decide +kernel) (fun c7 => ?_) (fun c7 => ?_)
            · have f7 := (ti_eq (a := y5_4.toInt) (b := (-9)) rfl (by decide +kernel)).mp c7
              refine lv_iconst (v := 0) hx hb dX8_isInView_109 (by decide +kernel) ?_
              exact ro_zret hx hb hr hlocks hS rfl dX8_isInView_110 ⟨(show 0 ≤ (0 : Int32).toInt ∧ (0 : Int32).toInt ≤ 1 from by decide +kernel), (show Sm (0 : Int32) (Vw (zX (c 106) (c 108) (i 111).toInt) (hF (c 179)) (bT (c 179) 0) (bT (c 179) 5) (sD (c 133) (c 134)) ((1 : Int) ≤ b1.toInt) s1.toInt w.toInt) from sm_0 (fun h9 => by rcases h9.2 with h8 | h8 | h8; (· have h7 := h8.1; omega); (· have h7 := h8.2.1; omega); (· exact InB_x hz5_0 (by first | exact Or.inl (by omega) | exact Or.inr (Or.inl (by omega))) hF_9 h9.1 h8.2.2)))⟩
            · have f7 := mt (ti_eq (a := y5_4.toInt) (b := (-9)) rfl (by decide +kernel)).mpr c7
              refine lv_iload hx hb dX8_isInView_72 (lv_at hl 1 rfl) ?_
              refine lv_iload_n hx hb dX8_isInView_74 rfl (lv_at hl 4 rfl) ?_
              refine lv_icmp_ne (tgt := 80) hx hb dX8_isInView_75 (by decide +kernel) (fun c8 => ?_) (fun c8 => ?_)
              · have f8 := mt (ti_eq (a := y5_4.toInt) (b := s1.toInt) rfl rfl).mpr c8
                refine lv_aload_n hx hb dX8_isInView_80 rfl (lv_at hl 2 rfl) ?_
                refine lv_iload hx hb dX8_isInView_81 (lv_at hl 1 rfl) ?_
                refine lv_iload_n hx hb dX8_isInView_83 rfl (lv_at hl 5 rfl) ?_
                refine ro_calli (va_runV (As := [.int y5_4, .int b1]) (rest := []) ⟨hx, hb, hml, hown, hts⟩ (x_X8_isCover_eSG l D H.size .null a t i q c d y5_4 b1 hI (show 0 ≤ b1.toInt ∧ b1.toInt ≤ 1 from by omega)) (cwV 2 hts gm_X8_isInView_eSG_X8_isCover_eSG_65 rfl rfl rfl (by decide +kernel) ⟨Nat.le_of_ble_eq_true rfl, Nat.le_of_ble_eq_true rfl⟩) (yA_V hN (xZ_k hZ hS hA) hK hP (ci := 8) (q0 := 40) rfl rfl) rfl rfl hl.1 rfl (lv_room (Nat.le_of_ble_eq_true rfl)) dX8_isInView_84 ⟨Nat.le_of_ble_eq_true rfl, Nat.le_of_ble_eq_true rfl⟩) hS hA hP (fun r9 u9 H locs hw9 hP hS => ?_)
                have hw9 : ((0 ≤ r9.toInt ∧ r9.toInt ≤ 1) ∧ (Sm r9 (Cv (zX (c 106) (c 108) (i 111).toInt) (bT (c 179) 0) (bT (c 179) 5) ((1 : Int) ≤ b1.toInt) y5_4.toInt))) := hw9
                obtain ⟨hw9, hr9_0⟩ := hw9
                have hr9_0 : Sm r9 (Cv (zX (c 106) (c 108) (i 111).toInt) (bT (c 179) 0) (bT (c 179) 5) ((1 : Int) ≤ b1.toInt) y5_4.toInt) := hr9_0
                refine lv_if_eq (tgt := 92) hx hb dX8_isInView_87 (by decide +kernel) (fun c10 => ?_) (fun c10 => ?_)
                · have f10 := (ti_eq (a := r9.toInt) (b := 0) rfl (by decide +kernel)).mp c10
                  have s10 := sm_f hr9_0 c10
                  refine lv_aload_n hx hb dX8_isInView_92 rfl (lv_at hl 2 rfl) ?_
                  refine xgS_SG_scene hx hb hts (fun _ h => List.mem_cons_of_mem _ (List.mem_append_left _ (List.mem_append_left _ (List.mem_append_left _ (List.mem_append_right _ h))))) hown hK hP (hts (.fieldLink RX8 26 "TalePlay$Sight" "scene" "LTalePlay$Scene;") (List.mem_cons_of_mem _ (List.mem_append_left _ (List.mem_append_left _ (List.mem_append_left _ (List.mem_append_left _ (List.mem_append_left _ (List.mem_of_getElem? (i := 9) rfl)))))))) dX8_isInView_93 ?_
                  refine lv_iload hx hb dX8_isInView_96 (lv_at hl 1 rfl) ?_
                  refine ro_calli (va_runV (As := [.int y5_4]) (rest := []) ⟨hx, hb, hml, hown, hts⟩ (x_X6_holderOf_SS l D H.size .null a t i q c d y5_4 hI (show 0 ≤ y5_4.toInt ∧ y5_4.toInt ≤ 29 from by omega)) (cwV 1 hts gm_X8_isInView_eSG_X6_holderOf_SS_62 rfl rfl rfl (by decide +kernel) ⟨Nat.le_of_ble_eq_true rfl, Nat.le_of_ble_eq_true rfl⟩) (yA_V hN (xZ_k hZ hS hA) (xkS_P2 hK) (xuS_P2 (sk := sk) hP) (ci := 6) (q0 := 0) rfl rfl) rfl rfl hl.1 rfl (lv_room (Nat.le_of_ble_eq_true rfl)) dX8_isInView_98 ⟨Nat.le_of_ble_eq_true rfl, Nat.le_of_ble_eq_true rfl⟩) hS hA hP (fun r11 u11 H locs hw11 hP hS => ?_)
                  have hw11 : ((r11.toInt = -9 ∧ (c 179 y5_4.toNatClampNeg).toInt % 256 = 255) ∨ (0 ≤ r11.toInt ∧ r11.toInt ≤ 29 ∧ ¬ (c 179 y5_4.toNatClampNeg).toInt % 256 = 255 ∧ r11.toInt = (c 179 y5_4.toNatClampNeg).toInt / 8 % 32)) := hw11
                  have hh1 : (hF (c 179)) y5_4.toInt = r11.toInt := hF_at (by omega) hw11
                  refine lv_istore (lv' := [(4, .int r11), (5, .int y5_5), (0, .ref (a 180)), (1, .int w), (2, .int s1), (3, .int b1)]) hx hb dX8_isInView_101 hl (by decide +kernel) rfl (fun ls hl => ?_)
                  obtain ⟨x12, ex12⟩ : ∃ y : Int32, y = y5_5 + 1 := ⟨_, rfl⟩
                  have tx12 := ti_add (a := y5_5.toInt) (b := 1) ex12 rfl (by decide +kernel) (by omega) (by omega)
                  refine lv_iinc (v := x12) (lv' := [(5, .int x12), (4, .int r11), (0, .ref (a 180)), (1, .int w), (2, .int s1), (3, .int b1)]) hx hb dX8_isInView_103 hl (k := 1) rfl (by rw [ex12]; rfl) (by decide +kernel) rfl (fun ls hl => ?_)
                  refine lv_goto (tgt := 58) hx hb dX8_isInView_106 (by decide +kernel) ?_
                  exact ih5 x12 r11 (show 0 ≤ x12.toInt ∧ x12.toInt ≤ 30 from by have h50 : x12.toInt = (y5_5.toInt + 1) := tx12; omega) (show r11.toInt = -9 ∨ (0 ≤ r11.toInt ∧ r11.toInt ≤ 29) from by have h50 : x12.toInt = (y5_5.toInt + 1) := tx12; omega) (show InB 30 (hF (c 179)) (Cv (zX (c 106) (c 108) (i 111).toInt) (bT (c 179) 0) (bT (c 179) 5) ((1 : Int) ≤ b1.toInt)) s1.toInt ((hF (c 179)) w.toInt) ↔ InB (30 - x12.toInt.toNat) (hF (c 179)) (Cv (zX (c 106) (c 108) (i 111).toInt) (bT (c 179) 0) (bT (c 179) 5) ((1 : Int) ≤ b1.toInt)) s1.toInt r11.toInt from InB_s hz5_0 (by omega) tx12 (by omega) s10 hh1) (by have h50 : x12.toInt = (y5_5.toInt + 1) := tx12; omega) _ _ _ hP hS (lv_sub hl [0, 1, 2, 3, 4, 5] rfl)
                · have f10 := mt (ti_eq (a := r9.toInt) (b := 0) rfl (by decide +kernel)).mpr c10
                  have s10 := sm_t hr9_0 c10
                  refine lv_iconst (v := 0) hx hb dX8_isInView_90 (by decide +kernel) ?_
                  exact ro_zret hx hb hr hlocks hS rfl dX8_isInView_91 ⟨(show 0 ≤ (0 : Int32).toInt ∧ (0 : Int32).toInt ≤ 1 from by decide +kernel), (show Sm (0 : Int32) (Vw (zX (c 106) (c 108) (i 111).toInt) (hF (c 179)) (bT (c 179) 0) (bT (c 179) 5) (sD (c 133) (c 134)) ((1 : Int) ≤ b1.toInt) s1.toInt w.toInt) from sm_0 (fun h9 => by rcases h9.2 with h8 | h8 | h8; (· have h7 := h8.1; omega); (· have h7 := h8.2.1; omega); (· exact InB_x hz5_0 (Or.inr (Or.inr ⟨by omega, s10⟩)) hF_9 h9.1 h8.2.2)))⟩
              · have f8 := (ti_eq (a := y5_4.toInt) (b := s1.toInt) rfl rfl).mp c8
                refine lv_iconst (v := 1) hx hb dX8_isInView_78 (by decide +kernel) ?_
                exact ro_zret hx hb hr hlocks hS rfl dX8_isInView_79 ⟨(show 0 ≤ (1 : Int32).toInt ∧ (1 : Int32).toInt ≤ 1 from by decide +kernel), (show Sm (1 : Int32) (Vw (zX (c 106) (c 108) (i 111).toInt) (hF (c 179)) (bT (c 179) 0) (bT (c 179) 5) (sD (c 133) (c 134)) ((1 : Int) ≤ b1.toInt) s1.toInt w.toInt) from sm_1 ⟨by omega, Or.inr (Or.inr ⟨by omega, by omega, InB_y hz5_0 (by omega) (by omega)⟩)⟩)⟩
      exact lp5 _ (0 : Int32) r4 (show 0 ≤ (0 : Int32).toInt ∧ (0 : Int32).toInt ≤ 30 from by decide +kernel) (show r4.toInt = -9 ∨ (0 ≤ r4.toInt ∧ r4.toInt ≤ 29) from by have h50 : (0 : Int32).toInt = 0 := (by decide +kernel); omega) (show InB 30 (hF (c 179)) (Cv (zX (c 106) (c 108) (i 111).toInt) (bT (c 179) 0) (bT (c 179) 5) ((1 : Int) ≤ b1.toInt)) s1.toInt ((hF (c 179)) w.toInt) ↔ InB (30 - (0 : Int32).toInt.toNat) (hF (c 179)) (Cv (zX (c 106) (c 108) (i 111).toInt) (bT (c 179) 0) (bT (c 179) 5) ((1 : Int) ≤ b1.toInt)) s1.toInt r4.toInt from InB_e (by decide +kernel) hh0) (Nat.lt_succ_self _) _ _ _ hP hS (lv_sub hl [0, 1, 2, 3, 4, 5] rfl)
    · have f3 := (ti_eq (a := r2.toInt) (b := 2) rfl (by decide +kernel)).mp c3
      refine lv_aload_n hx hb dX8_isInView_35 rfl (lv_at hl 0 rfl) ?_
      refine xgS_SG_roads hx hb hts (fun _ h => List.mem_cons_of_mem _ (List.mem_append_left _ (List.mem_append_left _ (List.mem_append_left _ (List.mem_append_right _ h))))) hown hK hP (hts (.fieldLink RX8 22 "TalePlay$Sight" "roads" "LTalePlay$Roads;") (List.mem_cons_of_mem _ (List.mem_append_left _ (List.mem_append_left _ (List.mem_append_left _ (List.mem_append_left _ (List.mem_append_right _ (List.mem_append_left _ (List.mem_of_getElem? (i := 9) rfl))))))))) dX8_isInView_36 ?_
      refine lv_iload_n hx hb dX8_isInView_39 rfl (lv_at hl 2 rfl) ?_
      refine lv_iload_n hx hb dX8_isInView_40 rfl (lv_at hl 1 rfl) ?_
      refine ro_calli (va_runV (As := [.int s1, .int w]) (rest := []) ⟨hx, hb, hml, hown, hts⟩ (x_X5_isSide_eR l D H.size .null a t i q c d s1 w hI (show 0 ≤ w.toInt ∧ w.toInt ≤ 29 from by omega)) (cwV 2 hts gm_X8_isInView_eSG_X5_isSide_eR_69 rfl rfl rfl (by decide +kernel) ⟨Nat.le_of_ble_eq_true rfl, Nat.le_of_ble_eq_true rfl⟩) (yA_V hN (xZ_k hZ hS hA) (xkS_B hK) (xuS_B (sk := sk) hP) (ci := 5) (q0 := 19) rfl rfl) rfl rfl hl.1 rfl (lv_room (Nat.le_of_ble_eq_true rfl)) dX8_isInView_41 ⟨Nat.le_of_ble_eq_true rfl, Nat.le_of_ble_eq_true rfl⟩) hS hA hP (fun r13 u13 H locs hw13 hP hS => ?_)
      have hw13 : ((0 ≤ r13.toInt ∧ r13.toInt ≤ 1) ∧ (Sm r13 (¬ s1.toInt = -9 ∧ ((c 133 w.toInt.toNat).toInt = s1.toInt ∨ (c 134 w.toInt.toNat).toInt = s1.toInt)))) := hw13
      obtain ⟨hw13, hr13_0⟩ := hw13
      have hr13_0 : Sm r13 (¬ s1.toInt = -9 ∧ ((c 133 w.toInt.toNat).toInt = s1.toInt ∨ (c 134 w.toInt.toNat).toInt = s1.toInt)) := hr13_0
      exact ro_zret hx hb hr hlocks hS (nb_n (show 0 ≤ r13.toInt ∧ r13.toInt ≤ 1 from by omega)) dX8_isInView_44 ⟨(show 0 ≤ r13.toInt ∧ r13.toInt ≤ 1 from by omega), (show Sm r13 (Vw (zX (c 106) (c 108) (i 111).toInt) (hF (c 179)) (bT (c 179) 0) (bT (c 179) 5) (sD (c 133) (c 134)) ((1 : Int) ≤ b1.toInt) s1.toInt w.toInt) from sm_i hr13_0 ⟨fun h9 => ⟨h9.1, Or.inr (Or.inl ⟨by omega, by omega, h9.2⟩)⟩, fun h9 => ⟨h9.1, by rcases h9.2 with h8 | h8 | h8; (· have h7 := h8.1; exfalso; omega); (· exact h8.2.2); (· have h7 := h8.2.1; exfalso; omega)⟩⟩)⟩
  · have f1 := (ti_eq (a := w.toInt) (b := s1.toInt) rfl rfl).mp c1
    refine lv_aload_n hx hb dX8_isInView_5 rfl (lv_at hl 0 rfl) ?_
    refine xgS_SG_world hx hb hts (fun _ h => List.mem_cons_of_mem _ (List.mem_append_left _ (List.mem_append_left _ (List.mem_append_left _ (List.mem_append_right _ h))))) hown hK hP (hts (.fieldLink RX8 18 "TalePlay$Sight" "world" "LTalePlay$World;") (List.mem_cons_of_mem _ (List.mem_append_left _ (List.mem_append_left _ (List.mem_append_left _ (List.mem_append_left _ (List.mem_append_left _ (List.mem_of_getElem? (i := 0) rfl)))))))) dX8_isInView_6 ?_
    refine lv_iload_n hx hb dX8_isInView_9 rfl (lv_at hl 2 rfl) ?_
    refine ro_calli (va_runV (As := [.int s1]) (rest := []) ⟨hx, hb, hml, hown, hts⟩ (x_X10_sortOf_e l D s.heap.size .null a t i q c d s1 hI ) (cwV 1 hts gm_X8_isInView_eSG_X10_sortOf_e_34 rfl rfl rfl (by decide +kernel) ⟨Nat.le_of_ble_eq_true rfl, Nat.le_of_ble_eq_true rfl⟩) (yA_V hN (xZ_k hZ hS hA) (xkS_W hK) (xuS_W (sk := sk) hP) (ci := 10) (q0 := 0) rfl rfl) rfl rfl hl.1 rfl (lv_room (Nat.le_of_ble_eq_true rfl)) dX8_isInView_10 ⟨Nat.le_of_ble_eq_true rfl, Nat.le_of_ble_eq_true rfl⟩) hS hA hP (fun r14 u14 H locs hw14 hP hS => ?_)
    have hw14 : (((r14.toInt = -9 ∧ ¬ (0 ≤ s1.toInt ∧ s1.toInt < (i 111).toInt)) ∨ (0 ≤ r14.toInt ∧ r14.toInt ≤ 5 ∧ 0 ≤ s1.toInt ∧ s1.toInt < (i 111).toInt)) ∧ (SO (c 106) (c 108) (i 111).toInt s1.toInt r14.toInt)) := hw14
    obtain ⟨hw14, hr14_0⟩ := hw14
    have hr14_0 : SO (c 106) (c 108) (i 111).toInt s1.toInt r14.toInt := hr14_0
    have hzs : r14.toInt = (zX (c 106) (c 108) (i 111).toInt) s1.toInt := SO_z hr14_0
    refine lv_iconst (v := 3) hx hb dX8_isInView_13 (by decide +kernel) ?_
    refine lv_icmp_ne (tgt := 21) hx hb dX8_isInView_14 (by decide +kernel) (fun c15 => ?_) (fun c15 => ?_)
    · have f15 := mt (ti_eq (a := r14.toInt) (b := 3) rfl (by decide +kernel)).mpr c15
      refine lv_iconst (v := 0) hx hb dX8_isInView_21 (by decide +kernel) ?_
      exact ro_zret hx hb hr hlocks hS rfl dX8_isInView_22 ⟨(show 0 ≤ (0 : Int32).toInt ∧ (0 : Int32).toInt ≤ 1 from by decide +kernel), (show Sm (0 : Int32) (Vw (zX (c 106) (c 108) (i 111).toInt) (hF (c 179)) (bT (c 179) 0) (bT (c 179) 5) (sD (c 133) (c 134)) ((1 : Int) ≤ b1.toInt) s1.toInt w.toInt) from sm_0 (fun h9 => by rcases h9.2 with h8 | h8 | h8; (· have h7 := h8.2; omega); (· have h7 := h8.1; omega); (· have h7 := h8.1; omega)))⟩
    · have f15 := (ti_eq (a := r14.toInt) (b := 3) rfl (by decide +kernel)).mp c15
      refine lv_iconst (v := 1) hx hb dX8_isInView_17 (by decide +kernel) ?_
      refine lv_goto (tgt := 22) hx hb dX8_isInView_18 (by decide +kernel) ?_
      exact ro_zret hx hb hr hlocks hS rfl dX8_isInView_22 ⟨(show 0 ≤ (1 : Int32).toInt ∧ (1 : Int32).toInt ≤ 1 from by decide +kernel), (show Sm (1 : Int32) (Vw (zX (c 106) (c 108) (i 111).toInt) (hF (c 179)) (bT (c 179) 0) (bT (c 179) 5) (sD (c 133) (c 134)) ((1 : Int) ≤ b1.toInt) s1.toInt w.toInt) from sm_1 ⟨by omega, Or.inl ⟨by omega, by omega⟩⟩)⟩

