def wm_X6_formOf_BP : List Cond := .code yX6_formOf cX6_formOf 3 (some .int) :: (([.fieldLink RX6 9 "TalePlay$Scene" "cells" "[I"] : List Cond) ++ wsX60)
set_option maxHeartbeats 4000000 in
set_option maxRecDepth 100000 in
theorem x_X6_formOf_BP (l : Launch) (D : va_G) (sz : Nat) (sk : Value) (a : Nat → Nat) (t : Nat → ClassId) (i : Nat → Int32) (q : Int64) (c : Nat → Nat → Int32) (d : Nat → Nat → Int64) (w : Int32) (hI : xInv i c) (hw : 0 ≤ w.toInt ∧ w.toInt ≤ 29) : Met l yX6_formOf wm_X6_formOf_BP ({ frames := 0, cells := 0, slots := 0, locals := 0 }) (va_Pc [.ref (a 126), .int w] (yA (a 186) D sz (xwP0 sk a t i q c d) (xtP0 t))) (va_Qi (fun (r : Int32) (_ : Unit) => ((r.toInt = -9 ∧ (c 127 w.toNatClampNeg).toInt % 256 = 255) ∨ (0 ≤ r.toInt ∧ r.toInt ≤ 4 ∧ ¬ (c 127 w.toNatClampNeg).toInt % 256 = 255 ∧ r.toInt = (c 127 w.toNatClampNeg).toInt % 8))) oA (ro sz)) 0 0 (ro sz) := by
  refine Met.ofW (cc := cX6_formOf) (maxL := 3) (ret := (some .int)) (by decide +kernel) rfl ?_
  intro p e s m args below meth cd s₁ B hml hv
  obtain ⟨rfl, ⟨hsz, hP, hK⟩, hN, hZ⟩ := hv
  have hx := B.exec
  have hb := B.bytes
  have hr := B.returns
  have hts := atoms_spec (ws := wm_X6_formOf_BP) B.pre
  have hown : s.vm.findClass RX6 = some m.cls := findClass_of_methodNamed B.named
  have hlocks := B.notSynchronized
  subst hsz
  have hA : ∀ q : Nat, s.heap.size ≤ q → ro s.heap.size q := fun _ h => h
  have hS : va_S (ro s.heap.size) s.heap s.heap [] := va_S.rf
  have hl := lv_entry ([.ref (a 126), .int w]) (n := 3) (Nat.le_of_ble_eq_true rfl)
  rw [lg_entry_eq]
  generalize (lg_sl ([.ref (a 126), .int w]) ++ List.replicate (3 - (lg_sl ([.ref (a 126), .int w])).length) Slot.unset).toArray = ls at hl ⊢
  have hl : lv_has ls 3 [(0, .ref (a 126)), (1, .int w)] := hl
  refine lv_aload_n hx hb dX6_formOf_0 rfl (lv_at hl 0 rfl) ?_
  refine xgP0_BP_cells hx hb hts (fun _ h => List.mem_cons_of_mem _ (List.mem_append_right _ h)) hown hK hP (hts (.fieldLink RX6 9 "TalePlay$Scene" "cells" "[I") (List.mem_cons_of_mem _ (List.mem_append_left _ (List.mem_of_getElem? (i := 0) rfl)))) dX6_formOf_1 ?_
  refine lv_iload_n hx hb dX6_formOf_4 rfl (lv_at hl 1 rfl) ?_
  refine xlP0_127 hx hb hK hP (vp_in_iff.mpr (by have h9 : w.toInt = w.toInt := rfl; omega)) dX6_formOf_5 (fun x1 ex1 => ?_)
  have rx1 : 0 ≤ x1.toInt ∧ x1.toInt ≤ 16383 ∧ (x1.toInt % 256 = 255 ∨ (x1.toInt % 8 ≤ 4 ∧ x1.toInt / 8 % 32 ≤ 29)) := by rw [ex1]; exact hI.2 127 _
  have gx1 : (c 127 (w : Int32).toNatClampNeg).toInt = x1.toInt := (congrArg Int32.toInt ex1).symm
  refine lv_bipush (v := 7) hx hb dX6_formOf_6 (by decide +kernel) ?_
  refine lv_iand hx hb dX6_formOf_8 ?_
  refine lv_topi (fun x2 ex2 => ?_)
  have bx2 := and7 (by omega) ex2
  refine lv_istore_n (lv' := [(2, .int x2), (0, .ref (a 126)), (1, .int w)]) hx hb dX6_formOf_9 rfl hl (by decide +kernel) rfl (fun ls hl => ?_)
  refine lv_iload_n hx hb dX6_formOf_10 rfl (lv_at hl 0 rfl) ?_
  refine lv_bipush (v := 7) hx hb dX6_formOf_11 (by decide +kernel) ?_
  refine lv_icmp_ne (tgt := 21) hx hb dX6_formOf_13 (by decide +kernel) (fun c3 => ?_) (fun c3 => ?_)
  · have f3 := mt (ti_eq (a := (x1.toInt % 8)) (b := 7) bx2 (by decide +kernel)).mpr c3
    refine lv_iload_n hx hb dX6_formOf_21 rfl (lv_at hl 0 rfl) ?_
    exact ro_iret hx hb hr hlocks hS dX6_formOf_22 (show (x2.toInt = -9 ∧ (c 127 w.toNatClampNeg).toInt % 256 = 255) ∨ (0 ≤ x2.toInt ∧ x2.toInt ≤ 4 ∧ ¬ (c 127 w.toNatClampNeg).toInt % 256 = 255 ∧ x2.toInt = (c 127 w.toNatClampNeg).toInt % 8) from by have h9 : x2.toInt = (x1.toInt % 8) := bx2; omega)
  · have f3 := (ti_eq (a := (x1.toInt % 8)) (b := 7) bx2 (by decide +kernel)).mp c3
    refine lv_bipush (v := (-9)) hx hb dX6_formOf_16 (by decide +kernel) ?_
    refine lv_goto (tgt := 22) hx hb dX6_formOf_18 (by decide +kernel) ?_
    exact ro_iret hx hb hr hlocks hS dX6_formOf_22 (show (((-9) : Int32).toInt = -9 ∧ (c 127 w.toNatClampNeg).toInt % 256 = 255) ∨ (0 ≤ ((-9) : Int32).toInt ∧ ((-9) : Int32).toInt ≤ 4 ∧ ¬ (c 127 w.toNatClampNeg).toInt % 256 = 255 ∧ ((-9) : Int32).toInt = (c 127 w.toNatClampNeg).toInt % 8) from by have h9 : ((-9) : Int32).toInt = -9 := (by decide +kernel); omega)

def wm_X6_holderOf_BP : List Cond := .code yX6_holderOf cX6_holderOf 3 (some .int) :: (([.fieldLink RX6 9 "TalePlay$Scene" "cells" "[I"] : List Cond) ++ wsX60)
set_option maxHeartbeats 4000000 in
set_option maxRecDepth 100000 in
theorem x_X6_holderOf_BP (l : Launch) (D : va_G) (sz : Nat) (sk : Value) (a : Nat → Nat) (t : Nat → ClassId) (i : Nat → Int32) (q : Int64) (c : Nat → Nat → Int32) (d : Nat → Nat → Int64) (w : Int32) (hI : xInv i c) (hw : 0 ≤ w.toInt ∧ w.toInt ≤ 29) : Met l yX6_holderOf wm_X6_holderOf_BP ({ frames := 0, cells := 0, slots := 0, locals := 0 }) (va_Pc [.ref (a 126), .int w] (yA (a 186) D sz (xwP0 sk a t i q c d) (xtP0 t))) (va_Qi (fun (r : Int32) (_ : Unit) => ((r.toInt = -9 ∧ (c 127 w.toNatClampNeg).toInt % 256 = 255) ∨ (0 ≤ r.toInt ∧ r.toInt ≤ 29 ∧ ¬ (c 127 w.toNatClampNeg).toInt % 256 = 255 ∧ r.toInt = (c 127 w.toNatClampNeg).toInt / 8 % 32))) oA (ro sz)) 0 0 (ro sz) := by
  refine Met.ofW (cc := cX6_holderOf) (maxL := 3) (ret := (some .int)) (by decide +kernel) rfl ?_
  intro p e s m args below meth cd s₁ B hml hv
  obtain ⟨rfl, ⟨hsz, hP, hK⟩, hN, hZ⟩ := hv
  have hx := B.exec
  have hb := B.bytes
  have hr := B.returns
  have hts := atoms_spec (ws := wm_X6_holderOf_BP) B.pre
  have hown : s.vm.findClass RX6 = some m.cls := findClass_of_methodNamed B.named
  have hlocks := B.notSynchronized
  subst hsz
  have hA : ∀ q : Nat, s.heap.size ≤ q → ro s.heap.size q := fun _ h => h
  have hS : va_S (ro s.heap.size) s.heap s.heap [] := va_S.rf
  have hl := lv_entry ([.ref (a 126), .int w]) (n := 3) (Nat.le_of_ble_eq_true rfl)
  rw [lg_entry_eq]
  generalize (lg_sl ([.ref (a 126), .int w]) ++ List.replicate (3 - (lg_sl ([.ref (a 126), .int w])).length) Slot.unset).toArray = ls at hl ⊢
  have hl : lv_has ls 3 [(0, .ref (a 126)), (1, .int w)] := hl
  refine lv_aload_n hx hb dX6_holderOf_0 rfl (lv_at hl 0 rfl) ?_
  refine xgP0_BP_cells hx hb hts (fun _ h => List.mem_cons_of_mem _ (List.mem_append_right _ h)) hown hK hP (hts (.fieldLink RX6 9 "TalePlay$Scene" "cells" "[I") (List.mem_cons_of_mem _ (List.mem_append_left _ (List.mem_of_getElem? (i := 0) rfl)))) dX6_holderOf_1 ?_
  refine lv_iload_n hx hb dX6_holderOf_4 rfl (lv_at hl 1 rfl) ?_
  refine xlP0_127 hx hb hK hP (vp_in_iff.mpr (by have h9 : w.toInt = w.toInt := rfl; omega)) dX6_holderOf_5 (fun x1 ex1 => ?_)
  have rx1 : 0 ≤ x1.toInt ∧ x1.toInt ≤ 16383 ∧ (x1.toInt % 256 = 255 ∨ (x1.toInt % 8 ≤ 4 ∧ x1.toInt / 8 % 32 ≤ 29)) := by rw [ex1]; exact hI.2 127 _
  have gx1 : (c 127 (w : Int32).toNatClampNeg).toInt = x1.toInt := (congrArg Int32.toInt ex1).symm
  refine lv_iconst (v := 3) hx hb dX6_holderOf_6 (by decide +kernel) ?_
  refine lv_ishr hx hb dX6_holderOf_7 ?_
  refine lv_topi (fun x2 ex2 => ?_)
  have bx2 := shr3 (by omega) ex2
  refine lv_bipush (v := 31) hx hb dX6_holderOf_8 (by decide +kernel) ?_
  refine lv_iand hx hb dX6_holderOf_10 ?_
  refine lv_topi (fun x3 ex3 => ?_)
  have bx3 := and31 (by have h50 : x2.toInt = (x1.toInt / 8) := bx2; omega) ex3
  refine lv_istore_n (lv' := [(2, .int x3), (0, .ref (a 126)), (1, .int w)]) hx hb dX6_holderOf_11 rfl hl (by decide +kernel) rfl (fun ls hl => ?_)
  refine lv_iload_n hx hb dX6_holderOf_12 rfl (lv_at hl 0 rfl) ?_
  refine lv_bipush (v := 31) hx hb dX6_holderOf_13 (by decide +kernel) ?_
  refine lv_icmp_ne (tgt := 23) hx hb dX6_holderOf_15 (by decide +kernel) (fun c4 => ?_) (fun c4 => ?_)
  · have f4 := mt (ti_eq (a := (x2.toInt % 32)) (b := 31) bx3 (by decide +kernel)).mpr c4
    refine lv_iload_n hx hb dX6_holderOf_23 rfl (lv_at hl 0 rfl) ?_
    exact ro_iret hx hb hr hlocks hS dX6_holderOf_24 (show (x3.toInt = -9 ∧ (c 127 w.toNatClampNeg).toInt % 256 = 255) ∨ (0 ≤ x3.toInt ∧ x3.toInt ≤ 29 ∧ ¬ (c 127 w.toNatClampNeg).toInt % 256 = 255 ∧ x3.toInt = (c 127 w.toNatClampNeg).toInt / 8 % 32) from by have h9 : x3.toInt = (x2.toInt % 32) := bx3; omega)
  · have f4 := (ti_eq (a := (x2.toInt % 32)) (b := 31) bx3 (by decide +kernel)).mp c4
    refine lv_bipush (v := (-9)) hx hb dX6_holderOf_18 (by decide +kernel) ?_
    refine lv_goto (tgt := 24) hx hb dX6_holderOf_20 (by decide +kernel) ?_
    exact ro_iret hx hb hr hlocks hS dX6_holderOf_24 (show (((-9) : Int32).toInt = -9 ∧ (c 127 w.toNatClampNeg).toInt % 256 = 255) ∨ (0 ≤ ((-9) : Int32).toInt ∧ ((-9) : Int32).toInt ≤ 29 ∧ ¬ (c 127 w.toNatClampNeg).toInt % 256 = 255 ∧ ((-9) : Int32).toInt = (c 127 w.toNatClampNeg).toInt / 8 % 32) from by have h9 : ((-9) : Int32).toInt = -9 := (by decide +kernel); omega)

def wm_X6_lies_BP : List Cond := .code yX6_lies cX6_lies 4 (some .boolean) :: (([.fieldLink RX6 9 "TalePlay$Scene" "cells" "[I"] : List Cond) ++ wsX60)
set_option maxHeartbeats 4000000 in
set_option maxRecDepth 100000 in
theorem x_X6_lies_BP (l : Launch) (D : va_G) (sz : Nat) (sk : Value) (a : Nat → Nat) (t : Nat → ClassId) (i : Nat → Int32) (q : Int64) (c : Nat → Nat → Int32) (d : Nat → Nat → Int64) (w : Int32) (f : Int32) (w2 : Int32) (hI : xInv i c) (hw : 0 ≤ w.toInt ∧ w.toInt ≤ 29) : Met l yX6_lies wm_X6_lies_BP ({ frames := 0, cells := 0, slots := 0, locals := 0 }) (va_Pc [.ref (a 126), .int w, .int f, .int w2] (yA (a 186) D sz (xwP0 sk a t i q c d) (xtP0 t))) (va_Qi (fun (r : Int32) (_ : Unit) => (0 ≤ r.toInt ∧ r.toInt ≤ 1)) oA (ro sz)) 0 0 (ro sz) := by
  refine Met.ofW (cc := cX6_lies) (maxL := 4) (ret := (some .boolean)) (by decide +kernel) rfl ?_
  intro p e s m args below meth cd s₁ B hml hv
  obtain ⟨rfl, ⟨hsz, hP, hK⟩, hN, hZ⟩ := hv
  have hx := B.exec
  have hb := B.bytes
  have hr := B.returns
  have hts := atoms_spec (ws := wm_X6_lies_BP) B.pre
  have hown : s.vm.findClass RX6 = some m.cls := findClass_of_methodNamed B.named
  have hlocks := B.notSynchronized
  subst hsz
  have hA : ∀ q : Nat, s.heap.size ≤ q → ro s.heap.size q := fun _ h => h
  have hS : va_S (ro s.heap.size) s.heap s.heap [] := va_S.rf
  have hl := lv_entry ([.ref (a 126), .int w, .int f, .int w2]) (n := 4) (Nat.le_of_ble_eq_true rfl)
  rw [lg_entry_eq]
  generalize (lg_sl ([.ref (a 126), .int w, .int f, .int w2]) ++ List.replicate (4 - (lg_sl ([.ref (a 126), .int w, .int f, .int w2])).length) Slot.unset).toArray = ls at hl ⊢
  have hl : lv_has ls 4 [(0, .ref (a 126)), (1, .int w), (2, .int f), (3, .int w2)] := hl
  refine lv_aload_n hx hb dX6_lies_0 rfl (lv_at hl 0 rfl) ?_
  refine xgP0_BP_cells hx hb hts (fun _ h => List.mem_cons_of_mem _ (List.mem_append_right _ h)) hown hK hP (hts (.fieldLink RX6 9 "TalePlay$Scene" "cells" "[I") (List.mem_cons_of_mem _ (List.mem_append_left _ (List.mem_of_getElem? (i := 0) rfl)))) dX6_lies_1 ?_
  refine lv_iload_n hx hb dX6_lies_4 rfl (lv_at hl 1 rfl) ?_
  refine xlP0_127 hx hb hK hP (vp_in_iff.mpr (by have h9 : w.toInt = w.toInt := rfl; omega)) dX6_lies_5 (fun x1 ex1 => ?_)
  have rx1 : 0 ≤ x1.toInt ∧ x1.toInt ≤ 16383 ∧ (x1.toInt % 256 = 255 ∨ (x1.toInt % 8 ≤ 4 ∧ x1.toInt / 8 % 32 ≤ 29)) := by rw [ex1]; exact hI.2 127 _
  refine lv_sipush (v := 255) hx hb dX6_lies_6 (by decide +kernel) ?_
  refine lv_iand hx hb dX6_lies_9 ?_
  refine lv_topi (fun x2 ex2 => ?_)
  refine lv_iload_n hx hb dX6_lies_10 rfl (lv_at hl 3 rfl) ?_
  refine lv_iconst (v := 3) hx hb dX6_lies_11 (by decide +kernel) ?_
  refine lv_ishl hx hb dX6_lies_12 ?_
  refine lv_topi (fun x3 ex3 => ?_)
  refine lv_iload_n hx hb dX6_lies_13 rfl (lv_at hl 2 rfl) ?_
  refine lv_ior hx hb dX6_lies_14 ?_
  refine lv_topi (fun x4 ex4 => ?_)
  refine lv_icmp_ne (tgt := 22) hx hb dX6_lies_15 (by decide +kernel) (fun c5 => ?_) (fun c5 => ?_)
  · have f5 := mt (ti_eq (a := x2.toInt) (b := x4.toInt) rfl rfl).mpr c5
    refine lv_iconst (v := 0) hx hb dX6_lies_22 (by decide +kernel) ?_
    exact ro_zret hx hb hr hlocks hS rfl dX6_lies_23 (show 0 ≤ (0 : Int32).toInt ∧ (0 : Int32).toInt ≤ 1 from by decide +kernel)
  · have f5 := (ti_eq (a := x2.toInt) (b := x4.toInt) rfl rfl).mp c5
    refine lv_iconst (v := 1) hx hb dX6_lies_18 (by decide +kernel) ?_
    refine lv_goto (tgt := 23) hx hb dX6_lies_19 (by decide +kernel) ?_
    exact ro_zret hx hb hr hlocks hS rfl dX6_lies_23 (show 0 ≤ (1 : Int32).toInt ∧ (1 : Int32).toInt ≤ 1 from by decide +kernel)

def wm_X6_formOf_TS : List Cond := .code yX6_formOf cX6_formOf 3 (some .int) :: (([.fieldLink RX6 9 "TalePlay$Scene" "cells" "[I"] : List Cond) ++ wsX60)
set_option maxHeartbeats 4000000 in
set_option maxRecDepth 100000 in
theorem x_X6_formOf_TS (l : Launch) (D : va_G) (sz : Nat) (sk : Value) (a : Nat → Nat) (t : Nat → ClassId) (i : Nat → Int32) (q : Int64) (c : Nat → Nat → Int32) (d : Nat → Nat → Int64) (w : Int32) (hI : xInv i c) (hw : 0 ≤ w.toInt ∧ w.toInt ≤ 29) : Met l yX6_formOf wm_X6_formOf_TS ({ frames := 0, cells := 0, slots := 0, locals := 0 }) (va_Pc [.ref (a 149), .int w] (yA (a 186) D sz (xwP1 sk a t i q c d) (xtP1 t))) (va_Qi (fun (r : Int32) (_ : Unit) => ((r.toInt = -9 ∧ (c 150 w.toNatClampNeg).toInt % 256 = 255) ∨ (0 ≤ r.toInt ∧ r.toInt ≤ 4 ∧ ¬ (c 150 w.toNatClampNeg).toInt % 256 = 255 ∧ r.toInt = (c 150 w.toNatClampNeg).toInt % 8))) oA (ro sz)) 0 0 (ro sz) := by
  refine Met.ofW (cc := cX6_formOf) (maxL := 3) (ret := (some .int)) (by decide +kernel) rfl ?_
  intro p e s m args below meth cd s₁ B hml hv
  obtain ⟨rfl, ⟨hsz, hP, hK⟩, hN, hZ⟩ := hv
  have hx := B.exec
  have hb := B.bytes
  have hr := B.returns
  have hts := atoms_spec (ws := wm_X6_formOf_TS) B.pre
  have hown : s.vm.findClass RX6 = some m.cls := findClass_of_methodNamed B.named
  have hlocks := B.notSynchronized
  subst hsz
  have hA : ∀ q : Nat, s.heap.size ≤ q → ro s.heap.size q := fun _ h => h
  have hS : va_S (ro s.heap.size) s.heap s.heap [] := va_S.rf
  have hl := lv_entry ([.ref (a 149), .int w]) (n := 3) (Nat.le_of_ble_eq_true rfl)
  rw [lg_entry_eq]
  generalize (lg_sl ([.ref (a 149), .int w]) ++ List.replicate (3 - (lg_sl ([.ref (a 149), .int w])).length) Slot.unset).toArray = ls at hl ⊢
  have hl : lv_has ls 3 [(0, .ref (a 149)), (1, .int w)] := hl
  refine lv_aload_n hx hb dX6_formOf_0 rfl (lv_at hl 0 rfl) ?_
  refine xgP1_TS_cells hx hb hts (fun _ h => List.mem_cons_of_mem _ (List.mem_append_right _ h)) hown hK hP (hts (.fieldLink RX6 9 "TalePlay$Scene" "cells" "[I") (List.mem_cons_of_mem _ (List.mem_append_left _ (List.mem_of_getElem? (i := 0) rfl)))) dX6_formOf_1 ?_
  refine lv_iload_n hx hb dX6_formOf_4 rfl (lv_at hl 1 rfl) ?_
  refine xlP1_150 hx hb hK hP (vp_in_iff.mpr (by have h9 : w.toInt = w.toInt := rfl; omega)) dX6_formOf_5 (fun x1 ex1 => ?_)
  have rx1 : 0 ≤ x1.toInt ∧ x1.toInt ≤ 16383 ∧ (x1.toInt % 256 = 255 ∨ (x1.toInt % 8 ≤ 4 ∧ x1.toInt / 8 % 32 ≤ 29)) := by rw [ex1]; exact hI.2 150 _
  have gx1 : (c 150 (w : Int32).toNatClampNeg).toInt = x1.toInt := (congrArg Int32.toInt ex1).symm
  refine lv_bipush (v := 7) hx hb dX6_formOf_6 (by decide +kernel) ?_
  refine lv_iand hx hb dX6_formOf_8 ?_
  refine lv_topi (fun x2 ex2 => ?_)
  have bx2 := and7 (by omega) ex2
  refine lv_istore_n (lv' := [(2, .int x2), (0, .ref (a 149)), (1, .int w)]) hx hb dX6_formOf_9 rfl hl (by decide +kernel) rfl (fun ls hl => ?_)
  refine lv_iload_n hx hb dX6_formOf_10 rfl (lv_at hl 0 rfl) ?_
  refine lv_bipush (v := 7) hx hb dX6_formOf_11 (by decide +kernel) ?_
  refine lv_icmp_ne (tgt := 21) hx hb dX6_formOf_13 (by decide +kernel) (fun c3 => ?_) (fun c3 => ?_)
  · have f3 := mt (ti_eq (a := (x1.toInt % 8)) (b := 7) bx2 (by decide +kernel)).mpr c3
    refine lv_iload_n hx hb dX6_formOf_21 rfl (lv_at hl 0 rfl) ?_
    exact ro_iret hx hb hr hlocks hS dX6_formOf_22 (show (x2.toInt = -9 ∧ (c 150 w.toNatClampNeg).toInt % 256 = 255) ∨ (0 ≤ x2.toInt ∧ x2.toInt ≤ 4 ∧ ¬ (c 150 w.toNatClampNeg).toInt % 256 = 255 ∧ x2.toInt = (c 150 w.toNatClampNeg).toInt % 8) from by have h9 : x2.toInt = (x1.toInt % 8) := bx2; omega)
  · have f3 := (ti_eq (a := (x1.toInt % 8)) (b := 7) bx2 (by decide +kernel)).mp c3
    refine lv_bipush (v := (-9)) hx hb dX6_formOf_16 (by decide +kernel) ?_
    refine lv_goto (tgt := 22) hx hb dX6_formOf_18 (by decide +kernel) ?_
    exact ro_iret hx hb hr hlocks hS dX6_formOf_22 (show (((-9) : Int32).toInt = -9 ∧ (c 150 w.toNatClampNeg).toInt % 256 = 255) ∨ (0 ≤ ((-9) : Int32).toInt ∧ ((-9) : Int32).toInt ≤ 4 ∧ ¬ (c 150 w.toNatClampNeg).toInt % 256 = 255 ∧ ((-9) : Int32).toInt = (c 150 w.toNatClampNeg).toInt % 8) from by have h9 : ((-9) : Int32).toInt = -9 := (by decide +kernel); omega)

def wm_X6_holderOf_TS : List Cond := .code yX6_holderOf cX6_holderOf 3 (some .int) :: (([.fieldLink RX6 9 "TalePlay$Scene" "cells" "[I"] : List Cond) ++ wsX60)
set_option maxHeartbeats 4000000 in
set_option maxRecDepth 100000 in
theorem x_X6_holderOf_TS (l : Launch) (D : va_G) (sz : Nat) (sk : Value) (a : Nat → Nat) (t : Nat → ClassId) (i : Nat → Int32) (q : Int64) (c : Nat → Nat → Int32) (d : Nat → Nat → Int64) (w : Int32) (hI : xInv i c) (hw : 0 ≤ w.toInt ∧ w.toInt ≤ 29) : Met l yX6_holderOf wm_X6_holderOf_TS ({ frames := 0, cells := 0, slots := 0, locals := 0 }) (va_Pc [.ref (a 149), .int w] (yA (a 186) D sz (xwP1 sk a t i q c d) (xtP1 t))) (va_Qi (fun (r : Int32) (_ : Unit) => ((r.toInt = -9 ∧ (c 150 w.toNatClampNeg).toInt % 256 = 255) ∨ (0 ≤ r.toInt ∧ r.toInt ≤ 29 ∧ ¬ (c 150 w.toNatClampNeg).toInt % 256 = 255 ∧ r.toInt = (c 150 w.toNatClampNeg).toInt / 8 % 32))) oA (ro sz)) 0 0 (ro sz) := by
  refine Met.ofW (cc := cX6_holderOf) (maxL := 3) (ret := (some .int)) (by decide +kernel) rfl ?_
  intro p e s m args below meth cd s₁ B hml hv
  obtain ⟨rfl, ⟨hsz, hP, hK⟩, hN, hZ⟩ := hv
  have hx := B.exec
  have hb := B.bytes
  have hr := B.returns
  have hts := atoms_spec (ws := wm_X6_holderOf_TS) B.pre
  have hown : s.vm.findClass RX6 = some m.cls := findClass_of_methodNamed B.named
  have hlocks := B.notSynchronized
  subst hsz
  have hA : ∀ q : Nat, s.heap.size ≤ q → ro s.heap.size q := fun _ h => h
  have hS : va_S (ro s.heap.size) s.heap s.heap [] := va_S.rf
  have hl := lv_entry ([.ref (a 149), .int w]) (n := 3) (Nat.le_of_ble_eq_true rfl)
  rw [lg_entry_eq]
  generalize (lg_sl ([.ref (a 149), .int w]) ++ List.replicate (3 - (lg_sl ([.ref (a 149), .int w])).length) Slot.unset).toArray = ls at hl ⊢
  have hl : lv_has ls 3 [(0, .ref (a 149)), (1, .int w)] := hl
  refine lv_aload_n hx hb dX6_holderOf_0 rfl (lv_at hl 0 rfl) ?_
  refine xgP1_TS_cells hx hb hts (fun _ h => List.mem_cons_of_mem _ (List.mem_append_right _ h)) hown hK hP (hts (.fieldLink RX6 9 "TalePlay$Scene" "cells" "[I") (List.mem_cons_of_mem _ (List.mem_append_left _ (List.mem_of_getElem? (i := 0) rfl)))) dX6_holderOf_1 ?_
  refine lv_iload_n hx hb dX6_holderOf_4 rfl (lv_at hl 1 rfl) ?_
  refine xlP1_150 hx hb hK hP (vp_in_iff.mpr (by have h9 : w.toInt = w.toInt := rfl; omega)) dX6_holderOf_5 (fun x1 ex1 => ?_)
  have rx1 : 0 ≤ x1.toInt ∧ x1.toInt ≤ 16383 ∧ (x1.toInt % 256 = 255 ∨ (x1.toInt % 8 ≤ 4 ∧ x1.toInt / 8 % 32 ≤ 29)) := by rw [ex1]; exact hI.2 150 _
  have gx1 : (c 150 (w : Int32).toNatClampNeg).toInt = x1.toInt := (congrArg Int32.toInt ex1).symm
  refine lv_iconst (v := 3) hx hb dX6_holderOf_6 (by decide +kernel) ?_
  refine lv_ishr hx hb dX6_holderOf_7 ?_
  refine lv_topi (fun x2 ex2 => ?_)
  have bx2 := shr3 (by omega) ex2
  refine lv_bipush (v := 31) hx hb dX6_holderOf_8 (by decide +kernel) ?_
  refine lv_iand hx hb dX6_holderOf_10 ?_
  refine lv_topi (fun x3 ex3 => ?_)
  have bx3 := and31 (by have h50 : x2.toInt = (x1.toInt / 8) := bx2; omega) ex3
  refine lv_istore_n (lv' := [(2, .int x3), (0, .ref (a 149)), (1, .int w)]) hx hb dX6_holderOf_11 rfl hl (by decide +kernel) rfl (fun ls hl => ?_)
  refine lv_iload_n hx hb dX6_holderOf_12 rfl (lv_at hl 0 rfl) ?_
  refine lv_bipush (v := 31) hx hb dX6_holderOf_13 (by decide +kernel) ?_
  refine lv_icmp_ne (tgt := 23) hx hb dX6_holderOf_15 (by decide +kernel) (fun c4 => ?_) (fun c4 => ?_)
  · have f4 := mt (ti_eq (a := (x2.toInt % 32)) (b := 31) bx3 (by decide +kernel)).mpr c4
    refine lv_iload_n hx hb dX6_holderOf_23 rfl (lv_at hl 0 rfl) ?_
    exact ro_iret hx hb hr hlocks hS dX6_holderOf_24 (show (x3.toInt = -9 ∧ (c 150 w.toNatClampNeg).toInt % 256 = 255) ∨ (0 ≤ x3.toInt ∧ x3.toInt ≤ 29 ∧ ¬ (c 150 w.toNatClampNeg).toInt % 256 = 255 ∧ x3.toInt = (c 150 w.toNatClampNeg).toInt / 8 % 32) from by have h9 : x3.toInt = (x2.toInt % 32) := bx3; omega)
  · have f4 := (ti_eq (a := (x2.toInt % 32)) (b := 31) bx3 (by decide +kernel)).mp c4
    refine lv_bipush (v := (-9)) hx hb dX6_holderOf_18 (by decide +kernel) ?_
    refine lv_goto (tgt := 24) hx hb dX6_holderOf_20 (by decide +kernel) ?_
    exact ro_iret hx hb hr hlocks hS dX6_holderOf_24 (show (((-9) : Int32).toInt = -9 ∧ (c 150 w.toNatClampNeg).toInt % 256 = 255) ∨ (0 ≤ ((-9) : Int32).toInt ∧ ((-9) : Int32).toInt ≤ 29 ∧ ¬ (c 150 w.toNatClampNeg).toInt % 256 = 255 ∧ ((-9) : Int32).toInt = (c 150 w.toNatClampNeg).toInt / 8 % 32) from by have h9 : ((-9) : Int32).toInt = -9 := (by decide +kernel); omega)

def wm_X6_lies_TS : List Cond := .code yX6_lies cX6_lies 4 (some .boolean) :: (([.fieldLink RX6 9 "TalePlay$Scene" "cells" "[I"] : List Cond) ++ wsX60)
set_option maxHeartbeats 4000000 in
set_option maxRecDepth 100000 in
theorem x_X6_lies_TS (l : Launch) (D : va_G) (sz : Nat) (sk : Value) (a : Nat → Nat) (t : Nat → ClassId) (i : Nat → Int32) (q : Int64) (c : Nat → Nat → Int32) (d : Nat → Nat → Int64) (w : Int32) (f : Int32) (w2 : Int32) (hI : xInv i c) (hw : 0 ≤ w.toInt ∧ w.toInt ≤ 29) : Met l yX6_lies wm_X6_lies_TS ({ frames := 0, cells := 0, slots := 0, locals := 0 }) (va_Pc [.ref (a 149), .int w, .int f, .int w2] (yA (a 186) D sz (xwP1 sk a t i q c d) (xtP1 t))) (va_Qi (fun (r : Int32) (_ : Unit) => (0 ≤ r.toInt ∧ r.toInt ≤ 1)) oA (ro sz)) 0 0 (ro sz) := by
  refine Met.ofW (cc := cX6_lies) (maxL := 4) (ret := (some .boolean)) (by decide +kernel) rfl ?_
  intro p e s m args below meth cd s₁ B hml hv
  obtain ⟨rfl, ⟨hsz, hP, hK⟩, hN, hZ⟩ := hv
  have hx := B.exec
  have hb := B.bytes
  have hr := B.returns
  have hts := atoms_spec (ws := wm_X6_lies_TS) B.pre
  have hown : s.vm.findClass RX6 = some m.cls := findClass_of_methodNamed B.named
  have hlocks := B.notSynchronized
  subst hsz
  have hA : ∀ q : Nat, s.heap.size ≤ q → ro s.heap.size q := fun _ h => h
  have hS : va_S (ro s.heap.size) s.heap s.heap [] := va_S.rf
  have hl := lv_entry ([.ref (a 149), .int w, .int f, .int w2]) (n := 4) (Nat.le_of_ble_eq_true rfl)
  rw [lg_entry_eq]
  generalize (lg_sl ([.ref (a 149), .int w, .int f, .int w2]) ++ List.replicate (4 - (lg_sl ([.ref (a 149), .int w, .int f, .int w2])).length) Slot.unset).toArray = ls at hl ⊢
  have hl : lv_has ls 4 [(0, .ref (a 149)), (1, .int w), (2, .int f), (3, .int w2)] := hl
  refine lv_aload_n hx hb dX6_lies_0 rfl (lv_at hl 0 rfl) ?_
  refine xgP1_TS_cells hx hb hts (fun _ h => List.mem_cons_of_mem _ (List.mem_append_right _ h)) hown hK hP (hts (.fieldLink RX6 9 "TalePlay$Scene" "cells" "[I") (List.mem_cons_of_mem _ (List.mem_append_left _ (List.mem_of_getElem? (i := 0) rfl)))) dX6_lies_1 ?_
  refine lv_iload_n hx hb dX6_lies_4 rfl (lv_at hl 1 rfl) ?_
  refine xlP1_150 hx hb hK hP (vp_in_iff.mpr (by have h9 : w.toInt = w.toInt := rfl; omega)) dX6_lies_5 (fun x1 ex1 => ?_)
  have rx1 : 0 ≤ x1.toInt ∧ x1.toInt ≤ 16383 ∧ (x1.toInt % 256 = 255 ∨ (x1.toInt % 8 ≤ 4 ∧ x1.toInt / 8 % 32 ≤ 29)) := by rw [ex1]; exact hI.2 150 _
  refine lv_sipush (v := 255) hx hb dX6_lies_6 (by decide +kernel) ?_
  refine lv_iand hx hb dX6_lies_9 ?_
  refine lv_topi (fun x2 ex2 => ?_)
  refine lv_iload_n hx hb dX6_lies_10 rfl (lv_at hl 3 rfl) ?_
  refine lv_iconst (v := 3) hx hb dX6_lies_11 (by decide +kernel) ?_
  refine lv_ishl hx hb dX6_lies_12 ?_
  refine lv_topi (fun x3 ex3 => ?_)
  refine lv_iload_n hx hb dX6_lies_13 rfl (lv_at hl 2 rfl) ?_
  refine lv_ior hx hb dX6_lies_14 ?_
  refine lv_topi (fun x4 ex4 => ?_)
  refine lv_icmp_ne (tgt := 22) hx hb dX6_lies_15 (by decide +kernel) (fun c5 => ?_) (fun c5 => ?_)
  · have f5 := mt (ti_eq (a := x2.toInt) (b := x4.toInt) rfl rfl).mpr c5
    refine lv_iconst (v := 0) hx hb dX6_lies_22 (by decide +kernel) ?_
    exact ro_zret hx hb hr hlocks hS rfl dX6_lies_23 (show 0 ≤ (0 : Int32).toInt ∧ (0 : Int32).toInt ≤ 1 from by decide +kernel)
  · have f5 := (ti_eq (a := x2.toInt) (b := x4.toInt) rfl rfl).mp c5
    refine lv_iconst (v := 1) hx hb dX6_lies_18 (by decide +kernel) ?_
    refine lv_goto (tgt := 23) hx hb dX6_lies_19 (by decide +kernel) ?_
    exact ro_zret hx hb hr hlocks hS rfl dX6_lies_23 (show 0 ≤ (1 : Int32).toInt ∧ (1 : Int32).toInt ≤ 1 from by decide +kernel)

def wm_X6_has_TS : List Cond := .code yX6_has cX6_has 3 (some .boolean) :: (([.fieldLink RX6 9 "TalePlay$Scene" "cells" "[I"] : List Cond) ++ wsX60)
set_option maxHeartbeats 4000000 in
set_option maxRecDepth 100000 in
theorem x_X6_has_TS (l : Launch) (D : va_G) (sz : Nat) (sk : Value) (a : Nat → Nat) (t : Nat → ClassId) (i : Nat → Int32) (q : Int64) (c : Nat → Nat → Int32) (d : Nat → Nat → Int64) (w : Int32) (f : Int32) (hI : xInv i c) (hw : 0 ≤ w.toInt ∧ w.toInt ≤ 29) (hf : 0 ≤ f.toInt ∧ f.toInt ≤ 5) : Met l yX6_has wm_X6_has_TS ({ frames := 0, cells := 0, slots := 0, locals := 0 }) (va_Pc [.ref (a 149), .int w, .int f] (yA (a 186) D sz (xwP1 sk a t i q c d) (xtP1 t))) (va_Qi (fun (r : Int32) (_ : Unit) => (0 ≤ r.toInt ∧ r.toInt ≤ 1)) oA (ro sz)) 0 0 (ro sz) := by
  refine Met.ofW (cc := cX6_has) (maxL := 3) (ret := (some .boolean)) (by decide +kernel) rfl ?_
  intro p e s m args below meth cd s₁ B hml hv
  obtain ⟨rfl, ⟨hsz, hP, hK⟩, hN, hZ⟩ := hv
  have hx := B.exec
  have hb := B.bytes
  have hr := B.returns
  have hts := atoms_spec (ws := wm_X6_has_TS) B.pre
  have hown : s.vm.findClass RX6 = some m.cls := findClass_of_methodNamed B.named
  have hlocks := B.notSynchronized
  subst hsz
  have hA : ∀ q : Nat, s.heap.size ≤ q → ro s.heap.size q := fun _ h => h
  have hS : va_S (ro s.heap.size) s.heap s.heap [] := va_S.rf
  have hl := lv_entry ([.ref (a 149), .int w, .int f]) (n := 3) (Nat.le_of_ble_eq_true rfl)
  rw [lg_entry_eq]
  generalize (lg_sl ([.ref (a 149), .int w, .int f]) ++ List.replicate (3 - (lg_sl ([.ref (a 149), .int w, .int f])).length) Slot.unset).toArray = ls at hl ⊢
  have hl : lv_has ls 3 [(0, .ref (a 149)), (1, .int w), (2, .int f)] := hl
  refine lv_aload_n hx hb dX6_has_0 rfl (lv_at hl 0 rfl) ?_
  refine xgP1_TS_cells hx hb hts (fun _ h => List.mem_cons_of_mem _ (List.mem_append_right _ h)) hown hK hP (hts (.fieldLink RX6 9 "TalePlay$Scene" "cells" "[I") (List.mem_cons_of_mem _ (List.mem_append_left _ (List.mem_of_getElem? (i := 0) rfl)))) dX6_has_1 ?_
  refine lv_iload_n hx hb dX6_has_4 rfl (lv_at hl 1 rfl) ?_
  refine xlP1_150 hx hb hK hP (vp_in_iff.mpr (by have h9 : w.toInt = w.toInt := rfl; omega)) dX6_has_5 (fun x1 ex1 => ?_)
  have rx1 : 0 ≤ x1.toInt ∧ x1.toInt ≤ 16383 ∧ (x1.toInt % 256 = 255 ∨ (x1.toInt % 8 ≤ 4 ∧ x1.toInt / 8 % 32 ≤ 29)) := by rw [ex1]; exact hI.2 150 _
  refine lv_bipush (v := 8) hx hb dX6_has_6 (by decide +kernel) ?_
  refine lv_iload_n hx hb dX6_has_8 rfl (lv_at hl 2 rfl) ?_
  refine lv_iadd hx hb dX6_has_9 ?_
  refine lv_topi (fun x2 ex2 => ?_)
  have tx2 := ti_add (a := 8) (b := f.toInt) ex2 (by decide +kernel) rfl (by omega) (by omega)
  refine lv_ishr hx hb dX6_has_10 ?_
  refine lv_topi (fun x3 ex3 => ?_)
  refine lv_iconst (v := 1) hx hb dX6_has_11 (by decide +kernel) ?_
  refine lv_iand hx hb dX6_has_12 ?_
  refine lv_topi (fun x4 ex4 => ?_)
  refine lv_iconst (v := 1) hx hb dX6_has_13 (by decide +kernel) ?_
  refine lv_icmp_ne (tgt := 21) hx hb dX6_has_14 (by decide +kernel) (fun c5 => ?_) (fun c5 => ?_)
  · have f5 := mt (ti_eq (a := x4.toInt) (b := 1) rfl (by decide +kernel)).mpr c5
    refine lv_iconst (v := 0) hx hb dX6_has_21 (by decide +kernel) ?_
    exact ro_zret hx hb hr hlocks hS rfl dX6_has_22 (show 0 ≤ (0 : Int32).toInt ∧ (0 : Int32).toInt ≤ 1 from by decide +kernel)
  · have f5 := (ti_eq (a := x4.toInt) (b := 1) rfl (by decide +kernel)).mp c5
    refine lv_iconst (v := 1) hx hb dX6_has_17 (by decide +kernel) ?_
    refine lv_goto (tgt := 22) hx hb dX6_has_18 (by decide +kernel) ?_
    exact ro_zret hx hb hr hlocks hS rfl dX6_has_22 (show 0 ≤ (1 : Int32).toInt ∧ (1 : Int32).toInt ≤ 1 from by decide +kernel)

def wm_X6_isUp_TS : List Cond := .code yX6_isUp cX6_isUp 5 (some .boolean) :: (([.methodLink RX6 25 yX6_holderOf, .instanceMethod yX6_holderOf, .selects RX6 yX6_holderOf yX6_holderOf, .initialized RX6, .code yX6_holderOf cX6_holderOf 3 (some .int), .fieldLink RX6 9 "TalePlay$Scene" "cells" "[I"] : List Cond) ++ wsX60)
set_option maxRecDepth 20000 in
theorem gm_X6_isUp_TS_X6_holderOf_TS_25 : GoodIn wm_X6_isUp_TS (wsV RX6 25 RX6 yX6_holderOf wm_X6_holderOf_TS) := goodIn_w (List.forall_mem_append.mpr ⟨List.forall_mem_cons.mpr ⟨List.mem_cons_of_mem _ (List.mem_append_left _ (List.mem_of_getElem? (i := 0) rfl)), List.forall_mem_cons.mpr ⟨List.mem_cons_of_mem _ (List.mem_append_left _ (List.mem_of_getElem? (i := 1) rfl)), List.forall_mem_cons.mpr ⟨List.mem_cons_of_mem _ (List.mem_append_left _ (List.mem_of_getElem? (i := 2) rfl)), List.forall_mem_cons.mpr ⟨List.mem_cons_of_mem _ (List.mem_append_left _ (List.mem_of_getElem? (i := 3) rfl)), (fun _ h => absurd h List.not_mem_nil)⟩⟩⟩⟩, List.forall_mem_cons.mpr ⟨List.mem_cons_of_mem _ (List.mem_append_left _ (List.mem_of_getElem? (i := 4) rfl)), List.forall_mem_append.mpr ⟨List.forall_mem_cons.mpr ⟨List.mem_cons_of_mem _ (List.mem_append_left _ (List.mem_of_getElem? (i := 5) rfl)), (fun _ h => absurd h List.not_mem_nil)⟩, (fun _ h => List.mem_cons_of_mem _ (List.mem_append_right _ h))⟩⟩⟩) (by decide +kernel)
set_option maxHeartbeats 4000000 in
set_option maxRecDepth 100000 in
theorem x_X6_isUp_TS (l : Launch) (D : va_G) (sz : Nat) (sk : Value) (a : Nat → Nat) (t : Nat → ClassId) (i : Nat → Int32) (q : Int64) (c : Nat → Nat → Int32) (d : Nat → Nat → Int64) (w1 : Int32) (w2 : Int32) (hI : xInv i c) (hw2 : 0 ≤ w2.toInt ∧ w2.toInt ≤ 29) : Met l yX6_isUp wm_X6_isUp_TS ({ frames := 1, cells := 0, slots := 0, locals := 22 }) (va_Pc [.ref (a 149), .int w1, .int w2] (yA (a 186) D sz (xwP1 sk a t i q c d) (xtP1 t))) (va_Qi (fun (r : Int32) (_ : Unit) => (0 ≤ r.toInt ∧ r.toInt ≤ 1)) oA (ro sz)) 0 0 (ro sz) := by
  refine Met.ofW (cc := cX6_isUp) (maxL := 5) (ret := (some .boolean)) (by decide +kernel) rfl ?_
  intro p e s m args below meth cd s₁ B hml hv
  obtain ⟨rfl, ⟨hsz, hP, hK⟩, hN, hZ⟩ := hv
  have hx := B.exec
  have hb := B.bytes
  have hr := B.returns
  have hts := atoms_spec (ws := wm_X6_isUp_TS) B.pre
  have hown : s.vm.findClass RX6 = some m.cls := findClass_of_methodNamed B.named
  have hlocks := B.notSynchronized
  subst hsz
  have hA : ∀ q : Nat, s.heap.size ≤ q → ro s.heap.size q := fun _ h => h
  have hS : va_S (ro s.heap.size) s.heap s.heap [] := va_S.rf
  have hl := lv_entry ([.ref (a 149), .int w1, .int w2]) (n := 5) (Nat.le_of_ble_eq_true rfl)
  rw [lg_entry_eq]
  generalize (lg_sl ([.ref (a 149), .int w1, .int w2]) ++ List.replicate (5 - (lg_sl ([.ref (a 149), .int w1, .int w2])).length) Slot.unset).toArray = ls at hl ⊢
  have hl : lv_has ls 5 [(0, .ref (a 149)), (1, .int w1), (2, .int w2)] := hl
  refine lv_aload_n hx hb dX6_isUp_0 rfl (lv_at hl 0 rfl) ?_
  refine lv_iload_n hx hb dX6_isUp_1 rfl (lv_at hl 2 rfl) ?_
  refine ro_calli (va_runV (As := [.int w2]) (rest := []) ⟨hx, hb, hml, hown, hts⟩ (x_X6_holderOf_TS l D s.heap.size .null a t i q c d w2 hI (show 0 ≤ w2.toInt ∧ w2.toInt ≤ 29 from by omega)) (cwV 1 hts gm_X6_isUp_TS_X6_holderOf_TS_25 rfl rfl rfl (by decide +kernel) ⟨Nat.le_of_ble_eq_true rfl, Nat.le_of_ble_eq_true rfl⟩) (yA_V hN (xZ_k hZ hS hA) hK hP (ci := 6) (q0 := 0) rfl rfl) rfl rfl hl.1 rfl (lv_room (Nat.le_of_ble_eq_true rfl)) dX6_isUp_2 ⟨Nat.le_of_ble_eq_true rfl, Nat.le_of_ble_eq_true rfl⟩) hS hA hP (fun r1 u1 H locs hw1 hP hS => ?_)
  have hw1 : ((r1.toInt = -9 ∧ (c 150 w2.toNatClampNeg).toInt % 256 = 255) ∨ (0 ≤ r1.toInt ∧ r1.toInt ≤ 29 ∧ ¬ (c 150 w2.toNatClampNeg).toInt % 256 = 255 ∧ r1.toInt = (c 150 w2.toNatClampNeg).toInt / 8 % 32)) := hw1
  refine lv_istore_n (lv' := [(3, .int r1), (0, .ref (a 149)), (1, .int w1), (2, .int w2)]) hx hb dX6_isUp_5 rfl hl (by decide +kernel) rfl (fun ls hl => ?_)
  refine lv_iconst (v := 0) hx hb dX6_isUp_6 (by decide +kernel) ?_
  refine lv_istore (lv' := [(4, .int 0), (3, .int r1), (0, .ref (a 149)), (1, .int w1), (2, .int w2)]) hx hb dX6_isUp_7 hl (by decide +kernel) rfl (fun ls hl => ?_)
  have lp2 : ∀ (fu : Nat) (y2_4 : Int32) (y2_3 : Int32), (0 ≤ y2_4.toInt ∧ y2_4.toInt ≤ 30) → (y2_3.toInt = -9 ∨ (0 ≤ y2_3.toInt ∧ y2_3.toInt ≤ 29)) → (30 - y2_4.toInt).toNat < fu → ∀ (H : Heap) (locs : List Loc) (ls : Array Slot), va_P D vwCl (xwP1 sk a t i q c d) H → va_S (ro s.heap.size) s.heap H locs → lv_has ls 5 [(4, .int y2_4), (3, .int y2_3), (0, .ref (a 149)), (1, .int w1), (2, .int w2)] → W p l e (headSpec wm_X6_isUp_TS ({ frames := 1, cells := 0, slots := 0, locals := 22 })).room s m ([.ref (a 149), .int w1, .int w2] : List Value).toArray below meth cd H locs 0 0 (MQ below (va_Qi (fun (r : Int32) (_ : Unit) => (0 ≤ r.toInt ∧ r.toInt ≤ 1)) oA (ro s.heap.size)) ([.ref (a 149), .int w1, .int w2] : List Value).toArray s 0 0 (ro s.heap.size)) (F0 m 9 ls []) := by
    intro fu
    induction fu with
    | zero => intro y2_4 y2_3 hy2_4 hy2_3 hm; exact absurd hm (Nat.not_lt_zero _)
    | succ fu ih =>
      intro y2_4 y2_3 hy2_4 hy2_3 hm H locs ls hP hS hl
      have ih2 := ih
      refine lv_iload hx hb dX6_isUp_9 (lv_at hl 0 rfl) ?_
      refine lv_bipush (v := 30) hx hb dX6_isUp_11 (by decide +kernel) ?_
      refine lv_icmp_ge (tgt := 41) hx hb dX6_isUp_13 (by decide +kernel) (fun c3 => ?_) (fun c3 => ?_)
      · have f3 := (ti_le (a := 30) (b := y2_4.toInt) (by decide +kernel) rfl).mp c3
        refine lv_iconst (v := 0) hx hb dX6_isUp_41 (by decide +kernel) ?_
        exact ro_zret hx hb hr hlocks hS rfl dX6_isUp_42 (show 0 ≤ (0 : Int32).toInt ∧ (0 : Int32).toInt ≤ 1 from by decide +kernel)
      · have f3 := mt (ti_le (a := 30) (b := y2_4.toInt) (by decide +kernel) rfl).mpr c3
        refine lv_iload_n hx hb dX6_isUp_16 rfl (lv_at hl 1 rfl) ?_
        refine lv_bipush (v := (-9)) hx hb dX6_isUp_17 (by decide +kernel) ?_
        refine lv_icmp_eq (tgt := 41) hx hb dX6_isUp_19 (by decide +kernel) (fun c4 => ?_) (fun c4 => ?_)
        · have f4 := (ti_eq (a := y2_3.toInt) (b := (-9)) rfl (by decide +kernel)).mp c4
          refine lv_iconst (v := 0) hx hb dX6_isUp_41 (by decide +kernel) ?_
          exact ro_zret hx hb hr hlocks hS rfl dX6_isUp_42 (show 0 ≤ (0 : Int32).toInt ∧ (0 : Int32).toInt ≤ 1 from by decide +kernel)
        · have f4 := mt (ti_eq (a := y2_3.toInt) (b := (-9)) rfl (by decide +kernel)).mpr c4
          refine lv_iload_n hx hb dX6_isUp_22 rfl (lv_at hl 1 rfl) ?_
          refine lv_iload_n hx hb dX6_isUp_23 rfl (lv_at hl 3 rfl) ?_
          refine lv_icmp_ne (tgt := 29) hx hb dX6_isUp_24 (by decide +kernel) (fun c5 => ?_) (fun c5 => ?_)
          · have f5 := mt (ti_eq (a := y2_3.toInt) (b := w1.toInt) rfl rfl).mpr c5
            refine lv_aload_n hx hb dX6_isUp_29 rfl (lv_at hl 2 rfl) ?_
            refine lv_iload_n hx hb dX6_isUp_30 rfl (lv_at hl 1 rfl) ?_
            refine ro_calli (va_runV (As := [.int y2_3]) (rest := []) ⟨hx, hb, hml, hown, hts⟩ (x_X6_holderOf_TS l D H.size .null a t i q c d y2_3 hI (show 0 ≤ y2_3.toInt ∧ y2_3.toInt ≤ 29 from by omega)) (cwV 1 hts gm_X6_isUp_TS_X6_holderOf_TS_25 rfl rfl rfl (by decide +kernel) ⟨Nat.le_of_ble_eq_true rfl, Nat.le_of_ble_eq_true rfl⟩) (yA_V hN (xZ_k hZ hS hA) hK hP (ci := 6) (q0 := 0) rfl rfl) rfl rfl hl.1 rfl (lv_room (Nat.le_of_ble_eq_true rfl)) dX6_isUp_31 ⟨Nat.le_of_ble_eq_true rfl, Nat.le_of_ble_eq_true rfl⟩) hS hA hP (fun r6 u6 H locs hw6 hP hS => ?_)
            have hw6 : ((r6.toInt = -9 ∧ (c 150 y2_3.toNatClampNeg).toInt % 256 = 255) ∨ (0 ≤ r6.toInt ∧ r6.toInt ≤ 29 ∧ ¬ (c 150 y2_3.toNatClampNeg).toInt % 256 = 255 ∧ r6.toInt = (c 150 y2_3.toNatClampNeg).toInt / 8 % 32)) := hw6
            refine lv_istore_n (lv' := [(3, .int r6), (4, .int y2_4), (0, .ref (a 149)), (1, .int w1), (2, .int w2)]) hx hb dX6_isUp_34 rfl hl (by decide +kernel) rfl (fun ls hl => ?_)
            obtain ⟨x7, ex7⟩ : ∃ y : Int32, y = y2_4 + 1 := ⟨_, rfl⟩
            have tx7 := ti_add (a := y2_4.toInt) (b := 1) ex7 rfl (by decide +kernel) (by omega) (by omega)
            refine lv_iinc (v := x7) (lv' := [(4, .int x7), (3, .int r6), (0, .ref (a 149)), (1, .int w1), (2, .int w2)]) hx hb dX6_isUp_35 hl (k := 1) rfl (by rw [ex7]; rfl) (by decide +kernel) rfl (fun ls hl => ?_)
            refine lv_goto (tgt := 9) hx hb dX6_isUp_38 (by decide +kernel) ?_
            exact ih2 x7 r6 (show 0 ≤ x7.toInt ∧ x7.toInt ≤ 30 from by have h50 : x7.toInt = (y2_4.toInt + 1) := tx7; omega) (show r6.toInt = -9 ∨ (0 ≤ r6.toInt ∧ r6.toInt ≤ 29) from by have h50 : x7.toInt = (y2_4.toInt + 1) := tx7; omega) (by have h50 : x7.toInt = (y2_4.toInt + 1) := tx7; omega) _ _ _ hP hS (lv_sub hl [0, 1, 2, 3, 4] rfl)
          · have f5 := (ti_eq (a := y2_3.toInt) (b := w1.toInt) rfl rfl).mp c5
            refine lv_iconst (v := 1) hx hb dX6_isUp_27 (by decide +kernel) ?_
            exact ro_zret hx hb hr hlocks hS rfl dX6_isUp_28 (show 0 ≤ (1 : Int32).toInt ∧ (1 : Int32).toInt ≤ 1 from by decide +kernel)
  exact lp2 _ (0 : Int32) r1 (show 0 ≤ (0 : Int32).toInt ∧ (0 : Int32).toInt ≤ 30 from by decide +kernel) (show r1.toInt = -9 ∨ (0 ≤ r1.toInt ∧ r1.toInt ≤ 29) from by have h50 : (0 : Int32).toInt = 0 := (by decide +kernel); omega) (Nat.lt_succ_self _) _ _ _ hP hS (lv_sub hl [0, 1, 2, 3, 4] rfl)

def wm_X6_roomOf_TS : List Cond := .code yX6_roomOf cX6_roomOf 4 (some .int) :: (([.fieldLink RX6 15 "TalePlay$Scene" "world" "LTalePlay$World;", .methodLink RX6 29 yX10_sortOf, .instanceMethod yX10_sortOf, .selects RX10 yX10_sortOf yX10_sortOf, .initialized RX10, .code yX10_sortOf cX10_sortOf 2 (some .int), .fieldLink RX10 37 "TalePlay$World" "objects" "I", .fieldLink RX10 15 "TalePlay$World" "sorts" "[I", .fieldLink RX10 21 "TalePlay$World" "kindOf" "[I", .methodLink RX6 25 yX6_holderOf, .instanceMethod yX6_holderOf, .selects RX6 yX6_holderOf yX6_holderOf, .initialized RX6, .code yX6_holderOf cX6_holderOf 3 (some .int), .fieldLink RX6 9 "TalePlay$Scene" "cells" "[I"] : List Cond) ++ wsX60 ++ wsX100)
set_option maxRecDepth 20000 in
theorem gm_X6_roomOf_TS_X10_sortOf_29 : GoodIn wm_X6_roomOf_TS (wsV RX6 29 RX10 yX10_sortOf wm_X10_sortOf) := goodIn_w (List.forall_mem_append.mpr ⟨List.forall_mem_cons.mpr ⟨List.mem_cons_of_mem _ (List.mem_append_left _ (List.mem_append_left _ (List.mem_of_getElem? (i := 1) rfl))), List.forall_mem_cons.mpr ⟨List.mem_cons_of_mem _ (List.mem_append_left _ (List.mem_append_left _ (List.mem_of_getElem? (i := 2) rfl))), List.forall_mem_cons.mpr ⟨List.mem_cons_of_mem _ (List.mem_append_left _ (List.mem_append_left _ (List.mem_of_getElem? (i := 3) rfl))), List.forall_mem_cons.mpr ⟨List.mem_cons_of_mem _ (List.mem_append_left _ (List.mem_append_left _ (List.mem_of_getElem? (i := 4) rfl))), (fun _ h => absurd h List.not_mem_nil)⟩⟩⟩⟩, List.forall_mem_cons.mpr ⟨List.mem_cons_of_mem _ (List.mem_append_left _ (List.mem_append_left _ (List.mem_of_getElem? (i := 5) rfl))), List.forall_mem_append.mpr ⟨List.forall_mem_cons.mpr ⟨List.mem_cons_of_mem _ (List.mem_append_left _ (List.mem_append_left _ (List.mem_of_getElem? (i := 6) rfl))), List.forall_mem_cons.mpr ⟨List.mem_cons_of_mem _ (List.mem_append_left _ (List.mem_append_left _ (List.mem_of_getElem? (i := 7) rfl))), List.forall_mem_cons.mpr ⟨List.mem_cons_of_mem _ (List.mem_append_left _ (List.mem_append_left _ (List.mem_of_getElem? (i := 8) rfl))), (fun _ h => absurd h List.not_mem_nil)⟩⟩⟩, (fun _ h => List.mem_cons_of_mem _ (List.mem_append_right _ h))⟩⟩⟩) (by decide +kernel)
set_option maxRecDepth 20000 in
theorem gm_X6_roomOf_TS_X6_holderOf_TS_25 : GoodIn wm_X6_roomOf_TS (wsV RX6 25 RX6 yX6_holderOf wm_X6_holderOf_TS) := goodIn_w (List.forall_mem_append.mpr ⟨List.forall_mem_cons.mpr ⟨List.mem_cons_of_mem _ (List.mem_append_left _ (List.mem_append_left _ (List.mem_of_getElem? (i := 9) rfl))), List.forall_mem_cons.mpr ⟨List.mem_cons_of_mem _ (List.mem_append_left _ (List.mem_append_left _ (List.mem_of_getElem? (i := 10) rfl))), List.forall_mem_cons.mpr ⟨List.mem_cons_of_mem _ (List.mem_append_left _ (List.mem_append_left _ (List.mem_of_getElem? (i := 11) rfl))), List.forall_mem_cons.mpr ⟨List.mem_cons_of_mem _ (List.mem_append_left _ (List.mem_append_left _ (List.mem_of_getElem? (i := 12) rfl))), (fun _ h => absurd h List.not_mem_nil)⟩⟩⟩⟩, List.forall_mem_cons.mpr ⟨List.mem_cons_of_mem _ (List.mem_append_left _ (List.mem_append_left _ (List.mem_of_getElem? (i := 13) rfl))), List.forall_mem_append.mpr ⟨List.forall_mem_cons.mpr ⟨List.mem_cons_of_mem _ (List.mem_append_left _ (List.mem_append_left _ (List.mem_of_getElem? (i := 14) rfl))), (fun _ h => absurd h List.not_mem_nil)⟩, (fun _ h => List.mem_cons_of_mem _ (List.mem_append_left _ (List.mem_append_right _ h)))⟩⟩⟩) (by decide +kernel)
set_option maxHeartbeats 4000000 in
set_option maxRecDepth 100000 in
theorem x_X6_roomOf_TS (l : Launch) (D : va_G) (sz : Nat) (sk : Value) (a : Nat → Nat) (t : Nat → ClassId) (i : Nat → Int32) (q : Int64) (c : Nat → Nat → Int32) (d : Nat → Nat → Int64) (w : Int32) (hI : xInv i c) (hw : 0 ≤ w.toInt ∧ w.toInt ≤ 29) : Met l yX6_roomOf wm_X6_roomOf_TS ({ frames := 1, cells := 0, slots := 0, locals := 22 }) (va_Pc [.ref (a 149), .int w] (yA (a 186) D sz (xwQ1 sk a t i q c d) (xtQ1 t))) (va_Qi (fun (r : Int32) (_ : Unit) => (r.toInt = -9 ∨ (0 ≤ r.toInt ∧ r.toInt ≤ 29))) oA (ro sz)) 0 0 (ro sz) := by
  refine Met.ofW (cc := cX6_roomOf) (maxL := 4) (ret := (some .int)) (by decide +kernel) rfl ?_
  intro p e s m args below meth cd s₁ B hml hv
  obtain ⟨rfl, ⟨hsz, hP, hK⟩, hN, hZ⟩ := hv
  have hx := B.exec
  have hb := B.bytes
  have hr := B.returns
  have hts := atoms_spec (ws := wm_X6_roomOf_TS) B.pre
  have hown : s.vm.findClass RX6 = some m.cls := findClass_of_methodNamed B.named
  have hlocks := B.notSynchronized
  subst hsz
  have hA : ∀ q : Nat, s.heap.size ≤ q → ro s.heap.size q := fun _ h => h
  have hS : va_S (ro s.heap.size) s.heap s.heap [] := va_S.rf
  have hl := lv_entry ([.ref (a 149), .int w]) (n := 4) (Nat.le_of_ble_eq_true rfl)
  rw [lg_entry_eq]
  generalize (lg_sl ([.ref (a 149), .int w]) ++ List.replicate (4 - (lg_sl ([.ref (a 149), .int w])).length) Slot.unset).toArray = ls at hl ⊢
  have hl : lv_has ls 4 [(0, .ref (a 149)), (1, .int w)] := hl
  refine lv_iload_n hx hb dX6_roomOf_0 rfl (lv_at hl 1 rfl) ?_
  refine lv_istore_n (lv' := [(2, .int w), (0, .ref (a 149)), (1, .int w)]) hx hb dX6_roomOf_1 rfl hl (by decide +kernel) rfl (fun ls hl => ?_)
  refine lv_iconst (v := 0) hx hb dX6_roomOf_2 (by decide +kernel) ?_
  refine lv_istore_n (lv' := [(3, .int 0), (2, .int w), (0, .ref (a 149)), (1, .int w)]) hx hb dX6_roomOf_3 rfl hl (by decide +kernel) rfl (fun ls hl => ?_)
  have lp1 : ∀ (fu : Nat) (y1_3 : Int32) (y1_2 : Int32), (0 ≤ y1_3.toInt ∧ y1_3.toInt ≤ 31) → (y1_2.toInt = -9 ∨ (0 ≤ y1_2.toInt ∧ y1_2.toInt ≤ 29)) → (31 - y1_3.toInt).toNat < fu → ∀ (H : Heap) (locs : List Loc) (ls : Array Slot), va_P D vwCl (xwQ1 sk a t i q c d) H → va_S (ro s.heap.size) s.heap H locs → lv_has ls 4 [(3, .int y1_3), (2, .int y1_2), (0, .ref (a 149)), (1, .int w)] → W p l e (headSpec wm_X6_roomOf_TS ({ frames := 1, cells := 0, slots := 0, locals := 22 })).room s m ([.ref (a 149), .int w] : List Value).toArray below meth cd H locs 0 0 (MQ below (va_Qi (fun (r : Int32) (_ : Unit) => (r.toInt = -9 ∨ (0 ≤ r.toInt ∧ r.toInt ≤ 29))) oA (ro s.heap.size)) ([.ref (a 149), .int w] : List Value).toArray s 0 0 (ro s.heap.size)) (F0 m 4 ls []) := by
    intro fu
    induction fu with
    | zero => intro y1_3 y1_2 hy1_3 hy1_2 hm; exact absurd hm (Nat.not_lt_zero _)
    | succ fu ih =>
      intro y1_3 y1_2 hy1_3 hy1_2 hm H locs ls hP hS hl
      have ih1 := ih
      refine lv_iload_n hx hb dX6_roomOf_4 rfl (lv_at hl 0 rfl) ?_
      refine lv_bipush (v := 30) hx hb dX6_roomOf_5 (by decide +kernel) ?_
      refine lv_icmp_gt (tgt := 41) hx hb dX6_roomOf_7 (by decide +kernel) (fun c2 => ?_) (fun c2 => ?_)
      · have f2 := (ti_lt (a := 30) (b := y1_3.toInt) (by decide +kernel) rfl).mp c2
        refine lv_bipush (v := (-9)) hx hb dX6_roomOf_41 (by decide +kernel) ?_
        exact ro_iret hx hb hr hlocks hS dX6_roomOf_43 (show ((-9) : Int32).toInt = -9 ∨ (0 ≤ ((-9) : Int32).toInt ∧ ((-9) : Int32).toInt ≤ 29) from by decide +kernel)
      · have f2 := mt (ti_lt (a := 30) (b := y1_3.toInt) (by decide +kernel) rfl).mpr c2
        refine lv_iload_n hx hb dX6_roomOf_10 rfl (lv_at hl 1 rfl) ?_
        refine lv_bipush (v := (-9)) hx hb dX6_roomOf_11 (by decide +kernel) ?_
        refine lv_icmp_eq (tgt := 41) hx hb dX6_roomOf_13 (by decide +kernel) (fun c3 => ?_) (fun c3 => ?_)
        · have f3 := (ti_eq (a := y1_2.toInt) (b := (-9)) rfl (by decide +kernel)).mp c3
          refine lv_bipush (v := (-9)) hx hb dX6_roomOf_41 (by decide +kernel) ?_
          exact ro_iret hx hb hr hlocks hS dX6_roomOf_43 (show ((-9) : Int32).toInt = -9 ∨ (0 ≤ ((-9) : Int32).toInt ∧ ((-9) : Int32).toInt ≤ 29) from by decide +kernel)
        · have f3 := mt (ti_eq (a := y1_2.toInt) (b := (-9)) rfl (by decide +kernel)).mpr c3
          refine lv_aload_n hx hb dX6_roomOf_16 rfl (lv_at hl 2 rfl) ?_
          refine xgQ1_TS_world hx hb hts (fun _ h => List.mem_cons_of_mem _ (List.mem_append_left _ (List.mem_append_right _ h))) hown hK hP (hts (.fieldLink RX6 15 "TalePlay$Scene" "world" "LTalePlay$World;") (List.mem_cons_of_mem _ (List.mem_append_left _ (List.mem_append_left _ (List.mem_of_getElem? (i := 0) rfl))))) dX6_roomOf_17 ?_
          refine lv_iload_n hx hb dX6_roomOf_20 rfl (lv_at hl 1 rfl) ?_
          have rb111_i : 0 ≤ (i 111).toInt ∧ (i 111).toInt ≤ 30 := hI.1 111
          refine ro_calli (va_runV (As := [.int y1_2]) (rest := []) ⟨hx, hb, hml, hown, hts⟩ (x_X10_sortOf l D H.size .null a t i q c d y1_2 hI ) (cwV 1 hts gm_X6_roomOf_TS_X10_sortOf_29 rfl rfl rfl (by decide +kernel) ⟨Nat.le_of_ble_eq_true rfl, Nat.le_of_ble_eq_true rfl⟩) (yA_V hN (xZ_k hZ hS hA) (xkQ1_W hK) (xuQ1_W (sk := sk) hP) (ci := 10) (q0 := 0) rfl rfl) rfl rfl hl.1 rfl (lv_room (Nat.le_of_ble_eq_true rfl)) dX6_roomOf_21 ⟨Nat.le_of_ble_eq_true rfl, Nat.le_of_ble_eq_true rfl⟩) hS hA hP (fun r4 u4 H locs hw4 hP hS => ?_)
          have hw4 : ((r4.toInt = -9 ∧ ¬ (0 ≤ y1_2.toInt ∧ y1_2.toInt < (i 111).toInt)) ∨ (0 ≤ r4.toInt ∧ r4.toInt ≤ 5 ∧ 0 ≤ y1_2.toInt ∧ y1_2.toInt < (i 111).toInt)) := hw4
          refine lv_if_ne (tgt := 29) hx hb dX6_roomOf_24 (by decide +kernel) (fun c5 => ?_) (fun c5 => ?_)
          · have f5 := mt (ti_eq (a := r4.toInt) (b := 0) rfl (by decide +kernel)).mpr c5
            refine lv_aload_n hx hb dX6_roomOf_29 rfl (lv_at hl 2 rfl) ?_
            refine lv_iload_n hx hb dX6_roomOf_30 rfl (lv_at hl 1 rfl) ?_
            refine ro_calli (va_runV (As := [.int y1_2]) (rest := []) ⟨hx, hb, hml, hown, hts⟩ (x_X6_holderOf_TS l D H.size .null a t i q c d y1_2 hI (show 0 ≤ y1_2.toInt ∧ y1_2.toInt ≤ 29 from by omega)) (cwV 1 hts gm_X6_roomOf_TS_X6_holderOf_TS_25 rfl rfl rfl (by decide +kernel) ⟨Nat.le_of_ble_eq_true rfl, Nat.le_of_ble_eq_true rfl⟩) (yA_V hN (xZ_k hZ hS hA) (xkQ1_P1 hK) (xuQ1_P1 (sk := sk) hP) (ci := 6) (q0 := 0) rfl rfl) rfl rfl hl.1 rfl (lv_room (Nat.le_of_ble_eq_true rfl)) dX6_roomOf_31 ⟨Nat.le_of_ble_eq_true rfl, Nat.le_of_ble_eq_true rfl⟩) hS hA hP (fun r6 u6 H locs hw6 hP hS => ?_)
            have hw6 : ((r6.toInt = -9 ∧ (c 150 y1_2.toNatClampNeg).toInt % 256 = 255) ∨ (0 ≤ r6.toInt ∧ r6.toInt ≤ 29 ∧ ¬ (c 150 y1_2.toNatClampNeg).toInt % 256 = 255 ∧ r6.toInt = (c 150 y1_2.toNatClampNeg).toInt / 8 % 32)) := hw6
            refine lv_istore_n (lv' := [(2, .int r6), (3, .int y1_3), (0, .ref (a 149)), (1, .int w)]) hx hb dX6_roomOf_34 rfl hl (by decide +kernel) rfl (fun ls hl => ?_)
            obtain ⟨x7, ex7⟩ : ∃ y : Int32, y = y1_3 + 1 := ⟨_, rfl⟩
            have tx7 := ti_add (a := y1_3.toInt) (b := 1) ex7 rfl (by decide +kernel) (by omega) (by omega)
            refine lv_iinc (v := x7) (lv' := [(3, .int x7), (2, .int r6), (0, .ref (a 149)), (1, .int w)]) hx hb dX6_roomOf_35 hl (k := 1) rfl (by rw [ex7]; rfl) (by decide +kernel) rfl (fun ls hl => ?_)
            refine lv_goto (tgt := 4) hx hb dX6_roomOf_38 (by decide +kernel) ?_
            exact ih1 x7 r6 (show 0 ≤ x7.toInt ∧ x7.toInt ≤ 31 from by have h50 : x7.toInt = (y1_3.toInt + 1) := tx7; omega) (show r6.toInt = -9 ∨ (0 ≤ r6.toInt ∧ r6.toInt ≤ 29) from by have h50 : x7.toInt = (y1_3.toInt + 1) := tx7; omega) (by have h50 : x7.toInt = (y1_3.toInt + 1) := tx7; omega) _ _ _ hP hS (lv_sub hl [0, 1, 2, 3] rfl)
          · have f5 := (ti_eq (a := r4.toInt) (b := 0) rfl (by decide +kernel)).mp c5
            refine lv_iload_n hx hb dX6_roomOf_27 rfl (lv_at hl 1 rfl) ?_
            exact ro_iret hx hb hr hlocks hS dX6_roomOf_28 (show y1_2.toInt = -9 ∨ (0 ≤ y1_2.toInt ∧ y1_2.toInt ≤ 29) from by omega)
  exact lp1 _ (0 : Int32) w (show 0 ≤ (0 : Int32).toInt ∧ (0 : Int32).toInt ≤ 31 from by decide +kernel) (show w.toInt = -9 ∨ (0 ≤ w.toInt ∧ w.toInt ≤ 29) from by have h50 : (0 : Int32).toInt = 0 := (by decide +kernel); omega) (Nat.lt_succ_self _) _ _ _ hP hS (lv_sub hl [0, 1, 2, 3] rfl)

def wm_X6_countOf_TS : List Cond := .code yX6_countOf cX6_countOf 5 (some .int) :: (([.fieldLink RX6 15 "TalePlay$Scene" "world" "LTalePlay$World;", .fieldLink RX6 34 "TalePlay$World" "objects" "I", .methodLink RX6 38 yX6_lies, .instanceMethod yX6_lies, .selects RX6 yX6_lies yX6_lies, .initialized RX6, .code yX6_lies cX6_lies 4 (some .boolean), .fieldLink RX6 9 "TalePlay$Scene" "cells" "[I"] : List Cond) ++ wsX60 ++ wsX100)
set_option maxRecDepth 20000 in
theorem gm_X6_countOf_TS_X6_lies_TS_38 : GoodIn wm_X6_countOf_TS (wsV RX6 38 RX6 yX6_lies wm_X6_lies_TS) := goodIn_w (List.forall_mem_append.mpr ⟨List.forall_mem_cons.mpr ⟨List.mem_cons_of_mem _ (List.mem_append_left _ (List.mem_append_left _ (List.mem_of_getElem? (i := 2) rfl))), List.forall_mem_cons.mpr ⟨List.mem_cons_of_mem _ (List.mem_append_left _ (List.mem_append_left _ (List.mem_of_getElem? (i := 3) rfl))), List.forall_mem_cons.mpr ⟨List.mem_cons_of_mem _ (List.mem_append_left _ (List.mem_append_left _ (List.mem_of_getElem? (i := 4) rfl))), List.forall_mem_cons.mpr ⟨List.mem_cons_of_mem _ (List.mem_append_left _ (List.mem_append_left _ (List.mem_of_getElem? (i := 5) rfl))), (fun _ h => absurd h List.not_mem_nil)⟩⟩⟩⟩, List.forall_mem_cons.mpr ⟨List.mem_cons_of_mem _ (List.mem_append_left _ (List.mem_append_left _ (List.mem_of_getElem? (i := 6) rfl))), List.forall_mem_append.mpr ⟨List.forall_mem_cons.mpr ⟨List.mem_cons_of_mem _ (List.mem_append_left _ (List.mem_append_left _ (List.mem_of_getElem? (i := 7) rfl))), (fun _ h => absurd h List.not_mem_nil)⟩, (fun _ h => List.mem_cons_of_mem _ (List.mem_append_left _ (List.mem_append_right _ h)))⟩⟩⟩) (by decide +kernel)
set_option maxHeartbeats 4000000 in
set_option maxRecDepth 100000 in
theorem x_X6_countOf_TS (l : Launch) (D : va_G) (sz : Nat) (sk : Value) (a : Nat → Nat) (t : Nat → ClassId) (i : Nat → Int32) (q : Int64) (c : Nat → Nat → Int32) (d : Nat → Nat → Int64) (f : Int32) (w : Int32) (hI : xInv i c) : Met l yX6_countOf wm_X6_countOf_TS ({ frames := 1, cells := 0, slots := 0, locals := 23 }) (va_Pc [.ref (a 149), .int f, .int w] (yA (a 186) D sz (xwQ1 sk a t i q c d) (xtQ1 t))) (va_Qi (fun (r : Int32) (_ : Unit) => (0 ≤ r.toInt ∧ r.toInt ≤ 30)) oA (ro sz)) 0 0 (ro sz) := by
  refine Met.ofW (cc := cX6_countOf) (maxL := 5) (ret := (some .int)) (by decide +kernel) rfl ?_
  intro p e s m args below meth cd s₁ B hml hv
  obtain ⟨rfl, ⟨hsz, hP, hK⟩, hN, hZ⟩ := hv
  have hx := B.exec
  have hb := B.bytes
  have hr := B.returns
  have hts := atoms_spec (ws := wm_X6_countOf_TS) B.pre
  have hown : s.vm.findClass RX6 = some m.cls := findClass_of_methodNamed B.named
  have hlocks := B.notSynchronized
  subst hsz
  have hA : ∀ q : Nat, s.heap.size ≤ q → ro s.heap.size q := fun _ h => h
  have hS : va_S (ro s.heap.size) s.heap s.heap [] := va_S.rf
  have hl := lv_entry ([.ref (a 149), .int f, .int w]) (n := 5) (Nat.le_of_ble_eq_true rfl)
  rw [lg_entry_eq]
  generalize (lg_sl ([.ref (a 149), .int f, .int w]) ++ List.replicate (5 - (lg_sl ([.ref (a 149), .int f, .int w])).length) Slot.unset).toArray = ls at hl ⊢
  have hl : lv_has ls 5 [(0, .ref (a 149)), (1, .int f), (2, .int w)] := hl
  refine lv_iconst (v := 0) hx hb dX6_countOf_0 (by decide +kernel) ?_
  refine lv_istore_n (lv' := [(3, .int 0), (0, .ref (a 149)), (1, .int f), (2, .int w)]) hx hb dX6_countOf_1 rfl hl (by decide +kernel) rfl (fun ls hl => ?_)
  refine lv_iconst (v := 0) hx hb dX6_countOf_2 (by decide +kernel) ?_
  refine lv_istore (lv' := [(4, .int 0), (3, .int 0), (0, .ref (a 149)), (1, .int f), (2, .int w)]) hx hb dX6_countOf_3 hl (by decide +kernel) rfl (fun ls hl => ?_)
  have lp1 : ∀ (fu : Nat) (y1_4 : Int32) (y1_3 : Int32), (0 ≤ y1_4.toInt ∧ y1_4.toInt ≤ 30) → (0 ≤ y1_3.toInt ∧ y1_3.toInt ≤ y1_4.toInt) → (30 - y1_4.toInt).toNat < fu → ∀ (H : Heap) (locs : List Loc) (ls : Array Slot), va_P D vwCl (xwQ1 sk a t i q c d) H → va_S (ro s.heap.size) s.heap H locs → lv_has ls 5 [(4, .int y1_4), (3, .int y1_3), (0, .ref (a 149)), (1, .int f), (2, .int w)] → W p l e (headSpec wm_X6_countOf_TS ({ frames := 1, cells := 0, slots := 0, locals := 23 })).room s m ([.ref (a 149), .int f, .int w] : List Value).toArray below meth cd H locs 0 0 (MQ below (va_Qi (fun (r : Int32) (_ : Unit) => (0 ≤ r.toInt ∧ r.toInt ≤ 30)) oA (ro s.heap.size)) ([.ref (a 149), .int f, .int w] : List Value).toArray s 0 0 (ro s.heap.size)) (F0 m 5 ls []) := by
    intro fu
    induction fu with
    | zero => intro y1_4 y1_3 hy1_4 hy1_3 hm; exact absurd hm (Nat.not_lt_zero _)
    | succ fu ih =>
      intro y1_4 y1_3 hy1_4 hy1_3 hm H locs ls hP hS hl
      have ih1 := ih
      refine lv_iload hx hb dX6_countOf_5 (lv_at hl 0 rfl) ?_
      refine lv_aload_n hx hb dX6_countOf_7 rfl (lv_at hl 2 rfl) ?_
      refine xgQ1_TS_world hx hb hts (fun _ h => List.mem_cons_of_mem _ (List.mem_append_left _ (List.mem_append_right _ h))) hown hK hP (hts (.fieldLink RX6 15 "TalePlay$Scene" "world" "LTalePlay$World;") (List.mem_cons_of_mem _ (List.mem_append_left _ (List.mem_append_left _ (List.mem_of_getElem? (i := 0) rfl))))) dX6_countOf_8 ?_
      refine xgQ1_W_objects (v := (i 111)) rfl hx hb hts (fun _ h => List.mem_cons_of_mem _ (List.mem_append_right _ h)) hown hK hP (hts (.fieldLink RX6 34 "TalePlay$World" "objects" "I") (List.mem_cons_of_mem _ (List.mem_append_left _ (List.mem_append_left _ (List.mem_of_getElem? (i := 1) rfl))))) dX6_countOf_11 ?_
      have rb111_i : 0 ≤ (i 111).toInt ∧ (i 111).toInt ≤ 30 := hI.1 111
      refine lv_icmp_ge (tgt := 37) hx hb dX6_countOf_14 (by decide +kernel) (fun c2 => ?_) (fun c2 => ?_)
      · have f2 := (ti_le (a := (i 111).toInt) (b := y1_4.toInt) rfl rfl).mp c2
        refine lv_iload_n hx hb dX6_countOf_37 rfl (lv_at hl 1 rfl) ?_
        exact ro_iret hx hb hr hlocks hS dX6_countOf_38 (show 0 ≤ y1_3.toInt ∧ y1_3.toInt ≤ 30 from by omega)
      · have f2 := mt (ti_le (a := (i 111).toInt) (b := y1_4.toInt) rfl rfl).mpr c2
        refine lv_aload_n hx hb dX6_countOf_17 rfl (lv_at hl 2 rfl) ?_
        refine lv_iload hx hb dX6_countOf_18 (lv_at hl 0 rfl) ?_
        refine lv_iload_n hx hb dX6_countOf_20 rfl (lv_at hl 3 rfl) ?_
        refine lv_iload_n hx hb dX6_countOf_21 rfl (lv_at hl 4 rfl) ?_
        refine ro_calli (va_runV (As := [.int y1_4, .int f, .int w]) (rest := []) ⟨hx, hb, hml, hown, hts⟩ (x_X6_lies_TS l D H.size .null a t i q c d y1_4 f w hI (show 0 ≤ y1_4.toInt ∧ y1_4.toInt ≤ 29 from by omega)) (cwV 3 hts gm_X6_countOf_TS_X6_lies_TS_38 rfl rfl rfl (by decide +kernel) ⟨Nat.le_of_ble_eq_true rfl, Nat.le_of_ble_eq_true rfl⟩) (yA_V hN (xZ_k hZ hS hA) (xkQ1_P1 hK) (xuQ1_P1 (sk := sk) hP) (ci := 6) (q0 := 0) rfl rfl) rfl rfl hl.1 rfl (lv_room (Nat.le_of_ble_eq_true rfl)) dX6_countOf_22 ⟨Nat.le_of_ble_eq_true rfl, Nat.le_of_ble_eq_true rfl⟩) hS hA hP (fun r3 u3 H locs hw3 hP hS => ?_)
        have hw3 : (0 ≤ r3.toInt ∧ r3.toInt ≤ 1) := hw3
        have jn4 : ∀ (y4_3 : Int32), (0 ≤ y4_3.toInt ∧ y4_3.toInt ≤ y1_4.toInt + 1) → ∀ (H : Heap) (locs : List Loc) (ls : Array Slot), va_P D vwCl (xwQ1 sk a t i q c d) H → va_S (ro s.heap.size) s.heap H locs → lv_has ls 5 [(4, .int y1_4), (0, .ref (a 149)), (1, .int f), (2, .int w), (3, .int y4_3)] → W p l e (headSpec wm_X6_countOf_TS ({ frames := 1, cells := 0, slots := 0, locals := 23 })).room s m ([.ref (a 149), .int f, .int w] : List Value).toArray below meth cd H locs 0 0 (MQ below (va_Qi (fun (r : Int32) (_ : Unit) => (0 ≤ r.toInt ∧ r.toInt ≤ 30)) oA (ro s.heap.size)) ([.ref (a 149), .int f, .int w] : List Value).toArray s 0 0 (ro s.heap.size)) (F0 m 31 ls []) := by
          intro y4_3 hy4_3 H locs ls hP hS hl
          obtain ⟨x5, ex5⟩ : ∃ y : Int32, y = y1_4 + 1 := ⟨_, rfl⟩
          have tx5 := ti_add (a := y1_4.toInt) (b := 1) ex5 rfl (by decide +kernel) (by omega) (by omega)
          refine lv_iinc (v := x5) (lv' := [(4, .int x5), (0, .ref (a 149)), (1, .int f), (2, .int w), (3, .int y4_3)]) hx hb dX6_countOf_31 hl (k := 0) rfl (by rw [ex5]; rfl) (by decide +kernel) rfl (fun ls hl => ?_)
          refine lv_goto (tgt := 5) hx hb dX6_countOf_34 (by decide +kernel) ?_
          exact ih1 x5 y4_3 (show 0 ≤ x5.toInt ∧ x5.toInt ≤ 30 from by have h50 : x5.toInt = (y1_4.toInt + 1) := tx5; omega) (show 0 ≤ y4_3.toInt ∧ y4_3.toInt ≤ x5.toInt from by have h50 : x5.toInt = (y1_4.toInt + 1) := tx5; omega) (by have h50 : x5.toInt = (y1_4.toInt + 1) := tx5; omega) _ _ _ hP hS (lv_sub hl [0, 4, 1, 2, 3] rfl)
        refine lv_if_eq (tgt := 31) hx hb dX6_countOf_25 (by decide +kernel) (fun c6 => ?_) (fun c6 => ?_)
        · have f6 := (ti_eq (a := r3.toInt) (b := 0) rfl (by decide +kernel)).mp c6
          exact jn4 y1_3  (show 0 ≤ y1_3.toInt ∧ y1_3.toInt ≤ y1_4.toInt + 1 from by omega) _ _ _ hP hS (lv_sub hl [0, 2, 3, 4, 1] rfl)
        · have f6 := mt (ti_eq (a := r3.toInt) (b := 0) rfl (by decide +kernel)).mpr c6
          obtain ⟨x7, ex7⟩ : ∃ y : Int32, y = y1_3 + 1 := ⟨_, rfl⟩
          have tx7 := ti_add (a := y1_3.toInt) (b := 1) ex7 rfl (by decide +kernel) (by omega) (by omega)
          refine lv_iinc (v := x7) (lv' := [(3, .int x7), (4, .int y1_4), (0, .ref (a 149)), (1, .int f), (2, .int w)]) hx hb dX6_countOf_28 hl (k := 1) rfl (by rw [ex7]; rfl) (by decide +kernel) rfl (fun ls hl => ?_)
          exact jn4 x7  (show 0 ≤ x7.toInt ∧ x7.toInt ≤ y1_4.toInt + 1 from by have h50 : x7.toInt = (y1_3.toInt + 1) := tx7; omega) _ _ _ hP hS (lv_sub hl [1, 2, 3, 4, 0] rfl)
  exact lp1 _ (0 : Int32) (0 : Int32) (show 0 ≤ (0 : Int32).toInt ∧ (0 : Int32).toInt ≤ 30 from by decide +kernel) (show 0 ≤ (0 : Int32).toInt ∧ (0 : Int32).toInt ≤ (0 : Int32).toInt from by decide +kernel) (Nat.lt_succ_self _) _ _ _ hP hS (lv_sub hl [0, 1, 2, 3, 4] rfl)

def wm_X6_formOf_SS : List Cond := .code yX6_formOf cX6_formOf 3 (some .int) :: (([.fieldLink RX6 9 "TalePlay$Scene" "cells" "[I"] : List Cond) ++ wsX60)
set_option maxHeartbeats 4000000 in
set_option maxRecDepth 100000 in
theorem x_X6_formOf_SS (l : Launch) (D : va_G) (sz : Nat) (sk : Value) (a : Nat → Nat) (t : Nat → ClassId) (i : Nat → Int32) (q : Int64) (c : Nat → Nat → Int32) (d : Nat → Nat → Int64) (w : Int32) (hI : xInv i c) (hw : 0 ≤ w.toInt ∧ w.toInt ≤ 29) : Met l yX6_formOf wm_X6_formOf_SS ({ frames := 0, cells := 0, slots := 0, locals := 0 }) (va_Pc [.ref (a 178), .int w] (yA (a 186) D sz (xwP2 sk a t i q c d) (xtP2 t))) (va_Qi (fun (r : Int32) (_ : Unit) => ((r.toInt = -9 ∧ (c 179 w.toNatClampNeg).toInt % 256 = 255) ∨ (0 ≤ r.toInt ∧ r.toInt ≤ 4 ∧ ¬ (c 179 w.toNatClampNeg).toInt % 256 = 255 ∧ r.toInt = (c 179 w.toNatClampNeg).toInt % 8))) oA (ro sz)) 0 0 (ro sz) := by
  refine Met.ofW (cc := cX6_formOf) (maxL := 3) (ret := (some .int)) (by decide +kernel) rfl ?_
  intro p e s m args below meth cd s₁ B hml hv
  obtain ⟨rfl, ⟨hsz, hP, hK⟩, hN, hZ⟩ := hv
  have hx := B.exec
  have hb := B.bytes
  have hr := B.returns
  have hts := atoms_spec (ws := wm_X6_formOf_SS) B.pre
  have hown : s.vm.findClass RX6 = some m.cls := findClass_of_methodNamed B.named
  have hlocks := B.notSynchronized
  subst hsz
  have hA : ∀ q : Nat, s.heap.size ≤ q → ro s.heap.size q := fun _ h => h
  have hS : va_S (ro s.heap.size) s.heap s.heap [] := va_S.rf
  have hl := lv_entry ([.ref (a 178), .int w]) (n := 3) (Nat.le_of_ble_eq_true rfl)
  rw [lg_entry_eq]
  generalize (lg_sl ([.ref (a 178), .int w]) ++ List.replicate (3 - (lg_sl ([.ref (a 178), .int w])).length) Slot.unset).toArray = ls at hl ⊢
  have hl : lv_has ls 3 [(0, .ref (a 178)), (1, .int w)] := hl
  refine lv_aload_n hx hb dX6_formOf_0 rfl (lv_at hl 0 rfl) ?_
  refine xgP2_SS_cells hx hb hts (fun _ h => List.mem_cons_of_mem _ (List.mem_append_right _ h)) hown hK hP (hts (.fieldLink RX6 9 "TalePlay$Scene" "cells" "[I") (List.mem_cons_of_mem _ (List.mem_append_left _ (List.mem_of_getElem? (i := 0) rfl)))) dX6_formOf_1 ?_
  refine lv_iload_n hx hb dX6_formOf_4 rfl (lv_at hl 1 rfl) ?_
  refine xlP2_179 hx hb hK hP (vp_in_iff.mpr (by have h9 : w.toInt = w.toInt := rfl; omega)) dX6_formOf_5 (fun x1 ex1 => ?_)
  have rx1 : 0 ≤ x1.toInt ∧ x1.toInt ≤ 16383 ∧ (x1.toInt % 256 = 255 ∨ (x1.toInt % 8 ≤ 4 ∧ x1.toInt / 8 % 32 ≤ 29)) := by rw [ex1]; exact hI.2 179 _
  have gx1 : (c 179 (w : Int32).toNatClampNeg).toInt = x1.toInt := (congrArg Int32.toInt ex1).symm
  refine lv_bipush (v := 7) hx hb dX6_formOf_6 (by decide +kernel) ?_
  refine lv_iand hx hb dX6_formOf_8 ?_
  refine lv_topi (fun x2 ex2 => ?_)
  have bx2 := and7 (by omega) ex2
  refine lv_istore_n (lv' := [(2, .int x2), (0, .ref (a 178)), (1, .int w)]) hx hb dX6_formOf_9 rfl hl (by decide +kernel) rfl (fun ls hl => ?_)
  refine lv_iload_n hx hb dX6_formOf_10 rfl (lv_at hl 0 rfl) ?_
  refine lv_bipush (v := 7) hx hb dX6_formOf_11 (by decide +kernel) ?_
  refine lv_icmp_ne (tgt := 21) hx hb dX6_formOf_13 (by decide +kernel) (fun c3 => ?_) (fun c3 => ?_)
  · have f3 := mt (ti_eq (a := (x1.toInt % 8)) (b := 7) bx2 (by decide +kernel)).mpr c3
    refine lv_iload_n hx hb dX6_formOf_21 rfl (lv_at hl 0 rfl) ?_
    exact ro_iret hx hb hr hlocks hS dX6_formOf_22 (show (x2.toInt = -9 ∧ (c 179 w.toNatClampNeg).toInt % 256 = 255) ∨ (0 ≤ x2.toInt ∧ x2.toInt ≤ 4 ∧ ¬ (c 179 w.toNatClampNeg).toInt % 256 = 255 ∧ x2.toInt = (c 179 w.toNatClampNeg).toInt % 8) from by have h9 : x2.toInt = (x1.toInt % 8) := bx2; omega)
  · have f3 := (ti_eq (a := (x1.toInt % 8)) (b := 7) bx2 (by decide +kernel)).mp c3
    refine lv_bipush (v := (-9)) hx hb dX6_formOf_16 (by decide +kernel) ?_
    refine lv_goto (tgt := 22) hx hb dX6_formOf_18 (by decide +kernel) ?_
    exact ro_iret hx hb hr hlocks hS dX6_formOf_22 (show (((-9) : Int32).toInt = -9 ∧ (c 179 w.toNatClampNeg).toInt % 256 = 255) ∨ (0 ≤ ((-9) : Int32).toInt ∧ ((-9) : Int32).toInt ≤ 4 ∧ ¬ (c 179 w.toNatClampNeg).toInt % 256 = 255 ∧ ((-9) : Int32).toInt = (c 179 w.toNatClampNeg).toInt % 8) from by have h9 : ((-9) : Int32).toInt = -9 := (by decide +kernel); omega)

def wm_X6_holderOf_SS : List Cond := .code yX6_holderOf cX6_holderOf 3 (some .int) :: (([.fieldLink RX6 9 "TalePlay$Scene" "cells" "[I"] : List Cond) ++ wsX60)
set_option maxHeartbeats 4000000 in
set_option maxRecDepth 100000 in
theorem x_X6_holderOf_SS (l : Launch) (D : va_G) (sz : Nat) (sk : Value) (a : Nat → Nat) (t : Nat → ClassId) (i : Nat → Int32) (q : Int64) (c : Nat → Nat → Int32) (d : Nat → Nat → Int64) (w : Int32) (hI : xInv i c) (hw : 0 ≤ w.toInt ∧ w.toInt ≤ 29) : Met l yX6_holderOf wm_X6_holderOf_SS ({ frames := 0, cells := 0, slots := 0, locals := 0 }) (va_Pc [.ref (a 178), .int w] (yA (a 186) D sz (xwP2 sk a t i q c d) (xtP2 t))) (va_Qi (fun (r : Int32) (_ : Unit) => ((r.toInt = -9 ∧ (c 179 w.toNatClampNeg).toInt % 256 = 255) ∨ (0 ≤ r.toInt ∧ r.toInt ≤ 29 ∧ ¬ (c 179 w.toNatClampNeg).toInt % 256 = 255 ∧ r.toInt = (c 179 w.toNatClampNeg).toInt / 8 % 32))) oA (ro sz)) 0 0 (ro sz) := by
  refine Met.ofW (cc := cX6_holderOf) (maxL := 3) (ret := (some .int)) (by decide +kernel) rfl ?_
  intro p e s m args below meth cd s₁ B hml hv
  obtain ⟨rfl, ⟨hsz, hP, hK⟩, hN, hZ⟩ := hv
  have hx := B.exec
  have hb := B.bytes
  have hr := B.returns
  have hts := atoms_spec (ws := wm_X6_holderOf_SS) B.pre
  have hown : s.vm.findClass RX6 = some m.cls := findClass_of_methodNamed B.named
  have hlocks := B.notSynchronized
  subst hsz
  have hA : ∀ q : Nat, s.heap.size ≤ q → ro s.heap.size q := fun _ h => h
  have hS : va_S (ro s.heap.size) s.heap s.heap [] := va_S.rf
  have hl := lv_entry ([.ref (a 178), .int w]) (n := 3) (Nat.le_of_ble_eq_true rfl)
  rw [lg_entry_eq]
  generalize (lg_sl ([.ref (a 178), .int w]) ++ List.replicate (3 - (lg_sl ([.ref (a 178), .int w])).length) Slot.unset).toArray = ls at hl ⊢
  have hl : lv_has ls 3 [(0, .ref (a 178)), (1, .int w)] := hl
  refine lv_aload_n hx hb dX6_holderOf_0 rfl (lv_at hl 0 rfl) ?_
  refine xgP2_SS_cells hx hb hts (fun _ h => List.mem_cons_of_mem _ (List.mem_append_right _ h)) hown hK hP (hts (.fieldLink RX6 9 "TalePlay$Scene" "cells" "[I") (List.mem_cons_of_mem _ (List.mem_append_left _ (List.mem_of_getElem? (i := 0) rfl)))) dX6_holderOf_1 ?_
  refine lv_iload_n hx hb dX6_holderOf_4 rfl (lv_at hl 1 rfl) ?_
  refine xlP2_179 hx hb hK hP (vp_in_iff.mpr (by have h9 : w.toInt = w.toInt := rfl; omega)) dX6_holderOf_5 (fun x1 ex1 => ?_)
  have rx1 : 0 ≤ x1.toInt ∧ x1.toInt ≤ 16383 ∧ (x1.toInt % 256 = 255 ∨ (x1.toInt % 8 ≤ 4 ∧ x1.toInt / 8 % 32 ≤ 29)) := by rw [ex1]; exact hI.2 179 _
  have gx1 : (c 179 (w : Int32).toNatClampNeg).toInt = x1.toInt := (congrArg Int32.toInt ex1).symm
  refine lv_iconst (v := 3) hx hb dX6_holderOf_6 (by decide +kernel) ?_
  refine lv_ishr hx hb dX6_holderOf_7 ?_
  refine lv_topi (fun x2 ex2 => ?_)
  have bx2 := shr3 (by omega) ex2
  refine lv_bipush (v := 31) hx hb dX6_holderOf_8 (by decide +kernel) ?_
  refine lv_iand hx hb dX6_holderOf_10 ?_
  refine lv_topi (fun x3 ex3 => ?_)
  have bx3 := and31 (by have h50 : x2.toInt = (x1.toInt / 8) := bx2; omega) ex3
  refine lv_istore_n (lv' := [(2, .int x3), (0, .ref (a 178)), (1, .int w)]) hx hb dX6_holderOf_11 rfl hl (by decide +kernel) rfl (fun ls hl => ?_)
  refine lv_iload_n hx hb dX6_holderOf_12 rfl (lv_at hl 0 rfl) ?_
  refine lv_bipush (v := 31) hx hb dX6_holderOf_13 (by decide +kernel) ?_
  refine lv_icmp_ne (tgt := 23) hx hb dX6_holderOf_15 (by decide +kernel) (fun c4 => ?_) (fun c4 => ?_)
  · have f4 := mt (ti_eq (a := (x2.toInt % 32)) (b := 31) bx3 (by decide +kernel)).mpr c4
    refine lv_iload_n hx hb dX6_holderOf_23 rfl (lv_at hl 0 rfl) ?_
    exact ro_iret hx hb hr hlocks hS dX6_holderOf_24 (show (x3.toInt = -9 ∧ (c 179 w.toNatClampNeg).toInt % 256 = 255) ∨ (0 ≤ x3.toInt ∧ x3.toInt ≤ 29 ∧ ¬ (c 179 w.toNatClampNeg).toInt % 256 = 255 ∧ x3.toInt = (c 179 w.toNatClampNeg).toInt / 8 % 32) from by have h9 : x3.toInt = (x2.toInt % 32) := bx3; omega)
  · have f4 := (ti_eq (a := (x2.toInt % 32)) (b := 31) bx3 (by decide +kernel)).mp c4
    refine lv_bipush (v := (-9)) hx hb dX6_holderOf_18 (by decide +kernel) ?_
    refine lv_goto (tgt := 24) hx hb dX6_holderOf_20 (by decide +kernel) ?_
    exact ro_iret hx hb hr hlocks hS dX6_holderOf_24 (show (((-9) : Int32).toInt = -9 ∧ (c 179 w.toNatClampNeg).toInt % 256 = 255) ∨ (0 ≤ ((-9) : Int32).toInt ∧ ((-9) : Int32).toInt ≤ 29 ∧ ¬ (c 179 w.toNatClampNeg).toInt % 256 = 255 ∧ ((-9) : Int32).toInt = (c 179 w.toNatClampNeg).toInt / 8 % 32) from by have h9 : ((-9) : Int32).toInt = -9 := (by decide +kernel); omega)

def wm_X6_lies_SS : List Cond := .code yX6_lies cX6_lies 4 (some .boolean) :: (([.fieldLink RX6 9 "TalePlay$Scene" "cells" "[I"] : List Cond) ++ wsX60)
set_option maxHeartbeats 4000000 in
set_option maxRecDepth 100000 in
theorem x_X6_lies_SS (l : Launch) (D : va_G) (sz : Nat) (sk : Value) (a : Nat → Nat) (t : Nat → ClassId) (i : Nat → Int32) (q : Int64) (c : Nat → Nat → Int32) (d : Nat → Nat → Int64) (w : Int32) (f : Int32) (w2 : Int32) (hI : xInv i c) (hw : 0 ≤ w.toInt ∧ w.toInt ≤ 29) : Met l yX6_lies wm_X6_lies_SS ({ frames := 0, cells := 0, slots := 0, locals := 0 }) (va_Pc [.ref (a 178), .int w, .int f, .int w2] (yA (a 186) D sz (xwP2 sk a t i q c d) (xtP2 t))) (va_Qi (fun (r : Int32) (_ : Unit) => (0 ≤ r.toInt ∧ r.toInt ≤ 1)) oA (ro sz)) 0 0 (ro sz) := by
  refine Met.ofW (cc := cX6_lies) (maxL := 4) (ret := (some .boolean)) (by decide +kernel) rfl ?_
  intro p e s m args below meth cd s₁ B hml hv
  obtain ⟨rfl, ⟨hsz, hP, hK⟩, hN, hZ⟩ := hv
  have hx := B.exec
  have hb := B.bytes
  have hr := B.returns
  have hts := atoms_spec (ws := wm_X6_lies_SS) B.pre
  have hown : s.vm.findClass RX6 = some m.cls := findClass_of_methodNamed B.named
  have hlocks := B.notSynchronized
  subst hsz
  have hA : ∀ q : Nat, s.heap.size ≤ q → ro s.heap.size q := fun _ h => h
  have hS : va_S (ro s.heap.size) s.heap s.heap [] := va_S.rf
  have hl := lv_entry ([.ref (a 178), .int w, .int f, .int w2]) (n := 4) (Nat.le_of_ble_eq_true rfl)
  rw [lg_entry_eq]
  generalize (lg_sl ([.ref (a 178), .int w, .int f, .int w2]) ++ List.replicate (4 - (lg_sl ([.ref (a 178), .int w, .int f, .int w2])).length) Slot.unset).toArray = ls at hl ⊢
  have hl : lv_has ls 4 [(0, .ref (a 178)), (1, .int w), (2, .int f), (3, .int w2)] := hl
  refine lv_aload_n hx hb dX6_lies_0 rfl (lv_at hl 0 rfl) ?_
  refine xgP2_SS_cells hx hb hts (fun _ h => List.mem_cons_of_mem _ (List.mem_append_right _ h)) hown hK hP (hts (.fieldLink RX6 9 "TalePlay$Scene" "cells" "[I") (List.mem_cons_of_mem _ (List.mem_append_left _ (List.mem_of_getElem? (i := 0) rfl)))) dX6_lies_1 ?_
  refine lv_iload_n hx hb dX6_lies_4 rfl (lv_at hl 1 rfl) ?_
  refine xlP2_179 hx hb hK hP (vp_in_iff.mpr (by have h9 : w.toInt = w.toInt := rfl; omega)) dX6_lies_5 (fun x1 ex1 => ?_)
  have rx1 : 0 ≤ x1.toInt ∧ x1.toInt ≤ 16383 ∧ (x1.toInt % 256 = 255 ∨ (x1.toInt % 8 ≤ 4 ∧ x1.toInt / 8 % 32 ≤ 29)) := by rw [ex1]; exact hI.2 179 _
  refine lv_sipush (v := 255) hx hb dX6_lies_6 (by decide +kernel) ?_
  refine lv_iand hx hb dX6_lies_9 ?_
  refine lv_topi (fun x2 ex2 => ?_)
  refine lv_iload_n hx hb dX6_lies_10 rfl (lv_at hl 3 rfl) ?_
  refine lv_iconst (v := 3) hx hb dX6_lies_11 (by decide +kernel) ?_
  refine lv_ishl hx hb dX6_lies_12 ?_
  refine lv_topi (fun x3 ex3 => ?_)
  refine lv_iload_n hx hb dX6_lies_13 rfl (lv_at hl 2 rfl) ?_
  refine lv_ior hx hb dX6_lies_14 ?_
  refine lv_topi (fun x4 ex4 => ?_)
  refine lv_icmp_ne (tgt := 22) hx hb dX6_lies_15 (by decide +kernel) (fun c5 => ?_) (fun c5 => ?_)
  · have f5 := mt (ti_eq (a := x2.toInt) (b := x4.toInt) rfl rfl).mpr c5
    refine lv_iconst (v := 0) hx hb dX6_lies_22 (by decide +kernel) ?_
    exact ro_zret hx hb hr hlocks hS rfl dX6_lies_23 (show 0 ≤ (0 : Int32).toInt ∧ (0 : Int32).toInt ≤ 1 from by decide +kernel)
  · have f5 := (ti_eq (a := x2.toInt) (b := x4.toInt) rfl rfl).mp c5
    refine lv_iconst (v := 1) hx hb dX6_lies_18 (by decide +kernel) ?_
    refine lv_goto (tgt := 23) hx hb dX6_lies_19 (by decide +kernel) ?_
    exact ro_zret hx hb hr hlocks hS rfl dX6_lies_23 (show 0 ≤ (1 : Int32).toInt ∧ (1 : Int32).toInt ≤ 1 from by decide +kernel)

def wm_X6_has_SS : List Cond := .code yX6_has cX6_has 3 (some .boolean) :: (([.fieldLink RX6 9 "TalePlay$Scene" "cells" "[I"] : List Cond) ++ wsX60)
set_option maxHeartbeats 4000000 in
set_option maxRecDepth 100000 in
theorem x_X6_has_SS (l : Launch) (D : va_G) (sz : Nat) (sk : Value) (a : Nat → Nat) (t : Nat → ClassId) (i : Nat → Int32) (q : Int64) (c : Nat → Nat → Int32) (d : Nat → Nat → Int64) (w : Int32) (f : Int32) (hI : xInv i c) (hw : 0 ≤ w.toInt ∧ w.toInt ≤ 29) (hf : 0 ≤ f.toInt ∧ f.toInt ≤ 5) : Met l yX6_has wm_X6_has_SS ({ frames := 0, cells := 0, slots := 0, locals := 0 }) (va_Pc [.ref (a 178), .int w, .int f] (yA (a 186) D sz (xwP2 sk a t i q c d) (xtP2 t))) (va_Qi (fun (r : Int32) (_ : Unit) => (0 ≤ r.toInt ∧ r.toInt ≤ 1)) oA (ro sz)) 0 0 (ro sz) := by
  refine Met.ofW (cc := cX6_has) (maxL := 3) (ret := (some .boolean)) (by decide +kernel) rfl ?_
  intro p e s m args below meth cd s₁ B hml hv
  obtain ⟨rfl, ⟨hsz, hP, hK⟩, hN, hZ⟩ := hv
  have hx := B.exec
  have hb := B.bytes
  have hr := B.returns
  have hts := atoms_spec (ws := wm_X6_has_SS) B.pre
  have hown : s.vm.findClass RX6 = some m.cls := findClass_of_methodNamed B.named
  have hlocks := B.notSynchronized
  subst hsz
  have hA : ∀ q : Nat, s.heap.size ≤ q → ro s.heap.size q := fun _ h => h
  have hS : va_S (ro s.heap.size) s.heap s.heap [] := va_S.rf
  have hl := lv_entry ([.ref (a 178), .int w, .int f]) (n := 3) (Nat.le_of_ble_eq_true rfl)
  rw [lg_entry_eq]
  generalize (lg_sl ([.ref (a 178), .int w, .int f]) ++ List.replicate (3 - (lg_sl ([.ref (a 178), .int w, .int f])).length) Slot.unset).toArray = ls at hl ⊢
  have hl : lv_has ls 3 [(0, .ref (a 178)), (1, .int w), (2, .int f)] := hl
  refine lv_aload_n hx hb dX6_has_0 rfl (lv_at hl 0 rfl) ?_
  refine xgP2_SS_cells hx hb hts (fun _ h => List.mem_cons_of_mem _ (List.mem_append_right _ h)) hown hK hP (hts (.fieldLink RX6 9 "TalePlay$Scene" "cells" "[I") (List.mem_cons_of_mem _ (List.mem_append_left _ (List.mem_of_getElem? (i := 0) rfl)))) dX6_has_1 ?_
  refine lv_iload_n hx hb dX6_has_4 rfl (lv_at hl 1 rfl) ?_
  refine xlP2_179 hx hb hK hP (vp_in_iff.mpr (by have h9 : w.toInt = w.toInt := rfl; omega)) dX6_has_5 (fun x1 ex1 => ?_)
  have rx1 : 0 ≤ x1.toInt ∧ x1.toInt ≤ 16383 ∧ (x1.toInt % 256 = 255 ∨ (x1.toInt % 8 ≤ 4 ∧ x1.toInt / 8 % 32 ≤ 29)) := by rw [ex1]; exact hI.2 179 _
  refine lv_bipush (v := 8) hx hb dX6_has_6 (by decide +kernel) ?_
  refine lv_iload_n hx hb dX6_has_8 rfl (lv_at hl 2 rfl) ?_
  refine lv_iadd hx hb dX6_has_9 ?_
  refine lv_topi (fun x2 ex2 => ?_)
  have tx2 := ti_add (a := 8) (b := f.toInt) ex2 (by decide +kernel) rfl (by omega) (by omega)
  refine lv_ishr hx hb dX6_has_10 ?_
  refine lv_topi (fun x3 ex3 => ?_)
  refine lv_iconst (v := 1) hx hb dX6_has_11 (by decide +kernel) ?_
  refine lv_iand hx hb dX6_has_12 ?_
  refine lv_topi (fun x4 ex4 => ?_)
  refine lv_iconst (v := 1) hx hb dX6_has_13 (by decide +kernel) ?_
  refine lv_icmp_ne (tgt := 21) hx hb dX6_has_14 (by decide +kernel) (fun c5 => ?_) (fun c5 => ?_)
  · have f5 := mt (ti_eq (a := x4.toInt) (b := 1) rfl (by decide +kernel)).mpr c5
    refine lv_iconst (v := 0) hx hb dX6_has_21 (by decide +kernel) ?_
    exact ro_zret hx hb hr hlocks hS rfl dX6_has_22 (show 0 ≤ (0 : Int32).toInt ∧ (0 : Int32).toInt ≤ 1 from by decide +kernel)
  · have f5 := (ti_eq (a := x4.toInt) (b := 1) rfl (by decide +kernel)).mp c5
    refine lv_iconst (v := 1) hx hb dX6_has_17 (by decide +kernel) ?_
    refine lv_goto (tgt := 22) hx hb dX6_has_18 (by decide +kernel) ?_
    exact ro_zret hx hb hr hlocks hS rfl dX6_has_22 (show 0 ≤ (1 : Int32).toInt ∧ (1 : Int32).toInt ≤ 1 from by decide +kernel)

def wm_X6_isUp_SS : List Cond := .code yX6_isUp cX6_isUp 5 (some .boolean) :: (([.methodLink RX6 25 yX6_holderOf, .instanceMethod yX6_holderOf, .selects RX6 yX6_holderOf yX6_holderOf, .initialized RX6, .code yX6_holderOf cX6_holderOf 3 (some .int), .fieldLink RX6 9 "TalePlay$Scene" "cells" "[I"] : List Cond) ++ wsX60)
set_option maxRecDepth 20000 in
theorem gm_X6_isUp_SS_X6_holderOf_SS_25 : GoodIn wm_X6_isUp_SS (wsV RX6 25 RX6 yX6_holderOf wm_X6_holderOf_SS) := goodIn_w (List.forall_mem_append.mpr ⟨List.forall_mem_cons.mpr ⟨List.mem_cons_of_mem _ (List.mem_append_left _ (List.mem_of_getElem? (i := 0) rfl)), List.forall_mem_cons.mpr ⟨List.mem_cons_of_mem _ (List.mem_append_left _ (List.mem_of_getElem? (i := 1) rfl)), List.forall_mem_cons.mpr ⟨List.mem_cons_of_mem _ (List.mem_append_left _ (List.mem_of_getElem? (i := 2) rfl)), List.forall_mem_cons.mpr ⟨List.mem_cons_of_mem _ (List.mem_append_left _ (List.mem_of_getElem? (i := 3) rfl)), (fun _ h => absurd h List.not_mem_nil)⟩⟩⟩⟩, List.forall_mem_cons.mpr ⟨List.mem_cons_of_mem _ (List.mem_append_left _ (List.mem_of_getElem? (i := 4) rfl)), List.forall_mem_append.mpr ⟨List.forall_mem_cons.mpr ⟨List.mem_cons_of_mem _ (List.mem_append_left _ (List.mem_of_getElem? (i := 5) rfl)), (fun _ h => absurd h List.not_mem_nil)⟩, (fun _ h => List.mem_cons_of_mem _ (List.mem_append_right _ h))⟩⟩⟩) (by decide +kernel)
set_option maxHeartbeats 4000000 in
set_option maxRecDepth 100000 in
theorem x_X6_isUp_SS (l : Launch) (D : va_G) (sz : Nat) (sk : Value) (a : Nat → Nat) (t : Nat → ClassId) (i : Nat → Int32) (q : Int64) (c : Nat → Nat → Int32) (d : Nat → Nat → Int64) (w1 : Int32) (w2 : Int32) (hI : xInv i c) (hw2 : 0 ≤ w2.toInt ∧ w2.toInt ≤ 29) : Met l yX6_isUp wm_X6_isUp_SS ({ frames := 1, cells := 0, slots := 0, locals := 22 }) (va_Pc [.ref (a 178), .int w1, .int w2] (yA (a 186) D sz (xwP2 sk a t i q c d) (xtP2 t))) (va_Qi (fun (r : Int32) (_ : Unit) => (0 ≤ r.toInt ∧ r.toInt ≤ 1)) oA (ro sz)) 0 0 (ro sz) := by
  refine Met.ofW (cc := cX6_isUp) (maxL := 5) (ret := (some .boolean)) (by decide +kernel) rfl ?_
  intro p e s m args below meth cd s₁ B hml hv
  obtain ⟨rfl, ⟨hsz, hP, hK⟩, hN, hZ⟩ := hv
  have hx := B.exec
  have hb := B.bytes
  have hr := B.returns
  have hts := atoms_spec (ws := wm_X6_isUp_SS) B.pre
  have hown : s.vm.findClass RX6 = some m.cls := findClass_of_methodNamed B.named
  have hlocks := B.notSynchronized
  subst hsz
  have hA : ∀ q : Nat, s.heap.size ≤ q → ro s.heap.size q := fun _ h => h
  have hS : va_S (ro s.heap.size) s.heap s.heap [] := va_S.rf
  have hl := lv_entry ([.ref (a 178), .int w1, .int w2]) (n := 5) (Nat.le_of_ble_eq_true rfl)
  rw [lg_entry_eq]
  generalize (lg_sl ([.ref (a 178), .int w1, .int w2]) ++ List.replicate (5 - (lg_sl ([.ref (a 178), .int w1, .int w2])).length) Slot.unset).toArray = ls at hl ⊢
  have hl : lv_has ls 5 [(0, .ref (a 178)), (1, .int w1), (2, .int w2)] := hl
  refine lv_aload_n hx hb dX6_isUp_0 rfl (lv_at hl 0 rfl) ?_
  refine lv_iload_n hx hb dX6_isUp_1 rfl (lv_at hl 2 rfl) ?_
  refine ro_calli (va_runV (As := [.int w2]) (rest := []) ⟨hx, hb, hml, hown, hts⟩ (x_X6_holderOf_SS l D s.heap.size .null a t i q c d w2 hI (show 0 ≤ w2.toInt ∧ w2.toInt ≤ 29 from by omega)) (cwV 1 hts gm_X6_isUp_SS_X6_holderOf_SS_25 rfl rfl rfl (by decide +kernel) ⟨Nat.le_of_ble_eq_true rfl, Nat.le_of_ble_eq_true rfl⟩) (yA_V hN (xZ_k hZ hS hA) hK hP (ci := 6) (q0 := 0) rfl rfl) rfl rfl hl.1 rfl (lv_room (Nat.le_of_ble_eq_true rfl)) dX6_isUp_2 ⟨Nat.le_of_ble_eq_true rfl, Nat.le_of_ble_eq_true rfl⟩) hS hA hP (fun r1 u1 H locs hw1 hP hS => ?_)
  have hw1 : ((r1.toInt = -9 ∧ (c 179 w2.toNatClampNeg).toInt % 256 = 255) ∨ (0 ≤ r1.toInt ∧ r1.toInt ≤ 29 ∧ ¬ (c 179 w2.toNatClampNeg).toInt % 256 = 255 ∧ r1.toInt = (c 179 w2.toNatClampNeg).toInt / 8 % 32)) := hw1
  refine lv_istore_n (lv' := [(3, .int r1), (0, .ref (a 178)), (1, .int w1), (2, .int w2)]) hx hb dX6_isUp_5 rfl hl (by decide +kernel) rfl (fun ls hl => ?_)
  refine lv_iconst (v := 0) hx hb dX6_isUp_6 (by decide +kernel) ?_
  refine lv_istore (lv' := [(4, .int 0), (3, .int r1), (0, .ref (a 178)), (1, .int w1), (2, .int w2)]) hx hb dX6_isUp_7 hl (by decide +kernel) rfl (fun ls hl => ?_)
  have lp2 : ∀ (fu : Nat) (y2_4 : Int32) (y2_3 : Int32), (0 ≤ y2_4.toInt ∧ y2_4.toInt ≤ 30) → (y2_3.toInt = -9 ∨ (0 ≤ y2_3.toInt ∧ y2_3.toInt ≤ 29)) → (30 - y2_4.toInt).toNat < fu → ∀ (H : Heap) (locs : List Loc) (ls : Array Slot), va_P D vwCl (xwP2 sk a t i q c d) H → va_S (ro s.heap.size) s.heap H locs → lv_has ls 5 [(4, .int y2_4), (3, .int y2_3), (0, .ref (a 178)), (1, .int w1), (2, .int w2)] → W p l e (headSpec wm_X6_isUp_SS ({ frames := 1, cells := 0, slots := 0, locals := 22 })).room s m ([.ref (a 178), .int w1, .int w2] : List Value).toArray below meth cd H locs 0 0 (MQ below (va_Qi (fun (r : Int32) (_ : Unit) => (0 ≤ r.toInt ∧ r.toInt ≤ 1)) oA (ro s.heap.size)) ([.ref (a 178), .int w1, .int w2] : List Value).toArray s 0 0 (ro s.heap.size)) (F0 m 9 ls []) := by
    intro fu
    induction fu with
    | zero => intro y2_4 y2_3 hy2_4 hy2_3 hm; exact absurd hm (Nat.not_lt_zero _)
    | succ fu ih =>
      intro y2_4 y2_3 hy2_4 hy2_3 hm H locs ls hP hS hl
      have ih2 := ih
      refine lv_iload hx hb dX6_isUp_9 (lv_at hl 0 rfl) ?_
      refine lv_bipush (v := 30) hx hb dX6_isUp_11 (by decide +kernel) ?_
      refine lv_icmp_ge (tgt := 41) hx hb dX6_isUp_13 (by decide +kernel) (fun c3 => ?_) (fun c3 => ?_)
      · have f3 := (ti_le (a := 30) (b := y2_4.toInt) (by decide +kernel) rfl).mp c3
        refine lv_iconst (v := 0) hx hb dX6_isUp_41 (by decide +kernel) ?_
        exact ro_zret hx hb hr hlocks hS rfl dX6_isUp_42 (show 0 ≤ (0 : Int32).toInt ∧ (0 : Int32).toInt ≤ 1 from by decide +kernel)
      · have f3 := mt (ti_le (a := 30) (b := y2_4.toInt) (by decide +kernel) rfl).mpr c3
        refine lv_iload_n hx hb dX6_isUp_16 rfl (lv_at hl 1 rfl) ?_
        refine lv_bipush (v := (-9)) hx hb dX6_isUp_17 (by decide +kernel) ?_
        refine lv_icmp_eq (tgt := 41) hx hb dX6_isUp_19 (by decide +kernel) (fun c4 => ?_) (fun c4 => ?_)
        · have f4 := (ti_eq (a := y2_3.toInt) (b := (-9)) rfl (by decide +kernel)).mp c4
          refine lv_iconst (v := 0) hx hb dX6_isUp_41 (by decide +kernel) ?_
          exact ro_zret hx hb hr hlocks hS rfl dX6_isUp_42 (show 0 ≤ (0 : Int32).toInt ∧ (0 : Int32).toInt ≤ 1 from by decide +kernel)
        · have f4 := mt (ti_eq (a := y2_3.toInt) (b := (-9)) rfl (by decide +kernel)).mpr c4
          refine lv_iload_n hx hb dX6_isUp_22 rfl (lv_at hl 1 rfl) ?_
          refine lv_iload_n hx hb dX6_isUp_23 rfl (lv_at hl 3 rfl) ?_
          refine lv_icmp_ne (tgt := 29) hx hb dX6_isUp_24 (by decide +kernel) (fun c5 => ?_) (fun c5 => ?_)
          · have f5 := mt (ti_eq (a := y2_3.toInt) (b := w1.toInt) rfl rfl).mpr c5
            refine lv_aload_n hx hb dX6_isUp_29 rfl (lv_at hl 2 rfl) ?_
            refine lv_iload_n hx hb dX6_isUp_30 rfl (lv_at hl 1 rfl) ?_
            refine ro_calli (va_runV (As := [.int y2_3]) (rest := []) ⟨hx, hb, hml, hown, hts⟩ (x_X6_holderOf_SS l D H.size .null a t i q c d y2_3 hI (show 0 ≤ y2_3.toInt ∧ y2_3.toInt ≤ 29 from by omega)) (cwV 1 hts gm_X6_isUp_SS_X6_holderOf_SS_25 rfl rfl rfl (by decide +kernel) ⟨Nat.le_of_ble_eq_true rfl, Nat.le_of_ble_eq_true rfl⟩) (yA_V hN (xZ_k hZ hS hA) hK hP (ci := 6) (q0 := 0) rfl rfl) rfl rfl hl.1 rfl (lv_room (Nat.le_of_ble_eq_true rfl)) dX6_isUp_31 ⟨Nat.le_of_ble_eq_true rfl, Nat.le_of_ble_eq_true rfl⟩) hS hA hP (fun r6 u6 H locs hw6 hP hS => ?_)
            have hw6 : ((r6.toInt = -9 ∧ (c 179 y2_3.toNatClampNeg).toInt % 256 = 255) ∨ (0 ≤ r6.toInt ∧ r6.toInt ≤ 29 ∧ ¬ (c 179 y2_3.toNatClampNeg).toInt % 256 = 255 ∧ r6.toInt = (c 179 y2_3.toNatClampNeg).toInt / 8 % 32)) := hw6
            refine lv_istore_n (lv' := [(3, .int r6), (4, .int y2_4), (0, .ref (a 178)), (1, .int w1), (2, .int w2)]) hx hb dX6_isUp_34 rfl hl (by decide +kernel) rfl (fun ls hl => ?_)
            obtain ⟨x7, ex7⟩ : ∃ y : Int32, y = y2_4 + 1 := ⟨_, rfl⟩
            have tx7 := ti_add (a := y2_4.toInt) (b := 1) ex7 rfl (by decide +kernel) (by omega) (by omega)
            refine lv_iinc (v := x7) (lv' := [(4, .int x7), (3, .int r6), (0, .ref (a 178)), (1, .int w1), (2, .int w2)]) hx hb dX6_isUp_35 hl (k := 1) rfl (by rw [ex7]; rfl) (by decide +kernel) rfl (fun ls hl => ?_)
            refine lv_goto (tgt := 9) hx hb dX6_isUp_38 (by decide +kernel) ?_
            exact ih2 x7 r6 (show 0 ≤ x7.toInt ∧ x7.toInt ≤ 30 from by have h50 : x7.toInt = (y2_4.toInt + 1) := tx7; omega) (show r6.toInt = -9 ∨ (0 ≤ r6.toInt ∧ r6.toInt ≤ 29) from by have h50 : x7.toInt = (y2_4.toInt + 1) := tx7; omega) (by have h50 : x7.toInt = (y2_4.toInt + 1) := tx7; omega) _ _ _ hP hS (lv_sub hl [0, 1, 2, 3, 4] rfl)
          · have f5 := (ti_eq (a := y2_3.toInt) (b := w1.toInt) rfl rfl).mp c5
            refine lv_iconst (v := 1) hx hb dX6_isUp_27 (by decide +kernel) ?_
            exact ro_zret hx hb hr hlocks hS rfl dX6_isUp_28 (show 0 ≤ (1 : Int32).toInt ∧ (1 : Int32).toInt ≤ 1 from by decide +kernel)
  exact lp2 _ (0 : Int32) r1 (show 0 ≤ (0 : Int32).toInt ∧ (0 : Int32).toInt ≤ 30 from by decide +kernel) (show r1.toInt = -9 ∨ (0 ≤ r1.toInt ∧ r1.toInt ≤ 29) from by have h50 : (0 : Int32).toInt = 0 := (by decide +kernel); omega) (Nat.lt_succ_self _) _ _ _ hP hS (lv_sub hl [0, 1, 2, 3, 4] rfl)

def wm_X6_countOf_SS : List Cond := .code yX6_countOf cX6_countOf 5 (some .int) :: (([.fieldLink RX6 15 "TalePlay$Scene" "world" "LTalePlay$World;", .fieldLink RX6 34 "TalePlay$World" "objects" "I", .methodLink RX6 38 yX6_lies, .instanceMethod yX6_lies, .selects RX6 yX6_lies yX6_lies, .initialized RX6, .code yX6_lies cX6_lies 4 (some .boolean), .fieldLink RX6 9 "TalePlay$Scene" "cells" "[I"] : List Cond) ++ wsX60 ++ wsX100)
set_option maxRecDepth 20000 in
theorem gm_X6_countOf_SS_X6_lies_SS_38 : GoodIn wm_X6_countOf_SS (wsV RX6 38 RX6 yX6_lies wm_X6_lies_SS) := goodIn_w (List.forall_mem_append.mpr ⟨List.forall_mem_cons.mpr ⟨List.mem_cons_of_mem _ (List.mem_append_left _ (List.mem_append_left _ (List.mem_of_getElem? (i := 2) rfl))), List.forall_mem_cons.mpr ⟨List.mem_cons_of_mem _ (List.mem_append_left _ (List.mem_append_left _ (List.mem_of_getElem? (i := 3) rfl))), List.forall_mem_cons.mpr ⟨List.mem_cons_of_mem _ (List.mem_append_left _ (List.mem_append_left _ (List.mem_of_getElem? (i := 4) rfl))), List.forall_mem_cons.mpr ⟨List.mem_cons_of_mem _ (List.mem_append_left _ (List.mem_append_left _ (List.mem_of_getElem? (i := 5) rfl))), (fun _ h => absurd h List.not_mem_nil)⟩⟩⟩⟩, List.forall_mem_cons.mpr ⟨List.mem_cons_of_mem _ (List.mem_append_left _ (List.mem_append_left _ (List.mem_of_getElem? (i := 6) rfl))), List.forall_mem_append.mpr ⟨List.forall_mem_cons.mpr ⟨List.mem_cons_of_mem _ (List.mem_append_left _ (List.mem_append_left _ (List.mem_of_getElem? (i := 7) rfl))), (fun _ h => absurd h List.not_mem_nil)⟩, (fun _ h => List.mem_cons_of_mem _ (List.mem_append_left _ (List.mem_append_right _ h)))⟩⟩⟩) (by decide +kernel)
set_option maxHeartbeats 4000000 in
set_option maxRecDepth 100000 in
theorem x_X6_countOf_SS (l : Launch) (D : va_G) (sz : Nat) (sk : Value) (a : Nat → Nat) (t : Nat → ClassId) (i : Nat → Int32) (q : Int64) (c : Nat → Nat → Int32) (d : Nat → Nat → Int64) (f : Int32) (w : Int32) (hI : xInv i c) : Met l yX6_countOf wm_X6_countOf_SS ({ frames := 1, cells := 0, slots := 0, locals := 23 }) (va_Pc [.ref (a 178), .int f, .int w] (yA (a 186) D sz (xwQ2 sk a t i q c d) (xtQ2 t))) (va_Qi (fun (r : Int32) (_ : Unit) => (0 ≤ r.toInt ∧ r.toInt ≤ 30)) oA (ro sz)) 0 0 (ro sz) := by
  refine Met.ofW (cc := cX6_countOf) (maxL := 5) (ret := (some .int)) (by decide +kernel) rfl ?_
  intro p e s m args below meth cd s₁ B hml hv
  obtain ⟨rfl, ⟨hsz, hP, hK⟩, hN, hZ⟩ := hv
  have hx := B.exec
  have hb := B.bytes
  have hr := B.returns
  have hts := atoms_spec (ws := wm_X6_countOf_SS) B.pre
  have hown : s.vm.findClass RX6 = some m.cls := findClass_of_methodNamed B.named
  have hlocks := B.notSynchronized
  subst hsz
  have hA : ∀ q : Nat, s.heap.size ≤ q → ro s.heap.size q := fun _ h => h
  have hS : va_S (ro s.heap.size) s.heap s.heap [] := va_S.rf
  have hl := lv_entry ([.ref (a 178), .int f, .int w]) (n := 5) (Nat.le_of_ble_eq_true rfl)
  rw [lg_entry_eq]
  generalize (lg_sl ([.ref (a 178), .int f, .int w]) ++ List.replicate (5 - (lg_sl ([.ref (a 178), .int f, .int w])).length) Slot.unset).toArray = ls at hl ⊢
  have hl : lv_has ls 5 [(0, .ref (a 178)), (1, .int f), (2, .int w)] := hl
  refine lv_iconst (v := 0) hx hb dX6_countOf_0 (by decide +kernel) ?_
  refine lv_istore_n (lv' := [(3, .int 0), (0, .ref (a 178)), (1, .int f), (2, .int w)]) hx hb dX6_countOf_1 rfl hl (by decide +kernel) rfl (fun ls hl => ?_)
  refine lv_iconst (v := 0) hx hb dX6_countOf_2 (by decide +kernel) ?_
  refine lv_istore (lv' := [(4, .int 0), (3, .int 0), (0, .ref (a 178)), (1, .int f), (2, .int w)]) hx hb dX6_countOf_3 hl (by decide +kernel) rfl (fun ls hl => ?_)
  have lp1 : ∀ (fu : Nat) (y1_4 : Int32) (y1_3 : Int32), (0 ≤ y1_4.toInt ∧ y1_4.toInt ≤ 30) → (0 ≤ y1_3.toInt ∧ y1_3.toInt ≤ y1_4.toInt) → (30 - y1_4.toInt).toNat < fu → ∀ (H : Heap) (locs : List Loc) (ls : Array Slot), va_P D vwCl (xwQ2 sk a t i q c d) H → va_S (ro s.heap.size) s.heap H locs → lv_has ls 5 [(4, .int y1_4), (3, .int y1_3), (0, .ref (a 178)), (1, .int f), (2, .int w)] → W p l e (headSpec wm_X6_countOf_SS ({ frames := 1, cells := 0, slots := 0, locals := 23 })).room s m ([.ref (a 178), .int f, .int w] : List Value).toArray below meth cd H locs 0 0 (MQ below (va_Qi (fun (r : Int32) (_ : Unit) => (0 ≤ r.toInt ∧ r.toInt ≤ 30)) oA (ro s.heap.size)) ([.ref (a 178), .int f, .int w] : List Value).toArray s 0 0 (ro s.heap.size)) (F0 m 5 ls []) := by
    intro fu
    induction fu with
    | zero => intro y1_4 y1_3 hy1_4 hy1_3 hm; exact absurd hm (Nat.not_lt_zero _)
    | succ fu ih =>
      intro y1_4 y1_3 hy1_4 hy1_3 hm H locs ls hP hS hl
      have ih1 := ih
      refine lv_iload hx hb dX6_countOf_5 (lv_at hl 0 rfl) ?_
      refine lv_aload_n hx hb dX6_countOf_7 rfl (lv_at hl 2 rfl) ?_
      refine xgQ2_SS_world hx hb hts (fun _ h => List.mem_cons_of_mem _ (List.mem_append_left _ (List.mem_append_right _ h))) hown hK hP (hts (.fieldLink RX6 15 "TalePlay$Scene" "world" "LTalePlay$World;") (List.mem_cons_of_mem _ (List.mem_append_left _ (List.mem_append_left _ (List.mem_of_getElem? (i := 0) rfl))))) dX6_countOf_8 ?_
      refine xgQ2_W_objects (v := (i 111)) rfl hx hb hts (fun _ h => List.mem_cons_of_mem _ (List.mem_append_right _ h)) hown hK hP (hts (.fieldLink RX6 34 "TalePlay$World" "objects" "I") (List.mem_cons_of_mem _ (List.mem_append_left _ (List.mem_append_left _ (List.mem_of_getElem? (i := 1) rfl))))) dX6_countOf_11 ?_
      have rb111_i : 0 ≤ (i 111).toInt ∧ (i 111).toInt ≤ 30 := hI.1 111
      refine lv_icmp_ge (tgt := 37) hx hb dX6_countOf_14 (by decide +kernel) (fun c2 => ?_) (fun c2 => ?_)
      · have f2 := (ti_le (a := (i 111).toInt) (b := y1_4.toInt) rfl rfl).mp c2
        refine lv_iload_n hx hb dX6_countOf_37 rfl (lv_at hl 1 rfl) ?_
        exact ro_iret hx hb hr hlocks hS dX6_countOf_38 (show 0 ≤ y1_3.toInt ∧ y1_3.toInt ≤ 30 from by omega)
      · have f2 := mt (ti_le (a := (i 111).toInt) (b := y1_4.toInt) rfl rfl).mpr c2
        refine lv_aload_n hx hb dX6_countOf_17 rfl (lv_at hl 2 rfl) ?_
        refine lv_iload hx hb dX6_countOf_18 (lv_at hl 0 rfl) ?_
        refine lv_iload_n hx hb dX6_countOf_20 rfl (lv_at hl 3 rfl) ?_
        refine lv_iload_n hx hb dX6_countOf_21 rfl (lv_at hl 4 rfl) ?_
        refine ro_calli (va_runV (As := [.int y1_4, .int f, .int w]) (rest := []) ⟨hx, hb, hml, hown, hts⟩ (x_X6_lies_SS l D H.size .null a t i q c d y1_4 f w hI (show 0 ≤ y1_4.toInt ∧ y1_4.toInt ≤ 29 from by omega)) (cwV 3 hts gm_X6_countOf_SS_X6_lies_SS_38 rfl rfl rfl (by decide +kernel) ⟨Nat.le_of_ble_eq_true rfl, Nat.le_of_ble_eq_true rfl⟩) (yA_V hN (xZ_k hZ hS hA) (xkQ2_P2 hK) (xuQ2_P2 (sk := sk) hP) (ci := 6) (q0 := 0) rfl rfl) rfl rfl hl.1 rfl (lv_room (Nat.le_of_ble_eq_true rfl)) dX6_countOf_22 ⟨Nat.le_of_ble_eq_true rfl, Nat.le_of_ble_eq_true rfl⟩) hS hA hP (fun r3 u3 H locs hw3 hP hS => ?_)
        have hw3 : (0 ≤ r3.toInt ∧ r3.toInt ≤ 1) := hw3
        have jn4 : ∀ (y4_3 : Int32), (0 ≤ y4_3.toInt ∧ y4_3.toInt ≤ y1_4.toInt + 1) → ∀ (H : Heap) (locs : List Loc) (ls : Array Slot), va_P D vwCl (xwQ2 sk a t i q c d) H → va_S (ro s.heap.size) s.heap H locs → lv_has ls 5 [(4, .int y1_4), (0, .ref (a 178)), (1, .int f), (2, .int w), (3, .int y4_3)] → W p l e (headSpec wm_X6_countOf_SS ({ frames := 1, cells := 0, slots := 0, locals := 23 })).room s m ([.ref (a 178), .int f, .int w] : List Value).toArray below meth cd H locs 0 0 (MQ below (va_Qi (fun (r : Int32) (_ : Unit) => (0 ≤ r.toInt ∧ r.toInt ≤ 30)) oA (ro s.heap.size)) ([.ref (a 178), .int f, .int w] : List Value).toArray s 0 0 (ro s.heap.size)) (F0 m 31 ls []) := by
          intro y4_3 hy4_3 H locs ls hP hS hl
          obtain ⟨x5, ex5⟩ : ∃ y : Int32, y = y1_4 + 1 := ⟨_, rfl⟩
          have tx5 := ti_add (a := y1_4.toInt) (b := 1) ex5 rfl (by decide +kernel) (by omega) (by omega)
          refine lv_iinc (v := x5) (lv' := [(4, .int x5), (0, .ref (a 178)), (1, .int f), (2, .int w), (3, .int y4_3)]) hx hb dX6_countOf_31 hl (k := 0) rfl (by rw [ex5]; rfl) (by decide +kernel) rfl (fun ls hl => ?_)
          refine lv_goto (tgt := 5) hx hb dX6_countOf_34 (by decide +kernel) ?_
          exact ih1 x5 y4_3 (show 0 ≤ x5.toInt ∧ x5.toInt ≤ 30 from by have h50 : x5.toInt = (y1_4.toInt + 1) := tx5; omega) (show 0 ≤ y4_3.toInt ∧ y4_3.toInt ≤ x5.toInt from by have h50 : x5.toInt = (y1_4.toInt + 1) := tx5; omega) (by have h50 : x5.toInt = (y1_4.toInt + 1) := tx5; omega) _ _ _ hP hS (lv_sub hl [0, 4, 1, 2, 3] rfl)
        refine lv_if_eq (tgt := 31) hx hb dX6_countOf_25 (by decide +kernel) (fun c6 => ?_) (fun c6 => ?_)
        · have f6 := (ti_eq (a := r3.toInt) (b := 0) rfl (by decide +kernel)).mp c6
          exact jn4 y1_3  (show 0 ≤ y1_3.toInt ∧ y1_3.toInt ≤ y1_4.toInt + 1 from by omega) _ _ _ hP hS (lv_sub hl [0, 2, 3, 4, 1] rfl)
        · have f6 := mt (ti_eq (a := r3.toInt) (b := 0) rfl (by decide +kernel)).mpr c6
          obtain ⟨x7, ex7⟩ : ∃ y : Int32, y = y1_3 + 1 := ⟨_, rfl⟩
          have tx7 := ti_add (a := y1_3.toInt) (b := 1) ex7 rfl (by decide +kernel) (by omega) (by omega)
          refine lv_iinc (v := x7) (lv' := [(3, .int x7), (4, .int y1_4), (0, .ref (a 178)), (1, .int f), (2, .int w)]) hx hb dX6_countOf_28 hl (k := 1) rfl (by rw [ex7]; rfl) (by decide +kernel) rfl (fun ls hl => ?_)
          exact jn4 x7  (show 0 ≤ x7.toInt ∧ x7.toInt ≤ y1_4.toInt + 1 from by have h50 : x7.toInt = (y1_3.toInt + 1) := tx7; omega) _ _ _ hP hS (lv_sub hl [1, 2, 3, 4, 0] rfl)
  exact lp1 _ (0 : Int32) (0 : Int32) (show 0 ≤ (0 : Int32).toInt ∧ (0 : Int32).toInt ≤ 30 from by decide +kernel) (show 0 ≤ (0 : Int32).toInt ∧ (0 : Int32).toInt ≤ (0 : Int32).toInt from by decide +kernel) (Nat.lt_succ_self _) _ _ _ hP hS (lv_sub hl [0, 1, 2, 3, 4] rfl)

