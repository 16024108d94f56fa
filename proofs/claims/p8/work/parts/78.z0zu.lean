def wm_X6_lies_eBP : List Cond := .code yX6_lies cX6_lies 4 (some .boolean) :: (([.fieldLink RX6 9 "TalePlay$Scene" "cells" "[I"] : List Cond) ++ wsX60)
set_option maxHeartbeats 4000000 in
set_option maxRecDepth 100000 in
theorem x_X6_lies_eBP (l : Launch) (D : va_G) (sz : Nat) (sk : Value) (a : Nat → Nat) (t : Nat → ClassId) (i : Nat → Int32) (q : Int64) (c : Nat → Nat → Int32) (d : Nat → Nat → Int64) (w : Int32) (f : Int32) (w2 : Int32) (hI : xInv i c) (hw : 0 ≤ w.toInt ∧ w.toInt ≤ 29) (hf : 0 ≤ f.toInt ∧ f.toInt ≤ 7) (hw2 : 0 ≤ w2.toInt ∧ w2.toInt ≤ 31) : Met l yX6_lies wm_X6_lies_eBP ({ frames := 0, cells := 0, slots := 0, locals := 0 }) (va_Pc [.ref (a 126), .int w, .int f, .int w2] (yA (a 186) D sz (xwP0 sk a t i q c d) (xtP0 t))) (va_Qi (fun (r : Int32) (_ : Unit) => ((0 ≤ r.toInt ∧ r.toInt ≤ 1) ∧ (Sm r ((c 127 w.toInt.toNat).toInt % 256 = w2.toInt * 8 + f.toInt)))) oA (ro sz)) 0 0 (ro sz) := by
  refine Met.ofW (cc := cX6_lies) (maxL := 4) (ret := (some .boolean)) (by decide +kernel) rfl ?_
  intro p e s m args below meth cd s₁ B hml hv
  obtain ⟨rfl, ⟨hsz, hP, hK⟩, hN, hZ⟩ := hv
  have hx := B.exec
  have hb := B.bytes
  have hr := B.returns
  have hts := atoms_spec (ws := wm_X6_lies_eBP) B.pre
  have hown : s.vm.findClass RX6 = some m.cls := findClass_of_methodNamed B.named
  have hlocks := B.notSynchronized
  subst hsz
  have hA : ∀ q : Nat, s.heap.size ≤ q → ro s.heap.size q := fun _ h => h
  have hS : va_S (ro s.heap.size) s.heap s.heap [] := va_S.rf
  have hl := lv_entry ([.ref (a 126), .int w, .int f, .int w2]) (n := 4) (Nat.le_of_ble_eq_true rfl)
  rw [lg_entry_eq]
  generalize (lg_sl ([.ref (a 126), .int w, .int f, .int w2]) ++ List.replicate (4 - (lg_sl ([.ref (a 126), .int w, .int f, .int w2])).length) Slot.unset).toArray = ls at hl ⊢
  have hl : lv_has ls 4 [(0, .ref (a 126)), (1, .int w), (2, .int f), (3, .int w2)] := hl
  refine lv_aload_n hx hb dX6_lies_0 rfl (lv_at hl 0 rfl) ?_
  refine xgP0_BP_cells hx hb hts (fun _ h => List.mem_cons_of_mem _ (List.mem_append_right _ h)) hown hK hP (hts (.fieldLink RX6 9 "TalePlay$Scene" "cells" "[I") (List.mem_cons_of_mem _ (List.mem_append_left _ (List.mem_of_getElem? (i := 0) rfl)))) dX6_lies_1 ?_
  refine lv_iload_n hx hb dX6_lies_4 rfl (lv_at hl 1 rfl) ?_
  refine xlP0_127 hx hb hK hP (vp_in_iff.mpr (by have h9 : w.toInt = w.toInt := rfl; omega)) dX6_lies_5 (fun x1 ex1 => ?_)
  have rx1 : 0 ≤ x1.toInt ∧ x1.toInt ≤ 16383 ∧ (x1.toInt % 256 = 255 ∨ (x1.toInt % 8 ≤ 4 ∧ x1.toInt / 8 % 32 ≤ 29)) := by rw [ex1]; exact hI.2 127 _
  have gx1 : (c 127 (w : Int32).toNatClampNeg).toInt = x1.toInt := (congrArg Int32.toInt ex1).symm
  refine lv_sipush (v := 255) hx hb dX6_lies_6 (by decide +kernel) ?_
  refine lv_iand hx hb dX6_lies_9 ?_
  refine lv_topi (fun x2 ex2 => ?_)
  have bx2 := and255 (by omega) ex2
  refine lv_iload_n hx hb dX6_lies_10 rfl (lv_at hl 3 rfl) ?_
  refine lv_iconst (v := 3) hx hb dX6_lies_11 (by decide +kernel) ?_
  refine lv_ishl hx hb dX6_lies_12 ?_
  refine lv_topi (fun x3 ex3 => ?_)
  refine lv_iload_n hx hb dX6_lies_13 rfl (lv_at hl 2 rfl) ?_
  refine lv_ior hx hb dX6_lies_14 ?_
  refine lv_topi (fun x4 ex4 => ?_)
  have bx4 := lies_c (h := w2) (f := f) (by omega) (by omega) ex3 ex4
  refine lv_icmp_ne (tgt := 22) hx hb dX6_lies_15 (by decide +kernel) (fun c5 => ?_) (fun c5 => ?_)
  · have f5 := mt (ti_eq (a := (x1.toInt % 256)) (b := (w2.toInt * 8 + f.toInt)) bx2 bx4).mpr c5
    refine lv_iconst (v := 0) hx hb dX6_lies_22 (by decide +kernel) ?_
    exact ro_zret hx hb hr hlocks hS rfl dX6_lies_23 ⟨(show 0 ≤ (0 : Int32).toInt ∧ (0 : Int32).toInt ≤ 1 from by decide +kernel), (show Sm (0 : Int32) ((c 127 w.toInt.toNat).toInt % 256 = w2.toInt * 8 + f.toInt) from sm_0 (by have h9 : (c 127 w.toInt.toNat).toInt = x1.toInt := gx1; omega))⟩
  · have f5 := (ti_eq (a := (x1.toInt % 256)) (b := (w2.toInt * 8 + f.toInt)) bx2 bx4).mp c5
    refine lv_iconst (v := 1) hx hb dX6_lies_18 (by decide +kernel) ?_
    refine lv_goto (tgt := 23) hx hb dX6_lies_19 (by decide +kernel) ?_
    exact ro_zret hx hb hr hlocks hS rfl dX6_lies_23 ⟨(show 0 ≤ (1 : Int32).toInt ∧ (1 : Int32).toInt ≤ 1 from by decide +kernel), (show Sm (1 : Int32) ((c 127 w.toInt.toNat).toInt % 256 = w2.toInt * 8 + f.toInt) from sm_1 (by have h9 : (c 127 w.toInt.toNat).toInt = x1.toInt := gx1; omega))⟩

