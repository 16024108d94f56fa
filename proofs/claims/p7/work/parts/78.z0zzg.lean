def wm_X4_hasRun_eQ : List Cond := .code yX4_hasRun cX4_hasRun 4 (some .boolean) :: (([.fieldLink RX4 15 "TalePlay$Lines" "lengths" "[I"] : List Cond) ++ wsX40)
set_option maxHeartbeats 4000000 in
set_option maxRecDepth 100000 in
theorem x_X4_hasRun_eQ (l : Launch) (D : va_G) (sz : Nat) (sk : Value) (a : Nat → Nat) (t : Nat → ClassId) (i : Nat → Int32) (q : Int64) (c : Nat → Nat → Int32) (d : Nat → Nat → Int64) (w : Int32) (f : Int32) (n1 : Int32) (hI : xInv i c) (hw : 0 ≤ w.toInt ∧ w.toInt ≤ 29) : Met l yX4_hasRun wm_X4_hasRun_eQ ({ frames := 0, cells := 0, slots := 0, locals := 0 }) (va_Pc [.ref (a 157), .int w, .int f, .int n1] (yA (a 186) D sz (xwT sk a t i q c d) (xtT t))) (va_Qi (fun (r : Int32) (_ : Unit) => ((r.toInt = 1 ∧ 0 ≤ f.toInt ∧ 0 ≤ n1.toInt ∧ f.toInt + n1.toInt ≤ (c 159 w.toNatClampNeg).toInt ∧ (c 159 w.toNatClampNeg).toInt ≤ 12) ∨ (r.toInt = 0 ∧ ¬ (0 ≤ f.toInt ∧ 0 ≤ n1.toInt ∧ f.toInt + n1.toInt ≤ (c 159 w.toNatClampNeg).toInt)))) oA (ro sz)) 0 0 (ro sz) := by
  refine Met.ofW (cc := cX4_hasRun) (maxL := 4) (ret := (some .boolean)) (by decide +kernel) rfl ?_
  intro p e s m args below meth cd s₁ B hml hv
  obtain ⟨rfl, ⟨hsz, hP, hK⟩, hN, hZ⟩ := hv
  have hx := B.exec
  have hb := B.bytes
  have hr := B.returns
  have hts := atoms_spec (ws := wm_X4_hasRun_eQ) B.pre
  have hown : s.vm.findClass RX4 = some m.cls := findClass_of_methodNamed B.named
  have hlocks := B.notSynchronized
  subst hsz
  have hA : ∀ q : Nat, s.heap.size ≤ q → ro s.heap.size q := fun _ h => h
  have hS : va_S (ro s.heap.size) s.heap s.heap [] := va_S.rf
  have hl := lv_entry ([.ref (a 157), .int w, .int f, .int n1]) (n := 4) (Nat.le_of_ble_eq_true rfl)
  rw [lg_entry_eq]
  generalize (lg_sl ([.ref (a 157), .int w, .int f, .int n1]) ++ List.replicate (4 - (lg_sl ([.ref (a 157), .int w, .int f, .int n1])).length) Slot.unset).toArray = ls at hl ⊢
  have hl : lv_has ls 4 [(0, .ref (a 157)), (1, .int w), (2, .int f), (3, .int n1)] := hl
  refine lv_iload_n hx hb dX4_hasRun_0 rfl (lv_at hl 2 rfl) ?_
  refine lv_if_lt (tgt := 34) hx hb dX4_hasRun_1 (by decide +kernel) (fun c1 => ?_) (fun c1 => ?_)
  · have f1 := (ti_lt (a := f.toInt) (b := 0) rfl (by decide +kernel)).mp c1
    refine lv_iconst (v := 0) hx hb dX4_hasRun_34 (by decide +kernel) ?_
    exact ro_zret hx hb hr hlocks hS rfl dX4_hasRun_35 (show ((0 : Int32).toInt = 1 ∧ 0 ≤ f.toInt ∧ 0 ≤ n1.toInt ∧ f.toInt + n1.toInt ≤ (c 159 w.toNatClampNeg).toInt ∧ (c 159 w.toNatClampNeg).toInt ≤ 12) ∨ ((0 : Int32).toInt = 0 ∧ ¬ (0 ≤ f.toInt ∧ 0 ≤ n1.toInt ∧ f.toInt + n1.toInt ≤ (c 159 w.toNatClampNeg).toInt)) from by have h9 : (0 : Int32).toInt = 0 := (by decide +kernel); omega)
  · have f1 := mt (ti_lt (a := f.toInt) (b := 0) rfl (by decide +kernel)).mpr c1
    refine lv_iload_n hx hb dX4_hasRun_4 rfl (lv_at hl 3 rfl) ?_
    refine lv_if_lt (tgt := 34) hx hb dX4_hasRun_5 (by decide +kernel) (fun c2 => ?_) (fun c2 => ?_)
    · have f2 := (ti_lt (a := n1.toInt) (b := 0) rfl (by decide +kernel)).mp c2
      refine lv_iconst (v := 0) hx hb dX4_hasRun_34 (by decide +kernel) ?_
      exact ro_zret hx hb hr hlocks hS rfl dX4_hasRun_35 (show ((0 : Int32).toInt = 1 ∧ 0 ≤ f.toInt ∧ 0 ≤ n1.toInt ∧ f.toInt + n1.toInt ≤ (c 159 w.toNatClampNeg).toInt ∧ (c 159 w.toNatClampNeg).toInt ≤ 12) ∨ ((0 : Int32).toInt = 0 ∧ ¬ (0 ≤ f.toInt ∧ 0 ≤ n1.toInt ∧ f.toInt + n1.toInt ≤ (c 159 w.toNatClampNeg).toInt)) from by have h9 : (0 : Int32).toInt = 0 := (by decide +kernel); omega)
    · have f2 := mt (ti_lt (a := n1.toInt) (b := 0) rfl (by decide +kernel)).mpr c2
      refine lv_iload_n hx hb dX4_hasRun_8 rfl (lv_at hl 2 rfl) ?_
      refine lv_aload_n hx hb dX4_hasRun_9 rfl (lv_at hl 0 rfl) ?_
      refine xgT_L_lengths hx hb hts (fun _ h => List.mem_cons_of_mem _ (List.mem_append_right _ h)) hown hK hP (hts (.fieldLink RX4 15 "TalePlay$Lines" "lengths" "[I") (List.mem_cons_of_mem _ (List.mem_append_left _ (List.mem_of_getElem? (i := 0) rfl)))) dX4_hasRun_10 ?_
      refine lv_iload_n hx hb dX4_hasRun_13 rfl (lv_at hl 1 rfl) ?_
      refine xlT_159 hx hb hK hP (vp_in_iff.mpr (by have h9 : w.toInt = w.toInt := rfl; omega)) dX4_hasRun_14 (fun x3 ex3 => ?_)
      have rx3 : 0 ≤ x3.toInt ∧ x3.toInt ≤ 12 := by rw [ex3]; exact hI.2 159 _
      have gx3 : (c 159 (w : Int32).toNatClampNeg).toInt = x3.toInt := (congrArg Int32.toInt ex3).symm
      refine lv_icmp_gt (tgt := 34) hx hb dX4_hasRun_15 (by decide +kernel) (fun c4 => ?_) (fun c4 => ?_)
      · have f4 := (ti_lt (a := x3.toInt) (b := f.toInt) rfl rfl).mp c4
        refine lv_iconst (v := 0) hx hb dX4_hasRun_34 (by decide +kernel) ?_
        exact ro_zret hx hb hr hlocks hS rfl dX4_hasRun_35 (show ((0 : Int32).toInt = 1 ∧ 0 ≤ f.toInt ∧ 0 ≤ n1.toInt ∧ f.toInt + n1.toInt ≤ (c 159 w.toNatClampNeg).toInt ∧ (c 159 w.toNatClampNeg).toInt ≤ 12) ∨ ((0 : Int32).toInt = 0 ∧ ¬ (0 ≤ f.toInt ∧ 0 ≤ n1.toInt ∧ f.toInt + n1.toInt ≤ (c 159 w.toNatClampNeg).toInt)) from by have h9 : (0 : Int32).toInt = 0 := (by decide +kernel); omega)
      · have f4 := mt (ti_lt (a := x3.toInt) (b := f.toInt) rfl rfl).mpr c4
        refine lv_iload_n hx hb dX4_hasRun_18 rfl (lv_at hl 3 rfl) ?_
        refine lv_aload_n hx hb dX4_hasRun_19 rfl (lv_at hl 0 rfl) ?_
        refine xgT_L_lengths hx hb hts (fun _ h => List.mem_cons_of_mem _ (List.mem_append_right _ h)) hown hK hP (hts (.fieldLink RX4 15 "TalePlay$Lines" "lengths" "[I") (List.mem_cons_of_mem _ (List.mem_append_left _ (List.mem_of_getElem? (i := 0) rfl)))) dX4_hasRun_20 ?_
        refine lv_iload_n hx hb dX4_hasRun_23 rfl (lv_at hl 1 rfl) ?_
        refine xlT_159 hx hb hK hP (vp_in_iff.mpr (by have h9 : w.toInt = w.toInt := rfl; omega)) dX4_hasRun_24 (fun x5 ex5 => ?_)
        have rx5 : 0 ≤ x5.toInt ∧ x5.toInt ≤ 12 := by rw [ex5]; exact hI.2 159 _
        have gx5 : (c 159 (w : Int32).toNatClampNeg).toInt = x5.toInt := (congrArg Int32.toInt ex5).symm
        refine lv_iload_n hx hb dX4_hasRun_25 rfl (lv_at hl 2 rfl) ?_
        refine lv_isub hx hb dX4_hasRun_26 ?_
        refine lv_topi (fun x6 ex6 => ?_)
        have tx6 := ti_sub (a := x5.toInt) (b := f.toInt) ex6 rfl rfl (by omega) (by omega)
        refine lv_icmp_gt (tgt := 34) hx hb dX4_hasRun_27 (by decide +kernel) (fun c7 => ?_) (fun c7 => ?_)
        · have f7 := (ti_lt (a := (x5.toInt - f.toInt)) (b := n1.toInt) tx6 rfl).mp c7
          refine lv_iconst (v := 0) hx hb dX4_hasRun_34 (by decide +kernel) ?_
          exact ro_zret hx hb hr hlocks hS rfl dX4_hasRun_35 (show ((0 : Int32).toInt = 1 ∧ 0 ≤ f.toInt ∧ 0 ≤ n1.toInt ∧ f.toInt + n1.toInt ≤ (c 159 w.toNatClampNeg).toInt ∧ (c 159 w.toNatClampNeg).toInt ≤ 12) ∨ ((0 : Int32).toInt = 0 ∧ ¬ (0 ≤ f.toInt ∧ 0 ≤ n1.toInt ∧ f.toInt + n1.toInt ≤ (c 159 w.toNatClampNeg).toInt)) from by have h9 : (0 : Int32).toInt = 0 := (by decide +kernel); omega)
        · have f7 := mt (ti_lt (a := (x5.toInt - f.toInt)) (b := n1.toInt) tx6 rfl).mpr c7
          refine lv_iconst (v := 1) hx hb dX4_hasRun_30 (by decide +kernel) ?_
          refine lv_goto (tgt := 35) hx hb dX4_hasRun_31 (by decide +kernel) ?_
          exact ro_zret hx hb hr hlocks hS rfl dX4_hasRun_35 (show ((1 : Int32).toInt = 1 ∧ 0 ≤ f.toInt ∧ 0 ≤ n1.toInt ∧ f.toInt + n1.toInt ≤ (c 159 w.toNatClampNeg).toInt ∧ (c 159 w.toNatClampNeg).toInt ≤ 12) ∨ ((1 : Int32).toInt = 0 ∧ ¬ (0 ≤ f.toInt ∧ 0 ≤ n1.toInt ∧ f.toInt + n1.toInt ≤ (c 159 w.toNatClampNeg).toInt)) from by have h9 : (1 : Int32).toInt = 1 := (by decide +kernel); omega)

