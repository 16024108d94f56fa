def wm_X5_tellOf : List Cond := .code yX5_tellOf cX5_tellOf 3 (some .int) :: (([.fieldLink RX5 18 "TalePlay$Roads" "bys" "[I", .fieldLink RX5 21 "TalePlay$Roads" "implied" "[I", .fieldLink RX5 9 "TalePlay$Roads" "leads" "[I", .fieldLink RX5 15 "TalePlay$Roads" "doors" "[I"] : List Cond) ++ wsX50)
set_option maxHeartbeats 4000000 in
set_option maxRecDepth 100000 in
theorem x_X5_tellOf (l : Launch) (D : va_G) (sz : Nat) (sk : Value) (a : Nat → Nat) (t : Nat → ClassId) (i : Nat → Int32) (q : Int64) (c : Nat → Nat → Int32) (d : Nat → Nat → Int64) (s1 : Int32) (w : Int32) (hI : xInv i c) (hs1 : 0 ≤ s1.toInt ∧ s1.toInt ≤ 299) : Met l yX5_tellOf wm_X5_tellOf ({ frames := 0, cells := 0, slots := 0, locals := 0 }) (va_Pc [.ref (a 128), .int s1, .int w] (yA (a 186) D sz (xwB sk a t i q c d) (xtB t))) (va_Qi (fun (r : Int32) (_ : Unit) => True) oA (ro sz)) 0 0 (ro sz) := by
  refine Met.ofW (cc := cX5_tellOf) (maxL := 3) (ret := (some .int)) (by decide +kernel) rfl ?_
  intro p e s m args below meth cd s₁ B hml hv
  obtain ⟨rfl, ⟨hsz, hP, hK⟩, hN, hZ⟩ := hv
  have hx := B.exec
  have hb := B.bytes
  have hr := B.returns
  have hts := atoms_spec (ws := wm_X5_tellOf) B.pre
  have hown : s.vm.findClass RX5 = some m.cls := findClass_of_methodNamed B.named
  have hlocks := B.notSynchronized
  subst hsz
  have hA : ∀ q : Nat, s.heap.size ≤ q → ro s.heap.size q := fun _ h => h
  have hS : va_S (ro s.heap.size) s.heap s.heap [] := va_S.rf
  have hl := lv_entry ([.ref (a 128), .int s1, .int w]) (n := 3) (Nat.le_of_ble_eq_true rfl)
  rw [lg_entry_eq]
  generalize (lg_sl ([.ref (a 128), .int s1, .int w]) ++ List.replicate (3 - (lg_sl ([.ref (a 128), .int s1, .int w])).length) Slot.unset).toArray = ls at hl ⊢
  have hl : lv_has ls 3 [(0, .ref (a 128)), (1, .int s1), (2, .int w)] := hl
  refine lv_aload_n hx hb dX5_tellOf_0 rfl (lv_at hl 0 rfl) ?_
  refine xgB_R_bys hx hb hts (fun _ h => List.mem_cons_of_mem _ (List.mem_append_right _ h)) hown hK hP (hts (.fieldLink RX5 18 "TalePlay$Roads" "bys" "[I") (List.mem_cons_of_mem _ (List.mem_append_left _ (List.mem_of_getElem? (i := 0) rfl)))) dX5_tellOf_1 ?_
  refine lv_iload_n hx hb dX5_tellOf_4 rfl (lv_at hl 1 rfl) ?_
  refine xlB_131 hx hb hK hP (vp_in_iff.mpr (by have h9 : s1.toInt = s1.toInt := rfl; omega)) dX5_tellOf_5 (fun x1 ex1 => ?_)
  have rx1 : x1.toInt = -9 ∨ (0 ≤ x1.toInt ∧ x1.toInt ≤ 199) := by rw [ex1]; exact hI.2 131 _
  refine lv_bipush (v := (-9)) hx hb dX5_tellOf_6 (by decide +kernel) ?_
  refine lv_icmp_ne (tgt := 14) hx hb dX5_tellOf_8 (by decide +kernel) (fun c2 => ?_) (fun c2 => ?_)
  · have f2 := mt (ti_eq (a := x1.toInt) (b := (-9)) rfl (by decide +kernel)).mpr c2
    refine lv_iload_n hx hb dX5_tellOf_14 rfl (lv_at hl 2 rfl) ?_
    rcases (show (w.toInt < 0 ∨ 2 < w.toInt) ∨ w.toInt = 0 ∨ w.toInt = 1 ∨ w.toInt = 2 by omega) with f3 | f3 | f3 | f3
    · refine lv_tableOut (tgt := 67) hx hb dX5_tellOf_15 f3 (by decide +kernel) ?_
      refine lv_aload_n hx hb dX5_tellOf_67 rfl (lv_at hl 0 rfl) ?_
      refine xgB_R_implied hx hb hts (fun _ h => List.mem_cons_of_mem _ (List.mem_append_right _ h)) hown hK hP (hts (.fieldLink RX5 21 "TalePlay$Roads" "implied" "[I") (List.mem_cons_of_mem _ (List.mem_append_left _ (List.mem_of_getElem? (i := 1) rfl)))) dX5_tellOf_68 ?_
      refine lv_iload_n hx hb dX5_tellOf_71 rfl (lv_at hl 1 rfl) ?_
      refine xlB_132 hx hb hK hP (vp_in_iff.mpr (by have h9 : s1.toInt = s1.toInt := rfl; omega)) dX5_tellOf_72 (fun x4 ex4 => ?_)
      have rx4 : 0 ≤ x4.toInt ∧ x4.toInt ≤ 1 := by rw [ex4]; exact hI.2 132 _
      exact ro_iret hx hb hr hlocks hS dX5_tellOf_73 trivial
    · refine lv_tableIn (off := 25) (tgt := 40) hx hb dX5_tellOf_15 (by omega) (by omega) (by rw [f3]; rfl) (by decide +kernel) ?_
      refine lv_aload_n hx hb dX5_tellOf_40 rfl (lv_at hl 0 rfl) ?_
      refine xgB_R_leads hx hb hts (fun _ h => List.mem_cons_of_mem _ (List.mem_append_right _ h)) hown hK hP (hts (.fieldLink RX5 9 "TalePlay$Roads" "leads" "[I") (List.mem_cons_of_mem _ (List.mem_append_left _ (List.mem_of_getElem? (i := 2) rfl)))) dX5_tellOf_41 ?_
      refine lv_iload_n hx hb dX5_tellOf_44 rfl (lv_at hl 1 rfl) ?_
      refine xlB_129 hx hb hK hP (vp_in_iff.mpr (by have h9 : s1.toInt = s1.toInt := rfl; omega)) dX5_tellOf_45 (fun x5 ex5 => ?_)
      have rx5 : x5.toInt = -9 ∨ (0 ≤ x5.toInt ∧ x5.toInt ≤ 29) := by rw [ex5]; exact hI.2 129 _
      refine lv_goto (tgt := 73) hx hb dX5_tellOf_46 (by decide +kernel) ?_
      exact ro_iret hx hb hr hlocks hS dX5_tellOf_73 trivial
    · refine lv_tableIn (off := 34) (tgt := 49) hx hb dX5_tellOf_15 (by omega) (by omega) (by rw [f3]; rfl) (by decide +kernel) ?_
      refine lv_aload_n hx hb dX5_tellOf_49 rfl (lv_at hl 0 rfl) ?_
      refine xgB_R_doors hx hb hts (fun _ h => List.mem_cons_of_mem _ (List.mem_append_right _ h)) hown hK hP (hts (.fieldLink RX5 15 "TalePlay$Roads" "doors" "[I") (List.mem_cons_of_mem _ (List.mem_append_left _ (List.mem_of_getElem? (i := 3) rfl)))) dX5_tellOf_50 ?_
      refine lv_iload_n hx hb dX5_tellOf_53 rfl (lv_at hl 1 rfl) ?_
      refine xlB_130 hx hb hK hP (vp_in_iff.mpr (by have h9 : s1.toInt = s1.toInt := rfl; omega)) dX5_tellOf_54 (fun x6 ex6 => ?_)
      have rx6 : x6.toInt = -9 ∨ (0 ≤ x6.toInt ∧ x6.toInt ≤ 29) := by rw [ex6]; exact hI.2 130 _
      refine lv_goto (tgt := 73) hx hb dX5_tellOf_55 (by decide +kernel) ?_
      exact ro_iret hx hb hr hlocks hS dX5_tellOf_73 trivial
    · refine lv_tableIn (off := 43) (tgt := 58) hx hb dX5_tellOf_15 (by omega) (by omega) (by rw [f3]; rfl) (by decide +kernel) ?_
      refine lv_aload_n hx hb dX5_tellOf_58 rfl (lv_at hl 0 rfl) ?_
      refine xgB_R_bys hx hb hts (fun _ h => List.mem_cons_of_mem _ (List.mem_append_right _ h)) hown hK hP (hts (.fieldLink RX5 18 "TalePlay$Roads" "bys" "[I") (List.mem_cons_of_mem _ (List.mem_append_left _ (List.mem_of_getElem? (i := 0) rfl)))) dX5_tellOf_59 ?_
      refine lv_iload_n hx hb dX5_tellOf_62 rfl (lv_at hl 1 rfl) ?_
      refine xlB_131 hx hb hK hP (vp_in_iff.mpr (by have h9 : s1.toInt = s1.toInt := rfl; omega)) dX5_tellOf_63 (fun x7 ex7 => ?_)
      have rx7 : x7.toInt = -9 ∨ (0 ≤ x7.toInt ∧ x7.toInt ≤ 199) := by rw [ex7]; exact hI.2 131 _
      refine lv_goto (tgt := 73) hx hb dX5_tellOf_64 (by decide +kernel) ?_
      exact ro_iret hx hb hr hlocks hS dX5_tellOf_73 trivial
  · have f2 := (ti_eq (a := x1.toInt) (b := (-9)) rfl (by decide +kernel)).mp c2
    refine lv_bipush (v := (-9)) hx hb dX5_tellOf_11 (by decide +kernel) ?_
    exact ro_iret hx hb hr hlocks hS dX5_tellOf_13 trivial

def wm_X5_isSide : List Cond := .code yX5_isSide cX5_isSide 3 (some .boolean) :: (([.fieldLink RX5 24 "TalePlay$Roads" "firstSides" "[I", .fieldLink RX5 27 "TalePlay$Roads" "secondSides" "[I"] : List Cond) ++ wsX50)
set_option maxHeartbeats 4000000 in
set_option maxRecDepth 100000 in
theorem x_X5_isSide (l : Launch) (D : va_G) (sz : Nat) (sk : Value) (a : Nat → Nat) (t : Nat → ClassId) (i : Nat → Int32) (q : Int64) (c : Nat → Nat → Int32) (d : Nat → Nat → Int64) (w1 : Int32) (w2 : Int32) (hI : xInv i c) (hw2 : 0 ≤ w2.toInt ∧ w2.toInt ≤ 29) : Met l yX5_isSide wm_X5_isSide ({ frames := 0, cells := 0, slots := 0, locals := 0 }) (va_Pc [.ref (a 128), .int w1, .int w2] (yA (a 186) D sz (xwB sk a t i q c d) (xtB t))) (va_Qi (fun (r : Int32) (_ : Unit) => (0 ≤ r.toInt ∧ r.toInt ≤ 1)) oA (ro sz)) 0 0 (ro sz) := by
  refine Met.ofW (cc := cX5_isSide) (maxL := 3) (ret := (some .boolean)) (by decide +kernel) rfl ?_
  intro p e s m args below meth cd s₁ B hml hv
  obtain ⟨rfl, ⟨hsz, hP, hK⟩, hN, hZ⟩ := hv
  have hx := B.exec
  have hb := B.bytes
  have hr := B.returns
  have hts := atoms_spec (ws := wm_X5_isSide) B.pre
  have hown : s.vm.findClass RX5 = some m.cls := findClass_of_methodNamed B.named
  have hlocks := B.notSynchronized
  subst hsz
  have hA : ∀ q : Nat, s.heap.size ≤ q → ro s.heap.size q := fun _ h => h
  have hS : va_S (ro s.heap.size) s.heap s.heap [] := va_S.rf
  have hl := lv_entry ([.ref (a 128), .int w1, .int w2]) (n := 3) (Nat.le_of_ble_eq_true rfl)
  rw [lg_entry_eq]
  generalize (lg_sl ([.ref (a 128), .int w1, .int w2]) ++ List.replicate (3 - (lg_sl ([.ref (a 128), .int w1, .int w2])).length) Slot.unset).toArray = ls at hl ⊢
  have hl : lv_has ls 3 [(0, .ref (a 128)), (1, .int w1), (2, .int w2)] := hl
  refine lv_iload_n hx hb dX5_isSide_0 rfl (lv_at hl 1 rfl) ?_
  refine lv_bipush (v := (-9)) hx hb dX5_isSide_1 (by decide +kernel) ?_
  refine lv_icmp_eq (tgt := 30) hx hb dX5_isSide_3 (by decide +kernel) (fun c1 => ?_) (fun c1 => ?_)
  · have f1 := (ti_eq (a := w1.toInt) (b := (-9)) rfl (by decide +kernel)).mp c1
    refine lv_iconst (v := 0) hx hb dX5_isSide_30 (by decide +kernel) ?_
    exact ro_zret hx hb hr hlocks hS rfl dX5_isSide_31 (show 0 ≤ (0 : Int32).toInt ∧ (0 : Int32).toInt ≤ 1 from by decide +kernel)
  · have f1 := mt (ti_eq (a := w1.toInt) (b := (-9)) rfl (by decide +kernel)).mpr c1
    refine lv_aload_n hx hb dX5_isSide_6 rfl (lv_at hl 0 rfl) ?_
    refine xgB_R_firstSides hx hb hts (fun _ h => List.mem_cons_of_mem _ (List.mem_append_right _ h)) hown hK hP (hts (.fieldLink RX5 24 "TalePlay$Roads" "firstSides" "[I") (List.mem_cons_of_mem _ (List.mem_append_left _ (List.mem_of_getElem? (i := 0) rfl)))) dX5_isSide_7 ?_
    refine lv_iload_n hx hb dX5_isSide_10 rfl (lv_at hl 2 rfl) ?_
    refine xlB_133 hx hb hK hP (vp_in_iff.mpr (by have h9 : w2.toInt = w2.toInt := rfl; omega)) dX5_isSide_11 (fun x2 ex2 => ?_)
    have rx2 : x2.toInt = -9 ∨ (0 ≤ x2.toInt ∧ x2.toInt ≤ 29) := by rw [ex2]; exact hI.2 133 _
    refine lv_iload_n hx hb dX5_isSide_12 rfl (lv_at hl 1 rfl) ?_
    refine lv_icmp_eq (tgt := 26) hx hb dX5_isSide_13 (by decide +kernel) (fun c3 => ?_) (fun c3 => ?_)
    · have f3 := (ti_eq (a := x2.toInt) (b := w1.toInt) rfl rfl).mp c3
      refine lv_iconst (v := 1) hx hb dX5_isSide_26 (by decide +kernel) ?_
      refine lv_goto (tgt := 31) hx hb dX5_isSide_27 (by decide +kernel) ?_
      exact ro_zret hx hb hr hlocks hS rfl dX5_isSide_31 (show 0 ≤ (1 : Int32).toInt ∧ (1 : Int32).toInt ≤ 1 from by decide +kernel)
    · have f3 := mt (ti_eq (a := x2.toInt) (b := w1.toInt) rfl rfl).mpr c3
      refine lv_aload_n hx hb dX5_isSide_16 rfl (lv_at hl 0 rfl) ?_
      refine xgB_R_secondSides hx hb hts (fun _ h => List.mem_cons_of_mem _ (List.mem_append_right _ h)) hown hK hP (hts (.fieldLink RX5 27 "TalePlay$Roads" "secondSides" "[I") (List.mem_cons_of_mem _ (List.mem_append_left _ (List.mem_of_getElem? (i := 1) rfl)))) dX5_isSide_17 ?_
      refine lv_iload_n hx hb dX5_isSide_20 rfl (lv_at hl 2 rfl) ?_
      refine xlB_134 hx hb hK hP (vp_in_iff.mpr (by have h9 : w2.toInt = w2.toInt := rfl; omega)) dX5_isSide_21 (fun x4 ex4 => ?_)
      have rx4 : x4.toInt = -9 ∨ (0 ≤ x4.toInt ∧ x4.toInt ≤ 29) := by rw [ex4]; exact hI.2 134 _
      refine lv_iload_n hx hb dX5_isSide_22 rfl (lv_at hl 1 rfl) ?_
      refine lv_icmp_ne (tgt := 30) hx hb dX5_isSide_23 (by decide +kernel) (fun c5 => ?_) (fun c5 => ?_)
      · have f5 := mt (ti_eq (a := x4.toInt) (b := w1.toInt) rfl rfl).mpr c5
        refine lv_iconst (v := 0) hx hb dX5_isSide_30 (by decide +kernel) ?_
        exact ro_zret hx hb hr hlocks hS rfl dX5_isSide_31 (show 0 ≤ (0 : Int32).toInt ∧ (0 : Int32).toInt ≤ 1 from by decide +kernel)
      · have f5 := (ti_eq (a := x4.toInt) (b := w1.toInt) rfl rfl).mp c5
        refine lv_iconst (v := 1) hx hb dX5_isSide_26 (by decide +kernel) ?_
        refine lv_goto (tgt := 31) hx hb dX5_isSide_27 (by decide +kernel) ?_
        exact ro_zret hx hb hr hlocks hS rfl dX5_isSide_31 (show 0 ≤ (1 : Int32).toInt ∧ (1 : Int32).toInt ≤ 1 from by decide +kernel)

def wm_X5_isPassable : List Cond := .code yX5_isPassable cX5_isPassable 3 (some .boolean) :: ((([.fieldLink RX5 15 "TalePlay$Roads" "doors" "[I", .fieldLink RX5 43 "TalePlay$Roads" "book" "LTalePlay$Book;", .methodLink RX5 105 yX1_saidFlag, .instanceMethod yX1_saidFlag, .selects RX1 yX1_saidFlag yX1_saidFlag, .initialized RX1, .code yX1_saidFlag cX1_saidFlag 4 (some .int), .fieldLink RX1 34 "TalePlay$Book" "flagBy" "[I", .fieldLink RX1 21 "TalePlay$Book" "cs" "[I", .fieldLink RX1 43 "TalePlay$Book" "world" "LTalePlay$World;", .methodLink RX1 114 yX10_standardFor, .instanceMethod yX10_standardFor, .selects RX10 yX10_standardFor yX10_standardFor, .initialized RX10, .code yX10_standardFor cX10_standardFor 6 (some .int), .fieldLink RX10 21 "TalePlay$World" "kindOf" "[I"] : List Cond) ++ ([.methodLink RX10 40 yX10_sortOf, .instanceMethod yX10_sortOf, .selects RX10 yX10_sortOf yX10_sortOf, .code yX10_sortOf cX10_sortOf 2 (some .int), .fieldLink RX10 37 "TalePlay$World" "objects" "I", .fieldLink RX10 15 "TalePlay$World" "sorts" "[I", .fieldLink RX10 18 "TalePlay$World" "standards" "[I", .fieldLink RX10 9 "TalePlay$World" "parents" "[I"] : List Cond)) ++ wsX50 ++ wsX10 ++ wsX100)
set_option maxRecDepth 20000 in
theorem gm_X5_isPassable_X1_saidFlag_105 : GoodIn wm_X5_isPassable (wsV RX5 105 RX1 yX1_saidFlag wm_X1_saidFlag) := goodIn_w (List.forall_mem_append.mpr ⟨List.forall_mem_cons.mpr ⟨List.mem_cons_of_mem _ (List.mem_append_left _ (List.mem_append_left _ (List.mem_append_left _ (List.mem_append_left _ (List.mem_of_getElem? (i := 2) rfl))))), List.forall_mem_cons.mpr ⟨List.mem_cons_of_mem _ (List.mem_append_left _ (List.mem_append_left _ (List.mem_append_left _ (List.mem_append_left _ (List.mem_of_getElem? (i := 3) rfl))))), List.forall_mem_cons.mpr ⟨List.mem_cons_of_mem _ (List.mem_append_left _ (List.mem_append_left _ (List.mem_append_left _ (List.mem_append_left _ (List.mem_of_getElem? (i := 4) rfl))))), List.forall_mem_cons.mpr ⟨List.mem_cons_of_mem _ (List.mem_append_left _ (List.mem_append_left _ (List.mem_append_left _ (List.mem_append_left _ (List.mem_of_getElem? (i := 5) rfl))))), (fun _ h => absurd h List.not_mem_nil)⟩⟩⟩⟩, List.forall_mem_cons.mpr ⟨List.mem_cons_of_mem _ (List.mem_append_left _ (List.mem_append_left _ (List.mem_append_left _ (List.mem_append_left _ (List.mem_of_getElem? (i := 6) rfl))))), List.forall_mem_append.mpr ⟨List.forall_mem_append.mpr ⟨List.forall_mem_append.mpr ⟨List.forall_mem_cons.mpr ⟨List.mem_cons_of_mem _ (List.mem_append_left _ (List.mem_append_left _ (List.mem_append_left _ (List.mem_append_left _ (List.mem_of_getElem? (i := 7) rfl))))), List.forall_mem_cons.mpr ⟨List.mem_cons_of_mem _ (List.mem_append_left _ (List.mem_append_left _ (List.mem_append_left _ (List.mem_append_left _ (List.mem_of_getElem? (i := 8) rfl))))), List.forall_mem_cons.mpr ⟨List.mem_cons_of_mem _ (List.mem_append_left _ (List.mem_append_left _ (List.mem_append_left _ (List.mem_append_left _ (List.mem_of_getElem? (i := 9) rfl))))), List.forall_mem_cons.mpr ⟨List.mem_cons_of_mem _ (List.mem_append_left _ (List.mem_append_left _ (List.mem_append_left _ (List.mem_append_left _ (List.mem_of_getElem? (i := 10) rfl))))), List.forall_mem_cons.mpr ⟨List.mem_cons_of_mem _ (List.mem_append_left _ (List.mem_append_left _ (List.mem_append_left _ (List.mem_append_left _ (List.mem_of_getElem? (i := 11) rfl))))), List.forall_mem_cons.mpr ⟨List.mem_cons_of_mem _ (List.mem_append_left _ (List.mem_append_left _ (List.mem_append_left _ (List.mem_append_left _ (List.mem_of_getElem? (i := 12) rfl))))), List.forall_mem_cons.mpr ⟨List.mem_cons_of_mem _ (List.mem_append_left _ (List.mem_append_left _ (List.mem_append_left _ (List.mem_append_left _ (List.mem_of_getElem? (i := 13) rfl))))), List.forall_mem_cons.mpr ⟨List.mem_cons_of_mem _ (List.mem_append_left _ (List.mem_append_left _ (List.mem_append_left _ (List.mem_append_left _ (List.mem_of_getElem? (i := 14) rfl))))), List.forall_mem_cons.mpr ⟨List.mem_cons_of_mem _ (List.mem_append_left _ (List.mem_append_left _ (List.mem_append_left _ (List.mem_append_left _ (List.mem_of_getElem? (i := 15) rfl))))), List.forall_mem_cons.mpr ⟨List.mem_cons_of_mem _ (List.mem_append_left _ (List.mem_append_left _ (List.mem_append_left _ (List.mem_append_right _ (List.mem_of_getElem? (i := 0) rfl))))), List.forall_mem_cons.mpr ⟨List.mem_cons_of_mem _ (List.mem_append_left _ (List.mem_append_left _ (List.mem_append_left _ (List.mem_append_right _ (List.mem_of_getElem? (i := 1) rfl))))), List.forall_mem_cons.mpr ⟨List.mem_cons_of_mem _ (List.mem_append_left _ (List.mem_append_left _ (List.mem_append_left _ (List.mem_append_right _ (List.mem_of_getElem? (i := 2) rfl))))), List.forall_mem_cons.mpr ⟨List.mem_cons_of_mem _ (List.mem_append_left _ (List.mem_append_left _ (List.mem_append_left _ (List.mem_append_right _ (List.mem_of_getElem? (i := 3) rfl))))), List.forall_mem_cons.mpr ⟨List.mem_cons_of_mem _ (List.mem_append_left _ (List.mem_append_left _ (List.mem_append_left _ (List.mem_append_right _ (List.mem_of_getElem? (i := 4) rfl))))), List.forall_mem_cons.mpr ⟨List.mem_cons_of_mem _ (List.mem_append_left _ (List.mem_append_left _ (List.mem_append_left _ (List.mem_append_right _ (List.mem_of_getElem? (i := 5) rfl))))), List.forall_mem_cons.mpr ⟨List.mem_cons_of_mem _ (List.mem_append_left _ (List.mem_append_left _ (List.mem_append_left _ (List.mem_append_right _ (List.mem_of_getElem? (i := 6) rfl))))), (fun _ h => absurd h List.not_mem_nil)⟩⟩⟩⟩⟩⟩⟩⟩⟩⟩⟩⟩⟩⟩⟩⟩, List.forall_mem_cons.mpr ⟨List.mem_cons_of_mem _ (List.mem_append_left _ (List.mem_append_left _ (List.mem_append_left _ (List.mem_append_right _ (List.mem_of_getElem? (i := 7) rfl))))), (fun _ h => absurd h List.not_mem_nil)⟩⟩, (fun _ h => List.mem_cons_of_mem _ (List.mem_append_left _ (List.mem_append_right _ h)))⟩, (fun _ h => List.mem_cons_of_mem _ (List.mem_append_right _ h))⟩⟩⟩) (by decide +kernel)
set_option maxHeartbeats 4000000 in
set_option maxRecDepth 100000 in
theorem x_X5_isPassable (l : Launch) (D : va_G) (sz : Nat) (sk : Value) (a : Nat → Nat) (t : Nat → ClassId) (i : Nat → Int32) (q : Int64) (c : Nat → Nat → Int32) (d : Nat → Nat → Int64) (s1 : Int32) (b1 : Int32) (hI : xInv i c) (hs1 : 0 ≤ s1.toInt ∧ s1.toInt ≤ 299) : Met l yX5_isPassable wm_X5_isPassable ({ frames := 3, cells := 0, slots := 0, locals := 69 }) (va_Pc [.ref (a 128), .int s1, .int b1] (yA (a 186) D sz (xwB sk a t i q c d) (xtB t))) (va_Qi (fun (r : Int32) (_ : Unit) => (0 ≤ r.toInt ∧ r.toInt ≤ 1)) oA (ro sz)) 0 0 (ro sz) := by
  refine Met.ofW (cc := cX5_isPassable) (maxL := 3) (ret := (some .boolean)) (by decide +kernel) rfl ?_
  intro p e s m args below meth cd s₁ B hml hv
  obtain ⟨rfl, ⟨hsz, hP, hK⟩, hN, hZ⟩ := hv
  have hx := B.exec
  have hb := B.bytes
  have hr := B.returns
  have hts := atoms_spec (ws := wm_X5_isPassable) B.pre
  have hown : s.vm.findClass RX5 = some m.cls := findClass_of_methodNamed B.named
  have hlocks := B.notSynchronized
  subst hsz
  have hA : ∀ q : Nat, s.heap.size ≤ q → ro s.heap.size q := fun _ h => h
  have hS : va_S (ro s.heap.size) s.heap s.heap [] := va_S.rf
  have hl := lv_entry ([.ref (a 128), .int s1, .int b1]) (n := 3) (Nat.le_of_ble_eq_true rfl)
  rw [lg_entry_eq]
  generalize (lg_sl ([.ref (a 128), .int s1, .int b1]) ++ List.replicate (3 - (lg_sl ([.ref (a 128), .int s1, .int b1])).length) Slot.unset).toArray = ls at hl ⊢
  have hl : lv_has ls 3 [(0, .ref (a 128)), (1, .int s1), (2, .int b1)] := hl
  refine lv_iload_n hx hb dX5_isPassable_0 rfl (lv_at hl 2 rfl) ?_
  refine lv_if_eq (tgt := 33) hx hb dX5_isPassable_1 (by decide +kernel) (fun c1 => ?_) (fun c1 => ?_)
  · have f1 := (ti_eq (a := b1.toInt) (b := 0) rfl (by decide +kernel)).mp c1
    refine lv_iconst (v := 1) hx hb dX5_isPassable_33 (by decide +kernel) ?_
    refine lv_goto (tgt := 38) hx hb dX5_isPassable_34 (by decide +kernel) ?_
    exact ro_zret hx hb hr hlocks hS rfl dX5_isPassable_38 (show 0 ≤ (1 : Int32).toInt ∧ (1 : Int32).toInt ≤ 1 from by decide +kernel)
  · have f1 := mt (ti_eq (a := b1.toInt) (b := 0) rfl (by decide +kernel)).mpr c1
    refine lv_aload_n hx hb dX5_isPassable_4 rfl (lv_at hl 0 rfl) ?_
    refine xgB_R_doors hx hb hts (fun _ h => List.mem_cons_of_mem _ (List.mem_append_left _ (List.mem_append_left _ (List.mem_append_right _ h)))) hown hK hP (hts (.fieldLink RX5 15 "TalePlay$Roads" "doors" "[I") (List.mem_cons_of_mem _ (List.mem_append_left _ (List.mem_append_left _ (List.mem_append_left _ (List.mem_append_left _ (List.mem_of_getElem? (i := 0) rfl))))))) dX5_isPassable_5 ?_
    refine lv_iload_n hx hb dX5_isPassable_8 rfl (lv_at hl 1 rfl) ?_
    refine xlB_130 hx hb hK hP (vp_in_iff.mpr (by have h9 : s1.toInt = s1.toInt := rfl; omega)) dX5_isPassable_9 (fun x2 ex2 => ?_)
    have rx2 : x2.toInt = -9 ∨ (0 ≤ x2.toInt ∧ x2.toInt ≤ 29) := by rw [ex2]; exact hI.2 130 _
    have gx2 : (c 130 (s1 : Int32).toNatClampNeg).toInt = x2.toInt := (congrArg Int32.toInt ex2).symm
    refine lv_bipush (v := (-9)) hx hb dX5_isPassable_10 (by decide +kernel) ?_
    refine lv_icmp_eq (tgt := 33) hx hb dX5_isPassable_12 (by decide +kernel) (fun c3 => ?_) (fun c3 => ?_)
    · have f3 := (ti_eq (a := x2.toInt) (b := (-9)) rfl (by decide +kernel)).mp c3
      refine lv_iconst (v := 1) hx hb dX5_isPassable_33 (by decide +kernel) ?_
      refine lv_goto (tgt := 38) hx hb dX5_isPassable_34 (by decide +kernel) ?_
      exact ro_zret hx hb hr hlocks hS rfl dX5_isPassable_38 (show 0 ≤ (1 : Int32).toInt ∧ (1 : Int32).toInt ≤ 1 from by decide +kernel)
    · have f3 := mt (ti_eq (a := x2.toInt) (b := (-9)) rfl (by decide +kernel)).mpr c3
      refine lv_aload_n hx hb dX5_isPassable_15 rfl (lv_at hl 0 rfl) ?_
      refine xgB_R_book hx hb hts (fun _ h => List.mem_cons_of_mem _ (List.mem_append_left _ (List.mem_append_left _ (List.mem_append_right _ h)))) hown hK hP (hts (.fieldLink RX5 43 "TalePlay$Roads" "book" "LTalePlay$Book;") (List.mem_cons_of_mem _ (List.mem_append_left _ (List.mem_append_left _ (List.mem_append_left _ (List.mem_append_left _ (List.mem_of_getElem? (i := 1) rfl))))))) dX5_isPassable_16 ?_
      refine lv_aload_n hx hb dX5_isPassable_19 rfl (lv_at hl 0 rfl) ?_
      refine xgB_R_doors hx hb hts (fun _ h => List.mem_cons_of_mem _ (List.mem_append_left _ (List.mem_append_left _ (List.mem_append_right _ h)))) hown hK hP (hts (.fieldLink RX5 15 "TalePlay$Roads" "doors" "[I") (List.mem_cons_of_mem _ (List.mem_append_left _ (List.mem_append_left _ (List.mem_append_left _ (List.mem_append_left _ (List.mem_of_getElem? (i := 0) rfl))))))) dX5_isPassable_20 ?_
      refine lv_iload_n hx hb dX5_isPassable_23 rfl (lv_at hl 1 rfl) ?_
      refine xlB_130 hx hb hK hP (vp_in_iff.mpr (by have h9 : s1.toInt = s1.toInt := rfl; omega)) dX5_isPassable_24 (fun x4 ex4 => ?_)
      have rx4 : x4.toInt = -9 ∨ (0 ≤ x4.toInt ∧ x4.toInt ≤ 29) := by rw [ex4]; exact hI.2 130 _
      have gx4 : (c 130 (s1 : Int32).toNatClampNeg).toInt = x4.toInt := (congrArg Int32.toInt ex4).symm
      refine lv_iconst (v := 0) hx hb dX5_isPassable_25 (by decide +kernel) ?_
      refine ro_calli (va_runV (As := [.int x4, .int 0]) (rest := []) ⟨hx, hb, hml, hown, hts⟩ (x_X1_saidFlag l D s.heap.size .null a t i q c d x4 0 hI (show 0 ≤ x4.toInt ∧ x4.toInt ≤ 29 from by have h91 : (0 : Int32).toInt = 0 := (by decide +kernel); omega) (show 0 ≤ 0 ∧ 0 ≤ 5 from by decide +kernel)) (cwV 2 hts gm_X5_isPassable_X1_saidFlag_105 rfl rfl rfl (by decide +kernel) ⟨Nat.le_of_ble_eq_true rfl, Nat.le_of_ble_eq_true rfl⟩) (yA_V hN (xZ_k hZ hS hA) hK hP (ci := 1) (q0 := 6) rfl rfl) rfl rfl hl.1 rfl (lv_room (Nat.le_of_ble_eq_true rfl)) dX5_isPassable_26 ⟨Nat.le_of_ble_eq_true rfl, Nat.le_of_ble_eq_true rfl⟩) hS hA hP (fun r5 u5 H locs hw5 hP hS => ?_)
      have hw5 : (r5.toInt = -9 ∨ (0 ≤ r5.toInt ∧ r5.toInt ≤ 9)) := hw5
      refine lv_iconst (v := 1) hx hb dX5_isPassable_29 (by decide +kernel) ?_
      refine lv_icmp_ne (tgt := 37) hx hb dX5_isPassable_30 (by decide +kernel) (fun c6 => ?_) (fun c6 => ?_)
      · have f6 := mt (ti_eq (a := r5.toInt) (b := 1) rfl (by decide +kernel)).mpr c6
        refine lv_iconst (v := 0) hx hb dX5_isPassable_37 (by decide +kernel) ?_
        exact ro_zret hx hb hr hlocks hS rfl dX5_isPassable_38 (show 0 ≤ (0 : Int32).toInt ∧ (0 : Int32).toInt ≤ 1 from by decide +kernel)
      · have f6 := (ti_eq (a := r5.toInt) (b := 1) rfl (by decide +kernel)).mp c6
        refine lv_iconst (v := 1) hx hb dX5_isPassable_33 (by decide +kernel) ?_
        refine lv_goto (tgt := 38) hx hb dX5_isPassable_34 (by decide +kernel) ?_
        exact ro_zret hx hb hr hlocks hS rfl dX5_isPassable_38 (show 0 ≤ (1 : Int32).toInt ∧ (1 : Int32).toInt ≤ 1 from by decide +kernel)
