def wm_X5_isDrawn : List Cond := .code yX5_isDrawn cX5_isDrawn 2 (some .boolean) :: (([.fieldLink RX5 43 "TalePlay$Roads" "book" "LTalePlay$Book;", .fieldLink RX5 65 "TalePlay$Book" "said" "[Z", .fieldLink RX5 71 "TalePlay$Book" "forms" "[I"] : List Cond) ++ wsX50 ++ wsX10)
set_option maxHeartbeats 4000000 in
set_option maxRecDepth 100000 in
theorem x_X5_isDrawn (l : Launch) (D : va_G) (sz : Nat) (sk : Value) (a : Nat → Nat) (t : Nat → ClassId) (i : Nat → Int32) (q : Int64) (c : Nat → Nat → Int32) (d : Nat → Nat → Int64) (s1 : Int32) (hI : xInv i c) (hs1 : 0 ≤ s1.toInt ∧ s1.toInt ≤ 199) : Met l yX5_isDrawn wm_X5_isDrawn ({ frames := 0, cells := 0, slots := 0, locals := 0 }) (va_Pc [.ref (a 128), .int s1] (yA (a 186) D sz (xwB sk a t i q c d) (xtB t))) (va_Qi (fun (r : Int32) (_ : Unit) => (0 ≤ r.toInt ∧ r.toInt ≤ 1)) oA (ro sz)) 0 0 (ro sz) := by
  refine Met.ofW (cc := cX5_isDrawn) (maxL := 2) (ret := (some .boolean)) (by decide +kernel) rfl ?_
  intro p e s m args below meth cd s₁ B hml hv
  obtain ⟨rfl, ⟨hsz, hP, hK⟩, hN, hZ⟩ := hv
  have hx := B.exec
  have hb := B.bytes
  have hr := B.returns
  have hts := atoms_spec (ws := wm_X5_isDrawn) B.pre
  have hown : s.vm.findClass RX5 = some m.cls := findClass_of_methodNamed B.named
  have hlocks := B.notSynchronized
  subst hsz
  have hA : ∀ q : Nat, s.heap.size ≤ q → ro s.heap.size q := fun _ h => h
  have hS : va_S (ro s.heap.size) s.heap s.heap [] := va_S.rf
  have hl := lv_entry ([.ref (a 128), .int s1]) (n := 2) (Nat.le_of_ble_eq_true rfl)
  rw [lg_entry_eq]
  generalize (lg_sl ([.ref (a 128), .int s1]) ++ List.replicate (2 - (lg_sl ([.ref (a 128), .int s1])).length) Slot.unset).toArray = ls at hl ⊢
  have hl : lv_has ls 2 [(0, .ref (a 128)), (1, .int s1)] := hl
  refine lv_aload_n hx hb dX5_isDrawn_0 rfl (lv_at hl 0 rfl) ?_
  refine xgB_R_book hx hb hts (fun _ h => List.mem_cons_of_mem _ (List.mem_append_left _ (List.mem_append_right _ h))) hown hK hP (hts (.fieldLink RX5 43 "TalePlay$Roads" "book" "LTalePlay$Book;") (List.mem_cons_of_mem _ (List.mem_append_left _ (List.mem_append_left _ (List.mem_of_getElem? (i := 0) rfl))))) dX5_isDrawn_1 ?_
  refine xgB_B_said hx hb hts (fun _ h => List.mem_cons_of_mem _ (List.mem_append_right _ h)) hown hK hP (hts (.fieldLink RX5 65 "TalePlay$Book" "said" "[Z") (List.mem_cons_of_mem _ (List.mem_append_left _ (List.mem_append_left _ (List.mem_of_getElem? (i := 1) rfl))))) dX5_isDrawn_4 ?_
  refine lv_iload_n hx hb dX5_isDrawn_7 rfl (lv_at hl 1 rfl) ?_
  refine xlB_117 hx hb hK hP (vp_in_iff.mpr (by have h9 : s1.toInt = s1.toInt := rfl; omega)) dX5_isDrawn_8 (fun x1 ex1 => ?_)
  have rx1 : 0 ≤ x1.toInt ∧ x1.toInt ≤ 1 := by rw [ex1]; exact hI.2 117 _
  refine lv_if_eq (tgt := 29) hx hb dX5_isDrawn_9 (by decide +kernel) (fun c2 => ?_) (fun c2 => ?_)
  · have f2 := (ti_eq (a := x1.toInt) (b := 0) rfl (by decide +kernel)).mp c2
    refine lv_iconst (v := 0) hx hb dX5_isDrawn_29 (by decide +kernel) ?_
    exact ro_zret hx hb hr hlocks hS rfl dX5_isDrawn_30 (show 0 ≤ (0 : Int32).toInt ∧ (0 : Int32).toInt ≤ 1 from by decide +kernel)
  · have f2 := mt (ti_eq (a := x1.toInt) (b := 0) rfl (by decide +kernel)).mpr c2
    refine lv_aload_n hx hb dX5_isDrawn_12 rfl (lv_at hl 0 rfl) ?_
    refine xgB_R_book hx hb hts (fun _ h => List.mem_cons_of_mem _ (List.mem_append_left _ (List.mem_append_right _ h))) hown hK hP (hts (.fieldLink RX5 43 "TalePlay$Roads" "book" "LTalePlay$Book;") (List.mem_cons_of_mem _ (List.mem_append_left _ (List.mem_append_left _ (List.mem_of_getElem? (i := 0) rfl))))) dX5_isDrawn_13 ?_
    refine xgB_B_forms hx hb hts (fun _ h => List.mem_cons_of_mem _ (List.mem_append_right _ h)) hown hK hP (hts (.fieldLink RX5 71 "TalePlay$Book" "forms" "[I") (List.mem_cons_of_mem _ (List.mem_append_left _ (List.mem_append_left _ (List.mem_of_getElem? (i := 2) rfl))))) dX5_isDrawn_16 ?_
    refine lv_iload_n hx hb dX5_isDrawn_19 rfl (lv_at hl 1 rfl) ?_
    refine xlB_113 hx hb hK hP (vp_in_iff.mpr (by have h9 : s1.toInt = s1.toInt := rfl; omega)) dX5_isDrawn_20 (fun x3 ex3 => ?_)
    have rx3 : 0 ≤ x3.toInt ∧ x3.toInt ≤ 7 := by rw [ex3]; exact hI.2 113 _
    refine lv_iconst (v := 5) hx hb dX5_isDrawn_21 (by decide +kernel) ?_
    refine lv_icmp_ne (tgt := 29) hx hb dX5_isDrawn_22 (by decide +kernel) (fun c4 => ?_) (fun c4 => ?_)
    · have f4 := mt (ti_eq (a := x3.toInt) (b := 5) rfl (by decide +kernel)).mpr c4
      refine lv_iconst (v := 0) hx hb dX5_isDrawn_29 (by decide +kernel) ?_
      exact ro_zret hx hb hr hlocks hS rfl dX5_isDrawn_30 (show 0 ≤ (0 : Int32).toInt ∧ (0 : Int32).toInt ≤ 1 from by decide +kernel)
    · have f4 := (ti_eq (a := x3.toInt) (b := 5) rfl (by decide +kernel)).mp c4
      refine lv_iconst (v := 1) hx hb dX5_isDrawn_25 (by decide +kernel) ?_
      refine lv_goto (tgt := 30) hx hb dX5_isDrawn_26 (by decide +kernel) ?_
      exact ro_zret hx hb hr hlocks hS rfl dX5_isDrawn_30 (show 0 ≤ (1 : Int32).toInt ∧ (1 : Int32).toInt ≤ 1 from by decide +kernel)

def wm_X5_tellOf : List Cond := .code yX5_tellOf cX5_tellOf 3 (some .int) :: (([.fieldLink RX5 18 "TalePlay$Roads" "bys" "[I", .fieldLink RX5 21 "TalePlay$Roads" "implied" "[I", .fieldLink RX5 9 "TalePlay$Roads" "leads" "[I", .fieldLink RX5 15 "TalePlay$Roads" "doors" "[I"] : List Cond) ++ wsX50)
set_option maxHeartbeats 4000000 in
set_option maxRecDepth 100000 in
theorem x_X5_tellOf (l : Launch) (D : va_G) (sz : Nat) (sk : Value) (a : Nat → Nat) (t : Nat → ClassId) (i : Nat → Int32) (q : Int64) (c : Nat → Nat → Int32) (d : Nat → Nat → Int64) (s1 : Int32) (w : Int32) (hI : xInv i c) (hs1 : 0 ≤ s1.toInt ∧ s1.toInt ≤ 299) : Met l yX5_tellOf wm_X5_tellOf ({ frames := 0, cells := 0, slots := 0, locals := 0 }) (va_Pc [.ref (a 128), .int s1, .int w] (yA (a 186) D sz (xwB sk a t i q c d) (xtB t))) (va_Qi (fun (r : Int32) (_ : Unit) => True) oA (ro sz)) 0 0 (ro sz) := by
  refine Met.ofW (cc := cX5_tellOf) (maxL := 3) (ret := (some .int)) (by decide +kernel) rfl ?_
  intro p e s m args below meth cd s₁ B hml hv
  obtain ⟨rfl, ⟨hsz, hP, hK⟩, hN, hZ⟩ := hv
  have hx := B.exec
  have hb := B.bytes
  have hr := B.returns
  have hts := atoms_spec (ws := wm_X5_tellOf) B.pre
  have hown : s.vm.findClass RX5 = some m.cls := findClass_of_methodNamed B.named
  have hlocks := B.notSynchronized
  subst hsz
  have hA : ∀ q : Nat, s.heap.size ≤ q → ro s.heap.size q := fun _ h => h
  have hS : va_S (ro s.heap.size) s.heap s.heap [] := va_S.rf
  have hl := lv_entry ([.ref (a 128), .int s1, .int w]) (n := 3) (Nat.le_of_ble_eq_true rfl)
  rw [lg_entry_eq]
  generalize (lg_sl ([.ref (a 128), .int s1, .int w]) ++ List.replicate (3 - (lg_sl ([.ref (a 128), .int s1, .int w])).length) Slot.unset).toArray = ls at hl ⊢
  have hl : lv_has ls 3 [(0, .ref (a 128)), (1, .int s1), (2, .int w)] := hl
  refine lv_aload_n hx hb dX5_tellOf_0 rfl (lv_at hl 0 rfl) ?_
  refine xgB_R_bys hx hb hts (fun _ h => List.mem_cons_of_mem _ (List.mem_append_right _ h)) hown hK hP (hts (.fieldLink RX5 18 "TalePlay$Roads" "bys" "[I") (List.mem_cons_of_mem _ (List.mem_append_left _ (List.mem_of_getElem? (i := 0) rfl)))) dX5_tellOf_1 ?_
  refine lv_iload_n hx hb dX5_tellOf_4 rfl (lv_at hl 1 rfl) ?_
  refine xlB_131 hx hb hK hP (vp_in_iff.mpr (by have h9 : s1.toInt = s1.toInt := rfl; omega)) dX5_tellOf_5 (fun x1 ex1 => ?_)
  have rx1 : x1.toInt = -9 ∨ (0 ≤ x1.toInt ∧ x1.toInt ≤ 199) := by rw [ex1]; exact hI.2 131 _
  refine lv_bipush (v := (-9)) hx hb dX5_tellOf_6 (by decide +kernel) ?_
  refine lv_icmp_ne (tgt := 14) hx hb dX5_tellOf_8 (by decide +kernel) (fun c2 => ?_) (fun c2 => ?_)
  · have f2 := mt (ti_eq (a := x1.toInt) (b := (-9)) rfl (by decide +kernel)).mpr c2
    refine lv_iload_n hx hb dX5_tellOf_14 rfl (lv_at hl 2 rfl) ?_
    rcases (show (w.toInt < 0 ∨ 2 < w.toInt) ∨ w.toInt = 0 ∨ w.toInt = 1 ∨ w.toInt = 2 by omega) with f3 | f3 | f3 | f3
    · refine lv_tableOut (tgt := 67) hx hb dX5_tellOf_15 f3 (by decide +kernel) ?_
      refine lv_aload_n hx hb dX5_tellOf_67 rfl (lv_at hl 0 rfl) ?_
      refine xgB_R_implied hx hb hts (fun _ h => List.mem_cons_of_mem _ (List.mem_append_right _ h)) hown hK hP (hts (.fieldLink RX5 21 "TalePlay$Roads" "implied" "[I") (List.mem_cons_of_mem _ (List.mem_append_left _ (List.mem_of_getElem? (i := 1) rfl)))) dX5_tellOf_68 ?_
      refine lv_iload_n hx hb dX5_tellOf_71 rfl (lv_at hl 1 rfl) ?_
      refine xlB_132 hx hb hK hP (vp_in_iff.mpr (by have h9 : s1.toInt = s1.toInt := rfl; omega)) dX5_tellOf_72 (fun x4 ex4 => ?_)
      have rx4 : 0 ≤ x4.toInt ∧ x4.toInt ≤ 1 := by rw [ex4]; exact hI.2 132 _
      exact ro_iret hx hb hr hlocks hS dX5_tellOf_73 trivial
    · refine lv_tableIn (off := 25) (tgt := 40) hx hb dX5_tellOf_15 (by omega) (by omega) (by rw [f3]; rfl) (by decide +kernel) ?_
      refine lv_aload_n hx hb dX5_tellOf_40 rfl (lv_at hl 0 rfl) ?_
      refine xgB_R_leads hx hb hts (fun _ h => List.mem_cons_of_mem _ (List.mem_append_right _ h)) hown hK hP (hts (.fieldLink RX5 9 "TalePlay$Roads" "leads" "[I") (List.mem_cons_of_mem _ (List.mem_append_left _ (List.mem_of_getElem? (i := 2) rfl)))) dX5_tellOf_41 ?_
      refine lv_iload_n hx hb dX5_tellOf_44 rfl (lv_at hl 1 rfl) ?_
      refine xlB_129 hx hb hK hP (vp_in_iff.mpr (by have h9 : s1.toInt = s1.toInt := rfl; omega)) dX5_tellOf_45 (fun x5 ex5 => ?_)
      have rx5 : x5.toInt = -9 ∨ (0 ≤ x5.toInt ∧ x5.toInt ≤ 29) := by rw [ex5]; exact hI.2 129 _
      refine lv_goto (tgt := 73) hx hb dX5_tellOf_46 (by decide +kernel) ?_
      exact ro_iret hx hb hr hlocks hS dX5_tellOf_73 trivial
    · refine lv_tableIn (off := 34) (tgt := 49) hx hb dX5_tellOf_15 (by omega) (by omega) (by rw [f3]; rfl) (by decide +kernel) ?_
      refine lv_aload_n hx hb dX5_tellOf_49 rfl (lv_at hl 0 rfl) ?_
      refine xgB_R_doors hx hb hts (fun _ h => List.mem_cons_of_mem _ (List.mem_append_right _ h)) hown hK hP (hts (.fieldLink RX5 15 "TalePlay$Roads" "doors" "[I") (List.mem_cons_of_mem _ (List.mem_append_left _ (List.mem_of_getElem? (i := 3) rfl)))) dX5_tellOf_50 ?_
      refine lv_iload_n hx hb dX5_tellOf_53 rfl (lv_at hl 1 rfl) ?_
      refine xlB_130 hx hb hK hP (vp_in_iff.mpr (by have h9 : s1.toInt = s1.toInt := rfl; omega)) dX5_tellOf_54 (fun x6 ex6 => ?_)
      have rx6 : x6.toInt = -9 ∨ (0 ≤ x6.toInt ∧ x6.toInt ≤ 29) := by rw [ex6]; exact hI.2 130 _
      refine lv_goto (tgt := 73) hx hb dX5_tellOf_55 (by decide +kernel) ?_
      exact ro_iret hx hb hr hlocks hS dX5_tellOf_73 trivial
    · refine lv_tableIn (off := 43) (tgt := 58) hx hb dX5_tellOf_15 (by omega) (by omega) (by rw [f3]; rfl) (by decide +kernel) ?_
      refine lv_aload_n hx hb dX5_tellOf_58 rfl (lv_at hl 0 rfl) ?_
      refine xgB_R_bys hx hb hts (fun _ h => List.mem_cons_of_mem _ (List.mem_append_right _ h)) hown hK hP (hts (.fieldLink RX5 18 "TalePlay$Roads" "bys" "[I") (List.mem_cons_of_mem _ (List.mem_append_left _ (List.mem_of_getElem? (i := 0) rfl)))) dX5_tellOf_59 ?_
      refine lv_iload_n hx hb dX5_tellOf_62 rfl (lv_at hl 1 rfl) ?_
      refine xlB_131 hx hb hK hP (vp_in_iff.mpr (by have h9 : s1.toInt = s1.toInt := rfl; omega)) dX5_tellOf_63 (fun x7 ex7 => ?_)
      have rx7 : x7.toInt = -9 ∨ (0 ≤ x7.toInt ∧ x7.toInt ≤ 199) := by rw [ex7]; exact hI.2 131 _
      refine lv_goto (tgt := 73) hx hb dX5_tellOf_64 (by decide +kernel) ?_
      exact ro_iret hx hb hr hlocks hS dX5_tellOf_73 trivial
  · have f2 := (ti_eq (a := x1.toInt) (b := (-9)) rfl (by decide +kernel)).mp c2
    refine lv_bipush (v := (-9)) hx hb dX5_tellOf_11 (by decide +kernel) ?_
    exact ro_iret hx hb hr hlocks hS dX5_tellOf_13 trivial

def wm_X5_isSide : List Cond := .code yX5_isSide cX5_isSide 3 (some .boolean) :: (([.fieldLink RX5 24 "TalePlay$Roads" "firstSides" "[I", .fieldLink RX5 27 "TalePlay$Roads" "secondSides" "[I"] : List Cond) ++ wsX50)
set_option maxHeartbeats 4000000 in
set_option maxRecDepth 100000 in
theorem x_X5_isSide (l : Launch) (D : va_G) (sz : Nat) (sk : Value) (a : Nat → Nat) (t : Nat → ClassId) (i : Nat → Int32) (q : Int64) (c : Nat → Nat → Int32) (d : Nat → Nat → Int64) (w1 : Int32) (w2 : Int32) (hI : xInv i c) (hw2 : 0 ≤ w2.toInt ∧ w2.toInt ≤ 29) : Met l yX5_isSide wm_X5_isSide ({ frames := 0, cells := 0, slots := 0, locals := 0 }) (va_Pc [.ref (a 128), .int w1, .int w2] (yA (a 186) D sz (xwB sk a t i q c d) (xtB t))) (va_Qi (fun (r : Int32) (_ : Unit) => (0 ≤ r.toInt ∧ r.toInt ≤ 1)) oA (ro sz)) 0 0 (ro sz) := by
  refine Met.ofW (cc := cX5_isSide) (maxL := 3) (ret := (some .boolean)) (by decide +kernel) rfl ?_
  intro p e s m args below meth cd s₁ B hml hv
  obtain ⟨rfl, ⟨hsz, hP, hK⟩, hN, hZ⟩ := hv
  have hx := B.exec
  have hb := B.bytes
  have hr := B.returns
  have hts := atoms_spec (ws := wm_X5_isSide) B.pre
  have hown : s.vm.findClass RX5 = some m.cls := findClass_of_methodNamed B.named
  have hlocks := B.notSynchronized
  subst hsz
  have hA : ∀ q : Nat, s.heap.size ≤ q → ro s.heap.size q := fun _ h => h
  have hS : va_S (ro s.heap.size) s.heap s.heap [] := va_S.rf
  have hl := lv_entry ([.ref (a 128), .int w1, .int w2]) (n := 3) (Nat.le_of_ble_eq_true rfl)
  rw [lg_entry_eq]
  generalize (lg_sl ([.ref (a 128), .int w1, .int w2]) ++ List.replicate (3 - (lg_sl ([.ref (a 128), .int w1, .int w2])).length) Slot.unset).toArray = ls at hl ⊢
  have hl : lv_has ls 3 [(0, .ref (a 128)), (1, .int w1), (2, .int w2)] := hl
  refine lv_iload_n hx hb dX5_isSide_0 rfl (lv_at hl 1 rfl) ?_
  refine lv_bipush (v := (-9)) hx hb dX5_isSide_1 (by decide +kernel) ?_
  refine lv_icmp_eq (tgt := 30) hx hb dX5_isSide_3 (by decide +kernel) (fun c1 => ?_) (fun c1 => ?_)
  · have f1 := (ti_eq (a := w1.toInt) (b := (-9)) rfl (by decide +kernel)).mp c1
    refine lv_iconst (v := 0) hx hb dX5_isSide_30 (by decide +kernel) ?_
    exact ro_zret hx hb hr hlocks hS rfl dX5_isSide_31 (show 0 ≤ (0 : Int32).toInt ∧ (0 : Int32).toInt ≤ 1 from by decide +kernel)
  · have f1 := mt (ti_eq (a := w1.toInt) (b := (-9)) rfl (by decide +kernel)).mpr c1
    refine lv_aload_n hx hb dX5_isSide_6 rfl (lv_at hl 0 rfl) ?_
    refine xgB_R_firstSides hx hb hts (fun _ h => List.mem_cons_of_mem _ (List.mem_append_right _ h)) hown hK hP (hts (.fieldLink RX5 24 "TalePlay$Roads" "firstSides" "[I") (List.mem_cons_of_mem _ (List.mem_append_left _ (List.mem_of_getElem? (i := 0) rfl)))) dX5_isSide_7 ?_
    refine lv_iload_n hx hb dX5_isSide_10 rfl (lv_at hl 2 rfl) ?_
    refine xlB_133 hx hb hK hP (vp_in_iff.mpr (by have h9 : w2.toInt = w2.toInt := rfl; omega)) dX5_isSide_11 (fun x2 ex2 => ?_)
    have rx2 : x2.toInt = -9 ∨ (0 ≤ x2.toInt ∧ x2.toInt ≤ 29) := by rw [ex2]; exact hI.2 133 _
    refine lv_iload_n hx hb dX5_isSide_12 rfl (lv_at hl 1 rfl) ?_
    refine lv_icmp_eq (tgt := 26) hx hb dX5_isSide_13 (by decide +kernel) (fun c3 => ?_) (fun c3 => ?_)
    · have f3 := (ti_eq (a := x2.toInt) (b := w1.toInt) rfl rfl).mp c3
      refine lv_iconst (v := 1) hx hb dX5_isSide_26 (by decide +kernel) ?_
      refine lv_goto (tgt := 31) hx hb dX5_isSide_27 (by decide +kernel) ?_
      exact ro_zret hx hb hr hlocks hS rfl dX5_isSide_31 (show 0 ≤ (1 : Int32).toInt ∧ (1 : Int32).toInt ≤ 1 from by decide +kernel)
    · have f3 := mt (ti_eq (a := x2.toInt) (b := w1.toInt) rfl rfl).mpr c3
      refine lv_aload_n hx hb dX5_isSide_16 rfl (lv_at hl 0 rfl) ?_
      refine xgB_R_secondSides hx hb hts (fun _ h => List.mem_cons_of_mem _ (List.mem_append_right _ h)) hown hK hP (hts (.fieldLink RX5 27 "TalePlay$Roads" "secondSides" "[I") (List.mem_cons_of_mem _ (List.mem_append_left _ (List.mem_of_getElem? (i := 1) rfl)))) dX5_isSide_17 ?_
      refine lv_iload_n hx hb dX5_isSide_20 rfl (lv_at hl 2 rfl) ?_
      refine xlB_134 hx hb hK hP (vp_in_iff.mpr (by have h9 : w2.toInt = w2.toInt := rfl; omega)) dX5_isSide_21 (fun x4 ex4 => ?_)
      have rx4 : x4.toInt = -9 ∨ (0 ≤ x4.toInt ∧ x4.toInt ≤ 29) := by rw [ex4]; exact hI.2 134 _
      refine lv_iload_n hx hb dX5_isSide_22 rfl (lv_at hl 1 rfl) ?_
      refine lv_icmp_ne (tgt := 30) hx hb dX5_isSide_23 (by decide +kernel) (fun c5 => ?_) (fun c5 => ?_)
      · have f5 := mt (ti_eq (a := x4.toInt) (b := w1.toInt) rfl rfl).mpr c5
        refine lv_iconst (v := 0) hx hb dX5_isSide_30 (by decide +kernel) ?_
        exact ro_zret hx hb hr hlocks hS rfl dX5_isSide_31 (show 0 ≤ (0 : Int32).toInt ∧ (0 : Int32).toInt ≤ 1 from by decide +kernel)
      · have f5 := (ti_eq (a := x4.toInt) (b := w1.toInt) rfl rfl).mp c5
        refine lv_iconst (v := 1) hx hb dX5_isSide_26 (by decide +kernel) ?_
        refine lv_goto (tgt := 31) hx hb dX5_isSide_27 (by decide +kernel) ?_
        exact ro_zret hx hb hr hlocks hS rfl dX5_isSide_31 (show 0 ≤ (1 : Int32).toInt ∧ (1 : Int32).toInt ≤ 1 from by decide +kernel)

def wm_X5_isPassable : List Cond := .code yX5_isPassable cX5_isPassable 3 (some .boolean) :: ((([.fieldLink RX5 15 "TalePlay$Roads" "doors" "[I", .fieldLink RX5 43 "TalePlay$Roads" "book" "LTalePlay$Book;", .methodLink RX5 105 yX1_saidFlag, .instanceMethod yX1_saidFlag, .selects RX1 yX1_saidFlag yX1_saidFlag, .initialized RX1, .code yX1_saidFlag cX1_saidFlag 4 (some .int), .fieldLink RX1 34 "TalePlay$Book" "flagBy" "[I", .fieldLink RX1 21 "TalePlay$Book" "cs" "[I", .fieldLink RX1 43 "TalePlay$Book" "world" "LTalePlay$World;", .methodLink RX1 114 yX10_standardFor, .instanceMethod yX10_standardFor, .selects RX10 yX10_standardFor yX10_standardFor, .initialized RX10, .code yX10_standardFor cX10_standardFor 6 (some .int), .fieldLink RX10 21 "TalePlay$World" "kindOf" "[I"] : List Cond) ++ ([.methodLink RX10 40 yX10_sortOf, .instanceMethod yX10_sortOf, .selects RX10 yX10_sortOf yX10_sortOf, .code yX10_sortOf cX10_sortOf 2 (some .int), .fieldLink RX10 37 "TalePlay$World" "objects" "I", .fieldLink RX10 15 "TalePlay$World" "sorts" "[I", .fieldLink RX10 18 "TalePlay$World" "standards" "[I", .fieldLink RX10 9 "TalePlay$World" "parents" "[I"] : List Cond)) ++ wsX50 ++ wsX10 ++ wsX100)
set_option maxRecDepth 20000 in
theorem gm_X5_isPassable_X1_saidFlag_105 : GoodIn wm_X5_isPassable (wsV RX5 105 RX1 yX1_saidFlag wm_X1_saidFlag) := goodIn_w (List.forall_mem_append.mpr ⟨List.forall_mem_cons.mpr ⟨List.mem_cons_of_mem _ (List.mem_append_left _ (List.mem_append_left _ (List.mem_append_left _ (List.mem_append_left _ (List.mem_of_getElem? (i := 2) rfl))))), List.forall_mem_cons.mpr ⟨List.mem_cons_of_mem _ (List.mem_append_left _ (List.mem_append_left _ (List.mem_append_left _ (List.mem_append_left _ (List.mem_of_getElem? (i := 3) rfl))))), List.forall_mem_cons.mpr ⟨List.mem_cons_of_mem _ (List.mem_append_left _ (List.mem_append_left _ (List.mem_append_left _ (List.mem_append_left _ (List.mem_of_getElem? (i := 4) rfl))))), List.forall_mem_cons.mpr ⟨List.mem_cons_of_mem _ (List.mem_append_left _ (List.mem_append_left _ (List.mem_append_left _ (List.mem_append_left _ (List.mem_of_getElem? (i := 5) rfl))))), (fun _ h => absurd h List.not_mem_nil)⟩⟩⟩⟩, List.forall_mem_cons.mpr ⟨List.mem_cons_of_mem _ (List.mem_append_left _ (List.mem_append_left _ (List.mem_append_left _ (List.mem_append_left _ (List.mem_of_getElem? (i := 6) rfl))))), List.forall_mem_append.mpr ⟨List.forall_mem_append.mpr ⟨List.forall_mem_append.mpr ⟨List.forall_mem_cons.mpr ⟨List.mem_cons_of_mem _ (List.mem_append_left _ (List.mem_append_left _ (List.mem_append_left _ (List.mem_append_left _ (List.mem_of_getElem? (i := 7) rfl))))), List.forall_mem_cons.mpr ⟨List.mem_cons_of_mem _ (List.mem_append_left _ (List.mem_append_left _ (List.mem_append_left _ (List.mem_append_left _ (List.mem_of_getElem? (i := 8) rfl))))), List.forall_mem_cons.mpr ⟨List.mem_cons_of_mem _ (List.mem_append_left _ (List.mem_append_left _ (List.mem_append_left _ (List.mem_append_left _ (List.mem_of_getElem? (i := 9) rfl))))), List.forall_mem_cons.mpr ⟨List.mem_cons_of_mem _ (List.mem_append_left _ (List.mem_append_left _ (List.mem_append_left _ (List.mem_append_left _ (List.mem_of_getElem? (i := 10) rfl))))), List.forall_mem_cons.mpr ⟨List.mem_cons_of_mem _ (List.mem_append_left _ (List.mem_append_left _ (List.mem_append_left _ (List.mem_append_left _ (List.mem_of_getElem? (i := 11) rfl))))), List.forall_mem_cons.mpr ⟨List.mem_cons_of_mem _ (List.mem_append_left _ (List.mem_append_left _ (List.mem_append_left _ (List.mem_append_left _ (List.mem_of_getElem? (i := 12) rfl))))), List.forall_mem_cons.mpr ⟨List.mem_cons_of_mem _ (List.mem_append_left _ (List.mem_append_left _ (List.mem_append_left _ (List.mem_append_left _ (List.mem_of_getElem? (i := 13) rfl))))), List.forall_mem_cons.mpr ⟨List.mem_cons_of_mem _ (List.mem_append_left _ (List.mem_append_left _ (List.mem_append_left _ (List.mem_append_left _ (List.mem_of_getElem? (i := 14) rfl))))), List.forall_mem_cons.mpr ⟨List.mem_cons_of_mem _ (List.mem_append_left _ (List.mem_append_left _ (List.mem_append_left _ (List.mem_append_left _ (List.mem_of_getElem? (i := 15) rfl))))), List.forall_mem_cons.mpr ⟨List.mem_cons_of_mem _ (List.mem_append_left _ (List.mem_append_left _ (List.mem_append_left _ (List.mem_append_right _ (List.mem_of_getElem? (i := 0) rfl))))), List.forall_mem_cons.mpr ⟨List.mem_cons_of_mem _ (List.mem_append_left _ (List.mem_append_left _ (List.mem_append_left _ (List.mem_append_right _ (List.mem_of_getElem? (i := 1) rfl))))), List.forall_mem_cons.mpr ⟨List.mem_cons_of_mem _ (List.mem_append_left _ (List.mem_append_left _ (List.mem_append_left _ (List.mem_append_right _ (List.mem_of_getElem? (i := 2) rfl))))), List.forall_mem_cons.mpr ⟨List.mem_cons_of_mem _ (List.mem_append_left _ (List.mem_append_left _ (List.mem_append_left _ (List.mem_append_right _ (List.mem_of_getElem? (i := 3) rfl))))), List.forall_mem_cons.mpr ⟨List.mem_cons_of_mem _ (List.mem_append_left _ (List.mem_append_left _ (List.mem_append_left _ (List.mem_append_right _ (List.mem_of_getElem? (i := 4) rfl))))), List.forall_mem_cons.mpr ⟨List.mem_cons_of_mem _ (List.mem_append_left _ (List.mem_append_left _ (List.mem_append_left _ (List.mem_append_right _ (List.mem_of_getElem? (i := 5) rfl))))), List.forall_mem_cons.mpr ⟨List.mem_cons_of_mem _ (List.mem_append_left _ (List.mem_append_left _ (List.mem_append_left _ (List.mem_append_right _ (List.mem_of_getElem? (i := 6) rfl))))), (fun _ h => absurd h List.not_mem_nil)⟩⟩⟩⟩⟩⟩⟩⟩⟩⟩⟩⟩⟩⟩⟩⟩, List.forall_mem_cons.mpr ⟨List.mem_cons_of_mem _ (List.mem_append_left _ (List.mem_append_left _ (List.mem_append_left _ (List.mem_append_right _ (List.mem_of_getElem? (i := 7) rfl))))), (fun _ h => absurd h List.not_mem_nil)⟩⟩, (fun _ h => List.mem_cons_of_mem _ (List.mem_append_left _ (List.mem_append_right _ h)))⟩, (fun _ h => List.mem_cons_of_mem _ (List.mem_append_right _ h))⟩⟩⟩) (by decide +kernel)
set_option maxHeartbeats 4000000 in
set_option maxRecDepth 100000 in
theorem x_X5_isPassable (l : Launch) (D : va_G) (sz : Nat) (sk : Value) (a : Nat → Nat) (t : Nat → ClassId) (i : Nat → Int32) (q : Int64) (c : Nat → Nat → Int32) (d : Nat → Nat → Int64) (s1 : Int32) (b1 : Int32) (hI : xInv i c) (hs1 : 0 ≤ s1.toInt ∧ s1.toInt ≤ 299) : Met l yX5_isPassable wm_X5_isPassable ({ frames := 3, cells := 0, slots := 0, locals := 69 }) (va_Pc [.ref (a 128), .int s1, .int b1] (yA (a 186) D sz (xwB sk a t i q c d) (xtB t))) (va_Qi (fun (r : Int32) (_ : Unit) => (0 ≤ r.toInt ∧ r.toInt ≤ 1)) oA (ro sz)) 0 0 (ro sz) := by
  refine Met.ofW (cc := cX5_isPassable) (maxL := 3) (ret := (some .boolean)) (by decide +kernel) rfl ?_
  intro p e s m args below meth cd s₁ B hml hv
  obtain ⟨rfl, ⟨hsz, hP, hK⟩, hN, hZ⟩ := hv
  have hx := B.exec
  have hb := B.bytes
  have hr := B.returns
  have hts := atoms_spec (ws := wm_X5_isPassable) B.pre
  have hown : s.vm.findClass RX5 = some m.cls := findClass_of_methodNamed B.named
  have hlocks := B.notSynchronized
  subst hsz
  have hA : ∀ q : Nat, s.heap.size ≤ q → ro s.heap.size q := fun _ h => h
  have hS : va_S (ro s.heap.size) s.heap s.heap [] := va_S.rf
  have hl := lv_entry ([.ref (a 128), .int s1, .int b1]) (n := 3) (Nat.le_of_ble_eq_true rfl)
  rw [lg_entry_eq]
  generalize (lg_sl ([.ref (a 128), .int s1, .int b1]) ++ List.replicate (3 - (lg_sl ([.ref (a 128), .int s1, .int b1])).length) Slot.unset).toArray = ls at hl ⊢
  have hl : lv_has ls 3 [(0, .ref (a 128)), (1, .int s1), (2, .int b1)] := hl
  refine lv_iload_n hx hb dX5_isPassable_0 rfl (lv_at hl 2 rfl) ?_
  refine lv_if_eq (tgt := 33) hx hb dX5_isPassable_1 (by decide +kernel) (fun c1 => ?_) (fun c1 => ?_)
  · have f1 := (ti_eq (a := b1.toInt) (b := 0) rfl (by decide +kernel)).mp c1
    refine lv_iconst (v := 1) hx hb dX5_isPassable_33 (by decide +kernel) ?_
    refine lv_goto (tgt := 38) hx hb dX5_isPassable_34 (by decide +kernel) ?_
    exact ro_zret hx hb hr hlocks hS rfl dX5_isPassable_38 (show 0 ≤ (1 : Int32).toInt ∧ (1 : Int32).toInt ≤ 1 from by decide +kernel)
  · have f1 := mt (ti_eq (a := b1.toInt) (b := 0) rfl (by decide +kernel)).mpr c1
    refine lv_aload_n hx hb dX5_isPassable_4 rfl (lv_at hl 0 rfl) ?_
    refine xgB_R_doors hx hb hts (fun _ h => List.mem_cons_of_mem _ (List.mem_append_left _ (List.mem_append_left _ (List.mem_append_right _ h)))) hown hK hP (hts (.fieldLink RX5 15 "TalePlay$Roads" "doors" "[I") (List.mem_cons_of_mem _ (List.mem_append_left _ (List.mem_append_left _ (List.mem_append_left _ (List.mem_append_left _ (List.mem_of_getElem? (i := 0) rfl))))))) dX5_isPassable_5 ?_
    refine lv_iload_n hx hb dX5_isPassable_8 rfl (lv_at hl 1 rfl) ?_
    refine xlB_130 hx hb hK hP (vp_in_iff.mpr (by have h9 : s1.toInt = s1.toInt := rfl; omega)) dX5_isPassable_9 (fun x2 ex2 => ?_)
    have rx2 : x2.toInt = -9 ∨ (0 ≤ x2.toInt ∧ x2.toInt ≤ 29) := by rw [ex2]; exact hI.2 130 _
    have gx2 : (c 130 (s1 : Int32).toNatClampNeg).toInt = x2.toInt := (congrArg Int32.toInt ex2).symm
    refine lv_bipush (v := (-9)) hx hb dX5_isPassable_10 (by decide +kernel) ?_
    refine lv_icmp_eq (tgt := 33) hx hb dX5_isPassable_12 (by decide +kernel) (fun c3 => ?_) (fun c3 => ?_)
    · have f3 := (ti_eq (a := x2.toInt) (b := (-9)) rfl (by decide +kernel)).mp c3
      refine lv_iconst (v := 1) hx hb dX5_isPassable_33 (by decide +kernel) ?_
      refine lv_goto (tgt := 38) hx hb dX5_isPassable_34 (by decide +kernel) ?_
      exact ro_zret hx hb hr hlocks hS rfl dX5_isPassable_38 (show 0 ≤ (1 : Int32).toInt ∧ (1 : Int32).toInt ≤ 1 from by decide +kernel)
    · have f3 := mt (ti_eq (a := x2.toInt) (b := (-9)) rfl (by decide +kernel)).mpr c3
      refine lv_aload_n hx hb dX5_isPassable_15 rfl (lv_at hl 0 rfl) ?_
      refine xgB_R_book hx hb hts (fun _ h => List.mem_cons_of_mem _ (List.mem_append_left _ (List.mem_append_left _ (List.mem_append_right _ h)))) hown hK hP (hts (.fieldLink RX5 43 "TalePlay$Roads" "book" "LTalePlay$Book;") (List.mem_cons_of_mem _ (List.mem_append_left _ (List.mem_append_left _ (List.mem_append_left _ (List.mem_append_left _ (List.mem_of_getElem? (i := 1) rfl))))))) dX5_isPassable_16 ?_
      refine lv_aload_n hx hb dX5_isPassable_19 rfl (lv_at hl 0 rfl) ?_
      refine xgB_R_doors hx hb hts (fun _ h => List.mem_cons_of_mem _ (List.mem_append_left _ (List.mem_append_left _ (List.mem_append_right _ h)))) hown hK hP (hts (.fieldLink RX5 15 "TalePlay$Roads" "doors" "[I") (List.mem_cons_of_mem _ (List.mem_append_left _ (List.mem_append_left _ (List.mem_append_left _ (List.mem_append_left _ (List.mem_of_getElem? (i := 0) rfl))))))) dX5_isPassable_20 ?_
      refine lv_iload_n hx hb dX5_isPassable_23 rfl (lv_at hl 1 rfl) ?_
      refine xlB_130 hx hb hK hP (vp_in_iff.mpr (by have h9 : s1.toInt = s1.toInt := rfl; omega)) dX5_isPassable_24 (fun x4 ex4 => ?_)
      have rx4 : x4.toInt = -9 ∨ (0 ≤ x4.toInt ∧ x4.toInt ≤ 29) := by rw [ex4]; exact hI.2 130 _
      have gx4 : (c 130 (s1 : Int32).toNatClampNeg).toInt = x4.toInt := (congrArg Int32.toInt ex4).symm
      refine lv_iconst (v := 0) hx hb dX5_isPassable_25 (by decide +kernel) ?_
      refine ro_calli (va_runV (As := [.int x4, .int 0]) (rest := []) ⟨hx, hb, hml, hown, hts⟩ (x_X1_saidFlag l D s.heap.size .null a t i q c d x4 0 hI (show 0 ≤ x4.toInt ∧ x4.toInt ≤ 29 from by have h91 : (0 : Int32).toInt = 0 := (by decide +kernel); omega) (show 0 ≤ 0 ∧ 0 ≤ 5 from by decide +kernel)) (cwV 2 hts gm_X5_isPassable_X1_saidFlag_105 rfl rfl rfl (by decide +kernel) ⟨Nat.le_of_ble_eq_true rfl, Nat.le_of_ble_eq_true rfl⟩) (yA_V hN (xZ_k hZ hS hA) hK hP (ci := 1) (q0 := 6) rfl rfl) rfl rfl hl.1 rfl (lv_room (Nat.le_of_ble_eq_true rfl)) dX5_isPassable_26 ⟨Nat.le_of_ble_eq_true rfl, Nat.le_of_ble_eq_true rfl⟩) hS hA hP (fun r5 u5 H locs hw5 hP hS => ?_)
      have hw5 : (r5.toInt = -9 ∨ (0 ≤ r5.toInt ∧ r5.toInt ≤ 9)) := hw5
      refine lv_iconst (v := 1) hx hb dX5_isPassable_29 (by decide +kernel) ?_
      refine lv_icmp_ne (tgt := 37) hx hb dX5_isPassable_30 (by decide +kernel) (fun c6 => ?_) (fun c6 => ?_)
      · have f6 := mt (ti_eq (a := r5.toInt) (b := 1) rfl (by decide +kernel)).mpr c6
        refine lv_iconst (v := 0) hx hb dX5_isPassable_37 (by decide +kernel) ?_
        exact ro_zret hx hb hr hlocks hS rfl dX5_isPassable_38 (show 0 ≤ (0 : Int32).toInt ∧ (0 : Int32).toInt ≤ 1 from by decide +kernel)
      · have f6 := (ti_eq (a := r5.toInt) (b := 1) rfl (by decide +kernel)).mp c6
        refine lv_iconst (v := 1) hx hb dX5_isPassable_33 (by decide +kernel) ?_
        refine lv_goto (tgt := 38) hx hb dX5_isPassable_34 (by decide +kernel) ?_
        exact ro_zret hx hb hr hlocks hS rfl dX5_isPassable_38 (show 0 ≤ (1 : Int32).toInt ∧ (1 : Int32).toInt ≤ 1 from by decide +kernel)

def wm_X5_drawTarget : List Cond := .code yX5_drawTarget cX5_drawTarget 4 none :: (([.fieldLink RX5 39 "TalePlay$Roads" "world" "LTalePlay$World;", .methodLink RX5 95 yX10_sortOf, .instanceMethod yX10_sortOf, .selects RX10 yX10_sortOf yX10_sortOf, .initialized RX10, .code yX10_sortOf cX10_sortOf 2 (some .int), .fieldLink RX10 37 "TalePlay$World" "objects" "I", .fieldLink RX10 15 "TalePlay$World" "sorts" "[I", .fieldLink RX10 21 "TalePlay$World" "kindOf" "[I", .fieldLink RX5 15 "TalePlay$Roads" "doors" "[I", .fieldLink RX5 24 "TalePlay$Roads" "firstSides" "[I", .fieldLink RX5 27 "TalePlay$Roads" "secondSides" "[I", .fieldLink RX5 9 "TalePlay$Roads" "leads" "[I"] : List Cond) ++ wsX50 ++ wsX100)
set_option maxRecDepth 20000 in
theorem gm_X5_drawTarget_X10_sortOf_95 : GoodIn wm_X5_drawTarget (wsV RX5 95 RX10 yX10_sortOf wm_X10_sortOf) := goodIn_w (List.forall_mem_append.mpr ⟨List.forall_mem_cons.mpr ⟨List.mem_cons_of_mem _ (List.mem_append_left _ (List.mem_append_left _ (List.mem_of_getElem? (i := 1) rfl))), List.forall_mem_cons.mpr ⟨List.mem_cons_of_mem _ (List.mem_append_left _ (List.mem_append_left _ (List.mem_of_getElem? (i := 2) rfl))), List.forall_mem_cons.mpr ⟨List.mem_cons_of_mem _ (List.mem_append_left _ (List.mem_append_left _ (List.mem_of_getElem? (i := 3) rfl))), List.forall_mem_cons.mpr ⟨List.mem_cons_of_mem _ (List.mem_append_left _ (List.mem_append_left _ (List.mem_of_getElem? (i := 4) rfl))), (fun _ h => absurd h List.not_mem_nil)⟩⟩⟩⟩, List.forall_mem_cons.mpr ⟨List.mem_cons_of_mem _ (List.mem_append_left _ (List.mem_append_left _ (List.mem_of_getElem? (i := 5) rfl))), List.forall_mem_append.mpr ⟨List.forall_mem_cons.mpr ⟨List.mem_cons_of_mem _ (List.mem_append_left _ (List.mem_append_left _ (List.mem_of_getElem? (i := 6) rfl))), List.forall_mem_cons.mpr ⟨List.mem_cons_of_mem _ (List.mem_append_left _ (List.mem_append_left _ (List.mem_of_getElem? (i := 7) rfl))), List.forall_mem_cons.mpr ⟨List.mem_cons_of_mem _ (List.mem_append_left _ (List.mem_append_left _ (List.mem_of_getElem? (i := 8) rfl))), (fun _ h => absurd h List.not_mem_nil)⟩⟩⟩, (fun _ h => List.mem_cons_of_mem _ (List.mem_append_right _ h))⟩⟩⟩) (by decide +kernel)
set_option maxHeartbeats 4000000 in
set_option maxRecDepth 100000 in
theorem x_X5_drawTarget (l : Launch) (D : va_G) (sz : Nat) (sk : Value) (a : Nat → Nat) (t : Nat → ClassId) (i : Nat → Int32) (q : Int64) (c : Nat → Nat → Int32) (d : Nat → Nat → Int64) (s1 : Int32) (w1 : Int32) (w2 : Int32) (hI : xInv i c) (hs1 : 0 ≤ s1.toInt ∧ s1.toInt ≤ 299) (hw1 : 0 ≤ w1.toInt ∧ w1.toInt ≤ 29) (hw2 : 0 ≤ w2.toInt ∧ w2.toInt ≤ 29) : Met l yX5_drawTarget wm_X5_drawTarget ({ frames := 1, cells := 0, slots := 0, locals := 21 }) (va_Pc [.ref (a 128), .int s1, .int w1, .int w2] (yB (a 186) D sz (xwT sk a t i q c d) (xtT t))) (va_Qv (fun (u : MS) => True ∧ xInv u.1 u.2.2.1 ∧ (∀ k, k ∉ ([] : List Nat) → u.1 k = i k) ∧ (∀ k, k ∉ ([129, 130, 133, 134] : List Nat) → u.2.2.1 k = c k)) (oC D (va_A (xwT sk a t i q c d) sz) (fun u : MS => xwT sk a t u.1 u.2.1 u.2.2.1 u.2.2.2) (fun _ => [])) (va_A (xwT sk a t i q c d) sz)) 0 0 (va_A (xwT sk a t i q c d) sz) := by
  refine Met.ofW (cc := cX5_drawTarget) (maxL := 4) (ret := none) (by decide +kernel) rfl ?_
  intro p e s m args below meth cd s₁ B hml hv
  obtain ⟨rfl, ⟨hsz, hP, hK, hD0⟩, hN, hZ, hBW⟩ := hv
  have hx := B.exec
  have hb := B.bytes
  have hr := B.returns
  have hts := atoms_spec (ws := wm_X5_drawTarget) B.pre
  have hown : s.vm.findClass RX5 = some m.cls := findClass_of_methodNamed B.named
  have hlocks := B.notSynchronized
  subst hsz
  have hD := hD0.self (sz := s.heap.size)
  have hZ := xZ_A hZ hP hBW
  generalize hAe : va_A (xwT sk a t i q c d) s.heap.size = A at hD hZ ⊢
  have hA : ∀ q : Nat, s.heap.size ≤ q → A q := fun q h => by rw [← hAe]; exact Or.inr h
  have hS : va_S A s.heap s.heap [] := va_S.rf
  have hfi : ∀ k, k ∉ ([] : List Nat) → i k = i k := fun _ _ => rfl
  have hfc : ∀ k, k ∉ ([] : List Nat) → c k = c k := fun _ _ => rfl
  have hl := lv_entry ([.ref (a 128), .int s1, .int w1, .int w2]) (n := 4) (Nat.le_of_ble_eq_true rfl)
  rw [lg_entry_eq]
  generalize (lg_sl ([.ref (a 128), .int s1, .int w1, .int w2]) ++ List.replicate (4 - (lg_sl ([.ref (a 128), .int s1, .int w1, .int w2])).length) Slot.unset).toArray = ls at hl ⊢
  have hl : lv_has ls 4 [(0, .ref (a 128)), (1, .int s1), (2, .int w1), (3, .int w2)] := hl
  refine lv_aload_n hx hb dX5_drawTarget_0 rfl (lv_at hl 0 rfl) ?_
  refine xgT_R_world hx hb hts (fun _ h => List.mem_cons_of_mem _ (List.mem_append_left _ (List.mem_append_right _ h))) hown hK hP (hts (.fieldLink RX5 39 "TalePlay$Roads" "world" "LTalePlay$World;") (List.mem_cons_of_mem _ (List.mem_append_left _ (List.mem_append_left _ (List.mem_of_getElem? (i := 0) rfl))))) dX5_drawTarget_1 ?_
  refine lv_iload_n hx hb dX5_drawTarget_4 rfl (lv_at hl 3 rfl) ?_
  have rb111_i : 0 ≤ (i 111).toInt ∧ (i 111).toInt ≤ 30 := hI.1 111
  refine ro_calli (va_runV (As := [.int w2]) (rest := []) ⟨hx, hb, hml, hown, hts⟩ (x_X10_sortOf l D s.heap.size .null a t i q c d w2 hI ) (cwV 1 hts gm_X5_drawTarget_X10_sortOf_95 rfl rfl rfl (by decide +kernel) ⟨Nat.le_of_ble_eq_true rfl, Nat.le_of_ble_eq_true rfl⟩) (yA_V hN (xZ_k hZ hS hA) (xkT_W hK) (xuT_W (sk := sk) hP) (ci := 10) (q0 := 0) rfl rfl) rfl rfl hl.1 rfl (lv_room (Nat.le_of_ble_eq_true rfl)) dX5_drawTarget_5 ⟨Nat.le_of_ble_eq_true rfl, Nat.le_of_ble_eq_true rfl⟩) hS hA hP (fun r1 u1 H locs hw1 hP hS => ?_)
  have hw1 : ((r1.toInt = -9 ∧ ¬ (0 ≤ w2.toInt ∧ w2.toInt < (i 111).toInt)) ∨ (0 ≤ r1.toInt ∧ r1.toInt ≤ 5 ∧ 0 ≤ w2.toInt ∧ w2.toInt < (i 111).toInt)) := hw1
  refine lv_if_ne (tgt := 19) hx hb dX5_drawTarget_8 (by decide +kernel) (fun c2 => ?_) (fun c2 => ?_)
  · have f2 := mt (ti_eq (a := r1.toInt) (b := 0) rfl (by decide +kernel)).mpr c2
    refine lv_aload_n hx hb dX5_drawTarget_19 rfl (lv_at hl 0 rfl) ?_
    refine xgT_R_doors hx hb hts (fun _ h => List.mem_cons_of_mem _ (List.mem_append_left _ (List.mem_append_right _ h))) hown hK hP (hts (.fieldLink RX5 15 "TalePlay$Roads" "doors" "[I") (List.mem_cons_of_mem _ (List.mem_append_left _ (List.mem_append_left _ (List.mem_of_getElem? (i := 9) rfl))))) dX5_drawTarget_20 ?_
    refine lv_iload_n hx hb dX5_drawTarget_23 rfl (lv_at hl 1 rfl) ?_
    refine lv_iload_n hx hb dX5_drawTarget_24 rfl (lv_at hl 3 rfl) ?_
    refine xsT_130 hx hb hK hP hD hS (vp_in_iff.mpr (by have h9 : s1.toInt = s1.toInt := rfl; omega)) dX5_drawTarget_25 (fun H locs hP hD hS => ?_)
    have hI := xInv_c hI (k := 130) (j := (s1 : Int32).toNatClampNeg) (x := w2) (show (w2 : Int32).toInt = -9 ∨ (0 ≤ (w2 : Int32).toInt ∧ (w2 : Int32).toInt ≤ 29) from by omega)
    have hfc : ∀ k, k ∉ ([130] : List Nat) → (updA c 130 (s1 : Int32).toNatClampNeg w2) k = c k := fr_cz hfc (by decide +kernel) (by decide +kernel)
    refine lv_aload_n hx hb dX5_drawTarget_26 rfl (lv_at hl 0 rfl) ?_
    refine xgT_R_firstSides hx hb hts (fun _ h => List.mem_cons_of_mem _ (List.mem_append_left _ (List.mem_append_right _ h))) hown hK hP (hts (.fieldLink RX5 24 "TalePlay$Roads" "firstSides" "[I") (List.mem_cons_of_mem _ (List.mem_append_left _ (List.mem_append_left _ (List.mem_of_getElem? (i := 10) rfl))))) dX5_drawTarget_27 ?_
    refine lv_iload_n hx hb dX5_drawTarget_30 rfl (lv_at hl 3 rfl) ?_
    refine xlT_133 hx hb hK hP (vp_in_iff.mpr (by have h9 : w2.toInt = w2.toInt := rfl; omega)) dX5_drawTarget_31 (fun x3 ex3 => ?_)
    have rx3 : x3.toInt = -9 ∨ (0 ≤ x3.toInt ∧ x3.toInt ≤ 29) := by rw [ex3]; exact hI.2 133 _
    refine lv_bipush (v := (-9)) hx hb dX5_drawTarget_32 (by decide +kernel) ?_
    refine lv_icmp_ne (tgt := 47) hx hb dX5_drawTarget_34 (by decide +kernel) (fun c4 => ?_) (fun c4 => ?_)
    · have f4 := mt (ti_eq (a := x3.toInt) (b := (-9)) rfl (by decide +kernel)).mpr c4
      refine lv_aload_n hx hb dX5_drawTarget_47 rfl (lv_at hl 0 rfl) ?_
      refine xgT_R_secondSides hx hb hts (fun _ h => List.mem_cons_of_mem _ (List.mem_append_left _ (List.mem_append_right _ h))) hown hK hP (hts (.fieldLink RX5 27 "TalePlay$Roads" "secondSides" "[I") (List.mem_cons_of_mem _ (List.mem_append_left _ (List.mem_append_left _ (List.mem_of_getElem? (i := 11) rfl))))) dX5_drawTarget_48 ?_
      refine lv_iload_n hx hb dX5_drawTarget_51 rfl (lv_at hl 3 rfl) ?_
      refine lv_iload_n hx hb dX5_drawTarget_52 rfl (lv_at hl 2 rfl) ?_
      refine xsT_134 hx hb hK hP hD hS (vp_in_iff.mpr (by have h9 : w2.toInt = w2.toInt := rfl; omega)) dX5_drawTarget_53 (fun H locs hP hD hS => ?_)
      have hI := xInv_c hI (k := 134) (j := (w2 : Int32).toNatClampNeg) (x := w1) (show (w1 : Int32).toInt = -9 ∨ (0 ≤ (w1 : Int32).toInt ∧ (w1 : Int32).toInt ≤ 29) from by omega)
      have hfc : ∀ k, k ∉ ([130, 134] : List Nat) → (updA (updA c 130 (s1 : Int32).toNatClampNeg w2) 134 (w2 : Int32).toNatClampNeg w1) k = c k := fr_cz hfc (by decide +kernel) (by decide +kernel)
      exact rw_vret (i, q, (updA (updA c 130 (s1 : Int32).toNatClampNeg w2) 134 (w2 : Int32).toNatClampNeg w1), d) hx hb hr hlocks hS (hK.sub (tys' := []) [] rfl) hP hD dX5_drawTarget_54 ⟨trivial, hI, fr_w hfi (by decide +kernel), fr_w hfc (by decide +kernel)⟩
    · have f4 := (ti_eq (a := x3.toInt) (b := (-9)) rfl (by decide +kernel)).mp c4
      refine lv_aload_n hx hb dX5_drawTarget_37 rfl (lv_at hl 0 rfl) ?_
      refine xgT_R_firstSides hx hb hts (fun _ h => List.mem_cons_of_mem _ (List.mem_append_left _ (List.mem_append_right _ h))) hown hK hP (hts (.fieldLink RX5 24 "TalePlay$Roads" "firstSides" "[I") (List.mem_cons_of_mem _ (List.mem_append_left _ (List.mem_append_left _ (List.mem_of_getElem? (i := 10) rfl))))) dX5_drawTarget_38 ?_
      refine lv_iload_n hx hb dX5_drawTarget_41 rfl (lv_at hl 3 rfl) ?_
      refine lv_iload_n hx hb dX5_drawTarget_42 rfl (lv_at hl 2 rfl) ?_
      refine xsT_133 hx hb hK hP hD hS (vp_in_iff.mpr (by have h9 : w2.toInt = w2.toInt := rfl; omega)) dX5_drawTarget_43 (fun H locs hP hD hS => ?_)
      have hI := xInv_c hI (k := 133) (j := (w2 : Int32).toNatClampNeg) (x := w1) (show (w1 : Int32).toInt = -9 ∨ (0 ≤ (w1 : Int32).toInt ∧ (w1 : Int32).toInt ≤ 29) from by omega)
      have hfc : ∀ k, k ∉ ([130, 133] : List Nat) → (updA (updA c 130 (s1 : Int32).toNatClampNeg w2) 133 (w2 : Int32).toNatClampNeg w1) k = c k := fr_cz hfc (by decide +kernel) (by decide +kernel)
      refine lv_goto (tgt := 54) hx hb dX5_drawTarget_44 (by decide +kernel) ?_
      exact rw_vret (i, q, (updA (updA c 130 (s1 : Int32).toNatClampNeg w2) 133 (w2 : Int32).toNatClampNeg w1), d) hx hb hr hlocks hS (hK.sub (tys' := []) [] rfl) hP hD dX5_drawTarget_54 ⟨trivial, hI, fr_w hfi (by decide +kernel), fr_w hfc (by decide +kernel)⟩
  · have f2 := (ti_eq (a := r1.toInt) (b := 0) rfl (by decide +kernel)).mp c2
    refine lv_aload_n hx hb dX5_drawTarget_11 rfl (lv_at hl 0 rfl) ?_
    refine xgT_R_leads hx hb hts (fun _ h => List.mem_cons_of_mem _ (List.mem_append_left _ (List.mem_append_right _ h))) hown hK hP (hts (.fieldLink RX5 9 "TalePlay$Roads" "leads" "[I") (List.mem_cons_of_mem _ (List.mem_append_left _ (List.mem_append_left _ (List.mem_of_getElem? (i := 12) rfl))))) dX5_drawTarget_12 ?_
    refine lv_iload_n hx hb dX5_drawTarget_15 rfl (lv_at hl 1 rfl) ?_
    refine lv_iload_n hx hb dX5_drawTarget_16 rfl (lv_at hl 3 rfl) ?_
    refine xsT_129 hx hb hK hP hD hS (vp_in_iff.mpr (by have h9 : s1.toInt = s1.toInt := rfl; omega)) dX5_drawTarget_17 (fun H locs hP hD hS => ?_)
    have hI := xInv_c hI (k := 129) (j := (s1 : Int32).toNatClampNeg) (x := w2) (show (w2 : Int32).toInt = -9 ∨ (0 ≤ (w2 : Int32).toInt ∧ (w2 : Int32).toInt ≤ 29) from by omega)
    have hfc : ∀ k, k ∉ ([129] : List Nat) → (updA c 129 (s1 : Int32).toNatClampNeg w2) k = c k := fr_cz hfc (by decide +kernel) (by decide +kernel)
    exact rw_vret (i, q, (updA c 129 (s1 : Int32).toNatClampNeg w2), d) hx hb hr hlocks hS (hK.sub (tys' := []) [] rfl) hP hD dX5_drawTarget_18 ⟨trivial, hI, fr_w hfi (by decide +kernel), fr_w hfc (by decide +kernel)⟩

def wm_X5_drawSaid : List Cond := .code yX5_drawSaid cX5_drawSaid 3 none :: ((([.fieldLink RX5 43 "TalePlay$Roads" "book" "LTalePlay$Book;", .fieldLink RX5 74 "TalePlay$Book" "total" "I", .methodLink RX5 78 yX5_isDrawn, .instanceMethod yX5_isDrawn, .selects RX5 yX5_isDrawn yX5_isDrawn, .initialized RX5, .code yX5_isDrawn cX5_isDrawn 2 (some .boolean), .fieldLink RX5 65 "TalePlay$Book" "said" "[Z", .fieldLink RX5 71 "TalePlay$Book" "forms" "[I", .fieldLink RX5 82 "TalePlay$Book" "as" "[I", .fieldLink RX5 85 "TalePlay$Book" "cs" "[I", .fieldLink RX5 18 "TalePlay$Roads" "bys" "[I", .fieldLink RX5 88 "TalePlay$Book" "bs" "[I", .methodLink RX5 91 yX5_drawTarget, .instanceMethod yX5_drawTarget, .selects RX5 yX5_drawTarget yX5_drawTarget] : List Cond) ++ ([.code yX5_drawTarget cX5_drawTarget 4 none, .fieldLink RX5 39 "TalePlay$Roads" "world" "LTalePlay$World;", .methodLink RX5 95 yX10_sortOf, .instanceMethod yX10_sortOf, .selects RX10 yX10_sortOf yX10_sortOf, .initialized RX10, .code yX10_sortOf cX10_sortOf 2 (some .int), .fieldLink RX10 37 "TalePlay$World" "objects" "I", .fieldLink RX10 15 "TalePlay$World" "sorts" "[I", .fieldLink RX10 21 "TalePlay$World" "kindOf" "[I", .fieldLink RX5 15 "TalePlay$Roads" "doors" "[I", .fieldLink RX5 24 "TalePlay$Roads" "firstSides" "[I", .fieldLink RX5 27 "TalePlay$Roads" "secondSides" "[I", .fieldLink RX5 9 "TalePlay$Roads" "leads" "[I"] : List Cond)) ++ wsX50 ++ wsX10 ++ wsX100)
set_option maxRecDepth 20000 in
theorem gm_X5_drawSaid_X5_isDrawn_78 : GoodIn wm_X5_drawSaid (wsV RX5 78 RX5 yX5_isDrawn wm_X5_isDrawn) := goodIn_w (List.forall_mem_append.mpr ⟨List.forall_mem_cons.mpr ⟨List.mem_cons_of_mem _ (List.mem_append_left _ (List.mem_append_left _ (List.mem_append_left _ (List.mem_append_left _ (List.mem_of_getElem? (i := 2) rfl))))), List.forall_mem_cons.mpr ⟨List.mem_cons_of_mem _ (List.mem_append_left _ (List.mem_append_left _ (List.mem_append_left _ (List.mem_append_left _ (List.mem_of_getElem? (i := 3) rfl))))), List.forall_mem_cons.mpr ⟨List.mem_cons_of_mem _ (List.mem_append_left _ (List.mem_append_left _ (List.mem_append_left _ (List.mem_append_left _ (List.mem_of_getElem? (i := 4) rfl))))), List.forall_mem_cons.mpr ⟨List.mem_cons_of_mem _ (List.mem_append_left _ (List.mem_append_left _ (List.mem_append_left _ (List.mem_append_left _ (List.mem_of_getElem? (i := 5) rfl))))), (fun _ h => absurd h List.not_mem_nil)⟩⟩⟩⟩, List.forall_mem_cons.mpr ⟨List.mem_cons_of_mem _ (List.mem_append_left _ (List.mem_append_left _ (List.mem_append_left _ (List.mem_append_left _ (List.mem_of_getElem? (i := 6) rfl))))), List.forall_mem_append.mpr ⟨List.forall_mem_append.mpr ⟨List.forall_mem_cons.mpr ⟨List.mem_cons_of_mem _ (List.mem_append_left _ (List.mem_append_left _ (List.mem_append_left _ (List.mem_append_left _ (List.mem_of_getElem? (i := 0) rfl))))), List.forall_mem_cons.mpr ⟨List.mem_cons_of_mem _ (List.mem_append_left _ (List.mem_append_left _ (List.mem_append_left _ (List.mem_append_left _ (List.mem_of_getElem? (i := 7) rfl))))), List.forall_mem_cons.mpr ⟨List.mem_cons_of_mem _ (List.mem_append_left _ (List.mem_append_left _ (List.mem_append_left _ (List.mem_append_left _ (List.mem_of_getElem? (i := 8) rfl))))), (fun _ h => absurd h List.not_mem_nil)⟩⟩⟩, (fun _ h => List.mem_cons_of_mem _ (List.mem_append_left _ (List.mem_append_left _ (List.mem_append_right _ h))))⟩, (fun _ h => List.mem_cons_of_mem _ (List.mem_append_left _ (List.mem_append_right _ h)))⟩⟩⟩) (by decide +kernel)
set_option maxRecDepth 20000 in
theorem gm_X5_drawSaid_X5_drawTarget_91 : GoodIn wm_X5_drawSaid (wsV RX5 91 RX5 yX5_drawTarget wm_X5_drawTarget) := goodIn_w (List.forall_mem_append.mpr ⟨List.forall_mem_cons.mpr ⟨List.mem_cons_of_mem _ (List.mem_append_left _ (List.mem_append_left _ (List.mem_append_left _ (List.mem_append_left _ (List.mem_of_getElem? (i := 13) rfl))))), List.forall_mem_cons.mpr ⟨List.mem_cons_of_mem _ (List.mem_append_left _ (List.mem_append_left _ (List.mem_append_left _ (List.mem_append_left _ (List.mem_of_getElem? (i := 14) rfl))))), List.forall_mem_cons.mpr ⟨List.mem_cons_of_mem _ (List.mem_append_left _ (List.mem_append_left _ (List.mem_append_left _ (List.mem_append_left _ (List.mem_of_getElem? (i := 15) rfl))))), List.forall_mem_cons.mpr ⟨List.mem_cons_of_mem _ (List.mem_append_left _ (List.mem_append_left _ (List.mem_append_left _ (List.mem_append_left _ (List.mem_of_getElem? (i := 5) rfl))))), (fun _ h => absurd h List.not_mem_nil)⟩⟩⟩⟩, List.forall_mem_cons.mpr ⟨List.mem_cons_of_mem _ (List.mem_append_left _ (List.mem_append_left _ (List.mem_append_left _ (List.mem_append_right _ (List.mem_of_getElem? (i := 0) rfl))))), List.forall_mem_append.mpr ⟨List.forall_mem_append.mpr ⟨List.forall_mem_cons.mpr ⟨List.mem_cons_of_mem _ (List.mem_append_left _ (List.mem_append_left _ (List.mem_append_left _ (List.mem_append_right _ (List.mem_of_getElem? (i := 1) rfl))))), List.forall_mem_cons.mpr ⟨List.mem_cons_of_mem _ (List.mem_append_left _ (List.mem_append_left _ (List.mem_append_left _ (List.mem_append_right _ (List.mem_of_getElem? (i := 2) rfl))))), List.forall_mem_cons.mpr ⟨List.mem_cons_of_mem _ (List.mem_append_left _ (List.mem_append_left _ (List.mem_append_left _ (List.mem_append_right _ (List.mem_of_getElem? (i := 3) rfl))))), List.forall_mem_cons.mpr ⟨List.mem_cons_of_mem _ (List.mem_append_left _ (List.mem_append_left _ (List.mem_append_left _ (List.mem_append_right _ (List.mem_of_getElem? (i := 4) rfl))))), List.forall_mem_cons.mpr ⟨List.mem_cons_of_mem _ (List.mem_append_left _ (List.mem_append_left _ (List.mem_append_left _ (List.mem_append_right _ (List.mem_of_getElem? (i := 5) rfl))))), List.forall_mem_cons.mpr ⟨List.mem_cons_of_mem _ (List.mem_append_left _ (List.mem_append_left _ (List.mem_append_left _ (List.mem_append_right _ (List.mem_of_getElem? (i := 6) rfl))))), List.forall_mem_cons.mpr ⟨List.mem_cons_of_mem _ (List.mem_append_left _ (List.mem_append_left _ (List.mem_append_left _ (List.mem_append_right _ (List.mem_of_getElem? (i := 7) rfl))))), List.forall_mem_cons.mpr ⟨List.mem_cons_of_mem _ (List.mem_append_left _ (List.mem_append_left _ (List.mem_append_left _ (List.mem_append_right _ (List.mem_of_getElem? (i := 8) rfl))))), List.forall_mem_cons.mpr ⟨List.mem_cons_of_mem _ (List.mem_append_left _ (List.mem_append_left _ (List.mem_append_left _ (List.mem_append_right _ (List.mem_of_getElem? (i := 9) rfl))))), List.forall_mem_cons.mpr ⟨List.mem_cons_of_mem _ (List.mem_append_left _ (List.mem_append_left _ (List.mem_append_left _ (List.mem_append_right _ (List.mem_of_getElem? (i := 10) rfl))))), List.forall_mem_cons.mpr ⟨List.mem_cons_of_mem _ (List.mem_append_left _ (List.mem_append_left _ (List.mem_append_left _ (List.mem_append_right _ (List.mem_of_getElem? (i := 11) rfl))))), List.forall_mem_cons.mpr ⟨List.mem_cons_of_mem _ (List.mem_append_left _ (List.mem_append_left _ (List.mem_append_left _ (List.mem_append_right _ (List.mem_of_getElem? (i := 12) rfl))))), List.forall_mem_cons.mpr ⟨List.mem_cons_of_mem _ (List.mem_append_left _ (List.mem_append_left _ (List.mem_append_left _ (List.mem_append_right _ (List.mem_of_getElem? (i := 13) rfl))))), (fun _ h => absurd h List.not_mem_nil)⟩⟩⟩⟩⟩⟩⟩⟩⟩⟩⟩⟩⟩, (fun _ h => List.mem_cons_of_mem _ (List.mem_append_left _ (List.mem_append_left _ (List.mem_append_right _ h))))⟩, (fun _ h => List.mem_cons_of_mem _ (List.mem_append_right _ h))⟩⟩⟩) (by decide +kernel)
set_option maxHeartbeats 4000000 in
set_option maxRecDepth 100000 in
theorem x_X5_drawSaid (l : Launch) (D : va_G) (sz : Nat) (sk : Value) (a : Nat → Nat) (t : Nat → ClassId) (i : Nat → Int32) (q : Int64) (c : Nat → Nat → Int32) (d : Nat → Nat → Int64) (hI : xInv i c) : Met l yX5_drawSaid wm_X5_drawSaid ({ frames := 2, cells := 0, slots := 0, locals := 44 }) (va_Pc [.ref (a 128)] (yB (a 186) D sz (xwT sk a t i q c d) (xtT t))) (va_Qv (fun (u : MS) => True ∧ xInv u.1 u.2.2.1 ∧ (∀ k, k ∉ ([] : List Nat) → u.1 k = i k) ∧ (∀ k, k ∉ ([129, 130, 131, 133, 134] : List Nat) → u.2.2.1 k = c k)) (oC D (va_A (xwT sk a t i q c d) sz) (fun u : MS => xwT sk a t u.1 u.2.1 u.2.2.1 u.2.2.2) (fun _ => [])) (va_A (xwT sk a t i q c d) sz)) 0 0 (va_A (xwT sk a t i q c d) sz) := by
  refine Met.ofW (cc := cX5_drawSaid) (maxL := 3) (ret := none) (by decide +kernel) rfl ?_
  intro p e s m args below meth cd s₁ B hml hv
  obtain ⟨rfl, ⟨hsz, hP, hK, hD0⟩, hN, hZ, hBW⟩ := hv
  have hx := B.exec
  have hb := B.bytes
  have hr := B.returns
  have hts := atoms_spec (ws := wm_X5_drawSaid) B.pre
  have hown : s.vm.findClass RX5 = some m.cls := findClass_of_methodNamed B.named
  have hlocks := B.notSynchronized
  subst hsz
  have hD := hD0.self (sz := s.heap.size)
  have hZ := xZ_A hZ hP hBW
  generalize hAe : va_A (xwT sk a t i q c d) s.heap.size = A at hD hZ ⊢
  have hA : ∀ q : Nat, s.heap.size ≤ q → A q := fun q h => by rw [← hAe]; exact Or.inr h
  have hS : va_S A s.heap s.heap [] := va_S.rf
  have hfi : ∀ k, k ∉ ([] : List Nat) → i k = i k := fun _ _ => rfl
  have hfc : ∀ k, k ∉ ([] : List Nat) → c k = c k := fun _ _ => rfl
  have hl := lv_entry ([.ref (a 128)]) (n := 3) (Nat.le_of_ble_eq_true rfl)
  rw [lg_entry_eq]
  generalize (lg_sl ([.ref (a 128)]) ++ List.replicate (3 - (lg_sl ([.ref (a 128)])).length) Slot.unset).toArray = ls at hl ⊢
  have hl : lv_has ls 3 [(0, .ref (a 128))] := hl
  refine lv_iconst (v := 0) hx hb dX5_drawSaid_0 (by decide +kernel) ?_
  refine lv_istore_n (lv' := [(1, .int 0), (0, .ref (a 128))]) hx hb dX5_drawSaid_1 rfl hl (by decide +kernel) rfl (fun ls hl => ?_)
  have lp1 : ∀ (fu : Nat) (i1 : Nat → Int32) (q1 : Int64) (c1 : Nat → Nat → Int32) (d1 : Nat → Nat → Int64) (y1_1 : Int32), xInv i1 c1 → (∀ k, k ∉ ([] : List Nat) → i1 k = i k) → (∀ k, k ∉ ([129, 130, 131, 133, 134] : List Nat) → c1 k = c k) → (0 ≤ y1_1.toInt ∧ y1_1.toInt ≤ 200) → (200 - y1_1.toInt).toNat < fu → ∀ (H : Heap) (locs : List Loc) (ls : Array Slot), va_P D vwCl (xwT sk a t i1 q1 c1 d1) H → va_D A (xwT sk a t i1 q1 c1 d1) → va_S A s.heap H locs → lv_has ls 3 [(1, .int y1_1), (0, .ref (a 128))] → W p l e (headSpec wm_X5_drawSaid ({ frames := 2, cells := 0, slots := 0, locals := 44 })).room s m ([.ref (a 128)] : List Value).toArray below meth cd H locs 0 0 (MQ below (va_Qv (fun (u : MS) => True ∧ xInv u.1 u.2.2.1 ∧ (∀ k, k ∉ ([] : List Nat) → u.1 k = i k) ∧ (∀ k, k ∉ ([129, 130, 131, 133, 134] : List Nat) → u.2.2.1 k = c k)) (oC D A (fun u : MS => xwT sk a t u.1 u.2.1 u.2.2.1 u.2.2.2) (fun _ => [])) A) ([.ref (a 128)] : List Value).toArray s 0 0 A) (F0 m 2 ls []) := by
    intro fu
    induction fu with
    | zero => intro i1 q1 c1 d1 y1_1 hI hfi hfc hy1_1 hm; exact absurd hm (Nat.not_lt_zero _)
    | succ fu ih =>
      intro i1 q1 c1 d1 y1_1 hI hfi hfc hy1_1 hm H locs ls hP hD hS hl
      have ih1 := ih
      refine lv_iload_n hx hb dX5_drawSaid_2 rfl (lv_at hl 0 rfl) ?_
      refine lv_aload_n hx hb dX5_drawSaid_3 rfl (lv_at hl 1 rfl) ?_
      refine xgT_R_book hx hb hts (fun _ h => List.mem_cons_of_mem _ (List.mem_append_left _ (List.mem_append_left _ (List.mem_append_right _ h)))) hown hK hP (hts (.fieldLink RX5 43 "TalePlay$Roads" "book" "LTalePlay$Book;") (List.mem_cons_of_mem _ (List.mem_append_left _ (List.mem_append_left _ (List.mem_append_left _ (List.mem_append_left _ (List.mem_of_getElem? (i := 0) rfl))))))) dX5_drawSaid_4 ?_
      refine xgT_B_total (v := (i1 124)) rfl hx hb hts (fun _ h => List.mem_cons_of_mem _ (List.mem_append_left _ (List.mem_append_right _ h))) hown hK hP (hts (.fieldLink RX5 74 "TalePlay$Book" "total" "I") (List.mem_cons_of_mem _ (List.mem_append_left _ (List.mem_append_left _ (List.mem_append_left _ (List.mem_append_left _ (List.mem_of_getElem? (i := 1) rfl))))))) dX5_drawSaid_7 ?_
      have rb124_i1 : 0 ≤ (i1 124).toInt ∧ (i1 124).toInt ≤ 200 := hI.1 124
      have re124_i1 : (i1 124).toInt = (i 124).toInt := congrArg Int32.toInt (hfi 124 (by decide +kernel))
      refine lv_icmp_ge (tgt := 80) hx hb dX5_drawSaid_10 (by decide +kernel) (fun c2 => ?_) (fun c2 => ?_)
      · have f2 := (ti_le (a := (i1 124).toInt) (b := y1_1.toInt) rfl rfl).mp c2
        exact rw_vret (i1, q1, c1, d1) hx hb hr hlocks hS (hK.sub (tys' := []) [] rfl) hP hD dX5_drawSaid_80 ⟨trivial, hI, fr_w hfi (by decide +kernel), fr_w hfc (by decide +kernel)⟩
      · have f2 := mt (ti_le (a := (i1 124).toInt) (b := y1_1.toInt) rfl rfl).mpr c2
        refine lv_aload_n hx hb dX5_drawSaid_13 rfl (lv_at hl 1 rfl) ?_
        refine lv_iload_n hx hb dX5_drawSaid_14 rfl (lv_at hl 0 rfl) ?_
        refine ro_calli (va_runV (As := [.int y1_1]) (rest := []) ⟨hx, hb, hml, hown, hts⟩ (x_X5_isDrawn l D H.size .null a t i1 q1 c1 d1 y1_1 hI (show 0 ≤ y1_1.toInt ∧ y1_1.toInt ≤ 199 from by omega)) (cwV 1 hts gm_X5_drawSaid_X5_isDrawn_78 rfl rfl rfl (by decide +kernel) ⟨Nat.le_of_ble_eq_true rfl, Nat.le_of_ble_eq_true rfl⟩) (yA_V hN (xZ_k hZ hS hA) (xkT_B hK) (xuT_B (sk := sk) hP) (ci := 5) (q0 := 19) rfl rfl) rfl rfl hl.1 rfl (lv_room (Nat.le_of_ble_eq_true rfl)) dX5_drawSaid_15 ⟨Nat.le_of_ble_eq_true rfl, Nat.le_of_ble_eq_true rfl⟩) hS hA hP (fun r3 u3 H locs hw3 hP hS => ?_)
        have hw3 : (0 ≤ r3.toInt ∧ r3.toInt ≤ 1) := hw3
        have jn4 : ∀ (i4 : Nat → Int32) (q4 : Int64) (c4 : Nat → Nat → Int32) (d4 : Nat → Nat → Int64), xInv i4 c4 → (∀ k, k ∉ ([] : List Nat) → i4 k = i k) → (∀ k, k ∉ ([129, 130, 131, 133, 134] : List Nat) → c4 k = c k) → ∀ (H : Heap) (locs : List Loc) (ls : Array Slot), va_P D vwCl (xwT sk a t i4 q4 c4 d4) H → va_D A (xwT sk a t i4 q4 c4 d4) → va_S A s.heap H locs → lv_has ls 3 [(1, .int y1_1), (0, .ref (a 128))] → W p l e (headSpec wm_X5_drawSaid ({ frames := 2, cells := 0, slots := 0, locals := 44 })).room s m ([.ref (a 128)] : List Value).toArray below meth cd H locs 0 0 (MQ below (va_Qv (fun (u : MS) => True ∧ xInv u.1 u.2.2.1 ∧ (∀ k, k ∉ ([] : List Nat) → u.1 k = i k) ∧ (∀ k, k ∉ ([129, 130, 131, 133, 134] : List Nat) → u.2.2.1 k = c k)) (oC D A (fun u : MS => xwT sk a t u.1 u.2.1 u.2.2.1 u.2.2.2) (fun _ => [])) A) ([.ref (a 128)] : List Value).toArray s 0 0 A) (F0 m 74 ls []) := by
          intro i4 q4 c4 d4 hI hfi hfc H locs ls hP hD hS hl
          obtain ⟨x5, ex5⟩ : ∃ y : Int32, y = y1_1 + 1 := ⟨_, rfl⟩
          have tx5 := ti_add (a := y1_1.toInt) (b := 1) ex5 rfl (by decide +kernel) (by omega) (by omega)
          refine lv_iinc (v := x5) (lv' := [(1, .int x5), (0, .ref (a 128))]) hx hb dX5_drawSaid_74 hl (k := 0) rfl (by rw [ex5]; rfl) (by decide +kernel) rfl (fun ls hl => ?_)
          refine lv_goto (tgt := 2) hx hb dX5_drawSaid_77 (by decide +kernel) ?_
          exact ih1 i4 q4 c4 d4 x5 hI (fr_w hfi (by decide +kernel)) (fr_w hfc (by decide +kernel)) (show 0 ≤ x5.toInt ∧ x5.toInt ≤ 200 from by have h50 : x5.toInt = (y1_1.toInt + 1) := tx5; omega) (by have h50 : x5.toInt = (y1_1.toInt + 1) := tx5; omega) _ _ _ hP hD hS (lv_sub hl [0, 1] rfl)
        refine lv_if_eq (tgt := 74) hx hb dX5_drawSaid_18 (by decide +kernel) (fun c6 => ?_) (fun c6 => ?_)
        · have f6 := (ti_eq (a := r3.toInt) (b := 0) rfl (by decide +kernel)).mp c6
          exact jn4 i1 q1 c1 d1   hI (fr_w hfi (by decide +kernel)) (fr_w hfc (by decide +kernel)) _ _ _ hP hD hS (lv_sub hl [0, 1] rfl)
        · have f6 := mt (ti_eq (a := r3.toInt) (b := 0) rfl (by decide +kernel)).mpr c6
          refine lv_aload_n hx hb dX5_drawSaid_21 rfl (lv_at hl 1 rfl) ?_
          refine xgT_R_book hx hb hts (fun _ h => List.mem_cons_of_mem _ (List.mem_append_left _ (List.mem_append_left _ (List.mem_append_right _ h)))) hown hK hP (hts (.fieldLink RX5 43 "TalePlay$Roads" "book" "LTalePlay$Book;") (List.mem_cons_of_mem _ (List.mem_append_left _ (List.mem_append_left _ (List.mem_append_left _ (List.mem_append_left _ (List.mem_of_getElem? (i := 0) rfl))))))) dX5_drawSaid_22 ?_
          refine xgT_B_as hx hb hts (fun _ h => List.mem_cons_of_mem _ (List.mem_append_left _ (List.mem_append_right _ h))) hown hK hP (hts (.fieldLink RX5 82 "TalePlay$Book" "as" "[I") (List.mem_cons_of_mem _ (List.mem_append_left _ (List.mem_append_left _ (List.mem_append_left _ (List.mem_append_left _ (List.mem_of_getElem? (i := 9) rfl))))))) dX5_drawSaid_25 ?_
          refine lv_iload_n hx hb dX5_drawSaid_28 rfl (lv_at hl 0 rfl) ?_
          refine xlT_114 hx hb hK hP (vp_in_iff.mpr (by have h9 : y1_1.toInt = y1_1.toInt := rfl; omega)) dX5_drawSaid_29 (fun x7 ex7 => ?_)
          have rx7 : 0 ≤ x7.toInt ∧ x7.toInt ≤ 29 := by rw [ex7]; exact hI.2 114 _
          refine lv_bipush (v := 10) hx hb dX5_drawSaid_30 (by decide +kernel) ?_
          refine lv_imul hx hb dX5_drawSaid_32 ?_
          refine lv_topi (fun x8 ex8 => ?_)
          have tx8 := ti_mul (a := x7.toInt) (b := 10) ex8 rfl (by decide +kernel) (by omega) (by omega)
          refine lv_aload_n hx hb dX5_drawSaid_33 rfl (lv_at hl 1 rfl) ?_
          refine xgT_R_book hx hb hts (fun _ h => List.mem_cons_of_mem _ (List.mem_append_left _ (List.mem_append_left _ (List.mem_append_right _ h)))) hown hK hP (hts (.fieldLink RX5 43 "TalePlay$Roads" "book" "LTalePlay$Book;") (List.mem_cons_of_mem _ (List.mem_append_left _ (List.mem_append_left _ (List.mem_append_left _ (List.mem_append_left _ (List.mem_of_getElem? (i := 0) rfl))))))) dX5_drawSaid_34 ?_
          refine xgT_B_cs hx hb hts (fun _ h => List.mem_cons_of_mem _ (List.mem_append_left _ (List.mem_append_right _ h))) hown hK hP (hts (.fieldLink RX5 85 "TalePlay$Book" "cs" "[I") (List.mem_cons_of_mem _ (List.mem_append_left _ (List.mem_append_left _ (List.mem_append_left _ (List.mem_append_left _ (List.mem_of_getElem? (i := 10) rfl))))))) dX5_drawSaid_37 ?_
          refine lv_iload_n hx hb dX5_drawSaid_40 rfl (lv_at hl 0 rfl) ?_
          refine xlT_116 hx hb hK hP (vp_in_iff.mpr (by have h9 : y1_1.toInt = y1_1.toInt := rfl; omega)) dX5_drawSaid_41 (fun x9 ex9 => ?_)
          have rx9 : 0 ≤ x9.toInt ∧ x9.toInt ≤ 9 := by rw [ex9]; exact hI.2 116 _
          refine lv_iadd hx hb dX5_drawSaid_42 ?_
          refine lv_topi (fun x10 ex10 => ?_)
          have tx10 := ti_add (a := (x7.toInt * 10)) (b := x9.toInt) ex10 tx8 rfl (by omega) (by omega)
          refine lv_istore_n (lv' := [(2, .int x10), (1, .int y1_1), (0, .ref (a 128))]) hx hb dX5_drawSaid_43 rfl hl (by decide +kernel) rfl (fun ls hl => ?_)
          refine lv_aload_n hx hb dX5_drawSaid_44 rfl (lv_at hl 2 rfl) ?_
          refine xgT_R_bys hx hb hts (fun _ h => List.mem_cons_of_mem _ (List.mem_append_left _ (List.mem_append_left _ (List.mem_append_right _ h)))) hown hK hP (hts (.fieldLink RX5 18 "TalePlay$Roads" "bys" "[I") (List.mem_cons_of_mem _ (List.mem_append_left _ (List.mem_append_left _ (List.mem_append_left _ (List.mem_append_left _ (List.mem_of_getElem? (i := 11) rfl))))))) dX5_drawSaid_45 ?_
          refine lv_iload_n hx hb dX5_drawSaid_48 rfl (lv_at hl 0 rfl) ?_
          refine lv_iload_n hx hb dX5_drawSaid_49 rfl (lv_at hl 1 rfl) ?_
          refine xsT_131 hx hb hK hP hD hS (vp_in_iff.mpr (by have h9 : x10.toInt = ((x7.toInt * 10) + x9.toInt) := tx10; omega)) dX5_drawSaid_50 (fun H locs hP hD hS => ?_)
          have hI := xInv_c hI (k := 131) (j := (x10 : Int32).toNatClampNeg) (x := y1_1) (show (y1_1 : Int32).toInt = -9 ∨ (0 ≤ (y1_1 : Int32).toInt ∧ (y1_1 : Int32).toInt ≤ 199) from by omega)
          have hfc := fr_c hfc (k := 131) (j := (x10 : Int32).toNatClampNeg) (x := y1_1) (by decide +kernel)
          refine lv_aload_n hx hb dX5_drawSaid_51 rfl (lv_at hl 2 rfl) ?_
          refine lv_iload_n hx hb dX5_drawSaid_52 rfl (lv_at hl 0 rfl) ?_
          refine lv_aload_n hx hb dX5_drawSaid_53 rfl (lv_at hl 2 rfl) ?_
          refine xgT_R_book hx hb hts (fun _ h => List.mem_cons_of_mem _ (List.mem_append_left _ (List.mem_append_left _ (List.mem_append_right _ h)))) hown hK hP (hts (.fieldLink RX5 43 "TalePlay$Roads" "book" "LTalePlay$Book;") (List.mem_cons_of_mem _ (List.mem_append_left _ (List.mem_append_left _ (List.mem_append_left _ (List.mem_append_left _ (List.mem_of_getElem? (i := 0) rfl))))))) dX5_drawSaid_54 ?_
          refine xgT_B_as hx hb hts (fun _ h => List.mem_cons_of_mem _ (List.mem_append_left _ (List.mem_append_right _ h))) hown hK hP (hts (.fieldLink RX5 82 "TalePlay$Book" "as" "[I") (List.mem_cons_of_mem _ (List.mem_append_left _ (List.mem_append_left _ (List.mem_append_left _ (List.mem_append_left _ (List.mem_of_getElem? (i := 9) rfl))))))) dX5_drawSaid_57 ?_
          refine lv_iload_n hx hb dX5_drawSaid_60 rfl (lv_at hl 1 rfl) ?_
          refine xlT_114 hx hb hK hP (vp_in_iff.mpr (by have h9 : y1_1.toInt = y1_1.toInt := rfl; omega)) dX5_drawSaid_61 (fun x11 ex11 => ?_)
          have rx11 : 0 ≤ x11.toInt ∧ x11.toInt ≤ 29 := by rw [ex11]; exact hI.2 114 _
          refine lv_aload_n hx hb dX5_drawSaid_62 rfl (lv_at hl 2 rfl) ?_
          refine xgT_R_book hx hb hts (fun _ h => List.mem_cons_of_mem _ (List.mem_append_left _ (List.mem_append_left _ (List.mem_append_right _ h)))) hown hK hP (hts (.fieldLink RX5 43 "TalePlay$Roads" "book" "LTalePlay$Book;") (List.mem_cons_of_mem _ (List.mem_append_left _ (List.mem_append_left _ (List.mem_append_left _ (List.mem_append_left _ (List.mem_of_getElem? (i := 0) rfl))))))) dX5_drawSaid_63 ?_
          refine xgT_B_bs hx hb hts (fun _ h => List.mem_cons_of_mem _ (List.mem_append_left _ (List.mem_append_right _ h))) hown hK hP (hts (.fieldLink RX5 88 "TalePlay$Book" "bs" "[I") (List.mem_cons_of_mem _ (List.mem_append_left _ (List.mem_append_left _ (List.mem_append_left _ (List.mem_append_left _ (List.mem_of_getElem? (i := 12) rfl))))))) dX5_drawSaid_66 ?_
          refine lv_iload_n hx hb dX5_drawSaid_69 rfl (lv_at hl 1 rfl) ?_
          refine xlT_115 hx hb hK hP (vp_in_iff.mpr (by have h9 : y1_1.toInt = y1_1.toInt := rfl; omega)) dX5_drawSaid_70 (fun x12 ex12 => ?_)
          have rx12 : 0 ≤ x12.toInt ∧ x12.toInt ≤ 29 := by rw [ex12]; exact hI.2 115 _
          refine al_callv (va_runV (As := [.int x10, .int x11, .int x12]) (rest := []) ⟨hx, hb, hml, hown, hts⟩ (x_X5_drawTarget l D H.size sk a t i1 q1 (updA c1 131 (x10 : Int32).toNatClampNeg y1_1) d1 x10 x11 x12 hI (show 0 ≤ x10.toInt ∧ x10.toInt ≤ 299 from by have h90 : x10.toInt = ((x7.toInt * 10) + x9.toInt) := tx10; omega) (show 0 ≤ x11.toInt ∧ x11.toInt ≤ 29 from by have h90 : x10.toInt = ((x7.toInt * 10) + x9.toInt) := tx10; omega) (show 0 ≤ x12.toInt ∧ x12.toInt ≤ 29 from by have h90 : x10.toInt = ((x7.toInt * 10) + x9.toInt) := tx10; omega)) (cwV 3 hts gm_X5_drawSaid_X5_drawTarget_91 rfl rfl rfl (by decide +kernel) ⟨Nat.le_of_ble_eq_true rfl, Nat.le_of_ble_eq_true rfl⟩) (yB_V hN (xZ_k hZ hS hA) (xZ_n hZ hD) hK hP hD (ci := 5) (q0 := 21) rfl rfl) rfl rfl hl.1 rfl (lv_room (Nat.le_of_ble_eq_true rfl)) dX5_drawSaid_71 ⟨Nat.le_of_ble_eq_true rfl, Nat.le_of_ble_eq_true rfl⟩) hS hA hP hD (fun u13 H locs hw13 hP hD hS => ?_)
          obtain ⟨i13, q13, c13, d13⟩ := u13
          have hw13 : True ∧ xInv i13 c13 ∧ (∀ k, k ∉ ([] : List Nat) → i13 k = i1 k) ∧ (∀ k, k ∉ ([129, 130, 133, 134] : List Nat) → c13 k = (updA c1 131 (x10 : Int32).toNatClampNeg y1_1) k) := hw13
          obtain ⟨hw13, hI, hei13, hec13⟩ := hw13
          have hfi : ∀ k, k ∉ ([] : List Nat) → i13 k = i k := fr_z hfi hei13 (by decide +kernel) (by decide +kernel)
          have hfc : ∀ k, k ∉ ([129, 130, 131, 133, 134] : List Nat) → c13 k = c k := fr_z hfc hec13 (by decide +kernel) (by decide +kernel)
          exact jn4 i13 q13 c13 d13   hI (fr_w hfi (by decide +kernel)) (fr_w hfc (by decide +kernel)) _ _ _ hP hD hS (lv_sub hl [1, 2] rfl)
  exact lp1 _ i q c d (0 : Int32) hI (fr_w hfi (by decide +kernel)) (fr_w hfc (by decide +kernel)) (show 0 ≤ (0 : Int32).toInt ∧ (0 : Int32).toInt ≤ 200 from by decide +kernel) (Nat.lt_succ_self _) _ _ _ hP hD hS (lv_sub hl [0, 1] rfl)

def wm_X5_drawImplied : List Cond := .code yX5_drawImplied cX5_drawImplied 3 none :: ((([.fieldLink RX5 43 "TalePlay$Roads" "book" "LTalePlay$Book;", .fieldLink RX5 74 "TalePlay$Book" "total" "I", .methodLink RX5 78 yX5_isDrawn, .instanceMethod yX5_isDrawn, .selects RX5 yX5_isDrawn yX5_isDrawn, .initialized RX5, .code yX5_isDrawn cX5_isDrawn 2 (some .boolean), .fieldLink RX5 65 "TalePlay$Book" "said" "[Z", .fieldLink RX5 71 "TalePlay$Book" "forms" "[I", .fieldLink RX5 39 "TalePlay$Roads" "world" "LTalePlay$World;", .fieldLink RX5 88 "TalePlay$Book" "bs" "[I", .methodLink RX5 95 yX10_sortOf, .instanceMethod yX10_sortOf, .selects RX10 yX10_sortOf yX10_sortOf, .initialized RX10, .code yX10_sortOf cX10_sortOf 2 (some .int)] : List Cond) ++ ([.fieldLink RX10 37 "TalePlay$World" "objects" "I", .fieldLink RX10 15 "TalePlay$World" "sorts" "[I", .fieldLink RX10 21 "TalePlay$World" "kindOf" "[I", .fieldLink RX5 85 "TalePlay$Book" "cs" "[I", .fieldLink RX5 18 "TalePlay$Roads" "bys" "[I", .fieldLink RX5 9 "TalePlay$Roads" "leads" "[I", .fieldLink RX5 82 "TalePlay$Book" "as" "[I", .fieldLink RX5 21 "TalePlay$Roads" "implied" "[I"] : List Cond)) ++ wsX50 ++ wsX10 ++ wsX100)
set_option maxRecDepth 20000 in
theorem gm_X5_drawImplied_X5_isDrawn_78 : GoodIn wm_X5_drawImplied (wsV RX5 78 RX5 yX5_isDrawn wm_X5_isDrawn) := goodIn_w (List.forall_mem_append.mpr ⟨List.forall_mem_cons.mpr ⟨List.mem_cons_of_mem _ (List.mem_append_left _ (List.mem_append_left _ (List.mem_append_left _ (List.mem_append_left _ (List.mem_of_getElem? (i := 2) rfl))))), List.forall_mem_cons.mpr ⟨List.mem_cons_of_mem _ (List.mem_append_left _ (List.mem_append_left _ (List.mem_append_left _ (List.mem_append_left _ (List.mem_of_getElem? (i := 3) rfl))))), List.forall_mem_cons.mpr ⟨List.mem_cons_of_mem _ (List.mem_append_left _ (List.mem_append_left _ (List.mem_append_left _ (List.mem_append_left _ (List.mem_of_getElem? (i := 4) rfl))))), List.forall_mem_cons.mpr ⟨List.mem_cons_of_mem _ (List.mem_append_left _ (List.mem_append_left _ (List.mem_append_left _ (List.mem_append_left _ (List.mem_of_getElem? (i := 5) rfl))))), (fun _ h => absurd h List.not_mem_nil)⟩⟩⟩⟩, List.forall_mem_cons.mpr ⟨List.mem_cons_of_mem _ (List.mem_append_left _ (List.mem_append_left _ (List.mem_append_left _ (List.mem_append_left _ (List.mem_of_getElem? (i := 6) rfl))))), List.forall_mem_append.mpr ⟨List.forall_mem_append.mpr ⟨List.forall_mem_cons.mpr ⟨List.mem_cons_of_mem _ (List.mem_append_left _ (List.mem_append_left _ (List.mem_append_left _ (List.mem_append_left _ (List.mem_of_getElem? (i := 0) rfl))))), List.forall_mem_cons.mpr ⟨List.mem_cons_of_mem _ (List.mem_append_left _ (List.mem_append_left _ (List.mem_append_left _ (List.mem_append_left _ (List.mem_of_getElem? (i := 7) rfl))))), List.forall_mem_cons.mpr ⟨List.mem_cons_of_mem _ (List.mem_append_left _ (List.mem_append_left _ (List.mem_append_left _ (List.mem_append_left _ (List.mem_of_getElem? (i := 8) rfl))))), (fun _ h => absurd h List.not_mem_nil)⟩⟩⟩, (fun _ h => List.mem_cons_of_mem _ (List.mem_append_left _ (List.mem_append_left _ (List.mem_append_right _ h))))⟩, (fun _ h => List.mem_cons_of_mem _ (List.mem_append_left _ (List.mem_append_right _ h)))⟩⟩⟩) (by decide +kernel)
set_option maxRecDepth 20000 in
theorem gm_X5_drawImplied_X10_sortOf_95 : GoodIn wm_X5_drawImplied (wsV RX5 95 RX10 yX10_sortOf wm_X10_sortOf) := goodIn_w (List.forall_mem_append.mpr ⟨List.forall_mem_cons.mpr ⟨List.mem_cons_of_mem _ (List.mem_append_left _ (List.mem_append_left _ (List.mem_append_left _ (List.mem_append_left _ (List.mem_of_getElem? (i := 11) rfl))))), List.forall_mem_cons.mpr ⟨List.mem_cons_of_mem _ (List.mem_append_left _ (List.mem_append_left _ (List.mem_append_left _ (List.mem_append_left _ (List.mem_of_getElem? (i := 12) rfl))))), List.forall_mem_cons.mpr ⟨List.mem_cons_of_mem _ (List.mem_append_left _ (List.mem_append_left _ (List.mem_append_left _ (List.mem_append_left _ (List.mem_of_getElem? (i := 13) rfl))))), List.forall_mem_cons.mpr ⟨List.mem_cons_of_mem _ (List.mem_append_left _ (List.mem_append_left _ (List.mem_append_left _ (List.mem_append_left _ (List.mem_of_getElem? (i := 14) rfl))))), (fun _ h => absurd h List.not_mem_nil)⟩⟩⟩⟩, List.forall_mem_cons.mpr ⟨List.mem_cons_of_mem _ (List.mem_append_left _ (List.mem_append_left _ (List.mem_append_left _ (List.mem_append_left _ (List.mem_of_getElem? (i := 15) rfl))))), List.forall_mem_append.mpr ⟨List.forall_mem_cons.mpr ⟨List.mem_cons_of_mem _ (List.mem_append_left _ (List.mem_append_left _ (List.mem_append_left _ (List.mem_append_right _ (List.mem_of_getElem? (i := 0) rfl))))), List.forall_mem_cons.mpr ⟨List.mem_cons_of_mem _ (List.mem_append_left _ (List.mem_append_left _ (List.mem_append_left _ (List.mem_append_right _ (List.mem_of_getElem? (i := 1) rfl))))), List.forall_mem_cons.mpr ⟨List.mem_cons_of_mem _ (List.mem_append_left _ (List.mem_append_left _ (List.mem_append_left _ (List.mem_append_right _ (List.mem_of_getElem? (i := 2) rfl))))), (fun _ h => absurd h List.not_mem_nil)⟩⟩⟩, (fun _ h => List.mem_cons_of_mem _ (List.mem_append_right _ h))⟩⟩⟩) (by decide +kernel)
set_option maxHeartbeats 4000000 in
set_option maxRecDepth 100000 in
theorem x_X5_drawImplied (l : Launch) (D : va_G) (sz : Nat) (sk : Value) (a : Nat → Nat) (t : Nat → ClassId) (i : Nat → Int32) (q : Int64) (c : Nat → Nat → Int32) (d : Nat → Nat → Int64) (hI : xInv i c) : Met l yX5_drawImplied wm_X5_drawImplied ({ frames := 1, cells := 0, slots := 0, locals := 21 }) (va_Pc [.ref (a 128)] (yB (a 186) D sz (xwT sk a t i q c d) (xtT t))) (va_Qv (fun (u : MS) => True ∧ xInv u.1 u.2.2.1 ∧ (∀ k, k ∉ ([] : List Nat) → u.1 k = i k) ∧ (∀ k, k ∉ ([129, 131, 132] : List Nat) → u.2.2.1 k = c k)) (oC D (va_A (xwT sk a t i q c d) sz) (fun u : MS => xwT sk a t u.1 u.2.1 u.2.2.1 u.2.2.2) (fun _ => [])) (va_A (xwT sk a t i q c d) sz)) 0 0 (va_A (xwT sk a t i q c d) sz) := by
  refine Met.ofW (cc := cX5_drawImplied) (maxL := 3) (ret := none) (by decide +kernel) rfl ?_
  intro p e s m args below meth cd s₁ B hml hv
  obtain ⟨rfl, ⟨hsz, hP, hK, hD0⟩, hN, hZ, hBW⟩ := hv
  have hx := B.exec
  have hb := B.bytes
  have hr := B.returns
  have hts := atoms_spec (ws := wm_X5_drawImplied) B.pre
  have hown : s.vm.findClass RX5 = some m.cls := findClass_of_methodNamed B.named
  have hlocks := B.notSynchronized
  subst hsz
  have hD := hD0.self (sz := s.heap.size)
  have hZ := xZ_A hZ hP hBW
  generalize hAe : va_A (xwT sk a t i q c d) s.heap.size = A at hD hZ ⊢
  have hA : ∀ q : Nat, s.heap.size ≤ q → A q := fun q h => by rw [← hAe]; exact Or.inr h
  have hS : va_S A s.heap s.heap [] := va_S.rf
  have hfi : ∀ k, k ∉ ([] : List Nat) → i k = i k := fun _ _ => rfl
  have hfc : ∀ k, k ∉ ([] : List Nat) → c k = c k := fun _ _ => rfl
  have hl := lv_entry ([.ref (a 128)]) (n := 3) (Nat.le_of_ble_eq_true rfl)
  rw [lg_entry_eq]
  generalize (lg_sl ([.ref (a 128)]) ++ List.replicate (3 - (lg_sl ([.ref (a 128)])).length) Slot.unset).toArray = ls at hl ⊢
  have hl : lv_has ls 3 [(0, .ref (a 128))] := hl
  refine lv_iconst (v := 0) hx hb dX5_drawImplied_0 (by decide +kernel) ?_
  refine lv_istore_n (lv' := [(1, .int 0), (0, .ref (a 128))]) hx hb dX5_drawImplied_1 rfl hl (by decide +kernel) rfl (fun ls hl => ?_)
  have lp1 : ∀ (fu : Nat) (i1 : Nat → Int32) (q1 : Int64) (c1 : Nat → Nat → Int32) (d1 : Nat → Nat → Int64) (y1_1 : Int32), xInv i1 c1 → (∀ k, k ∉ ([] : List Nat) → i1 k = i k) → (∀ k, k ∉ ([129, 131, 132] : List Nat) → c1 k = c k) → (0 ≤ y1_1.toInt ∧ y1_1.toInt ≤ 200) → (200 - y1_1.toInt).toNat < fu → ∀ (H : Heap) (locs : List Loc) (ls : Array Slot), va_P D vwCl (xwT sk a t i1 q1 c1 d1) H → va_D A (xwT sk a t i1 q1 c1 d1) → va_S A s.heap H locs → lv_has ls 3 [(1, .int y1_1), (0, .ref (a 128))] → W p l e (headSpec wm_X5_drawImplied ({ frames := 1, cells := 0, slots := 0, locals := 21 })).room s m ([.ref (a 128)] : List Value).toArray below meth cd H locs 0 0 (MQ below (va_Qv (fun (u : MS) => True ∧ xInv u.1 u.2.2.1 ∧ (∀ k, k ∉ ([] : List Nat) → u.1 k = i k) ∧ (∀ k, k ∉ ([129, 131, 132] : List Nat) → u.2.2.1 k = c k)) (oC D A (fun u : MS => xwT sk a t u.1 u.2.1 u.2.2.1 u.2.2.2) (fun _ => [])) A) ([.ref (a 128)] : List Value).toArray s 0 0 A) (F0 m 2 ls []) := by
    intro fu
    induction fu with
    | zero => intro i1 q1 c1 d1 y1_1 hI hfi hfc hy1_1 hm; exact absurd hm (Nat.not_lt_zero _)
    | succ fu ih =>
      intro i1 q1 c1 d1 y1_1 hI hfi hfc hy1_1 hm H locs ls hP hD hS hl
      have ih1 := ih
      refine lv_iload_n hx hb dX5_drawImplied_2 rfl (lv_at hl 0 rfl) ?_
      refine lv_aload_n hx hb dX5_drawImplied_3 rfl (lv_at hl 1 rfl) ?_
      refine xgT_R_book hx hb hts (fun _ h => List.mem_cons_of_mem _ (List.mem_append_left _ (List.mem_append_left _ (List.mem_append_right _ h)))) hown hK hP (hts (.fieldLink RX5 43 "TalePlay$Roads" "book" "LTalePlay$Book;") (List.mem_cons_of_mem _ (List.mem_append_left _ (List.mem_append_left _ (List.mem_append_left _ (List.mem_append_left _ (List.mem_of_getElem? (i := 0) rfl))))))) dX5_drawImplied_4 ?_
      refine xgT_B_total (v := (i1 124)) rfl hx hb hts (fun _ h => List.mem_cons_of_mem _ (List.mem_append_left _ (List.mem_append_right _ h))) hown hK hP (hts (.fieldLink RX5 74 "TalePlay$Book" "total" "I") (List.mem_cons_of_mem _ (List.mem_append_left _ (List.mem_append_left _ (List.mem_append_left _ (List.mem_append_left _ (List.mem_of_getElem? (i := 1) rfl))))))) dX5_drawImplied_7 ?_
      have rb124_i1 : 0 ≤ (i1 124).toInt ∧ (i1 124).toInt ≤ 200 := hI.1 124
      have re124_i1 : (i1 124).toInt = (i 124).toInt := congrArg Int32.toInt (hfi 124 (by decide +kernel))
      refine lv_icmp_ge (tgt := 111) hx hb dX5_drawImplied_10 (by decide +kernel) (fun c2 => ?_) (fun c2 => ?_)
      · have f2 := (ti_le (a := (i1 124).toInt) (b := y1_1.toInt) rfl rfl).mp c2
        exact rw_vret (i1, q1, c1, d1) hx hb hr hlocks hS (hK.sub (tys' := []) [] rfl) hP hD dX5_drawImplied_111 ⟨trivial, hI, fr_w hfi (by decide +kernel), fr_w hfc (by decide +kernel)⟩
      · have f2 := mt (ti_le (a := (i1 124).toInt) (b := y1_1.toInt) rfl rfl).mpr c2
        refine lv_aload_n hx hb dX5_drawImplied_13 rfl (lv_at hl 1 rfl) ?_
        refine lv_iload_n hx hb dX5_drawImplied_14 rfl (lv_at hl 0 rfl) ?_
        refine ro_calli (va_runV (As := [.int y1_1]) (rest := []) ⟨hx, hb, hml, hown, hts⟩ (x_X5_isDrawn l D H.size .null a t i1 q1 c1 d1 y1_1 hI (show 0 ≤ y1_1.toInt ∧ y1_1.toInt ≤ 199 from by omega)) (cwV 1 hts gm_X5_drawImplied_X5_isDrawn_78 rfl rfl rfl (by decide +kernel) ⟨Nat.le_of_ble_eq_true rfl, Nat.le_of_ble_eq_true rfl⟩) (yA_V hN (xZ_k hZ hS hA) (xkT_B hK) (xuT_B (sk := sk) hP) (ci := 5) (q0 := 19) rfl rfl) rfl rfl hl.1 rfl (lv_room (Nat.le_of_ble_eq_true rfl)) dX5_drawImplied_15 ⟨Nat.le_of_ble_eq_true rfl, Nat.le_of_ble_eq_true rfl⟩) hS hA hP (fun r3 u3 H locs hw3 hP hS => ?_)
        have hw3 : (0 ≤ r3.toInt ∧ r3.toInt ≤ 1) := hw3
        have jn4 : ∀ (i4 : Nat → Int32) (q4 : Int64) (c4 : Nat → Nat → Int32) (d4 : Nat → Nat → Int64), xInv i4 c4 → (∀ k, k ∉ ([] : List Nat) → i4 k = i k) → (∀ k, k ∉ ([129, 131, 132] : List Nat) → c4 k = c k) → ∀ (H : Heap) (locs : List Loc) (ls : Array Slot), va_P D vwCl (xwT sk a t i4 q4 c4 d4) H → va_D A (xwT sk a t i4 q4 c4 d4) → va_S A s.heap H locs → lv_has ls 3 [(1, .int y1_1), (0, .ref (a 128))] → W p l e (headSpec wm_X5_drawImplied ({ frames := 1, cells := 0, slots := 0, locals := 21 })).room s m ([.ref (a 128)] : List Value).toArray below meth cd H locs 0 0 (MQ below (va_Qv (fun (u : MS) => True ∧ xInv u.1 u.2.2.1 ∧ (∀ k, k ∉ ([] : List Nat) → u.1 k = i k) ∧ (∀ k, k ∉ ([129, 131, 132] : List Nat) → u.2.2.1 k = c k)) (oC D A (fun u : MS => xwT sk a t u.1 u.2.1 u.2.2.1 u.2.2.2) (fun _ => [])) A) ([.ref (a 128)] : List Value).toArray s 0 0 A) (F0 m 105 ls []) := by
          intro i4 q4 c4 d4 hI hfi hfc H locs ls hP hD hS hl
          obtain ⟨x5, ex5⟩ : ∃ y : Int32, y = y1_1 + 1 := ⟨_, rfl⟩
          have tx5 := ti_add (a := y1_1.toInt) (b := 1) ex5 rfl (by decide +kernel) (by omega) (by omega)
          refine lv_iinc (v := x5) (lv' := [(1, .int x5), (0, .ref (a 128))]) hx hb dX5_drawImplied_105 hl (k := 0) rfl (by rw [ex5]; rfl) (by decide +kernel) rfl (fun ls hl => ?_)
          refine lv_goto (tgt := 2) hx hb dX5_drawImplied_108 (by decide +kernel) ?_
          exact ih1 i4 q4 c4 d4 x5 hI (fr_w hfi (by decide +kernel)) (fr_w hfc (by decide +kernel)) (show 0 ≤ x5.toInt ∧ x5.toInt ≤ 200 from by have h50 : x5.toInt = (y1_1.toInt + 1) := tx5; omega) (by have h50 : x5.toInt = (y1_1.toInt + 1) := tx5; omega) _ _ _ hP hD hS (lv_sub hl [0, 1] rfl)
        refine lv_if_eq (tgt := 105) hx hb dX5_drawImplied_18 (by decide +kernel) (fun c6 => ?_) (fun c6 => ?_)
        · have f6 := (ti_eq (a := r3.toInt) (b := 0) rfl (by decide +kernel)).mp c6
          exact jn4 i1 q1 c1 d1   hI (fr_w hfi (by decide +kernel)) (fr_w hfc (by decide +kernel)) _ _ _ hP hD hS (lv_sub hl [0, 1] rfl)
        · have f6 := mt (ti_eq (a := r3.toInt) (b := 0) rfl (by decide +kernel)).mpr c6
          refine lv_aload_n hx hb dX5_drawImplied_21 rfl (lv_at hl 1 rfl) ?_
          refine xgT_R_world hx hb hts (fun _ h => List.mem_cons_of_mem _ (List.mem_append_left _ (List.mem_append_left _ (List.mem_append_right _ h)))) hown hK hP (hts (.fieldLink RX5 39 "TalePlay$Roads" "world" "LTalePlay$World;") (List.mem_cons_of_mem _ (List.mem_append_left _ (List.mem_append_left _ (List.mem_append_left _ (List.mem_append_left _ (List.mem_of_getElem? (i := 9) rfl))))))) dX5_drawImplied_22 ?_
          refine lv_aload_n hx hb dX5_drawImplied_25 rfl (lv_at hl 1 rfl) ?_
          refine xgT_R_book hx hb hts (fun _ h => List.mem_cons_of_mem _ (List.mem_append_left _ (List.mem_append_left _ (List.mem_append_right _ h)))) hown hK hP (hts (.fieldLink RX5 43 "TalePlay$Roads" "book" "LTalePlay$Book;") (List.mem_cons_of_mem _ (List.mem_append_left _ (List.mem_append_left _ (List.mem_append_left _ (List.mem_append_left _ (List.mem_of_getElem? (i := 0) rfl))))))) dX5_drawImplied_26 ?_
          refine xgT_B_bs hx hb hts (fun _ h => List.mem_cons_of_mem _ (List.mem_append_left _ (List.mem_append_right _ h))) hown hK hP (hts (.fieldLink RX5 88 "TalePlay$Book" "bs" "[I") (List.mem_cons_of_mem _ (List.mem_append_left _ (List.mem_append_left _ (List.mem_append_left _ (List.mem_append_left _ (List.mem_of_getElem? (i := 10) rfl))))))) dX5_drawImplied_29 ?_
          refine lv_iload_n hx hb dX5_drawImplied_32 rfl (lv_at hl 0 rfl) ?_
          refine xlT_115 hx hb hK hP (vp_in_iff.mpr (by have h9 : y1_1.toInt = y1_1.toInt := rfl; omega)) dX5_drawImplied_33 (fun x7 ex7 => ?_)
          have rx7 : 0 ≤ x7.toInt ∧ x7.toInt ≤ 29 := by rw [ex7]; exact hI.2 115 _
          have rb111_i1 : 0 ≤ (i1 111).toInt ∧ (i1 111).toInt ≤ 30 := hI.1 111
          have re111_i1 : (i1 111).toInt = (i 111).toInt := congrArg Int32.toInt (hfi 111 (by decide +kernel))
          refine ro_calli (va_runV (As := [.int x7]) (rest := []) ⟨hx, hb, hml, hown, hts⟩ (x_X10_sortOf l D H.size .null a t i1 q1 c1 d1 x7 hI ) (cwV 1 hts gm_X5_drawImplied_X10_sortOf_95 rfl rfl rfl (by decide +kernel) ⟨Nat.le_of_ble_eq_true rfl, Nat.le_of_ble_eq_true rfl⟩) (yA_V hN (xZ_k hZ hS hA) (xkT_W hK) (xuT_W (sk := sk) hP) (ci := 10) (q0 := 0) rfl rfl) rfl rfl hl.1 rfl (lv_room (Nat.le_of_ble_eq_true rfl)) dX5_drawImplied_34 ⟨Nat.le_of_ble_eq_true rfl, Nat.le_of_ble_eq_true rfl⟩) hS hA hP (fun r8 u8 H locs hw8 hP hS => ?_)
          have hw8 : ((r8.toInt = -9 ∧ ¬ (0 ≤ x7.toInt ∧ x7.toInt < (i1 111).toInt)) ∨ (0 ≤ r8.toInt ∧ r8.toInt ≤ 5 ∧ 0 ≤ x7.toInt ∧ x7.toInt < (i1 111).toInt)) := hw8
          refine lv_if_ne (tgt := 105) hx hb dX5_drawImplied_37 (by decide +kernel) (fun c9 => ?_) (fun c9 => ?_)
          · have f9 := mt (ti_eq (a := r8.toInt) (b := 0) rfl (by decide +kernel)).mpr c9
            exact jn4 i1 q1 c1 d1   hI (fr_w hfi (by decide +kernel)) (fr_w hfc (by decide +kernel)) _ _ _ hP hD hS (lv_sub hl [0, 1] rfl)
          · have f9 := (ti_eq (a := r8.toInt) (b := 0) rfl (by decide +kernel)).mp c9
            refine lv_aload_n hx hb dX5_drawImplied_40 rfl (lv_at hl 1 rfl) ?_
            refine xgT_R_book hx hb hts (fun _ h => List.mem_cons_of_mem _ (List.mem_append_left _ (List.mem_append_left _ (List.mem_append_right _ h)))) hown hK hP (hts (.fieldLink RX5 43 "TalePlay$Roads" "book" "LTalePlay$Book;") (List.mem_cons_of_mem _ (List.mem_append_left _ (List.mem_append_left _ (List.mem_append_left _ (List.mem_append_left _ (List.mem_of_getElem? (i := 0) rfl))))))) dX5_drawImplied_41 ?_
            refine xgT_B_bs hx hb hts (fun _ h => List.mem_cons_of_mem _ (List.mem_append_left _ (List.mem_append_right _ h))) hown hK hP (hts (.fieldLink RX5 88 "TalePlay$Book" "bs" "[I") (List.mem_cons_of_mem _ (List.mem_append_left _ (List.mem_append_left _ (List.mem_append_left _ (List.mem_append_left _ (List.mem_of_getElem? (i := 10) rfl))))))) dX5_drawImplied_44 ?_
            refine lv_iload_n hx hb dX5_drawImplied_47 rfl (lv_at hl 0 rfl) ?_
            refine xlT_115 hx hb hK hP (vp_in_iff.mpr (by have h9 : y1_1.toInt = y1_1.toInt := rfl; omega)) dX5_drawImplied_48 (fun x10 ex10 => ?_)
            have rx10 : 0 ≤ x10.toInt ∧ x10.toInt ≤ 29 := by rw [ex10]; exact hI.2 115 _
            refine lv_bipush (v := 10) hx hb dX5_drawImplied_49 (by decide +kernel) ?_
            refine lv_imul hx hb dX5_drawImplied_51 ?_
            refine lv_topi (fun x11 ex11 => ?_)
            have tx11 := ti_mul (a := x10.toInt) (b := 10) ex11 rfl (by decide +kernel) (by omega) (by omega)
            refine lv_aload_n hx hb dX5_drawImplied_52 rfl (lv_at hl 1 rfl) ?_
            refine xgT_R_book hx hb hts (fun _ h => List.mem_cons_of_mem _ (List.mem_append_left _ (List.mem_append_left _ (List.mem_append_right _ h)))) hown hK hP (hts (.fieldLink RX5 43 "TalePlay$Roads" "book" "LTalePlay$Book;") (List.mem_cons_of_mem _ (List.mem_append_left _ (List.mem_append_left _ (List.mem_append_left _ (List.mem_append_left _ (List.mem_of_getElem? (i := 0) rfl))))))) dX5_drawImplied_53 ?_
            refine xgT_B_cs hx hb hts (fun _ h => List.mem_cons_of_mem _ (List.mem_append_left _ (List.mem_append_right _ h))) hown hK hP (hts (.fieldLink RX5 85 "TalePlay$Book" "cs" "[I") (List.mem_cons_of_mem _ (List.mem_append_left _ (List.mem_append_left _ (List.mem_append_left _ (List.mem_append_right _ (List.mem_of_getElem? (i := 3) rfl))))))) dX5_drawImplied_56 ?_
            refine lv_iload_n hx hb dX5_drawImplied_59 rfl (lv_at hl 0 rfl) ?_
            refine xlT_116 hx hb hK hP (vp_in_iff.mpr (by have h9 : y1_1.toInt = y1_1.toInt := rfl; omega)) dX5_drawImplied_60 (fun x12 ex12 => ?_)
            have rx12 : 0 ≤ x12.toInt ∧ x12.toInt ≤ 9 := by rw [ex12]; exact hI.2 116 _
            refine lv_iconst (v := 1) hx hb dX5_drawImplied_61 (by decide +kernel) ?_
            refine lv_ixor hx hb dX5_drawImplied_62 ?_
            refine lv_topi (fun x13 ex13 => ?_)
            have bx13 := xor1 (by omega) ex13
            refine lv_iadd hx hb dX5_drawImplied_63 ?_
            refine lv_topi (fun x14 ex14 => ?_)
            have tx14 := ti_add (a := (x10.toInt * 10)) (b := x13.toInt) ex14 tx11 rfl (by omega) (by omega)
            refine lv_istore_n (lv' := [(2, .int x14), (1, .int y1_1), (0, .ref (a 128))]) hx hb dX5_drawImplied_64 rfl hl (by decide +kernel) rfl (fun ls hl => ?_)
            refine lv_aload_n hx hb dX5_drawImplied_65 rfl (lv_at hl 2 rfl) ?_
            refine xgT_R_bys hx hb hts (fun _ h => List.mem_cons_of_mem _ (List.mem_append_left _ (List.mem_append_left _ (List.mem_append_right _ h)))) hown hK hP (hts (.fieldLink RX5 18 "TalePlay$Roads" "bys" "[I") (List.mem_cons_of_mem _ (List.mem_append_left _ (List.mem_append_left _ (List.mem_append_left _ (List.mem_append_right _ (List.mem_of_getElem? (i := 4) rfl))))))) dX5_drawImplied_66 ?_
            refine lv_iload_n hx hb dX5_drawImplied_69 rfl (lv_at hl 0 rfl) ?_
            refine xlT_131 hx hb hK hP (vp_in_iff.mpr (by have h9 : x14.toInt = ((x10.toInt * 10) + x13.toInt) := tx14; omega)) dX5_drawImplied_70 (fun x15 ex15 => ?_)
            have rx15 : x15.toInt = -9 ∨ (0 ≤ x15.toInt ∧ x15.toInt ≤ 199) := by rw [ex15]; exact hI.2 131 _
            refine lv_bipush (v := (-9)) hx hb dX5_drawImplied_71 (by decide +kernel) ?_
            refine lv_icmp_ne (tgt := 105) hx hb dX5_drawImplied_73 (by decide +kernel) (fun c16 => ?_) (fun c16 => ?_)
            · have f16 := mt (ti_eq (a := x15.toInt) (b := (-9)) rfl (by decide +kernel)).mpr c16
              exact jn4 i1 q1 c1 d1   hI (fr_w hfi (by decide +kernel)) (fr_w hfc (by decide +kernel)) _ _ _ hP hD hS (lv_sub hl [1, 2] rfl)
            · have f16 := (ti_eq (a := x15.toInt) (b := (-9)) rfl (by decide +kernel)).mp c16
              refine lv_aload_n hx hb dX5_drawImplied_76 rfl (lv_at hl 2 rfl) ?_
              refine xgT_R_bys hx hb hts (fun _ h => List.mem_cons_of_mem _ (List.mem_append_left _ (List.mem_append_left _ (List.mem_append_right _ h)))) hown hK hP (hts (.fieldLink RX5 18 "TalePlay$Roads" "bys" "[I") (List.mem_cons_of_mem _ (List.mem_append_left _ (List.mem_append_left _ (List.mem_append_left _ (List.mem_append_right _ (List.mem_of_getElem? (i := 4) rfl))))))) dX5_drawImplied_77 ?_
              refine lv_iload_n hx hb dX5_drawImplied_80 rfl (lv_at hl 0 rfl) ?_
              refine lv_iload_n hx hb dX5_drawImplied_81 rfl (lv_at hl 1 rfl) ?_
              refine xsT_131 hx hb hK hP hD hS (vp_in_iff.mpr (by have h9 : x14.toInt = ((x10.toInt * 10) + x13.toInt) := tx14; omega)) dX5_drawImplied_82 (fun H locs hP hD hS => ?_)
              have hI := xInv_c hI (k := 131) (j := (x14 : Int32).toNatClampNeg) (x := y1_1) (show (y1_1 : Int32).toInt = -9 ∨ (0 ≤ (y1_1 : Int32).toInt ∧ (y1_1 : Int32).toInt ≤ 199) from by omega)
              have hfc := fr_c hfc (k := 131) (j := (x14 : Int32).toNatClampNeg) (x := y1_1) (by decide +kernel)
              refine lv_aload_n hx hb dX5_drawImplied_83 rfl (lv_at hl 2 rfl) ?_
              refine xgT_R_leads hx hb hts (fun _ h => List.mem_cons_of_mem _ (List.mem_append_left _ (List.mem_append_left _ (List.mem_append_right _ h)))) hown hK hP (hts (.fieldLink RX5 9 "TalePlay$Roads" "leads" "[I") (List.mem_cons_of_mem _ (List.mem_append_left _ (List.mem_append_left _ (List.mem_append_left _ (List.mem_append_right _ (List.mem_of_getElem? (i := 5) rfl))))))) dX5_drawImplied_84 ?_
              refine lv_iload_n hx hb dX5_drawImplied_87 rfl (lv_at hl 0 rfl) ?_
              refine lv_aload_n hx hb dX5_drawImplied_88 rfl (lv_at hl 2 rfl) ?_
              refine xgT_R_book hx hb hts (fun _ h => List.mem_cons_of_mem _ (List.mem_append_left _ (List.mem_append_left _ (List.mem_append_right _ h)))) hown hK hP (hts (.fieldLink RX5 43 "TalePlay$Roads" "book" "LTalePlay$Book;") (List.mem_cons_of_mem _ (List.mem_append_left _ (List.mem_append_left _ (List.mem_append_left _ (List.mem_append_left _ (List.mem_of_getElem? (i := 0) rfl))))))) dX5_drawImplied_89 ?_
              refine xgT_B_as hx hb hts (fun _ h => List.mem_cons_of_mem _ (List.mem_append_left _ (List.mem_append_right _ h))) hown hK hP (hts (.fieldLink RX5 82 "TalePlay$Book" "as" "[I") (List.mem_cons_of_mem _ (List.mem_append_left _ (List.mem_append_left _ (List.mem_append_left _ (List.mem_append_right _ (List.mem_of_getElem? (i := 6) rfl))))))) dX5_drawImplied_92 ?_
              refine lv_iload_n hx hb dX5_drawImplied_95 rfl (lv_at hl 1 rfl) ?_
              refine xlT_114 hx hb hK hP (vp_in_iff.mpr (by have h9 : y1_1.toInt = y1_1.toInt := rfl; omega)) dX5_drawImplied_96 (fun x17 ex17 => ?_)
              have rx17 : 0 ≤ x17.toInt ∧ x17.toInt ≤ 29 := by rw [ex17]; exact hI.2 114 _
              refine xsT_129 hx hb hK hP hD hS (vp_in_iff.mpr (by have h9 : x14.toInt = ((x10.toInt * 10) + x13.toInt) := tx14; omega)) dX5_drawImplied_97 (fun H locs hP hD hS => ?_)
              have hI := xInv_c hI (k := 129) (j := (x14 : Int32).toNatClampNeg) (x := x17) (show (x17 : Int32).toInt = -9 ∨ (0 ≤ (x17 : Int32).toInt ∧ (x17 : Int32).toInt ≤ 29) from by omega)
              have hfc := fr_c hfc (k := 129) (j := (x14 : Int32).toNatClampNeg) (x := x17) (by decide +kernel)
              refine lv_aload_n hx hb dX5_drawImplied_98 rfl (lv_at hl 2 rfl) ?_
              refine xgT_R_implied hx hb hts (fun _ h => List.mem_cons_of_mem _ (List.mem_append_left _ (List.mem_append_left _ (List.mem_append_right _ h)))) hown hK hP (hts (.fieldLink RX5 21 "TalePlay$Roads" "implied" "[I") (List.mem_cons_of_mem _ (List.mem_append_left _ (List.mem_append_left _ (List.mem_append_left _ (List.mem_append_right _ (List.mem_of_getElem? (i := 7) rfl))))))) dX5_drawImplied_99 ?_
              refine lv_iload_n hx hb dX5_drawImplied_102 rfl (lv_at hl 0 rfl) ?_
              refine lv_iconst (v := 1) hx hb dX5_drawImplied_103 (by decide +kernel) ?_
              refine xsT_132 hx hb hK hP hD hS (vp_in_iff.mpr (by have h9 : x14.toInt = ((x10.toInt * 10) + x13.toInt) := tx14; omega)) dX5_drawImplied_104 (fun H locs hP hD hS => ?_)
              have hI := xInv_c hI (k := 132) (j := (x14 : Int32).toNatClampNeg) (x := 1) (show 0 ≤ (1 : Int32).toInt ∧ (1 : Int32).toInt ≤ 1 from by decide +kernel)
              have hfc := fr_c hfc (k := 132) (j := (x14 : Int32).toNatClampNeg) (x := 1) (by decide +kernel)
              exact jn4 i1 q1 (updA (updA (updA c1 131 (x14 : Int32).toNatClampNeg y1_1) 129 (x14 : Int32).toNatClampNeg x17) 132 (x14 : Int32).toNatClampNeg 1) d1   hI (fr_w hfi (by decide +kernel)) (fr_w hfc (by decide +kernel)) _ _ _ hP hD hS (lv_sub hl [1, 2] rfl)
  exact lp1 _ i q c d (0 : Int32) hI (fr_w hfi (by decide +kernel)) (fr_w hfc (by decide +kernel)) (show 0 ≤ (0 : Int32).toInt ∧ (0 : Int32).toInt ≤ 200 from by decide +kernel) (Nat.lt_succ_self _) _ _ _ hP hD hS (lv_sub hl [0, 1] rfl)

def wm_X5_drawThroughDoors : List Cond := .code yX5_drawThroughDoors cX5_drawThroughDoors 4 none :: (([.fieldLink RX5 15 "TalePlay$Roads" "doors" "[I", .fieldLink RX5 24 "TalePlay$Roads" "firstSides" "[I", .fieldLink RX5 9 "TalePlay$Roads" "leads" "[I", .fieldLink RX5 27 "TalePlay$Roads" "secondSides" "[I"] : List Cond) ++ wsX50)
set_option maxHeartbeats 4000000 in
set_option maxRecDepth 100000 in
theorem x_X5_drawThroughDoors (l : Launch) (D : va_G) (sz : Nat) (sk : Value) (a : Nat → Nat) (t : Nat → ClassId) (i : Nat → Int32) (q : Int64) (c : Nat → Nat → Int32) (d : Nat → Nat → Int64) (hI : xInv i c) : Met l yX5_drawThroughDoors wm_X5_drawThroughDoors ({ frames := 0, cells := 0, slots := 0, locals := 0 }) (va_Pc [.ref (a 128)] (yB (a 186) D sz (xwT sk a t i q c d) (xtT t))) (va_Qv (fun (u : MS) => True ∧ xInv u.1 u.2.2.1 ∧ (∀ k, k ∉ ([] : List Nat) → u.1 k = i k) ∧ (∀ k, k ∉ ([129] : List Nat) → u.2.2.1 k = c k)) (oC D (va_A (xwT sk a t i q c d) sz) (fun u : MS => xwT sk a t u.1 u.2.1 u.2.2.1 u.2.2.2) (fun _ => [])) (va_A (xwT sk a t i q c d) sz)) 0 0 (va_A (xwT sk a t i q c d) sz) := by
  refine Met.ofW (cc := cX5_drawThroughDoors) (maxL := 4) (ret := none) (by decide +kernel) rfl ?_
  intro p e s m args below meth cd s₁ B hml hv
  obtain ⟨rfl, ⟨hsz, hP, hK, hD0⟩, hN, hZ, hBW⟩ := hv
  have hx := B.exec
  have hb := B.bytes
  have hr := B.returns
  have hts := atoms_spec (ws := wm_X5_drawThroughDoors) B.pre
  have hown : s.vm.findClass RX5 = some m.cls := findClass_of_methodNamed B.named
  have hlocks := B.notSynchronized
  subst hsz
  have hD := hD0.self (sz := s.heap.size)
  have hZ := xZ_A hZ hP hBW
  generalize hAe : va_A (xwT sk a t i q c d) s.heap.size = A at hD hZ ⊢
  have hA : ∀ q : Nat, s.heap.size ≤ q → A q := fun q h => by rw [← hAe]; exact Or.inr h
  have hS : va_S A s.heap s.heap [] := va_S.rf
  have hfi : ∀ k, k ∉ ([] : List Nat) → i k = i k := fun _ _ => rfl
  have hfc : ∀ k, k ∉ ([] : List Nat) → c k = c k := fun _ _ => rfl
  have hl := lv_entry ([.ref (a 128)]) (n := 4) (Nat.le_of_ble_eq_true rfl)
  rw [lg_entry_eq]
  generalize (lg_sl ([.ref (a 128)]) ++ List.replicate (4 - (lg_sl ([.ref (a 128)])).length) Slot.unset).toArray = ls at hl ⊢
  have hl : lv_has ls 4 [(0, .ref (a 128))] := hl
  refine lv_iconst (v := 0) hx hb dX5_drawThroughDoors_0 (by decide +kernel) ?_
  refine lv_istore_n (lv' := [(1, .int 0), (0, .ref (a 128))]) hx hb dX5_drawThroughDoors_1 rfl hl (by decide +kernel) rfl (fun ls hl => ?_)
  have lp1 : ∀ (fu : Nat) (i1 : Nat → Int32) (q1 : Int64) (c1 : Nat → Nat → Int32) (d1 : Nat → Nat → Int64) (y1_1 : Int32), xInv i1 c1 → (∀ k, k ∉ ([] : List Nat) → i1 k = i k) → (∀ k, k ∉ ([129] : List Nat) → c1 k = c k) → (0 ≤ y1_1.toInt ∧ y1_1.toInt ≤ 300) → (300 - y1_1.toInt).toNat < fu → ∀ (H : Heap) (locs : List Loc) (ls : Array Slot), va_P D vwCl (xwT sk a t i1 q1 c1 d1) H → va_D A (xwT sk a t i1 q1 c1 d1) → va_S A s.heap H locs → lv_has ls 4 [(1, .int y1_1), (0, .ref (a 128))] → W p l e (headSpec wm_X5_drawThroughDoors ({ frames := 0, cells := 0, slots := 0, locals := 0 })).room s m ([.ref (a 128)] : List Value).toArray below meth cd H locs 0 0 (MQ below (va_Qv (fun (u : MS) => True ∧ xInv u.1 u.2.2.1 ∧ (∀ k, k ∉ ([] : List Nat) → u.1 k = i k) ∧ (∀ k, k ∉ ([129] : List Nat) → u.2.2.1 k = c k)) (oC D A (fun u : MS => xwT sk a t u.1 u.2.1 u.2.2.1 u.2.2.2) (fun _ => [])) A) ([.ref (a 128)] : List Value).toArray s 0 0 A) (F0 m 2 ls []) := by
    intro fu
    induction fu with
    | zero => intro i1 q1 c1 d1 y1_1 hI hfi hfc hy1_1 hm; exact absurd hm (Nat.not_lt_zero _)
    | succ fu ih =>
      intro i1 q1 c1 d1 y1_1 hI hfi hfc hy1_1 hm H locs ls hP hD hS hl
      have ih1 := ih
      refine lv_iload_n hx hb dX5_drawThroughDoors_2 rfl (lv_at hl 0 rfl) ?_
      refine lv_aload_n hx hb dX5_drawThroughDoors_3 rfl (lv_at hl 1 rfl) ?_
      refine xgT_R_doors hx hb hts (fun _ h => List.mem_cons_of_mem _ (List.mem_append_right _ h)) hown hK hP (hts (.fieldLink RX5 15 "TalePlay$Roads" "doors" "[I") (List.mem_cons_of_mem _ (List.mem_append_left _ (List.mem_of_getElem? (i := 0) rfl)))) dX5_drawThroughDoors_4 ?_
      refine xnT_130 hx hb hK hP dX5_drawThroughDoors_7 ?_
      refine lv_icmp_ge (tgt := 74) hx hb dX5_drawThroughDoors_8 (by decide +kernel) (fun c2 => ?_) (fun c2 => ?_)
      · have f2 := (ti_le (a := 300) (b := y1_1.toInt) (by decide +kernel) rfl).mp c2
        exact rw_vret (i1, q1, c1, d1) hx hb hr hlocks hS (hK.sub (tys' := []) [] rfl) hP hD dX5_drawThroughDoors_74 ⟨trivial, hI, fr_w hfi (by decide +kernel), fr_w hfc (by decide +kernel)⟩
      · have f2 := mt (ti_le (a := 300) (b := y1_1.toInt) (by decide +kernel) rfl).mpr c2
        refine lv_aload_n hx hb dX5_drawThroughDoors_11 rfl (lv_at hl 1 rfl) ?_
        refine xgT_R_doors hx hb hts (fun _ h => List.mem_cons_of_mem _ (List.mem_append_right _ h)) hown hK hP (hts (.fieldLink RX5 15 "TalePlay$Roads" "doors" "[I") (List.mem_cons_of_mem _ (List.mem_append_left _ (List.mem_of_getElem? (i := 0) rfl)))) dX5_drawThroughDoors_12 ?_
        refine lv_iload_n hx hb dX5_drawThroughDoors_15 rfl (lv_at hl 0 rfl) ?_
        refine xlT_130 hx hb hK hP (vp_in_iff.mpr (by have h9 : y1_1.toInt = y1_1.toInt := rfl; omega)) dX5_drawThroughDoors_16 (fun x3 ex3 => ?_)
        have rx3 : x3.toInt = -9 ∨ (0 ≤ x3.toInt ∧ x3.toInt ≤ 29) := by rw [ex3]; exact hI.2 130 _
        refine lv_istore_n (lv' := [(2, .int x3), (1, .int y1_1), (0, .ref (a 128))]) hx hb dX5_drawThroughDoors_17 rfl hl (by decide +kernel) rfl (fun ls hl => ?_)
        refine lv_iload_n hx hb dX5_drawThroughDoors_18 rfl (lv_at hl 0 rfl) ?_
        refine lv_bipush (v := (-9)) hx hb dX5_drawThroughDoors_19 (by decide +kernel) ?_
        have jn4 : ∀ (i4 : Nat → Int32) (q4 : Int64) (c4 : Nat → Nat → Int32) (d4 : Nat → Nat → Int64), xInv i4 c4 → (∀ k, k ∉ ([] : List Nat) → i4 k = i k) → (∀ k, k ∉ ([129] : List Nat) → c4 k = c k) → ∀ (H : Heap) (locs : List Loc) (ls : Array Slot), va_P D vwCl (xwT sk a t i4 q4 c4 d4) H → va_D A (xwT sk a t i4 q4 c4 d4) → va_S A s.heap H locs → lv_has ls 4 [(2, .int x3), (1, .int y1_1), (0, .ref (a 128))] → W p l e (headSpec wm_X5_drawThroughDoors ({ frames := 0, cells := 0, slots := 0, locals := 0 })).room s m ([.ref (a 128)] : List Value).toArray below meth cd H locs 0 0 (MQ below (va_Qv (fun (u : MS) => True ∧ xInv u.1 u.2.2.1 ∧ (∀ k, k ∉ ([] : List Nat) → u.1 k = i k) ∧ (∀ k, k ∉ ([129] : List Nat) → u.2.2.1 k = c k)) (oC D A (fun u : MS => xwT sk a t u.1 u.2.1 u.2.2.1 u.2.2.2) (fun _ => [])) A) ([.ref (a 128)] : List Value).toArray s 0 0 A) (F0 m 68 ls []) := by
          intro i4 q4 c4 d4 hI hfi hfc H locs ls hP hD hS hl
          obtain ⟨x5, ex5⟩ : ∃ y : Int32, y = y1_1 + 1 := ⟨_, rfl⟩
          have tx5 := ti_add (a := y1_1.toInt) (b := 1) ex5 rfl (by decide +kernel) (by omega) (by omega)
          refine lv_iinc (v := x5) (lv' := [(1, .int x5), (2, .int x3), (0, .ref (a 128))]) hx hb dX5_drawThroughDoors_68 hl (k := 1) rfl (by rw [ex5]; rfl) (by decide +kernel) rfl (fun ls hl => ?_)
          refine lv_goto (tgt := 2) hx hb dX5_drawThroughDoors_71 (by decide +kernel) ?_
          exact ih1 i4 q4 c4 d4 x5 hI (fr_w hfi (by decide +kernel)) (fr_w hfc (by decide +kernel)) (show 0 ≤ x5.toInt ∧ x5.toInt ≤ 300 from by have h50 : x5.toInt = (y1_1.toInt + 1) := tx5; omega) (by have h50 : x5.toInt = (y1_1.toInt + 1) := tx5; omega) _ _ _ hP hD hS (lv_sub hl [0, 2] rfl)
        refine lv_icmp_eq (tgt := 68) hx hb dX5_drawThroughDoors_21 (by decide +kernel) (fun c6 => ?_) (fun c6 => ?_)
        · have f6 := (ti_eq (a := x3.toInt) (b := (-9)) rfl (by decide +kernel)).mp c6
          exact jn4 i1 q1 c1 d1   hI (fr_w hfi (by decide +kernel)) (fr_w hfc (by decide +kernel)) _ _ _ hP hD hS (lv_sub hl [0, 1, 2] rfl)
        · have f6 := mt (ti_eq (a := x3.toInt) (b := (-9)) rfl (by decide +kernel)).mpr c6
          refine lv_aload_n hx hb dX5_drawThroughDoors_24 rfl (lv_at hl 2 rfl) ?_
          refine xgT_R_firstSides hx hb hts (fun _ h => List.mem_cons_of_mem _ (List.mem_append_right _ h)) hown hK hP (hts (.fieldLink RX5 24 "TalePlay$Roads" "firstSides" "[I") (List.mem_cons_of_mem _ (List.mem_append_left _ (List.mem_of_getElem? (i := 1) rfl)))) dX5_drawThroughDoors_25 ?_
          refine lv_iload_n hx hb dX5_drawThroughDoors_28 rfl (lv_at hl 0 rfl) ?_
          refine xlT_133 hx hb hK hP (vp_in_iff.mpr (by have h9 : x3.toInt = x3.toInt := rfl; omega)) dX5_drawThroughDoors_29 (fun x7 ex7 => ?_)
          have rx7 : x7.toInt = -9 ∨ (0 ≤ x7.toInt ∧ x7.toInt ≤ 29) := by rw [ex7]; exact hI.2 133 _
          refine lv_iload_n hx hb dX5_drawThroughDoors_30 rfl (lv_at hl 1 rfl) ?_
          refine lv_bipush (v := 10) hx hb dX5_drawThroughDoors_31 (by decide +kernel) ?_
          refine lv_idiv hx hb dX5_drawThroughDoors_33 (by decide +kernel) ?_
          refine lv_topi (fun x8 ex8 => ?_)
          have jn9 : ∀ (z9_0 : Int32), (z9_0.toInt = 0 ∨ z9_0.toInt = 1) → ∀ (H : Heap) (locs : List Loc) (ls : Array Slot), va_P D vwCl (xwT sk a t i1 q1 c1 d1) H → va_D A (xwT sk a t i1 q1 c1 d1) → va_S A s.heap H locs → lv_has ls 4 [(2, .int x3), (1, .int y1_1), (0, .ref (a 128))] → W p l e (headSpec wm_X5_drawThroughDoors ({ frames := 0, cells := 0, slots := 0, locals := 0 })).room s m ([.ref (a 128)] : List Value).toArray below meth cd H locs 0 0 (MQ below (va_Qv (fun (u : MS) => True ∧ xInv u.1 u.2.2.1 ∧ (∀ k, k ∉ ([] : List Nat) → u.1 k = i k) ∧ (∀ k, k ∉ ([129] : List Nat) → u.2.2.1 k = c k)) (oC D A (fun u : MS => xwT sk a t u.1 u.2.1 u.2.2.1 u.2.2.2) (fun _ => [])) A) ([.ref (a 128)] : List Value).toArray s 0 0 A) (F0 m 42 ls [.int z9_0]) := by
            intro z9_0 hs9_0 H locs ls hP hD hS hl
            refine lv_istore_n (lv' := [(3, .int z9_0), (2, .int x3), (1, .int y1_1), (0, .ref (a 128))]) hx hb dX5_drawThroughDoors_42 rfl hl (by decide +kernel) rfl (fun ls hl => ?_)
            refine lv_aload_n hx hb dX5_drawThroughDoors_43 rfl (lv_at hl 3 rfl) ?_
            refine xgT_R_leads hx hb hts (fun _ h => List.mem_cons_of_mem _ (List.mem_append_right _ h)) hown hK hP (hts (.fieldLink RX5 9 "TalePlay$Roads" "leads" "[I") (List.mem_cons_of_mem _ (List.mem_append_left _ (List.mem_of_getElem? (i := 2) rfl)))) dX5_drawThroughDoors_44 ?_
            refine lv_iload_n hx hb dX5_drawThroughDoors_47 rfl (lv_at hl 2 rfl) ?_
            refine lv_iload_n hx hb dX5_drawThroughDoors_48 rfl (lv_at hl 0 rfl) ?_
            have jn10 : ∀ (z10_0 : Int32), (z10_0.toInt = -9 ∨ (0 ≤ z10_0.toInt ∧ z10_0.toInt ≤ 29)) → ∀ (H : Heap) (locs : List Loc) (ls : Array Slot), va_P D vwCl (xwT sk a t i1 q1 c1 d1) H → va_D A (xwT sk a t i1 q1 c1 d1) → va_S A s.heap H locs → lv_has ls 4 [(3, .int z9_0), (2, .int x3), (1, .int y1_1), (0, .ref (a 128))] → W p l e (headSpec wm_X5_drawThroughDoors ({ frames := 0, cells := 0, slots := 0, locals := 0 })).room s m ([.ref (a 128)] : List Value).toArray below meth cd H locs 0 0 (MQ below (va_Qv (fun (u : MS) => True ∧ xInv u.1 u.2.2.1 ∧ (∀ k, k ∉ ([] : List Nat) → u.1 k = i k) ∧ (∀ k, k ∉ ([129] : List Nat) → u.2.2.1 k = c k)) (oC D A (fun u : MS => xwT sk a t u.1 u.2.1 u.2.2.1 u.2.2.2) (fun _ => [])) A) ([.ref (a 128)] : List Value).toArray s 0 0 A) (F0 m 67 ls [.int z10_0, .int y1_1, .ref (a 129)]) := by
              intro z10_0 hs10_0 H locs ls hP hD hS hl
              refine xsT_129 hx hb hK hP hD hS (vp_in_iff.mpr (by have h9 : y1_1.toInt = y1_1.toInt := rfl; omega)) dX5_drawThroughDoors_67 (fun H locs hP hD hS => ?_)
              have hI := xInv_c hI (k := 129) (j := (y1_1 : Int32).toNatClampNeg) (x := z10_0) (show (z10_0 : Int32).toInt = -9 ∨ (0 ≤ (z10_0 : Int32).toInt ∧ (z10_0 : Int32).toInt ≤ 29) from by omega)
              have hfc := fr_c hfc (k := 129) (j := (y1_1 : Int32).toNatClampNeg) (x := z10_0) (by decide +kernel)
              exact jn4 i1 q1 (updA c1 129 (y1_1 : Int32).toNatClampNeg z10_0) d1   hI (fr_w hfi (by decide +kernel)) (fr_w hfc (by decide +kernel)) _ _ _ hP hD hS (lv_sub hl [1, 2, 3] rfl)
            refine lv_if_eq (tgt := 61) hx hb dX5_drawThroughDoors_49 (by decide +kernel) (fun c11 => ?_) (fun c11 => ?_)
            · have f11 := (ti_eq (a := z9_0.toInt) (b := 0) rfl (by decide +kernel)).mp c11
              refine lv_aload_n hx hb dX5_drawThroughDoors_61 rfl (lv_at hl 3 rfl) ?_
              refine xgT_R_firstSides hx hb hts (fun _ h => List.mem_cons_of_mem _ (List.mem_append_right _ h)) hown hK hP (hts (.fieldLink RX5 24 "TalePlay$Roads" "firstSides" "[I") (List.mem_cons_of_mem _ (List.mem_append_left _ (List.mem_of_getElem? (i := 1) rfl)))) dX5_drawThroughDoors_62 ?_
              refine lv_iload_n hx hb dX5_drawThroughDoors_65 rfl (lv_at hl 1 rfl) ?_
              refine xlT_133 hx hb hK hP (vp_in_iff.mpr (by have h9 : x3.toInt = x3.toInt := rfl; omega)) dX5_drawThroughDoors_66 (fun x12 ex12 => ?_)
              have rx12 : x12.toInt = -9 ∨ (0 ≤ x12.toInt ∧ x12.toInt ≤ 29) := by rw [ex12]; exact hI.2 133 _
              exact jn10  x12 (show x12.toInt = -9 ∨ (0 ≤ x12.toInt ∧ x12.toInt ≤ 29) from by omega) _ _ _ hP hD hS (lv_sub hl [0, 1, 2, 3] rfl)
            · have f11 := mt (ti_eq (a := z9_0.toInt) (b := 0) rfl (by decide +kernel)).mpr c11
              refine lv_aload_n hx hb dX5_drawThroughDoors_52 rfl (lv_at hl 3 rfl) ?_
              refine xgT_R_secondSides hx hb hts (fun _ h => List.mem_cons_of_mem _ (List.mem_append_right _ h)) hown hK hP (hts (.fieldLink RX5 27 "TalePlay$Roads" "secondSides" "[I") (List.mem_cons_of_mem _ (List.mem_append_left _ (List.mem_of_getElem? (i := 3) rfl)))) dX5_drawThroughDoors_53 ?_
              refine lv_iload_n hx hb dX5_drawThroughDoors_56 rfl (lv_at hl 1 rfl) ?_
              refine xlT_134 hx hb hK hP (vp_in_iff.mpr (by have h9 : x3.toInt = x3.toInt := rfl; omega)) dX5_drawThroughDoors_57 (fun x13 ex13 => ?_)
              have rx13 : x13.toInt = -9 ∨ (0 ≤ x13.toInt ∧ x13.toInt ≤ 29) := by rw [ex13]; exact hI.2 134 _
              refine lv_goto (tgt := 67) hx hb dX5_drawThroughDoors_58 (by decide +kernel) ?_
              exact jn10  x13 (show x13.toInt = -9 ∨ (0 ≤ x13.toInt ∧ x13.toInt ≤ 29) from by omega) _ _ _ hP hD hS (lv_sub hl [0, 1, 2, 3] rfl)
          refine lv_icmp_ne (tgt := 41) hx hb dX5_drawThroughDoors_34 (by decide +kernel) (fun c14 => ?_) (fun c14 => ?_)
          · have f14 := mt (ti_eq (a := x7.toInt) (b := x8.toInt) rfl rfl).mpr c14
            refine lv_iconst (v := 0) hx hb dX5_drawThroughDoors_41 (by decide +kernel) ?_
            exact jn9  (0 : Int32) (show (0 : Int32).toInt = 0 ∨ (0 : Int32).toInt = 1 from by decide +kernel) _ _ _ hP hD hS (lv_sub hl [0, 1, 2] rfl)
          · have f14 := (ti_eq (a := x7.toInt) (b := x8.toInt) rfl rfl).mp c14
            refine lv_iconst (v := 1) hx hb dX5_drawThroughDoors_37 (by decide +kernel) ?_
            refine lv_goto (tgt := 42) hx hb dX5_drawThroughDoors_38 (by decide +kernel) ?_
            exact jn9  (1 : Int32) (show (1 : Int32).toInt = 0 ∨ (1 : Int32).toInt = 1 from by decide +kernel) _ _ _ hP hD hS (lv_sub hl [0, 1, 2] rfl)
  exact lp1 _ i q c d (0 : Int32) hI (fr_w hfi (by decide +kernel)) (fr_w hfc (by decide +kernel)) (show 0 ≤ (0 : Int32).toInt ∧ (0 : Int32).toInt ≤ 300 from by decide +kernel) (Nat.lt_succ_self _) _ _ _ hP hD hS (lv_sub hl [0, 1] rfl)

