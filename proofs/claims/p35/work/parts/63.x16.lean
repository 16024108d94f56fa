def wm_X10_sortOf_e : List Cond := .code yX10_sortOf cX10_sortOf 2 (some .int) :: (([.fieldLink RX10 37 "TalePlay$World" "objects" "I", .fieldLink RX10 15 "TalePlay$World" "sorts" "[I", .fieldLink RX10 21 "TalePlay$World" "kindOf" "[I"] : List Cond) ++ wsX100)
set_option maxHeartbeats 4000000 in
set_option maxRecDepth 100000 in
theorem x_X10_sortOf_e (l : Launch) (D : va_G) (sz : Nat) (sk : Value) (a : Nat → Nat) (t : Nat → ClassId) (i : Nat → Int32) (q : Int64) (c : Nat → Nat → Int32) (d : Nat → Nat → Int64) (w : Int32) (hI : xInv i c) : Met l yX10_sortOf wm_X10_sortOf_e ({ frames := 0, cells := 0, slots := 0, locals := 0 }) (va_Pc [.ref (a 104), .int w] (yA (a 186) D sz (xwW sk a t i q c d) (xtW t))) (va_Qi (fun (r : Int32) (_ : Unit) => (((r.toInt = -9 ∧ ¬ (0 ≤ w.toInt ∧ w.toInt < (i 111).toInt)) ∨ (0 ≤ r.toInt ∧ r.toInt ≤ 5 ∧ 0 ≤ w.toInt ∧ w.toInt < (i 111).toInt)) ∧ (SO (c 106) (c 108) (i 111).toInt w.toInt r.toInt))) oA (ro sz)) 0 0 (ro sz) := by
  refine Met.ofW (cc := cX10_sortOf) (maxL := 2) (ret := (some .int)) (by decide +kernel) rfl ?_
  intro p e s m args below meth cd s₁ B hml hv
  obtain ⟨rfl, ⟨hsz, hP, hK⟩, hN, hZ⟩ := hv
  have hx := B.exec
  have hb := B.bytes
  have hr := B.returns
  have hts := atoms_spec (ws := wm_X10_sortOf_e) B.pre
  have hown : s.vm.findClass RX10 = some m.cls := findClass_of_methodNamed B.named
  have hlocks := B.notSynchronized
  subst hsz
  have hA : ∀ q : Nat, s.heap.size ≤ q → ro s.heap.size q := fun _ h => h
  have hS : va_S (ro s.heap.size) s.heap s.heap [] := va_S.rf
  have hl := lv_entry ([.ref (a 104), .int w]) (n := 2) (Nat.le_of_ble_eq_true rfl)
  rw [lg_entry_eq]
  generalize (lg_sl ([.ref (a 104), .int w]) ++ List.replicate (2 - (lg_sl ([.ref (a 104), .int w])).length) Slot.unset).toArray = ls at hl ⊢
  have hl : lv_has ls 2 [(0, .ref (a 104)), (1, .int w)] := hl
  refine lv_iload_n hx hb dX10_sortOf_0 rfl (lv_at hl 1 rfl) ?_
  refine lv_if_lt (tgt := 26) hx hb dX10_sortOf_1 (by decide +kernel) (fun c1 => ?_) (fun c1 => ?_)
  · have f1 := (ti_lt (a := w.toInt) (b := 0) rfl (by decide +kernel)).mp c1
    refine lv_bipush (v := (-9)) hx hb dX10_sortOf_26 (by decide +kernel) ?_
    exact ro_iret hx hb hr hlocks hS dX10_sortOf_28 ⟨(show (((-9) : Int32).toInt = -9 ∧ ¬ (0 ≤ w.toInt ∧ w.toInt < (i 111).toInt)) ∨ (0 ≤ ((-9) : Int32).toInt ∧ ((-9) : Int32).toInt ≤ 5 ∧ 0 ≤ w.toInt ∧ w.toInt < (i 111).toInt) from by have h9 : ((-9) : Int32).toInt = -9 := (by decide +kernel); omega), (show SO (c 106) (c 108) (i 111).toInt w.toInt ((-9) : Int32).toInt from SO_n (by omega))⟩
  · have f1 := mt (ti_lt (a := w.toInt) (b := 0) rfl (by decide +kernel)).mpr c1
    refine lv_iload_n hx hb dX10_sortOf_4 rfl (lv_at hl 1 rfl) ?_
    refine lv_aload_n hx hb dX10_sortOf_5 rfl (lv_at hl 0 rfl) ?_
    refine xgW_W_objects (v := (i 111)) rfl hx hb hts (fun _ h => List.mem_cons_of_mem _ (List.mem_append_right _ h)) hown hK hP (hts (.fieldLink RX10 37 "TalePlay$World" "objects" "I") (List.mem_cons_of_mem _ (List.mem_append_left _ (List.mem_of_getElem? (i := 0) rfl)))) dX10_sortOf_6 ?_
    have rb111_i : 0 ≤ (i 111).toInt ∧ (i 111).toInt ≤ 30 := hI.1 111
    refine lv_icmp_ge (tgt := 26) hx hb dX10_sortOf_9 (by decide +kernel) (fun c2 => ?_) (fun c2 => ?_)
    · have f2 := (ti_le (a := (i 111).toInt) (b := w.toInt) rfl rfl).mp c2
      refine lv_bipush (v := (-9)) hx hb dX10_sortOf_26 (by decide +kernel) ?_
      exact ro_iret hx hb hr hlocks hS dX10_sortOf_28 ⟨(show (((-9) : Int32).toInt = -9 ∧ ¬ (0 ≤ w.toInt ∧ w.toInt < (i 111).toInt)) ∨ (0 ≤ ((-9) : Int32).toInt ∧ ((-9) : Int32).toInt ≤ 5 ∧ 0 ≤ w.toInt ∧ w.toInt < (i 111).toInt) from by have h9 : ((-9) : Int32).toInt = -9 := (by decide +kernel); omega), (show SO (c 106) (c 108) (i 111).toInt w.toInt ((-9) : Int32).toInt from SO_n (by omega))⟩
    · have f2 := mt (ti_le (a := (i 111).toInt) (b := w.toInt) rfl rfl).mpr c2
      refine lv_aload_n hx hb dX10_sortOf_12 rfl (lv_at hl 0 rfl) ?_
      refine xgW_W_sorts hx hb hts (fun _ h => List.mem_cons_of_mem _ (List.mem_append_right _ h)) hown hK hP (hts (.fieldLink RX10 15 "TalePlay$World" "sorts" "[I") (List.mem_cons_of_mem _ (List.mem_append_left _ (List.mem_of_getElem? (i := 1) rfl)))) dX10_sortOf_13 ?_
      refine lv_aload_n hx hb dX10_sortOf_16 rfl (lv_at hl 0 rfl) ?_
      refine xgW_W_kindOf hx hb hts (fun _ h => List.mem_cons_of_mem _ (List.mem_append_right _ h)) hown hK hP (hts (.fieldLink RX10 21 "TalePlay$World" "kindOf" "[I") (List.mem_cons_of_mem _ (List.mem_append_left _ (List.mem_of_getElem? (i := 2) rfl)))) dX10_sortOf_17 ?_
      refine lv_iload_n hx hb dX10_sortOf_20 rfl (lv_at hl 1 rfl) ?_
      refine xlW_108 hx hb hK hP (vp_in_iff.mpr (by have h9 : w.toInt = w.toInt := rfl; omega)) dX10_sortOf_21 (fun x3 ex3 => ?_)
      have rx3 : 0 ≤ x3.toInt ∧ x3.toInt ≤ 23 := by rw [ex3]; exact hI.2 108 _
      refine xlW_106 hx hb hK hP (vp_in_iff.mpr (by have h9 : x3.toInt = x3.toInt := rfl; omega)) dX10_sortOf_22 (fun x4 ex4 => ?_)
      have rx4 : 0 ≤ x4.toInt ∧ x4.toInt ≤ 5 := by rw [ex4]; exact hI.2 106 _
      refine lv_goto (tgt := 28) hx hb dX10_sortOf_23 (by decide +kernel) ?_
      exact ro_iret hx hb hr hlocks hS dX10_sortOf_28 ⟨(show (x4.toInt = -9 ∧ ¬ (0 ≤ w.toInt ∧ w.toInt < (i 111).toInt)) ∨ (0 ≤ x4.toInt ∧ x4.toInt ≤ 5 ∧ 0 ≤ w.toInt ∧ w.toInt < (i 111).toInt) from by omega), (show SO (c 106) (c 108) (i 111).toInt w.toInt x4.toInt from SO_y (by omega) (by omega) ex3 ex4)⟩

def wm_X0_subjectOf_TA : List Cond := .code yX0_subjectOf cX0_subjectOf 3 (some .int) :: (([.fieldLink RX0 38 "TalePlay$Acts" "player" "I"] : List Cond) ++ wsX00)
set_option maxHeartbeats 4000000 in
set_option maxRecDepth 100000 in
theorem x_X0_subjectOf_TA (l : Launch) (D : va_G) (sz : Nat) (sk : Value) (a : Nat → Nat) (t : Nat → ClassId) (i : Nat → Int32) (q : Int64) (c : Nat → Nat → Int32) (d : Nat → Nat → Int64) (v1 : Int32) (w : Int32) (hI : xInv i c) : Met l yX0_subjectOf wm_X0_subjectOf_TA ({ frames := 0, cells := 0, slots := 0, locals := 0 }) (va_Pc [.ref (a 155), .int v1, .int w] (yA (a 186) D sz (xwT sk a t i q c d) (xtT t))) (va_Qi (fun (r : Int32) (_ : Unit) => ((r.toInt = (i 156).toInt ∧ (v1.toInt = 0 ∨ 10 ≤ v1.toInt)) ∨ (r.toInt = w.toInt ∧ ¬ (v1.toInt = 0 ∨ 10 ≤ v1.toInt)))) oA (ro sz)) 0 0 (ro sz) := by
  refine Met.ofW (cc := cX0_subjectOf) (maxL := 3) (ret := (some .int)) (by decide +kernel) rfl ?_
  intro p e s m args below meth cd s₁ B hml hv
  obtain ⟨rfl, ⟨hsz, hP, hK⟩, hN, hZ⟩ := hv
  have hx := B.exec
  have hb := B.bytes
  have hr := B.returns
  have hts := atoms_spec (ws := wm_X0_subjectOf_TA) B.pre
  have hown : s.vm.findClass RX0 = some m.cls := findClass_of_methodNamed B.named
  have hlocks := B.notSynchronized
  subst hsz
  have hA : ∀ q : Nat, s.heap.size ≤ q → ro s.heap.size q := fun _ h => h
  have hS : va_S (ro s.heap.size) s.heap s.heap [] := va_S.rf
  have hl := lv_entry ([.ref (a 155), .int v1, .int w]) (n := 3) (Nat.le_of_ble_eq_true rfl)
  rw [lg_entry_eq]
  generalize (lg_sl ([.ref (a 155), .int v1, .int w]) ++ List.replicate (3 - (lg_sl ([.ref (a 155), .int v1, .int w])).length) Slot.unset).toArray = ls at hl ⊢
  have hl : lv_has ls 3 [(0, .ref (a 155)), (1, .int v1), (2, .int w)] := hl
  refine lv_iload_n hx hb dX0_subjectOf_0 rfl (lv_at hl 1 rfl) ?_
  refine lv_if_eq (tgt := 10) hx hb dX0_subjectOf_1 (by decide +kernel) (fun c1 => ?_) (fun c1 => ?_)
  · have f1 := (ti_eq (a := v1.toInt) (b := 0) rfl (by decide +kernel)).mp c1
    refine lv_aload_n hx hb dX0_subjectOf_10 rfl (lv_at hl 0 rfl) ?_
    refine xgT_TA_player (v := (i 156)) rfl hx hb hts (fun _ h => List.mem_cons_of_mem _ (List.mem_append_right _ h)) hown hK hP (hts (.fieldLink RX0 38 "TalePlay$Acts" "player" "I") (List.mem_cons_of_mem _ (List.mem_append_left _ (List.mem_of_getElem? (i := 0) rfl)))) dX0_subjectOf_11 ?_
    have rb156_i : (i 156).toInt = -9 ∨ (0 ≤ (i 156).toInt ∧ (i 156).toInt ≤ 29) := hI.1 156
    refine lv_goto (tgt := 18) hx hb dX0_subjectOf_14 (by decide +kernel) ?_
    exact ro_iret hx hb hr hlocks hS dX0_subjectOf_18 (show ((i 156).toInt = (i 156).toInt ∧ (v1.toInt = 0 ∨ 10 ≤ v1.toInt)) ∨ ((i 156).toInt = w.toInt ∧ ¬ (v1.toInt = 0 ∨ 10 ≤ v1.toInt)) from by omega)
  · have f1 := mt (ti_eq (a := v1.toInt) (b := 0) rfl (by decide +kernel)).mpr c1
    refine lv_iload_n hx hb dX0_subjectOf_4 rfl (lv_at hl 1 rfl) ?_
    refine lv_bipush (v := 10) hx hb dX0_subjectOf_5 (by decide +kernel) ?_
    refine lv_icmp_lt (tgt := 17) hx hb dX0_subjectOf_7 (by decide +kernel) (fun c2 => ?_) (fun c2 => ?_)
    · have f2 := (ti_lt (a := v1.toInt) (b := 10) rfl (by decide +kernel)).mp c2
      refine lv_iload_n hx hb dX0_subjectOf_17 rfl (lv_at hl 2 rfl) ?_
      exact ro_iret hx hb hr hlocks hS dX0_subjectOf_18 (show (w.toInt = (i 156).toInt ∧ (v1.toInt = 0 ∨ 10 ≤ v1.toInt)) ∨ (w.toInt = w.toInt ∧ ¬ (v1.toInt = 0 ∨ 10 ≤ v1.toInt)) from by omega)
    · have f2 := mt (ti_lt (a := v1.toInt) (b := 10) rfl (by decide +kernel)).mpr c2
      refine lv_aload_n hx hb dX0_subjectOf_10 rfl (lv_at hl 0 rfl) ?_
      refine xgT_TA_player (v := (i 156)) rfl hx hb hts (fun _ h => List.mem_cons_of_mem _ (List.mem_append_right _ h)) hown hK hP (hts (.fieldLink RX0 38 "TalePlay$Acts" "player" "I") (List.mem_cons_of_mem _ (List.mem_append_left _ (List.mem_of_getElem? (i := 0) rfl)))) dX0_subjectOf_11 ?_
      have rb156_i : (i 156).toInt = -9 ∨ (0 ≤ (i 156).toInt ∧ (i 156).toInt ≤ 29) := hI.1 156
      refine lv_goto (tgt := 18) hx hb dX0_subjectOf_14 (by decide +kernel) ?_
      exact ro_iret hx hb hr hlocks hS dX0_subjectOf_18 (show ((i 156).toInt = (i 156).toInt ∧ (v1.toInt = 0 ∨ 10 ≤ v1.toInt)) ∨ ((i 156).toInt = w.toInt ∧ ¬ (v1.toInt = 0 ∨ 10 ≤ v1.toInt)) from by omega)

def wm_X0_subjectOf_SA : List Cond := .code yX0_subjectOf cX0_subjectOf 3 (some .int) :: (([.fieldLink RX0 38 "TalePlay$Acts" "player" "I"] : List Cond) ++ wsX00)
set_option maxHeartbeats 4000000 in
set_option maxRecDepth 100000 in
theorem x_X0_subjectOf_SA (l : Launch) (D : va_G) (sz : Nat) (sk : Value) (a : Nat → Nat) (t : Nat → ClassId) (i : Nat → Int32) (q : Int64) (c : Nat → Nat → Int32) (d : Nat → Nat → Int64) (v1 : Int32) (w : Int32) (hI : xInv i c) : Met l yX0_subjectOf wm_X0_subjectOf_SA ({ frames := 0, cells := 0, slots := 0, locals := 0 }) (va_Pc [.ref (a 184), .int v1, .int w] (yA (a 186) D sz (xwS sk a t i q c d) (xtS t))) (va_Qi (fun (r : Int32) (_ : Unit) => ((r.toInt = (i 185).toInt ∧ (v1.toInt = 0 ∨ 10 ≤ v1.toInt)) ∨ (r.toInt = w.toInt ∧ ¬ (v1.toInt = 0 ∨ 10 ≤ v1.toInt)))) oA (ro sz)) 0 0 (ro sz) := by
  refine Met.ofW (cc := cX0_subjectOf) (maxL := 3) (ret := (some .int)) (by decide +kernel) rfl ?_
  intro p e s m args below meth cd s₁ B hml hv
  obtain ⟨rfl, ⟨hsz, hP, hK⟩, hN, hZ⟩ := hv
  have hx := B.exec
  have hb := B.bytes
  have hr := B.returns
  have hts := atoms_spec (ws := wm_X0_subjectOf_SA) B.pre
  have hown : s.vm.findClass RX0 = some m.cls := findClass_of_methodNamed B.named
  have hlocks := B.notSynchronized
  subst hsz
  have hA : ∀ q : Nat, s.heap.size ≤ q → ro s.heap.size q := fun _ h => h
  have hS : va_S (ro s.heap.size) s.heap s.heap [] := va_S.rf
  have hl := lv_entry ([.ref (a 184), .int v1, .int w]) (n := 3) (Nat.le_of_ble_eq_true rfl)
  rw [lg_entry_eq]
  generalize (lg_sl ([.ref (a 184), .int v1, .int w]) ++ List.replicate (3 - (lg_sl ([.ref (a 184), .int v1, .int w])).length) Slot.unset).toArray = ls at hl ⊢
  have hl : lv_has ls 3 [(0, .ref (a 184)), (1, .int v1), (2, .int w)] := hl
  refine lv_iload_n hx hb dX0_subjectOf_0 rfl (lv_at hl 1 rfl) ?_
  refine lv_if_eq (tgt := 10) hx hb dX0_subjectOf_1 (by decide +kernel) (fun c1 => ?_) (fun c1 => ?_)
  · have f1 := (ti_eq (a := v1.toInt) (b := 0) rfl (by decide +kernel)).mp c1
    refine lv_aload_n hx hb dX0_subjectOf_10 rfl (lv_at hl 0 rfl) ?_
    refine xgS_SA_player (v := (i 185)) rfl hx hb hts (fun _ h => List.mem_cons_of_mem _ (List.mem_append_right _ h)) hown hK hP (hts (.fieldLink RX0 38 "TalePlay$Acts" "player" "I") (List.mem_cons_of_mem _ (List.mem_append_left _ (List.mem_of_getElem? (i := 0) rfl)))) dX0_subjectOf_11 ?_
    have rb185_i : (i 185).toInt = -9 ∨ (0 ≤ (i 185).toInt ∧ (i 185).toInt ≤ 29) := hI.1 185
    refine lv_goto (tgt := 18) hx hb dX0_subjectOf_14 (by decide +kernel) ?_
    exact ro_iret hx hb hr hlocks hS dX0_subjectOf_18 (show ((i 185).toInt = (i 185).toInt ∧ (v1.toInt = 0 ∨ 10 ≤ v1.toInt)) ∨ ((i 185).toInt = w.toInt ∧ ¬ (v1.toInt = 0 ∨ 10 ≤ v1.toInt)) from by omega)
  · have f1 := mt (ti_eq (a := v1.toInt) (b := 0) rfl (by decide +kernel)).mpr c1
    refine lv_iload_n hx hb dX0_subjectOf_4 rfl (lv_at hl 1 rfl) ?_
    refine lv_bipush (v := 10) hx hb dX0_subjectOf_5 (by decide +kernel) ?_
    refine lv_icmp_lt (tgt := 17) hx hb dX0_subjectOf_7 (by decide +kernel) (fun c2 => ?_) (fun c2 => ?_)
    · have f2 := (ti_lt (a := v1.toInt) (b := 10) rfl (by decide +kernel)).mp c2
      refine lv_iload_n hx hb dX0_subjectOf_17 rfl (lv_at hl 2 rfl) ?_
      exact ro_iret hx hb hr hlocks hS dX0_subjectOf_18 (show (w.toInt = (i 185).toInt ∧ (v1.toInt = 0 ∨ 10 ≤ v1.toInt)) ∨ (w.toInt = w.toInt ∧ ¬ (v1.toInt = 0 ∨ 10 ≤ v1.toInt)) from by omega)
    · have f2 := mt (ti_lt (a := v1.toInt) (b := 10) rfl (by decide +kernel)).mpr c2
      refine lv_aload_n hx hb dX0_subjectOf_10 rfl (lv_at hl 0 rfl) ?_
      refine xgS_SA_player (v := (i 185)) rfl hx hb hts (fun _ h => List.mem_cons_of_mem _ (List.mem_append_right _ h)) hown hK hP (hts (.fieldLink RX0 38 "TalePlay$Acts" "player" "I") (List.mem_cons_of_mem _ (List.mem_append_left _ (List.mem_of_getElem? (i := 0) rfl)))) dX0_subjectOf_11 ?_
      have rb185_i : (i 185).toInt = -9 ∨ (0 ≤ (i 185).toInt ∧ (i 185).toInt ≤ 29) := hI.1 185
      refine lv_goto (tgt := 18) hx hb dX0_subjectOf_14 (by decide +kernel) ?_
      exact ro_iret hx hb hr hlocks hS dX0_subjectOf_18 (show ((i 185).toInt = (i 185).toInt ∧ (v1.toInt = 0 ∨ 10 ≤ v1.toInt)) ∨ ((i 185).toInt = w.toInt ∧ ¬ (v1.toInt = 0 ∨ 10 ≤ v1.toInt)) from by omega)
