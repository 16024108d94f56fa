def wm_X1_part : List Cond := .code yX1_part cX1_part 3 (some .int) :: (([.fieldLink RX1 24 "TalePlay$Book" "said" "[Z", .code yX11_oneIf cX11_oneIf 1 (some .int), .initialized RX11, .static yX11_oneIf, .fieldLink RX1 9 "TalePlay$Book" "forms" "[I", .fieldLink RX1 15 "TalePlay$Book" "as" "[I", .fieldLink RX1 18 "TalePlay$Book" "bs" "[I", .fieldLink RX1 21 "TalePlay$Book" "cs" "[I"] : List Cond) ++ wsX10)
set_option maxRecDepth 20000 in
theorem gm_X1_part_X11_oneIf_110 : GoodIn wm_X1_part wm_X11_oneIf := goodIn_w (List.forall_mem_cons.mpr ⟨List.mem_cons_of_mem _ (List.mem_append_left _ (List.mem_of_getElem? (i := 1) rfl)), (fun _ h => absurd h List.not_mem_nil)⟩) (by decide +kernel)
set_option maxHeartbeats 4000000 in
set_option maxRecDepth 100000 in
theorem x_X1_part (l : Launch) (D : va_G) (sz : Nat) (sk : Value) (a : Nat → Nat) (t : Nat → ClassId) (i : Nat → Int32) (q : Int64) (c : Nat → Nat → Int32) (d : Nat → Nat → Int64) (s1 : Int32) (w : Int32) (hI : xInv i c) (hs1 : 0 ≤ s1.toInt ∧ s1.toInt ≤ 199) : Met l yX1_part wm_X1_part ({ frames := 1, cells := 0, slots := 0, locals := 20 }) (va_Pc [.ref (a 112), .int s1, .int w] (yA (a 186) D sz (xwB sk a t i q c d) (xtB t))) (va_Qi (fun (r : Int32) (_ : Unit) => True) oA (ro sz)) 0 0 (ro sz) := by
  refine Met.ofW (cc := cX1_part) (maxL := 3) (ret := (some .int)) (by decide +kernel) rfl ?_
  intro p e s m args below meth cd s₁ B hml hv
  obtain ⟨rfl, ⟨hsz, hP, hK⟩, hN, hZ⟩ := hv
  have hx := B.exec
  have hb := B.bytes
  have hr := B.returns
  have hts := atoms_spec (ws := wm_X1_part) B.pre
  have hown : s.vm.findClass RX1 = some m.cls := findClass_of_methodNamed B.named
  have hlocks := B.notSynchronized
  subst hsz
  have hA : ∀ q : Nat, s.heap.size ≤ q → ro s.heap.size q := fun _ h => h
  have hS : va_S (ro s.heap.size) s.heap s.heap [] := va_S.rf
  have hl := lv_entry ([.ref (a 112), .int s1, .int w]) (n := 3) (Nat.le_of_ble_eq_true rfl)
  rw [lg_entry_eq]
  generalize (lg_sl ([.ref (a 112), .int s1, .int w]) ++ List.replicate (3 - (lg_sl ([.ref (a 112), .int s1, .int w])).length) Slot.unset).toArray = ls at hl ⊢
  have hl : lv_has ls 3 [(0, .ref (a 112)), (1, .int s1), (2, .int w)] := hl
  refine lv_iload_n hx hb dX1_part_0 rfl (lv_at hl 2 rfl) ?_
  rcases (show (w.toInt < 0 ∨ 3 < w.toInt) ∨ w.toInt = 0 ∨ w.toInt = 1 ∨ w.toInt = 2 ∨ w.toInt = 3 by omega) with f1 | f1 | f1 | f1 | f1
  · refine lv_tableOut (tgt := 68) hx hb dX1_part_1 f1 (by decide +kernel) ?_
    refine lv_aload_n hx hb dX1_part_68 rfl (lv_at hl 0 rfl) ?_
    refine xgB_B_said hx hb hts (fun _ h => List.mem_cons_of_mem _ (List.mem_append_right _ h)) hown hK hP (hts (.fieldLink RX1 24 "TalePlay$Book" "said" "[Z") (List.mem_cons_of_mem _ (List.mem_append_left _ (List.mem_of_getElem? (i := 0) rfl)))) dX1_part_69 ?_
    refine lv_iload_n hx hb dX1_part_72 rfl (lv_at hl 1 rfl) ?_
    refine xlB_117 hx hb hK hP (vp_in_iff.mpr (by have h9 : s1.toInt = s1.toInt := rfl; omega)) dX1_part_73 (fun x2 ex2 => ?_)
    have rx2 : 0 ≤ x2.toInt ∧ x2.toInt ≤ 1 := by rw [ex2]; exact hI.2 117 _
    have hNn3 := hN.2.2.2.1
    have hPc := hP.sub (ws' := []) [] rfl
    have hKc := hK.sub (tys' := []) [] rfl
    refine ro_calli (va_runSN (As := [.int x2]) (rest := []) ⟨hx, hb, hml, hown, hts⟩ (c_X11_oneIf l D s.heap.size x2) ⟨va_cnB 1 hts gm_X1_part_X11_oneIf_110 rfl rfl rfl hNn3 (hts (.initialized RX11) (List.mem_cons_of_mem _ (List.mem_append_left _ (List.mem_of_getElem? (i := 2) rfl)))) (by decide +kernel) ⟨Nat.le_of_ble_eq_true rfl, Nat.le_of_ble_eq_true rfl⟩, (hts (.static yX11_oneIf) (List.mem_cons_of_mem _ (List.mem_append_left _ (List.mem_of_getElem? (i := 3) rfl)))), trivial⟩ (pA_S hKc hPc) rfl rfl hl.1 rfl (lv_room (Nat.le_of_ble_eq_true rfl)) dX1_part_74 ⟨Nat.le_of_ble_eq_true rfl, Nat.le_of_ble_eq_true rfl⟩) hS hA hP (fun r4 u4 H locs hw4 hP hS => ?_)
    exact ro_iret hx hb hr hlocks hS dX1_part_77 trivial
  · refine lv_tableIn (off := 31) (tgt := 32) hx hb dX1_part_1 (by omega) (by omega) (by rw [f1]; rfl) (by decide +kernel) ?_
    refine lv_aload_n hx hb dX1_part_32 rfl (lv_at hl 0 rfl) ?_
    refine xgB_B_forms hx hb hts (fun _ h => List.mem_cons_of_mem _ (List.mem_append_right _ h)) hown hK hP (hts (.fieldLink RX1 9 "TalePlay$Book" "forms" "[I") (List.mem_cons_of_mem _ (List.mem_append_left _ (List.mem_of_getElem? (i := 4) rfl)))) dX1_part_33 ?_
    refine lv_iload_n hx hb dX1_part_36 rfl (lv_at hl 1 rfl) ?_
    refine xlB_113 hx hb hK hP (vp_in_iff.mpr (by have h9 : s1.toInt = s1.toInt := rfl; omega)) dX1_part_37 (fun x5 ex5 => ?_)
    have rx5 : 0 ≤ x5.toInt ∧ x5.toInt ≤ 7 := by rw [ex5]; exact hI.2 113 _
    refine lv_goto (tgt := 77) hx hb dX1_part_38 (by decide +kernel) ?_
    exact ro_iret hx hb hr hlocks hS dX1_part_77 trivial
  · refine lv_tableIn (off := 40) (tgt := 41) hx hb dX1_part_1 (by omega) (by omega) (by rw [f1]; rfl) (by decide +kernel) ?_
    refine lv_aload_n hx hb dX1_part_41 rfl (lv_at hl 0 rfl) ?_
    refine xgB_B_as hx hb hts (fun _ h => List.mem_cons_of_mem _ (List.mem_append_right _ h)) hown hK hP (hts (.fieldLink RX1 15 "TalePlay$Book" "as" "[I") (List.mem_cons_of_mem _ (List.mem_append_left _ (List.mem_of_getElem? (i := 5) rfl)))) dX1_part_42 ?_
    refine lv_iload_n hx hb dX1_part_45 rfl (lv_at hl 1 rfl) ?_
    refine xlB_114 hx hb hK hP (vp_in_iff.mpr (by have h9 : s1.toInt = s1.toInt := rfl; omega)) dX1_part_46 (fun x6 ex6 => ?_)
    have rx6 : 0 ≤ x6.toInt ∧ x6.toInt ≤ 29 := by rw [ex6]; exact hI.2 114 _
    refine lv_goto (tgt := 77) hx hb dX1_part_47 (by decide +kernel) ?_
    exact ro_iret hx hb hr hlocks hS dX1_part_77 trivial
  · refine lv_tableIn (off := 49) (tgt := 50) hx hb dX1_part_1 (by omega) (by omega) (by rw [f1]; rfl) (by decide +kernel) ?_
    refine lv_aload_n hx hb dX1_part_50 rfl (lv_at hl 0 rfl) ?_
    refine xgB_B_bs hx hb hts (fun _ h => List.mem_cons_of_mem _ (List.mem_append_right _ h)) hown hK hP (hts (.fieldLink RX1 18 "TalePlay$Book" "bs" "[I") (List.mem_cons_of_mem _ (List.mem_append_left _ (List.mem_of_getElem? (i := 6) rfl)))) dX1_part_51 ?_
    refine lv_iload_n hx hb dX1_part_54 rfl (lv_at hl 1 rfl) ?_
    refine xlB_115 hx hb hK hP (vp_in_iff.mpr (by have h9 : s1.toInt = s1.toInt := rfl; omega)) dX1_part_55 (fun x7 ex7 => ?_)
    have rx7 : 0 ≤ x7.toInt ∧ x7.toInt ≤ 29 := by rw [ex7]; exact hI.2 115 _
    refine lv_goto (tgt := 77) hx hb dX1_part_56 (by decide +kernel) ?_
    exact ro_iret hx hb hr hlocks hS dX1_part_77 trivial
  · refine lv_tableIn (off := 58) (tgt := 59) hx hb dX1_part_1 (by omega) (by omega) (by rw [f1]; rfl) (by decide +kernel) ?_
    refine lv_aload_n hx hb dX1_part_59 rfl (lv_at hl 0 rfl) ?_
    refine xgB_B_cs hx hb hts (fun _ h => List.mem_cons_of_mem _ (List.mem_append_right _ h)) hown hK hP (hts (.fieldLink RX1 21 "TalePlay$Book" "cs" "[I") (List.mem_cons_of_mem _ (List.mem_append_left _ (List.mem_of_getElem? (i := 7) rfl)))) dX1_part_60 ?_
    refine lv_iload_n hx hb dX1_part_63 rfl (lv_at hl 1 rfl) ?_
    refine xlB_116 hx hb hK hP (vp_in_iff.mpr (by have h9 : s1.toInt = s1.toInt := rfl; omega)) dX1_part_64 (fun x8 ex8 => ?_)
    have rx8 : 0 ≤ x8.toInt ∧ x8.toInt ≤ 9 := by rw [ex8]; exact hI.2 116 _
    refine lv_goto (tgt := 77) hx hb dX1_part_65 (by decide +kernel) ?_
    exact ro_iret hx hb hr hlocks hS dX1_part_77 trivial

def wm_X1_saidFlag : List Cond := .code yX1_saidFlag cX1_saidFlag 4 (some .int) :: ((([.fieldLink RX1 34 "TalePlay$Book" "flagBy" "[I", .fieldLink RX1 21 "TalePlay$Book" "cs" "[I", .fieldLink RX1 43 "TalePlay$Book" "world" "LTalePlay$World;", .methodLink RX1 114 yX10_standardFor, .instanceMethod yX10_standardFor, .selects RX10 yX10_standardFor yX10_standardFor, .initialized RX10, .code yX10_standardFor cX10_standardFor 6 (some .int), .fieldLink RX10 21 "TalePlay$World" "kindOf" "[I", .methodLink RX10 40 yX10_sortOf, .instanceMethod yX10_sortOf, .selects RX10 yX10_sortOf yX10_sortOf, .code yX10_sortOf cX10_sortOf 2 (some .int), .fieldLink RX10 37 "TalePlay$World" "objects" "I", .fieldLink RX10 15 "TalePlay$World" "sorts" "[I", .fieldLink RX10 18 "TalePlay$World" "standards" "[I"] : List Cond) ++ ([.fieldLink RX10 9 "TalePlay$World" "parents" "[I"] : List Cond)) ++ wsX10 ++ wsX100)
set_option maxRecDepth 20000 in
theorem gm_X1_saidFlag_X10_standardFor_114 : GoodIn wm_X1_saidFlag (wsV RX1 114 RX10 yX10_standardFor wm_X10_standardFor) := goodIn_w (List.forall_mem_append.mpr ⟨List.forall_mem_cons.mpr ⟨List.mem_cons_of_mem _ (List.mem_append_left _ (List.mem_append_left _ (List.mem_append_left _ (List.mem_of_getElem? (i := 3) rfl)))), List.forall_mem_cons.mpr ⟨List.mem_cons_of_mem _ (List.mem_append_left _ (List.mem_append_left _ (List.mem_append_left _ (List.mem_of_getElem? (i := 4) rfl)))), List.forall_mem_cons.mpr ⟨List.mem_cons_of_mem _ (List.mem_append_left _ (List.mem_append_left _ (List.mem_append_left _ (List.mem_of_getElem? (i := 5) rfl)))), List.forall_mem_cons.mpr ⟨List.mem_cons_of_mem _ (List.mem_append_left _ (List.mem_append_left _ (List.mem_append_left _ (List.mem_of_getElem? (i := 6) rfl)))), (fun _ h => absurd h List.not_mem_nil)⟩⟩⟩⟩, List.forall_mem_cons.mpr ⟨List.mem_cons_of_mem _ (List.mem_append_left _ (List.mem_append_left _ (List.mem_append_left _ (List.mem_of_getElem? (i := 7) rfl)))), List.forall_mem_append.mpr ⟨List.forall_mem_cons.mpr ⟨List.mem_cons_of_mem _ (List.mem_append_left _ (List.mem_append_left _ (List.mem_append_left _ (List.mem_of_getElem? (i := 8) rfl)))), List.forall_mem_cons.mpr ⟨List.mem_cons_of_mem _ (List.mem_append_left _ (List.mem_append_left _ (List.mem_append_left _ (List.mem_of_getElem? (i := 9) rfl)))), List.forall_mem_cons.mpr ⟨List.mem_cons_of_mem _ (List.mem_append_left _ (List.mem_append_left _ (List.mem_append_left _ (List.mem_of_getElem? (i := 10) rfl)))), List.forall_mem_cons.mpr ⟨List.mem_cons_of_mem _ (List.mem_append_left _ (List.mem_append_left _ (List.mem_append_left _ (List.mem_of_getElem? (i := 11) rfl)))), List.forall_mem_cons.mpr ⟨List.mem_cons_of_mem _ (List.mem_append_left _ (List.mem_append_left _ (List.mem_append_left _ (List.mem_of_getElem? (i := 6) rfl)))), List.forall_mem_cons.mpr ⟨List.mem_cons_of_mem _ (List.mem_append_left _ (List.mem_append_left _ (List.mem_append_left _ (List.mem_of_getElem? (i := 12) rfl)))), List.forall_mem_cons.mpr ⟨List.mem_cons_of_mem _ (List.mem_append_left _ (List.mem_append_left _ (List.mem_append_left _ (List.mem_of_getElem? (i := 13) rfl)))), List.forall_mem_cons.mpr ⟨List.mem_cons_of_mem _ (List.mem_append_left _ (List.mem_append_left _ (List.mem_append_left _ (List.mem_of_getElem? (i := 14) rfl)))), List.forall_mem_cons.mpr ⟨List.mem_cons_of_mem _ (List.mem_append_left _ (List.mem_append_left _ (List.mem_append_left _ (List.mem_of_getElem? (i := 15) rfl)))), List.forall_mem_cons.mpr ⟨List.mem_cons_of_mem _ (List.mem_append_left _ (List.mem_append_left _ (List.mem_append_right _ (List.mem_of_getElem? (i := 0) rfl)))), (fun _ h => absurd h List.not_mem_nil)⟩⟩⟩⟩⟩⟩⟩⟩⟩⟩, (fun _ h => List.mem_cons_of_mem _ (List.mem_append_right _ h))⟩⟩⟩) (by decide +kernel)
set_option maxHeartbeats 4000000 in
set_option maxRecDepth 100000 in
theorem x_X1_saidFlag (l : Launch) (D : va_G) (sz : Nat) (sk : Value) (a : Nat → Nat) (t : Nat → ClassId) (i : Nat → Int32) (q : Int64) (c : Nat → Nat → Int32) (d : Nat → Nat → Int64) (w : Int32) (f : Int32) (hI : xInv i c) (hw : 0 ≤ w.toInt ∧ w.toInt ≤ 29) (hf : 0 ≤ f.toInt ∧ f.toInt ≤ 5) : Met l yX1_saidFlag wm_X1_saidFlag ({ frames := 2, cells := 0, slots := 0, locals := 46 }) (va_Pc [.ref (a 112), .int w, .int f] (yA (a 186) D sz (xwB sk a t i q c d) (xtB t))) (va_Qi (fun (r : Int32) (_ : Unit) => (r.toInt = -9 ∨ (0 ≤ r.toInt ∧ r.toInt ≤ 9))) oA (ro sz)) 0 0 (ro sz) := by
  refine Met.ofW (cc := cX1_saidFlag) (maxL := 4) (ret := (some .int)) (by decide +kernel) rfl ?_
  intro p e s m args below meth cd s₁ B hml hv
  obtain ⟨rfl, ⟨hsz, hP, hK⟩, hN, hZ⟩ := hv
  have hx := B.exec
  have hb := B.bytes
  have hr := B.returns
  have hts := atoms_spec (ws := wm_X1_saidFlag) B.pre
  have hown : s.vm.findClass RX1 = some m.cls := findClass_of_methodNamed B.named
  have hlocks := B.notSynchronized
  subst hsz
  have hA : ∀ q : Nat, s.heap.size ≤ q → ro s.heap.size q := fun _ h => h
  have hS : va_S (ro s.heap.size) s.heap s.heap [] := va_S.rf
  have hl := lv_entry ([.ref (a 112), .int w, .int f]) (n := 4) (Nat.le_of_ble_eq_true rfl)
  rw [lg_entry_eq]
  generalize (lg_sl ([.ref (a 112), .int w, .int f]) ++ List.replicate (4 - (lg_sl ([.ref (a 112), .int w, .int f])).length) Slot.unset).toArray = ls at hl ⊢
  have hl : lv_has ls 4 [(0, .ref (a 112)), (1, .int w), (2, .int f)] := hl
  refine lv_aload_n hx hb dX1_saidFlag_0 rfl (lv_at hl 0 rfl) ?_
  refine xgB_B_flagBy hx hb hts (fun _ h => List.mem_cons_of_mem _ (List.mem_append_left _ (List.mem_append_right _ h))) hown hK hP (hts (.fieldLink RX1 34 "TalePlay$Book" "flagBy" "[I") (List.mem_cons_of_mem _ (List.mem_append_left _ (List.mem_append_left _ (List.mem_append_left _ (List.mem_of_getElem? (i := 0) rfl)))))) dX1_saidFlag_1 ?_
  refine lv_iload_n hx hb dX1_saidFlag_4 rfl (lv_at hl 1 rfl) ?_
  refine lv_bipush (v := 6) hx hb dX1_saidFlag_5 (by decide +kernel) ?_
  refine lv_imul hx hb dX1_saidFlag_7 ?_
  refine lv_topi (fun x1 ex1 => ?_)
  have tx1 := ti_mul (a := w.toInt) (b := 6) ex1 rfl (by decide +kernel) (by omega) (by omega)
  refine lv_iload_n hx hb dX1_saidFlag_8 rfl (lv_at hl 2 rfl) ?_
  refine lv_iadd hx hb dX1_saidFlag_9 ?_
  refine lv_topi (fun x2 ex2 => ?_)
  have tx2 := ti_add (a := (w.toInt * 6)) (b := f.toInt) ex2 tx1 rfl (by omega) (by omega)
  refine xlB_120 hx hb hK hP (vp_in_iff.mpr (by have h9 : x2.toInt = ((w.toInt * 6) + f.toInt) := tx2; omega)) dX1_saidFlag_10 (fun x3 ex3 => ?_)
  have rx3 : x3.toInt = -9 ∨ (0 ≤ x3.toInt ∧ x3.toInt ≤ 199) := by rw [ex3]; exact hI.2 120 _
  refine lv_istore_n (lv' := [(3, .int x3), (0, .ref (a 112)), (1, .int w), (2, .int f)]) hx hb dX1_saidFlag_11 rfl hl (by decide +kernel) rfl (fun ls hl => ?_)
  refine lv_iload_n hx hb dX1_saidFlag_12 rfl (lv_at hl 0 rfl) ?_
  refine lv_bipush (v := (-9)) hx hb dX1_saidFlag_13 (by decide +kernel) ?_
  refine lv_icmp_ne (tgt := 30) hx hb dX1_saidFlag_15 (by decide +kernel) (fun c4 => ?_) (fun c4 => ?_)
  · have f4 := mt (ti_eq (a := x3.toInt) (b := (-9)) rfl (by decide +kernel)).mpr c4
    refine lv_aload_n hx hb dX1_saidFlag_30 rfl (lv_at hl 1 rfl) ?_
    refine xgB_B_cs hx hb hts (fun _ h => List.mem_cons_of_mem _ (List.mem_append_left _ (List.mem_append_right _ h))) hown hK hP (hts (.fieldLink RX1 21 "TalePlay$Book" "cs" "[I") (List.mem_cons_of_mem _ (List.mem_append_left _ (List.mem_append_left _ (List.mem_append_left _ (List.mem_of_getElem? (i := 1) rfl)))))) dX1_saidFlag_31 ?_
    refine lv_iload_n hx hb dX1_saidFlag_34 rfl (lv_at hl 0 rfl) ?_
    refine xlB_116 hx hb hK hP (vp_in_iff.mpr (by have h9 : x3.toInt = x3.toInt := rfl; omega)) dX1_saidFlag_35 (fun x5 ex5 => ?_)
    have rx5 : 0 ≤ x5.toInt ∧ x5.toInt ≤ 9 := by rw [ex5]; exact hI.2 116 _
    exact ro_iret hx hb hr hlocks hS dX1_saidFlag_36 (show x5.toInt = -9 ∨ (0 ≤ x5.toInt ∧ x5.toInt ≤ 9) from by omega)
  · have f4 := (ti_eq (a := x3.toInt) (b := (-9)) rfl (by decide +kernel)).mp c4
    refine lv_aload_n hx hb dX1_saidFlag_18 rfl (lv_at hl 1 rfl) ?_
    refine xgB_B_world hx hb hts (fun _ h => List.mem_cons_of_mem _ (List.mem_append_left _ (List.mem_append_right _ h))) hown hK hP (hts (.fieldLink RX1 43 "TalePlay$Book" "world" "LTalePlay$World;") (List.mem_cons_of_mem _ (List.mem_append_left _ (List.mem_append_left _ (List.mem_append_left _ (List.mem_of_getElem? (i := 2) rfl)))))) dX1_saidFlag_19 ?_
    refine lv_iload_n hx hb dX1_saidFlag_22 rfl (lv_at hl 2 rfl) ?_
    refine lv_iload_n hx hb dX1_saidFlag_23 rfl (lv_at hl 3 rfl) ?_
    refine ro_calli (va_runV (As := [.int w, .int f]) (rest := []) ⟨hx, hb, hml, hown, hts⟩ (x_X10_standardFor l D s.heap.size .null a t i q c d w f hI (show 0 ≤ w.toInt ∧ w.toInt ≤ 29 from by omega) (show 0 ≤ f.toInt ∧ f.toInt ≤ 5 from by omega)) (cwV 2 hts gm_X1_saidFlag_X10_standardFor_114 rfl rfl rfl (by decide +kernel) ⟨Nat.le_of_ble_eq_true rfl, Nat.le_of_ble_eq_true rfl⟩) (yA_V hN (xZ_k hZ hS hA) (xkB_W hK) (xuB_W (sk := sk) hP) (ci := 10) (q0 := 0) rfl rfl) rfl rfl hl.1 rfl (lv_room (Nat.le_of_ble_eq_true rfl)) dX1_saidFlag_24 ⟨Nat.le_of_ble_eq_true rfl, Nat.le_of_ble_eq_true rfl⟩) hS hA hP (fun r6 u6 H locs hw6 hP hS => ?_)
    have hw6 : (r6.toInt = -9 ∨ (0 ≤ r6.toInt ∧ r6.toInt ≤ 1)) := hw6
    refine lv_goto (tgt := 36) hx hb dX1_saidFlag_27 (by decide +kernel) ?_
    exact ro_iret hx hb hr hlocks hS dX1_saidFlag_36 (show r6.toInt = -9 ∨ (0 ≤ r6.toInt ∧ r6.toInt ≤ 9) from by omega)

def wm_X1_keyOf : List Cond := .code yX1_keyOf cX1_keyOf 3 (some .int) :: (([.fieldLink RX1 37 "TalePlay$Book" "keyBy" "[I", .fieldLink RX1 15 "TalePlay$Book" "as" "[I"] : List Cond) ++ wsX10)
set_option maxHeartbeats 4000000 in
set_option maxRecDepth 100000 in
theorem x_X1_keyOf (l : Launch) (D : va_G) (sz : Nat) (sk : Value) (a : Nat → Nat) (t : Nat → ClassId) (i : Nat → Int32) (q : Int64) (c : Nat → Nat → Int32) (d : Nat → Nat → Int64) (w : Int32) (hI : xInv i c) (hw : 0 ≤ w.toInt ∧ w.toInt ≤ 29) : Met l yX1_keyOf wm_X1_keyOf ({ frames := 0, cells := 0, slots := 0, locals := 0 }) (va_Pc [.ref (a 112), .int w] (yA (a 186) D sz (xwB sk a t i q c d) (xtB t))) (va_Qi (fun (r : Int32) (_ : Unit) => (r.toInt = -9 ∨ (0 ≤ r.toInt ∧ r.toInt ≤ 29))) oA (ro sz)) 0 0 (ro sz) := by
  refine Met.ofW (cc := cX1_keyOf) (maxL := 3) (ret := (some .int)) (by decide +kernel) rfl ?_
  intro p e s m args below meth cd s₁ B hml hv
  obtain ⟨rfl, ⟨hsz, hP, hK⟩, hN, hZ⟩ := hv
  have hx := B.exec
  have hb := B.bytes
  have hr := B.returns
  have hts := atoms_spec (ws := wm_X1_keyOf) B.pre
  have hown : s.vm.findClass RX1 = some m.cls := findClass_of_methodNamed B.named
  have hlocks := B.notSynchronized
  subst hsz
  have hA : ∀ q : Nat, s.heap.size ≤ q → ro s.heap.size q := fun _ h => h
  have hS : va_S (ro s.heap.size) s.heap s.heap [] := va_S.rf
  have hl := lv_entry ([.ref (a 112), .int w]) (n := 3) (Nat.le_of_ble_eq_true rfl)
  rw [lg_entry_eq]
  generalize (lg_sl ([.ref (a 112), .int w]) ++ List.replicate (3 - (lg_sl ([.ref (a 112), .int w])).length) Slot.unset).toArray = ls at hl ⊢
  have hl : lv_has ls 3 [(0, .ref (a 112)), (1, .int w)] := hl
  refine lv_aload_n hx hb dX1_keyOf_0 rfl (lv_at hl 0 rfl) ?_
  refine xgB_B_keyBy hx hb hts (fun _ h => List.mem_cons_of_mem _ (List.mem_append_right _ h)) hown hK hP (hts (.fieldLink RX1 37 "TalePlay$Book" "keyBy" "[I") (List.mem_cons_of_mem _ (List.mem_append_left _ (List.mem_of_getElem? (i := 0) rfl)))) dX1_keyOf_1 ?_
  refine lv_iload_n hx hb dX1_keyOf_4 rfl (lv_at hl 1 rfl) ?_
  refine xlB_121 hx hb hK hP (vp_in_iff.mpr (by have h9 : w.toInt = w.toInt := rfl; omega)) dX1_keyOf_5 (fun x1 ex1 => ?_)
  have rx1 : x1.toInt = -9 ∨ (0 ≤ x1.toInt ∧ x1.toInt ≤ 199) := by rw [ex1]; exact hI.2 121 _
  refine lv_istore_n (lv' := [(2, .int x1), (0, .ref (a 112)), (1, .int w)]) hx hb dX1_keyOf_6 rfl hl (by decide +kernel) rfl (fun ls hl => ?_)
  refine lv_iload_n hx hb dX1_keyOf_7 rfl (lv_at hl 0 rfl) ?_
  refine lv_bipush (v := (-9)) hx hb dX1_keyOf_8 (by decide +kernel) ?_
  refine lv_icmp_ne (tgt := 18) hx hb dX1_keyOf_10 (by decide +kernel) (fun c2 => ?_) (fun c2 => ?_)
  · have f2 := mt (ti_eq (a := x1.toInt) (b := (-9)) rfl (by decide +kernel)).mpr c2
    refine lv_aload_n hx hb dX1_keyOf_18 rfl (lv_at hl 1 rfl) ?_
    refine xgB_B_as hx hb hts (fun _ h => List.mem_cons_of_mem _ (List.mem_append_right _ h)) hown hK hP (hts (.fieldLink RX1 15 "TalePlay$Book" "as" "[I") (List.mem_cons_of_mem _ (List.mem_append_left _ (List.mem_of_getElem? (i := 1) rfl)))) dX1_keyOf_19 ?_
    refine lv_iload_n hx hb dX1_keyOf_22 rfl (lv_at hl 0 rfl) ?_
    refine xlB_114 hx hb hK hP (vp_in_iff.mpr (by have h9 : x1.toInt = x1.toInt := rfl; omega)) dX1_keyOf_23 (fun x3 ex3 => ?_)
    have rx3 : 0 ≤ x3.toInt ∧ x3.toInt ≤ 29 := by rw [ex3]; exact hI.2 114 _
    exact ro_iret hx hb hr hlocks hS dX1_keyOf_24 (show x3.toInt = -9 ∨ (0 ≤ x3.toInt ∧ x3.toInt ≤ 29) from by omega)
  · have f2 := (ti_eq (a := x1.toInt) (b := (-9)) rfl (by decide +kernel)).mp c2
    refine lv_bipush (v := (-9)) hx hb dX1_keyOf_13 (by decide +kernel) ?_
    refine lv_goto (tgt := 24) hx hb dX1_keyOf_15 (by decide +kernel) ?_
    exact ro_iret hx hb hr hlocks hS dX1_keyOf_24 (show ((-9) : Int32).toInt = -9 ∨ (0 ≤ ((-9) : Int32).toInt ∧ ((-9) : Int32).toInt ≤ 29) from by decide +kernel)

def wm_X1_clearClash : List Cond := .code yX1_clearClash cX1_clearClash 1 none :: (([.fieldLink RX1 118 "TalePlay$Book" "clashes" "I"] : List Cond) ++ wsX10)
set_option maxHeartbeats 4000000 in
set_option maxRecDepth 100000 in
theorem x_X1_clearClash (l : Launch) (D : va_G) (sz : Nat) (sk : Value) (a : Nat → Nat) (t : Nat → ClassId) (i : Nat → Int32) (q : Int64) (c : Nat → Nat → Int32) (d : Nat → Nat → Int64) (hI : xInv i c) : Met l yX1_clearClash wm_X1_clearClash ({ frames := 0, cells := 0, slots := 0, locals := 0 }) (va_Pc [.ref (a 112)] (yB (a 186) D sz (xwT sk a t i q c d) (xtT t))) (va_Qv (fun (u : MS) => True ∧ xInv u.1 u.2.2.1 ∧ (∀ k, k ∉ ([123] : List Nat) → u.1 k = i k) ∧ (∀ k, k ∉ ([] : List Nat) → u.2.2.1 k = c k)) (oC D (va_A (xwT sk a t i q c d) sz) (fun u : MS => xwT sk a t u.1 u.2.1 u.2.2.1 u.2.2.2) (fun _ => [])) (va_A (xwT sk a t i q c d) sz)) 0 0 (va_A (xwT sk a t i q c d) sz) := by
  refine Met.ofW (cc := cX1_clearClash) (maxL := 1) (ret := none) (by decide +kernel) rfl ?_
  intro p e s m args below meth cd s₁ B hml hv
  obtain ⟨rfl, ⟨hsz, hP, hK, hD0⟩, hN, hZ, hBW⟩ := hv
  have hx := B.exec
  have hb := B.bytes
  have hr := B.returns
  have hts := atoms_spec (ws := wm_X1_clearClash) B.pre
  have hown : s.vm.findClass RX1 = some m.cls := findClass_of_methodNamed B.named
  have hlocks := B.notSynchronized
  subst hsz
  have hD := hD0.self (sz := s.heap.size)
  have hZ := xZ_A hZ hP hBW
  generalize hAe : va_A (xwT sk a t i q c d) s.heap.size = A at hD hZ ⊢
  have hA : ∀ q : Nat, s.heap.size ≤ q → A q := fun q h => by rw [← hAe]; exact Or.inr h
  have hS : va_S A s.heap s.heap [] := va_S.rf
  have hfi : ∀ k, k ∉ ([] : List Nat) → i k = i k := fun _ _ => rfl
  have hfc : ∀ k, k ∉ ([] : List Nat) → c k = c k := fun _ _ => rfl
  have hl := lv_entry ([.ref (a 112)]) (n := 1) (Nat.le_of_ble_eq_true rfl)
  rw [lg_entry_eq]
  generalize (lg_sl ([.ref (a 112)]) ++ List.replicate (1 - (lg_sl ([.ref (a 112)])).length) Slot.unset).toArray = ls at hl ⊢
  have hl : lv_has ls 1 [(0, .ref (a 112))] := hl
  refine lv_aload_n hx hb dX1_clearClash_0 rfl (lv_at hl 0 rfl) ?_
  refine lv_iconst (v := 0) hx hb dX1_clearClash_1 (by decide +kernel) ?_
  refine xpT_B_clashes hx hb hts (fun _ h => List.mem_cons_of_mem _ (List.mem_append_right _ h)) hown hK hP hD hS (hts (.fieldLink RX1 118 "TalePlay$Book" "clashes" "I") (List.mem_cons_of_mem _ (List.mem_append_left _ (List.mem_of_getElem? (i := 0) rfl)))) rfl rfl dX1_clearClash_2 (fun H locs hP hD hS => ?_)
  have hI := xInv_i hI (k := 123) (v := 0) (show 0 ≤ (0 : Int32).toInt ∧ (0 : Int32).toInt ≤ 30 from by decide +kernel)
  have hfi : ∀ k, k ∉ ([123] : List Nat) → (upd i 123 0) k = i k := fr_iz hfi (by decide +kernel) (by decide +kernel)
  exact rw_vret ((upd i 123 0), q, c, d) hx hb hr hlocks hS (hK.sub (tys' := []) [] rfl) hP hD dX1_clearClash_5 ⟨trivial, hI, fr_w hfi (by decide +kernel), fr_w hfc (by decide +kernel)⟩

def wm_X1_addClash : List Cond := .code yX1_addClash cX1_addClash 2 (some .boolean) :: (([.fieldLink RX1 118 "TalePlay$Book" "clashes" "I", .fieldLink RX1 40 "TalePlay$Book" "clashRow" "[I"] : List Cond) ++ wsX10)
set_option maxHeartbeats 4000000 in
set_option maxRecDepth 100000 in
theorem x_X1_addClash (l : Launch) (D : va_G) (sz : Nat) (sk : Value) (a : Nat → Nat) (t : Nat → ClassId) (i : Nat → Int32) (q : Int64) (c : Nat → Nat → Int32) (d : Nat → Nat → Int64) (s1 : Int32) (hI : xInv i c) (hs1 : s1.toInt = -9 ∨ (0 ≤ s1.toInt ∧ s1.toInt ≤ 199)) : Met l yX1_addClash wm_X1_addClash ({ frames := 0, cells := 0, slots := 0, locals := 0 }) (va_Pc [.ref (a 112), .int s1] (yB (a 186) D sz (xwT sk a t i q c d) (xtT t))) (va_Qi (fun (r : Int32) (u : MS) => (0 ≤ r.toInt ∧ r.toInt ≤ 1) ∧ xInv u.1 u.2.2.1 ∧ (∀ k, k ∉ ([123] : List Nat) → u.1 k = i k) ∧ (∀ k, k ∉ ([122] : List Nat) → u.2.2.1 k = c k)) (oC D (va_A (xwT sk a t i q c d) sz) (fun u : MS => xwT sk a t u.1 u.2.1 u.2.2.1 u.2.2.2) (fun _ => [])) (va_A (xwT sk a t i q c d) sz)) 0 0 (va_A (xwT sk a t i q c d) sz) := by
  refine Met.ofW (cc := cX1_addClash) (maxL := 2) (ret := (some .boolean)) (by decide +kernel) rfl ?_
  intro p e s m args below meth cd s₁ B hml hv
  obtain ⟨rfl, ⟨hsz, hP, hK, hD0⟩, hN, hZ, hBW⟩ := hv
  have hx := B.exec
  have hb := B.bytes
  have hr := B.returns
  have hts := atoms_spec (ws := wm_X1_addClash) B.pre
  have hown : s.vm.findClass RX1 = some m.cls := findClass_of_methodNamed B.named
  have hlocks := B.notSynchronized
  subst hsz
  have hD := hD0.self (sz := s.heap.size)
  have hZ := xZ_A hZ hP hBW
  generalize hAe : va_A (xwT sk a t i q c d) s.heap.size = A at hD hZ ⊢
  have hA : ∀ q : Nat, s.heap.size ≤ q → A q := fun q h => by rw [← hAe]; exact Or.inr h
  have hS : va_S A s.heap s.heap [] := va_S.rf
  have hfi : ∀ k, k ∉ ([] : List Nat) → i k = i k := fun _ _ => rfl
  have hfc : ∀ k, k ∉ ([] : List Nat) → c k = c k := fun _ _ => rfl
  have hl := lv_entry ([.ref (a 112), .int s1]) (n := 2) (Nat.le_of_ble_eq_true rfl)
  rw [lg_entry_eq]
  generalize (lg_sl ([.ref (a 112), .int s1]) ++ List.replicate (2 - (lg_sl ([.ref (a 112), .int s1])).length) Slot.unset).toArray = ls at hl ⊢
  have hl : lv_has ls 2 [(0, .ref (a 112)), (1, .int s1)] := hl
  refine lv_iload_n hx hb dX1_addClash_0 rfl (lv_at hl 1 rfl) ?_
  refine lv_bipush (v := (-9)) hx hb dX1_addClash_1 (by decide +kernel) ?_
  refine lv_icmp_eq (tgt := 18) hx hb dX1_addClash_3 (by decide +kernel) (fun c1 => ?_) (fun c1 => ?_)
  · have f1 := (ti_eq (a := s1.toInt) (b := (-9)) rfl (by decide +kernel)).mp c1
    refine lv_iconst (v := 0) hx hb dX1_addClash_18 (by decide +kernel) ?_
    exact rw_zret (i, q, c, d) hx hb hr hlocks hS (hK.sub (tys' := []) [] rfl) hP hD rfl dX1_addClash_19 ⟨(show 0 ≤ (0 : Int32).toInt ∧ (0 : Int32).toInt ≤ 1 from by decide +kernel), hI, fr_w hfi (by decide +kernel), fr_w hfc (by decide +kernel)⟩
  · have f1 := mt (ti_eq (a := s1.toInt) (b := (-9)) rfl (by decide +kernel)).mpr c1
    refine lv_aload_n hx hb dX1_addClash_6 rfl (lv_at hl 0 rfl) ?_
    refine xgT_B_clashes (v := (i 123)) rfl hx hb hts (fun _ h => List.mem_cons_of_mem _ (List.mem_append_right _ h)) hown hK hP (hts (.fieldLink RX1 118 "TalePlay$Book" "clashes" "I") (List.mem_cons_of_mem _ (List.mem_append_left _ (List.mem_of_getElem? (i := 0) rfl)))) dX1_addClash_7 ?_
    have rb123_i : 0 ≤ (i 123).toInt ∧ (i 123).toInt ≤ 30 := hI.1 123
    refine lv_aload_n hx hb dX1_addClash_10 rfl (lv_at hl 0 rfl) ?_
    refine xgT_B_clashRow hx hb hts (fun _ h => List.mem_cons_of_mem _ (List.mem_append_right _ h)) hown hK hP (hts (.fieldLink RX1 40 "TalePlay$Book" "clashRow" "[I") (List.mem_cons_of_mem _ (List.mem_append_left _ (List.mem_of_getElem? (i := 1) rfl)))) dX1_addClash_11 ?_
    refine xnT_122 hx hb hK hP dX1_addClash_14 ?_
    refine lv_icmp_lt (tgt := 20) hx hb dX1_addClash_15 (by decide +kernel) (fun c2 => ?_) (fun c2 => ?_)
    · have f2 := (ti_lt (a := (i 123).toInt) (b := 30) rfl (by decide +kernel)).mp c2
      refine lv_aload_n hx hb dX1_addClash_20 rfl (lv_at hl 0 rfl) ?_
      refine xgT_B_clashRow hx hb hts (fun _ h => List.mem_cons_of_mem _ (List.mem_append_right _ h)) hown hK hP (hts (.fieldLink RX1 40 "TalePlay$Book" "clashRow" "[I") (List.mem_cons_of_mem _ (List.mem_append_left _ (List.mem_of_getElem? (i := 1) rfl)))) dX1_addClash_21 ?_
      refine lv_aload_n hx hb dX1_addClash_24 rfl (lv_at hl 0 rfl) ?_
      refine lv_dup hx hb dX1_addClash_25 rfl ?_
      refine xgT_B_clashes (v := (i 123)) rfl hx hb hts (fun _ h => List.mem_cons_of_mem _ (List.mem_append_right _ h)) hown hK hP (hts (.fieldLink RX1 118 "TalePlay$Book" "clashes" "I") (List.mem_cons_of_mem _ (List.mem_append_left _ (List.mem_of_getElem? (i := 0) rfl)))) dX1_addClash_26 ?_
      refine lv_dup_x1 hx hb dX1_addClash_29 rfl rfl ?_
      refine lv_iconst (v := 1) hx hb dX1_addClash_30 (by decide +kernel) ?_
      refine lv_iadd hx hb dX1_addClash_31 ?_
      refine lv_topi (fun x3 ex3 => ?_)
      have tx3 := ti_add (a := (i 123).toInt) (b := 1) ex3 rfl (by decide +kernel) (by omega) (by omega)
      refine xpT_B_clashes hx hb hts (fun _ h => List.mem_cons_of_mem _ (List.mem_append_right _ h)) hown hK hP hD hS (hts (.fieldLink RX1 118 "TalePlay$Book" "clashes" "I") (List.mem_cons_of_mem _ (List.mem_append_left _ (List.mem_of_getElem? (i := 0) rfl)))) rfl rfl dX1_addClash_32 (fun H locs hP hD hS => ?_)
      have hI := xInv_i hI (k := 123) (v := x3) (show 0 ≤ (x3 : Int32).toInt ∧ (x3 : Int32).toInt ≤ 30 from by have h9 : x3.toInt = ((i 123).toInt + 1) := tx3; omega)
      have hfi : ∀ k, k ∉ ([123] : List Nat) → (upd i 123 x3) k = i k := fr_iz hfi (by decide +kernel) (by decide +kernel)
      refine lv_iload_n hx hb dX1_addClash_35 rfl (lv_at hl 1 rfl) ?_
      refine xsT_122 hx hb hK hP hD hS (vp_in_iff.mpr (by have h9 : (i 123).toInt = (i 123).toInt := rfl; omega)) dX1_addClash_36 (fun H locs hP hD hS => ?_)
      have hI := xInv_c hI (k := 122) (j := ((i 123) : Int32).toNatClampNeg) (x := s1) (show 0 ≤ (s1 : Int32).toInt ∧ (s1 : Int32).toInt ≤ 199 from by omega)
      have hfc : ∀ k, k ∉ ([122] : List Nat) → (updA c 122 ((i 123) : Int32).toNatClampNeg s1) k = c k := fr_cz hfc (by decide +kernel) (by decide +kernel)
      refine lv_iconst (v := 1) hx hb dX1_addClash_37 (by decide +kernel) ?_
      exact rw_zret ((upd i 123 x3), q, (updA c 122 ((i 123) : Int32).toNatClampNeg s1), d) hx hb hr hlocks hS (hK.sub (tys' := []) [] rfl) hP hD rfl dX1_addClash_38 ⟨(show 0 ≤ (1 : Int32).toInt ∧ (1 : Int32).toInt ≤ 1 from by decide +kernel), hI, fr_w hfi (by decide +kernel), fr_w hfc (by decide +kernel)⟩
    · have f2 := mt (ti_lt (a := (i 123).toInt) (b := 30) rfl (by decide +kernel)).mpr c2
      refine lv_iconst (v := 0) hx hb dX1_addClash_18 (by decide +kernel) ?_
      exact rw_zret (i, q, c, d) hx hb hr hlocks hS (hK.sub (tys' := []) [] rfl) hP hD rfl dX1_addClash_19 ⟨(show 0 ≤ (0 : Int32).toInt ∧ (0 : Int32).toInt ≤ 1 from by decide +kernel), hI, fr_w hfi (by decide +kernel), fr_w hfc (by decide +kernel)⟩

def wm_X1_addChain : List Cond := .code yX1_addChain cX1_addChain 5 none :: (([.fieldLink RX1 28 "TalePlay$Book" "placeBy" "[I", .methodLink RX1 121 yX1_addClash, .instanceMethod yX1_addClash, .selects RX1 yX1_addClash yX1_addClash, .initialized RX1, .code yX1_addClash cX1_addClash 2 (some .boolean), .fieldLink RX1 118 "TalePlay$Book" "clashes" "I", .fieldLink RX1 40 "TalePlay$Book" "clashRow" "[I", .fieldLink RX1 52 "TalePlay$Book" "places" "LTalePlay$Scene;", .methodLink RX1 143 yX6_holderOf, .instanceMethod yX6_holderOf, .selects RX6 yX6_holderOf yX6_holderOf, .initialized RX6, .code yX6_holderOf cX6_holderOf 3 (some .int), .fieldLink RX6 9 "TalePlay$Scene" "cells" "[I"] : List Cond) ++ wsX10 ++ wsX60)
set_option maxRecDepth 20000 in
theorem gm_X1_addChain_X1_addClash_121 : GoodIn wm_X1_addChain (wsV RX1 121 RX1 yX1_addClash wm_X1_addClash) := goodIn_w (List.forall_mem_append.mpr ⟨List.forall_mem_cons.mpr ⟨List.mem_cons_of_mem _ (List.mem_append_left _ (List.mem_append_left _ (List.mem_of_getElem? (i := 1) rfl))), List.forall_mem_cons.mpr ⟨List.mem_cons_of_mem _ (List.mem_append_left _ (List.mem_append_left _ (List.mem_of_getElem? (i := 2) rfl))), List.forall_mem_cons.mpr ⟨List.mem_cons_of_mem _ (List.mem_append_left _ (List.mem_append_left _ (List.mem_of_getElem? (i := 3) rfl))), List.forall_mem_cons.mpr ⟨List.mem_cons_of_mem _ (List.mem_append_left _ (List.mem_append_left _ (List.mem_of_getElem? (i := 4) rfl))), (fun _ h => absurd h List.not_mem_nil)⟩⟩⟩⟩, List.forall_mem_cons.mpr ⟨List.mem_cons_of_mem _ (List.mem_append_left _ (List.mem_append_left _ (List.mem_of_getElem? (i := 5) rfl))), List.forall_mem_append.mpr ⟨List.forall_mem_cons.mpr ⟨List.mem_cons_of_mem _ (List.mem_append_left _ (List.mem_append_left _ (List.mem_of_getElem? (i := 6) rfl))), List.forall_mem_cons.mpr ⟨List.mem_cons_of_mem _ (List.mem_append_left _ (List.mem_append_left _ (List.mem_of_getElem? (i := 7) rfl))), (fun _ h => absurd h List.not_mem_nil)⟩⟩, (fun _ h => List.mem_cons_of_mem _ (List.mem_append_left _ (List.mem_append_right _ h)))⟩⟩⟩) (by decide +kernel)
set_option maxRecDepth 20000 in
theorem gm_X1_addChain_X6_holderOf_BP_143 : GoodIn wm_X1_addChain (wsV RX1 143 RX6 yX6_holderOf wm_X6_holderOf_BP) := goodIn_w (List.forall_mem_append.mpr ⟨List.forall_mem_cons.mpr ⟨List.mem_cons_of_mem _ (List.mem_append_left _ (List.mem_append_left _ (List.mem_of_getElem? (i := 9) rfl))), List.forall_mem_cons.mpr ⟨List.mem_cons_of_mem _ (List.mem_append_left _ (List.mem_append_left _ (List.mem_of_getElem? (i := 10) rfl))), List.forall_mem_cons.mpr ⟨List.mem_cons_of_mem _ (List.mem_append_left _ (List.mem_append_left _ (List.mem_of_getElem? (i := 11) rfl))), List.forall_mem_cons.mpr ⟨List.mem_cons_of_mem _ (List.mem_append_left _ (List.mem_append_left _ (List.mem_of_getElem? (i := 12) rfl))), (fun _ h => absurd h List.not_mem_nil)⟩⟩⟩⟩, List.forall_mem_cons.mpr ⟨List.mem_cons_of_mem _ (List.mem_append_left _ (List.mem_append_left _ (List.mem_of_getElem? (i := 13) rfl))), List.forall_mem_append.mpr ⟨List.forall_mem_cons.mpr ⟨List.mem_cons_of_mem _ (List.mem_append_left _ (List.mem_append_left _ (List.mem_of_getElem? (i := 14) rfl))), (fun _ h => absurd h List.not_mem_nil)⟩, (fun _ h => List.mem_cons_of_mem _ (List.mem_append_right _ h))⟩⟩⟩) (by decide +kernel)
set_option maxHeartbeats 4000000 in
set_option maxRecDepth 100000 in
theorem x_X1_addChain (l : Launch) (D : va_G) (sz : Nat) (sk : Value) (a : Nat → Nat) (t : Nat → ClassId) (i : Nat → Int32) (q : Int64) (c : Nat → Nat → Int32) (d : Nat → Nat → Int64) (w1 : Int32) (w2 : Int32) (hI : xInv i c) (hw2 : 0 ≤ w2.toInt ∧ w2.toInt ≤ 29) : Met l yX1_addChain wm_X1_addChain ({ frames := 1, cells := 0, slots := 0, locals := 22 }) (va_Pc [.ref (a 112), .int w1, .int w2] (yB (a 186) D sz (xwT sk a t i q c d) (xtT t))) (va_Qv (fun (u : MS) => True ∧ xInv u.1 u.2.2.1 ∧ (∀ k, k ∉ ([123] : List Nat) → u.1 k = i k) ∧ (∀ k, k ∉ ([122] : List Nat) → u.2.2.1 k = c k)) (oC D (va_A (xwT sk a t i q c d) sz) (fun u : MS => xwT sk a t u.1 u.2.1 u.2.2.1 u.2.2.2) (fun _ => [])) (va_A (xwT sk a t i q c d) sz)) 0 0 (va_A (xwT sk a t i q c d) sz) := by
  refine Met.ofW (cc := cX1_addChain) (maxL := 5) (ret := none) (by decide +kernel) rfl ?_
  intro p e s m args below meth cd s₁ B hml hv
  obtain ⟨rfl, ⟨hsz, hP, hK, hD0⟩, hN, hZ, hBW⟩ := hv
  have hx := B.exec
  have hb := B.bytes
  have hr := B.returns
  have hts := atoms_spec (ws := wm_X1_addChain) B.pre
  have hown : s.vm.findClass RX1 = some m.cls := findClass_of_methodNamed B.named
  have hlocks := B.notSynchronized
  subst hsz
  have hD := hD0.self (sz := s.heap.size)
  have hZ := xZ_A hZ hP hBW
  generalize hAe : va_A (xwT sk a t i q c d) s.heap.size = A at hD hZ ⊢
  have hA : ∀ q : Nat, s.heap.size ≤ q → A q := fun q h => by rw [← hAe]; exact Or.inr h
  have hS : va_S A s.heap s.heap [] := va_S.rf
  have hfi : ∀ k, k ∉ ([] : List Nat) → i k = i k := fun _ _ => rfl
  have hfc : ∀ k, k ∉ ([] : List Nat) → c k = c k := fun _ _ => rfl
  have hl := lv_entry ([.ref (a 112), .int w1, .int w2]) (n := 5) (Nat.le_of_ble_eq_true rfl)
  rw [lg_entry_eq]
  generalize (lg_sl ([.ref (a 112), .int w1, .int w2]) ++ List.replicate (5 - (lg_sl ([.ref (a 112), .int w1, .int w2])).length) Slot.unset).toArray = ls at hl ⊢
  have hl : lv_has ls 5 [(0, .ref (a 112)), (1, .int w1), (2, .int w2)] := hl
  refine lv_iload_n hx hb dX1_addChain_0 rfl (lv_at hl 2 rfl) ?_
  refine lv_istore_n (lv' := [(3, .int w2), (0, .ref (a 112)), (1, .int w1), (2, .int w2)]) hx hb dX1_addChain_1 rfl hl (by decide +kernel) rfl (fun ls hl => ?_)
  refine lv_iconst (v := 0) hx hb dX1_addChain_2 (by decide +kernel) ?_
  refine lv_istore (lv' := [(4, .int 0), (3, .int w2), (0, .ref (a 112)), (1, .int w1), (2, .int w2)]) hx hb dX1_addChain_3 hl (by decide +kernel) rfl (fun ls hl => ?_)
  have lp1 : ∀ (fu : Nat) (i1 : Nat → Int32) (q1 : Int64) (c1 : Nat → Nat → Int32) (d1 : Nat → Nat → Int64) (y1_4 : Int32) (y1_3 : Int32), xInv i1 c1 → (∀ k, k ∉ ([123] : List Nat) → i1 k = i k) → (∀ k, k ∉ ([122] : List Nat) → c1 k = c k) → (0 ≤ y1_4.toInt ∧ y1_4.toInt ≤ 30) → (y1_3.toInt = -9 ∨ (0 ≤ y1_3.toInt ∧ y1_3.toInt ≤ 29)) → (30 - y1_4.toInt).toNat < fu → ∀ (H : Heap) (locs : List Loc) (ls : Array Slot), va_P D vwCl (xwT sk a t i1 q1 c1 d1) H → va_D A (xwT sk a t i1 q1 c1 d1) → va_S A s.heap H locs → lv_has ls 5 [(4, .int y1_4), (3, .int y1_3), (0, .ref (a 112)), (1, .int w1), (2, .int w2)] → W p l e (headSpec wm_X1_addChain ({ frames := 1, cells := 0, slots := 0, locals := 22 })).room s m ([.ref (a 112), .int w1, .int w2] : List Value).toArray below meth cd H locs 0 0 (MQ below (va_Qv (fun (u : MS) => True ∧ xInv u.1 u.2.2.1 ∧ (∀ k, k ∉ ([123] : List Nat) → u.1 k = i k) ∧ (∀ k, k ∉ ([122] : List Nat) → u.2.2.1 k = c k)) (oC D A (fun u : MS => xwT sk a t u.1 u.2.1 u.2.2.1 u.2.2.2) (fun _ => [])) A) ([.ref (a 112), .int w1, .int w2] : List Value).toArray s 0 0 A) (F0 m 5 ls []) := by
    intro fu
    induction fu with
    | zero => intro i1 q1 c1 d1 y1_4 y1_3 hI hfi hfc hy1_4 hy1_3 hm; exact absurd hm (Nat.not_lt_zero _)
    | succ fu ih =>
      intro i1 q1 c1 d1 y1_4 y1_3 hI hfi hfc hy1_4 hy1_3 hm H locs ls hP hD hS hl
      have ih1 := ih
      refine lv_iload hx hb dX1_addChain_5 (lv_at hl 0 rfl) ?_
      refine lv_bipush (v := 30) hx hb dX1_addChain_7 (by decide +kernel) ?_
      refine lv_icmp_ge (tgt := 49) hx hb dX1_addChain_9 (by decide +kernel) (fun c2 => ?_) (fun c2 => ?_)
      · have f2 := (ti_le (a := 30) (b := y1_4.toInt) (by decide +kernel) rfl).mp c2
        exact rw_vret (i1, q1, c1, d1) hx hb hr hlocks hS (hK.sub (tys' := []) [] rfl) hP hD dX1_addChain_49 ⟨trivial, hI, fr_w hfi (by decide +kernel), fr_w hfc (by decide +kernel)⟩
      · have f2 := mt (ti_le (a := 30) (b := y1_4.toInt) (by decide +kernel) rfl).mpr c2
        refine lv_iload_n hx hb dX1_addChain_12 rfl (lv_at hl 1 rfl) ?_
        refine lv_iload_n hx hb dX1_addChain_13 rfl (lv_at hl 3 rfl) ?_
        refine lv_icmp_eq (tgt := 49) hx hb dX1_addChain_14 (by decide +kernel) (fun c3 => ?_) (fun c3 => ?_)
        · have f3 := (ti_eq (a := y1_3.toInt) (b := w1.toInt) rfl rfl).mp c3
          exact rw_vret (i1, q1, c1, d1) hx hb hr hlocks hS (hK.sub (tys' := []) [] rfl) hP hD dX1_addChain_49 ⟨trivial, hI, fr_w hfi (by decide +kernel), fr_w hfc (by decide +kernel)⟩
        · have f3 := mt (ti_eq (a := y1_3.toInt) (b := w1.toInt) rfl rfl).mpr c3
          refine lv_iload_n hx hb dX1_addChain_17 rfl (lv_at hl 1 rfl) ?_
          refine lv_bipush (v := (-9)) hx hb dX1_addChain_18 (by decide +kernel) ?_
          refine lv_icmp_eq (tgt := 49) hx hb dX1_addChain_20 (by decide +kernel) (fun c4 => ?_) (fun c4 => ?_)
          · have f4 := (ti_eq (a := y1_3.toInt) (b := (-9)) rfl (by decide +kernel)).mp c4
            exact rw_vret (i1, q1, c1, d1) hx hb hr hlocks hS (hK.sub (tys' := []) [] rfl) hP hD dX1_addChain_49 ⟨trivial, hI, fr_w hfi (by decide +kernel), fr_w hfc (by decide +kernel)⟩
          · have f4 := mt (ti_eq (a := y1_3.toInt) (b := (-9)) rfl (by decide +kernel)).mpr c4
            refine lv_aload_n hx hb dX1_addChain_23 rfl (lv_at hl 2 rfl) ?_
            refine lv_aload_n hx hb dX1_addChain_24 rfl (lv_at hl 2 rfl) ?_
            refine xgT_B_placeBy hx hb hts (fun _ h => List.mem_cons_of_mem _ (List.mem_append_left _ (List.mem_append_right _ h))) hown hK hP (hts (.fieldLink RX1 28 "TalePlay$Book" "placeBy" "[I") (List.mem_cons_of_mem _ (List.mem_append_left _ (List.mem_append_left _ (List.mem_of_getElem? (i := 0) rfl))))) dX1_addChain_25 ?_
            refine lv_iload_n hx hb dX1_addChain_28 rfl (lv_at hl 1 rfl) ?_
            refine xlT_118 hx hb hK hP (vp_in_iff.mpr (by have h9 : y1_3.toInt = y1_3.toInt := rfl; omega)) dX1_addChain_29 (fun x5 ex5 => ?_)
            have rx5 : x5.toInt = -9 ∨ (0 ≤ x5.toInt ∧ x5.toInt ≤ 199) := by rw [ex5]; exact hI.2 118 _
            refine al_calli (va_runV (As := [.int x5]) (rest := []) ⟨hx, hb, hml, hown, hts⟩ (x_X1_addClash l D H.size sk a t i1 q1 c1 d1 x5 hI (show x5.toInt = -9 ∨ (0 ≤ x5.toInt ∧ x5.toInt ≤ 199) from by omega)) (cwV 1 hts gm_X1_addChain_X1_addClash_121 rfl rfl rfl (by decide +kernel) ⟨Nat.le_of_ble_eq_true rfl, Nat.le_of_ble_eq_true rfl⟩) (yB_V hN (xZ_k hZ hS hA) (xZ_n hZ hD) hK hP hD (ci := 1) (q0 := 8) rfl rfl) rfl rfl hl.1 rfl (lv_room (Nat.le_of_ble_eq_true rfl)) dX1_addChain_30 ⟨Nat.le_of_ble_eq_true rfl, Nat.le_of_ble_eq_true rfl⟩) hS hA hP hD (fun r6 u6 H locs hw6 hP hD hS => ?_)
            obtain ⟨i6, q6, c6, d6⟩ := u6
            have hw6 : (0 ≤ r6.toInt ∧ r6.toInt ≤ 1) ∧ xInv i6 c6 ∧ (∀ k, k ∉ ([123] : List Nat) → i6 k = i1 k) ∧ (∀ k, k ∉ ([122] : List Nat) → c6 k = c1 k) := hw6
            obtain ⟨hw6, hI, hei6, hec6⟩ := hw6
            have hfi : ∀ k, k ∉ ([123] : List Nat) → i6 k = i k := fr_z hfi hei6 (by decide +kernel) (by decide +kernel)
            have hfc : ∀ k, k ∉ ([122] : List Nat) → c6 k = c k := fr_z hfc hec6 (by decide +kernel) (by decide +kernel)
            refine lv_pop hx hb dX1_addChain_33 rfl ?_
            refine lv_aload_n hx hb dX1_addChain_34 rfl (lv_at hl 2 rfl) ?_
            refine xgT_B_places hx hb hts (fun _ h => List.mem_cons_of_mem _ (List.mem_append_left _ (List.mem_append_right _ h))) hown hK hP (hts (.fieldLink RX1 52 "TalePlay$Book" "places" "LTalePlay$Scene;") (List.mem_cons_of_mem _ (List.mem_append_left _ (List.mem_append_left _ (List.mem_of_getElem? (i := 8) rfl))))) dX1_addChain_35 ?_
            refine lv_iload_n hx hb dX1_addChain_38 rfl (lv_at hl 1 rfl) ?_
            refine ro_calli (va_runV (As := [.int y1_3]) (rest := []) ⟨hx, hb, hml, hown, hts⟩ (x_X6_holderOf_BP l D H.size .null a t i6 q6 c6 d6 y1_3 hI (show 0 ≤ y1_3.toInt ∧ y1_3.toInt ≤ 29 from by omega)) (cwV 1 hts gm_X1_addChain_X6_holderOf_BP_143 rfl rfl rfl (by decide +kernel) ⟨Nat.le_of_ble_eq_true rfl, Nat.le_of_ble_eq_true rfl⟩) (yA_V hN (xZ_k hZ hS hA) (xkT_P0 hK) (xuT_P0 (sk := sk) hP) (ci := 6) (q0 := 0) rfl rfl) rfl rfl hl.1 rfl (lv_room (Nat.le_of_ble_eq_true rfl)) dX1_addChain_39 ⟨Nat.le_of_ble_eq_true rfl, Nat.le_of_ble_eq_true rfl⟩) hS hA hP (fun r7 u7 H locs hw7 hP hS => ?_)
            have hw7 : ((r7.toInt = -9 ∧ (c6 127 y1_3.toNatClampNeg).toInt % 256 = 255) ∨ (0 ≤ r7.toInt ∧ r7.toInt ≤ 29 ∧ ¬ (c6 127 y1_3.toNatClampNeg).toInt % 256 = 255 ∧ r7.toInt = (c6 127 y1_3.toNatClampNeg).toInt / 8 % 32)) := hw7
            refine lv_istore_n (lv' := [(3, .int r7), (4, .int y1_4), (0, .ref (a 112)), (1, .int w1), (2, .int w2)]) hx hb dX1_addChain_42 rfl hl (by decide +kernel) rfl (fun ls hl => ?_)
            obtain ⟨x8, ex8⟩ : ∃ y : Int32, y = y1_4 + 1 := ⟨_, rfl⟩
            have tx8 := ti_add (a := y1_4.toInt) (b := 1) ex8 rfl (by decide +kernel) (by omega) (by omega)
            refine lv_iinc (v := x8) (lv' := [(4, .int x8), (3, .int r7), (0, .ref (a 112)), (1, .int w1), (2, .int w2)]) hx hb dX1_addChain_43 hl (k := 1) rfl (by rw [ex8]; rfl) (by decide +kernel) rfl (fun ls hl => ?_)
            refine lv_goto (tgt := 5) hx hb dX1_addChain_46 (by decide +kernel) ?_
            exact ih1 i6 q6 c6 d6 x8 r7 hI (fr_w hfi (by decide +kernel)) (fr_w hfc (by decide +kernel)) (show 0 ≤ x8.toInt ∧ x8.toInt ≤ 30 from by have h50 : x8.toInt = (y1_4.toInt + 1) := tx8; omega) (show r7.toInt = -9 ∨ (0 ≤ r7.toInt ∧ r7.toInt ≤ 29) from by have h50 : x8.toInt = (y1_4.toInt + 1) := tx8; omega) (by have h50 : x8.toInt = (y1_4.toInt + 1) := tx8; omega) _ _ _ hP hD hS (lv_sub hl [0, 1, 2, 3, 4] rfl)
  exact lp1 _ i q c d (0 : Int32) w2 hI (fr_w hfi (by decide +kernel)) (fr_w hfc (by decide +kernel)) (show 0 ≤ (0 : Int32).toInt ∧ (0 : Int32).toInt ≤ 30 from by decide +kernel) (show w2.toInt = -9 ∨ (0 ≤ w2.toInt ∧ w2.toInt ≤ 29) from by have h50 : (0 : Int32).toInt = 0 := (by decide +kernel); omega) (Nat.lt_succ_self _) _ _ _ hP hD hS (lv_sub hl [0, 1, 2, 3, 4] rfl)

def wm_X4_lay : List Cond := .code yX4_lay cX4_lay 5 none :: (([.fieldLink RX4 9 "TalePlay$Lines" "sorts" "[I", .fieldLink RX4 15 "TalePlay$Lines" "lengths" "[I", .fieldLink RX4 18 "TalePlay$Lines" "items" "[J"] : List Cond) ++ wsX40)
set_option maxHeartbeats 4000000 in
set_option maxRecDepth 100000 in
theorem x_X4_lay (l : Launch) (D : va_G) (sz : Nat) (sk : Value) (a : Nat → Nat) (t : Nat → ClassId) (i : Nat → Int32) (q : Int64) (c : Nat → Nat → Int32) (d : Nat → Nat → Int64) (w : Int32) (s1 : Int32) (n1 : Int32) (hI : xInv i c) (hw : 0 ≤ w.toInt ∧ w.toInt ≤ 29) (hs1 : 0 ≤ s1.toInt ∧ s1.toInt ≤ 3) (hn1 : 0 ≤ n1.toInt ∧ n1.toInt ≤ 12) : Met l yX4_lay wm_X4_lay ({ frames := 0, cells := 0, slots := 0, locals := 0 }) (va_Pc [.ref (a 157), .int w, .int s1, .int n1] (yB (a 186) D sz (xwT sk a t i q c d) (xtT t))) (va_Qv (fun (u : MS) => True ∧ xInv u.1 u.2.2.1 ∧ (∀ k, k ∉ ([] : List Nat) → u.1 k = i k) ∧ (∀ k, k ∉ ([158, 159] : List Nat) → u.2.2.1 k = c k)) (oC D (va_A (xwT sk a t i q c d) sz) (fun u : MS => xwT sk a t u.1 u.2.1 u.2.2.1 u.2.2.2) (fun _ => [])) (va_A (xwT sk a t i q c d) sz)) 0 0 (va_A (xwT sk a t i q c d) sz) := by
  refine Met.ofW (cc := cX4_lay) (maxL := 5) (ret := none) (by decide +kernel) rfl ?_
  intro p e s m args below meth cd s₁ B hml hv
  obtain ⟨rfl, ⟨hsz, hP, hK, hD0⟩, hN, hZ, hBW⟩ := hv
  have hx := B.exec
  have hb := B.bytes
  have hr := B.returns
  have hts := atoms_spec (ws := wm_X4_lay) B.pre
  have hown : s.vm.findClass RX4 = some m.cls := findClass_of_methodNamed B.named
  have hlocks := B.notSynchronized
  subst hsz
  have hD := hD0.self (sz := s.heap.size)
  have hZ := xZ_A hZ hP hBW
  generalize hAe : va_A (xwT sk a t i q c d) s.heap.size = A at hD hZ ⊢
  have hA : ∀ q : Nat, s.heap.size ≤ q → A q := fun q h => by rw [← hAe]; exact Or.inr h
  have hS : va_S A s.heap s.heap [] := va_S.rf
  have hfi : ∀ k, k ∉ ([] : List Nat) → i k = i k := fun _ _ => rfl
  have hfc : ∀ k, k ∉ ([] : List Nat) → c k = c k := fun _ _ => rfl
  have hl := lv_entry ([.ref (a 157), .int w, .int s1, .int n1]) (n := 5) (Nat.le_of_ble_eq_true rfl)
  rw [lg_entry_eq]
  generalize (lg_sl ([.ref (a 157), .int w, .int s1, .int n1]) ++ List.replicate (5 - (lg_sl ([.ref (a 157), .int w, .int s1, .int n1])).length) Slot.unset).toArray = ls at hl ⊢
  have hl : lv_has ls 5 [(0, .ref (a 157)), (1, .int w), (2, .int s1), (3, .int n1)] := hl
  refine lv_aload_n hx hb dX4_lay_0 rfl (lv_at hl 0 rfl) ?_
  refine xgT_L_sorts hx hb hts (fun _ h => List.mem_cons_of_mem _ (List.mem_append_right _ h)) hown hK hP (hts (.fieldLink RX4 9 "TalePlay$Lines" "sorts" "[I") (List.mem_cons_of_mem _ (List.mem_append_left _ (List.mem_of_getElem? (i := 0) rfl)))) dX4_lay_1 ?_
  refine lv_iload_n hx hb dX4_lay_4 rfl (lv_at hl 1 rfl) ?_
  refine lv_iload_n hx hb dX4_lay_5 rfl (lv_at hl 2 rfl) ?_
  refine xsT_158 hx hb hK hP hD hS (vp_in_iff.mpr (by have h9 : w.toInt = w.toInt := rfl; omega)) dX4_lay_6 (fun H locs hP hD hS => ?_)
  have hI := xInv_c hI (k := 158) (j := (w : Int32).toNatClampNeg) (x := s1) (show (s1 : Int32).toInt = -9 ∨ (0 ≤ (s1 : Int32).toInt ∧ (s1 : Int32).toInt ≤ 3) from by omega)
  have hfc : ∀ k, k ∉ ([158] : List Nat) → (updA c 158 (w : Int32).toNatClampNeg s1) k = c k := fr_cz hfc (by decide +kernel) (by decide +kernel)
  refine lv_aload_n hx hb dX4_lay_7 rfl (lv_at hl 0 rfl) ?_
  refine xgT_L_lengths hx hb hts (fun _ h => List.mem_cons_of_mem _ (List.mem_append_right _ h)) hown hK hP (hts (.fieldLink RX4 15 "TalePlay$Lines" "lengths" "[I") (List.mem_cons_of_mem _ (List.mem_append_left _ (List.mem_of_getElem? (i := 1) rfl)))) dX4_lay_8 ?_
  refine lv_iload_n hx hb dX4_lay_11 rfl (lv_at hl 1 rfl) ?_
  refine lv_iload_n hx hb dX4_lay_12 rfl (lv_at hl 3 rfl) ?_
  refine xsT_159 hx hb hK hP hD hS (vp_in_iff.mpr (by have h9 : w.toInt = w.toInt := rfl; omega)) dX4_lay_13 (fun H locs hP hD hS => ?_)
  have hI := xInv_c hI (k := 159) (j := (w : Int32).toNatClampNeg) (x := n1) (show 0 ≤ (n1 : Int32).toInt ∧ (n1 : Int32).toInt ≤ 12 from by omega)
  have hfc : ∀ k, k ∉ ([158, 159] : List Nat) → (updA (updA c 158 (w : Int32).toNatClampNeg s1) 159 (w : Int32).toNatClampNeg n1) k = c k := fr_cz hfc (by decide +kernel) (by decide +kernel)
  refine lv_iconst (v := 0) hx hb dX4_lay_14 (by decide +kernel) ?_
  refine lv_istore (lv' := [(4, .int 0), (0, .ref (a 157)), (1, .int w), (2, .int s1), (3, .int n1)]) hx hb dX4_lay_15 hl (by decide +kernel) rfl (fun ls hl => ?_)
  have lp1 : ∀ (fu : Nat) (i1 : Nat → Int32) (q1 : Int64) (c1 : Nat → Nat → Int32) (d1 : Nat → Nat → Int64) (y1_4 : Int32), xInv i1 c1 → (∀ k, k ∉ ([] : List Nat) → i1 k = i k) → (∀ k, k ∉ ([158, 159] : List Nat) → c1 k = c k) → (0 ≤ y1_4.toInt ∧ y1_4.toInt ≤ 12) → (12 - y1_4.toInt).toNat < fu → ∀ (H : Heap) (locs : List Loc) (ls : Array Slot), va_P D vwCl (xwT sk a t i1 q1 c1 d1) H → va_D A (xwT sk a t i1 q1 c1 d1) → va_S A s.heap H locs → lv_has ls 5 [(4, .int y1_4), (0, .ref (a 157)), (1, .int w), (2, .int s1), (3, .int n1)] → W p l e (headSpec wm_X4_lay ({ frames := 0, cells := 0, slots := 0, locals := 0 })).room s m ([.ref (a 157), .int w, .int s1, .int n1] : List Value).toArray below meth cd H locs 0 0 (MQ below (va_Qv (fun (u : MS) => True ∧ xInv u.1 u.2.2.1 ∧ (∀ k, k ∉ ([] : List Nat) → u.1 k = i k) ∧ (∀ k, k ∉ ([158, 159] : List Nat) → u.2.2.1 k = c k)) (oC D A (fun u : MS => xwT sk a t u.1 u.2.1 u.2.2.1 u.2.2.2) (fun _ => [])) A) ([.ref (a 157), .int w, .int s1, .int n1] : List Value).toArray s 0 0 A) (F0 m 17 ls []) := by
    intro fu
    induction fu with
    | zero => intro i1 q1 c1 d1 y1_4 hI hfi hfc hy1_4 hm; exact absurd hm (Nat.not_lt_zero _)
    | succ fu ih =>
      intro i1 q1 c1 d1 y1_4 hI hfi hfc hy1_4 hm H locs ls hP hD hS hl
      have ih1 := ih
      refine lv_iload hx hb dX4_lay_17 (lv_at hl 0 rfl) ?_
      refine lv_bipush (v := 12) hx hb dX4_lay_19 (by decide +kernel) ?_
      refine lv_icmp_ge (tgt := 43) hx hb dX4_lay_21 (by decide +kernel) (fun c2 => ?_) (fun c2 => ?_)
      · have f2 := (ti_le (a := 12) (b := y1_4.toInt) (by decide +kernel) rfl).mp c2
        exact rw_vret (i1, q1, c1, d1) hx hb hr hlocks hS (hK.sub (tys' := []) [] rfl) hP hD dX4_lay_43 ⟨trivial, hI, fr_w hfi (by decide +kernel), fr_w hfc (by decide +kernel)⟩
      · have f2 := mt (ti_le (a := 12) (b := y1_4.toInt) (by decide +kernel) rfl).mpr c2
        refine lv_aload_n hx hb dX4_lay_24 rfl (lv_at hl 1 rfl) ?_
        refine xgT_L_items hx hb hts (fun _ h => List.mem_cons_of_mem _ (List.mem_append_right _ h)) hown hK hP (hts (.fieldLink RX4 18 "TalePlay$Lines" "items" "[J") (List.mem_cons_of_mem _ (List.mem_append_left _ (List.mem_of_getElem? (i := 2) rfl)))) dX4_lay_25 ?_
        refine lv_iload_n hx hb dX4_lay_28 rfl (lv_at hl 2 rfl) ?_
        refine lv_bipush (v := 12) hx hb dX4_lay_29 (by decide +kernel) ?_
        refine lv_imul hx hb dX4_lay_31 ?_
        refine lv_topi (fun x3 ex3 => ?_)
        have tx3 := ti_mul (a := w.toInt) (b := 12) ex3 rfl (by decide +kernel) (by omega) (by omega)
        refine lv_iload hx hb dX4_lay_32 (lv_at hl 0 rfl) ?_
        refine lv_iadd hx hb dX4_lay_34 ?_
        refine lv_topi (fun x4 ex4 => ?_)
        have tx4 := ti_add (a := (w.toInt * 12)) (b := y1_4.toInt) ex4 tx3 rfl (by omega) (by omega)
        refine lv_lconst (v := 0) hx hb dX4_lay_35 (by decide +kernel) ?_
        refine xsT_160 hx hb hK hP hD hS (vp_in_iff.mpr (by have h9 : x4.toInt = ((w.toInt * 12) + y1_4.toInt) := tx4; omega)) dX4_lay_36 (fun H locs hP hD hS => ?_)
        obtain ⟨x5, ex5⟩ : ∃ y : Int32, y = y1_4 + 1 := ⟨_, rfl⟩
        have tx5 := ti_add (a := y1_4.toInt) (b := 1) ex5 rfl (by decide +kernel) (by omega) (by omega)
        refine lv_iinc (v := x5) (lv' := [(4, .int x5), (0, .ref (a 157)), (1, .int w), (2, .int s1), (3, .int n1)]) hx hb dX4_lay_37 hl (k := 0) rfl (by rw [ex5]; rfl) (by decide +kernel) rfl (fun ls hl => ?_)
        refine lv_goto (tgt := 17) hx hb dX4_lay_40 (by decide +kernel) ?_
        exact ih1 i1 q1 c1 (updD d1 160 (x4 : Int32).toNatClampNeg 0) x5 hI (fr_w hfi (by decide +kernel)) (fr_w hfc (by decide +kernel)) (show 0 ≤ x5.toInt ∧ x5.toInt ≤ 12 from by have h50 : x5.toInt = (y1_4.toInt + 1) := tx5; omega) (by have h50 : x5.toInt = (y1_4.toInt + 1) := tx5; omega) _ _ _ hP hD hS (lv_sub hl [0, 1, 2, 3, 4] rfl)
  exact lp1 _ i q (updA (updA c 158 (w : Int32).toNatClampNeg s1) 159 (w : Int32).toNatClampNeg n1) d (0 : Int32) hI (fr_w hfi (by decide +kernel)) (fr_w hfc (by decide +kernel)) (show 0 ≤ (0 : Int32).toInt ∧ (0 : Int32).toInt ≤ 12 from by decide +kernel) (Nat.lt_succ_self _) _ _ _ hP hD hS (lv_sub hl [0, 1, 2, 3, 4] rfl)

def wm_X4_isOther : List Cond := .code yX4_isOther cX4_isOther 3 (some .boolean) :: (([.fieldLink RX4 9 "TalePlay$Lines" "sorts" "[I"] : List Cond) ++ wsX40)
set_option maxHeartbeats 4000000 in
set_option maxRecDepth 100000 in
theorem x_X4_isOther (l : Launch) (D : va_G) (sz : Nat) (sk : Value) (a : Nat → Nat) (t : Nat → ClassId) (i : Nat → Int32) (q : Int64) (c : Nat → Nat → Int32) (d : Nat → Nat → Int64) (w : Int32) (s1 : Int32) (hI : xInv i c) (hw : 0 ≤ w.toInt ∧ w.toInt ≤ 29) : Met l yX4_isOther wm_X4_isOther ({ frames := 0, cells := 0, slots := 0, locals := 0 }) (va_Pc [.ref (a 157), .int w, .int s1] (yA (a 186) D sz (xwT sk a t i q c d) (xtT t))) (va_Qi (fun (r : Int32) (_ : Unit) => (0 ≤ r.toInt ∧ r.toInt ≤ 1)) oA (ro sz)) 0 0 (ro sz) := by
  refine Met.ofW (cc := cX4_isOther) (maxL := 3) (ret := (some .boolean)) (by decide +kernel) rfl ?_
  intro p e s m args below meth cd s₁ B hml hv
  obtain ⟨rfl, ⟨hsz, hP, hK⟩, hN, hZ⟩ := hv
  have hx := B.exec
  have hb := B.bytes
  have hr := B.returns
  have hts := atoms_spec (ws := wm_X4_isOther) B.pre
  have hown : s.vm.findClass RX4 = some m.cls := findClass_of_methodNamed B.named
  have hlocks := B.notSynchronized
  subst hsz
  have hA : ∀ q : Nat, s.heap.size ≤ q → ro s.heap.size q := fun _ h => h
  have hS : va_S (ro s.heap.size) s.heap s.heap [] := va_S.rf
  have hl := lv_entry ([.ref (a 157), .int w, .int s1]) (n := 3) (Nat.le_of_ble_eq_true rfl)
  rw [lg_entry_eq]
  generalize (lg_sl ([.ref (a 157), .int w, .int s1]) ++ List.replicate (3 - (lg_sl ([.ref (a 157), .int w, .int s1])).length) Slot.unset).toArray = ls at hl ⊢
  have hl : lv_has ls 3 [(0, .ref (a 157)), (1, .int w), (2, .int s1)] := hl
  refine lv_aload_n hx hb dX4_isOther_0 rfl (lv_at hl 0 rfl) ?_
  refine xgT_L_sorts hx hb hts (fun _ h => List.mem_cons_of_mem _ (List.mem_append_right _ h)) hown hK hP (hts (.fieldLink RX4 9 "TalePlay$Lines" "sorts" "[I") (List.mem_cons_of_mem _ (List.mem_append_left _ (List.mem_of_getElem? (i := 0) rfl)))) dX4_isOther_1 ?_
  refine lv_iload_n hx hb dX4_isOther_4 rfl (lv_at hl 1 rfl) ?_
  refine xlT_158 hx hb hK hP (vp_in_iff.mpr (by have h9 : w.toInt = w.toInt := rfl; omega)) dX4_isOther_5 (fun x1 ex1 => ?_)
  have rx1 : x1.toInt = -9 ∨ (0 ≤ x1.toInt ∧ x1.toInt ≤ 3) := by rw [ex1]; exact hI.2 158 _
  refine lv_bipush (v := (-9)) hx hb dX4_isOther_6 (by decide +kernel) ?_
  refine lv_icmp_eq (tgt := 25) hx hb dX4_isOther_8 (by decide +kernel) (fun c2 => ?_) (fun c2 => ?_)
  · have f2 := (ti_eq (a := x1.toInt) (b := (-9)) rfl (by decide +kernel)).mp c2
    refine lv_iconst (v := 0) hx hb dX4_isOther_25 (by decide +kernel) ?_
    exact ro_zret hx hb hr hlocks hS rfl dX4_isOther_26 (show 0 ≤ (0 : Int32).toInt ∧ (0 : Int32).toInt ≤ 1 from by decide +kernel)
  · have f2 := mt (ti_eq (a := x1.toInt) (b := (-9)) rfl (by decide +kernel)).mpr c2
    refine lv_aload_n hx hb dX4_isOther_11 rfl (lv_at hl 0 rfl) ?_
    refine xgT_L_sorts hx hb hts (fun _ h => List.mem_cons_of_mem _ (List.mem_append_right _ h)) hown hK hP (hts (.fieldLink RX4 9 "TalePlay$Lines" "sorts" "[I") (List.mem_cons_of_mem _ (List.mem_append_left _ (List.mem_of_getElem? (i := 0) rfl)))) dX4_isOther_12 ?_
    refine lv_iload_n hx hb dX4_isOther_15 rfl (lv_at hl 1 rfl) ?_
    refine xlT_158 hx hb hK hP (vp_in_iff.mpr (by have h9 : w.toInt = w.toInt := rfl; omega)) dX4_isOther_16 (fun x3 ex3 => ?_)
    have rx3 : x3.toInt = -9 ∨ (0 ≤ x3.toInt ∧ x3.toInt ≤ 3) := by rw [ex3]; exact hI.2 158 _
    refine lv_iload_n hx hb dX4_isOther_17 rfl (lv_at hl 2 rfl) ?_
    refine lv_icmp_eq (tgt := 25) hx hb dX4_isOther_18 (by decide +kernel) (fun c4 => ?_) (fun c4 => ?_)
    · have f4 := (ti_eq (a := x3.toInt) (b := s1.toInt) rfl rfl).mp c4
      refine lv_iconst (v := 0) hx hb dX4_isOther_25 (by decide +kernel) ?_
      exact ro_zret hx hb hr hlocks hS rfl dX4_isOther_26 (show 0 ≤ (0 : Int32).toInt ∧ (0 : Int32).toInt ≤ 1 from by decide +kernel)
    · have f4 := mt (ti_eq (a := x3.toInt) (b := s1.toInt) rfl rfl).mpr c4
      refine lv_iconst (v := 1) hx hb dX4_isOther_21 (by decide +kernel) ?_
      refine lv_goto (tgt := 26) hx hb dX4_isOther_22 (by decide +kernel) ?_
      exact ro_zret hx hb hr hlocks hS rfl dX4_isOther_26 (show 0 ≤ (1 : Int32).toInt ∧ (1 : Int32).toInt ≤ 1 from by decide +kernel)

def wm_X4_hasRun : List Cond := .code yX4_hasRun cX4_hasRun 4 (some .boolean) :: (([.fieldLink RX4 15 "TalePlay$Lines" "lengths" "[I"] : List Cond) ++ wsX40)
set_option maxHeartbeats 4000000 in
set_option maxRecDepth 100000 in
theorem x_X4_hasRun (l : Launch) (D : va_G) (sz : Nat) (sk : Value) (a : Nat → Nat) (t : Nat → ClassId) (i : Nat → Int32) (q : Int64) (c : Nat → Nat → Int32) (d : Nat → Nat → Int64) (w : Int32) (f : Int32) (n1 : Int32) (hI : xInv i c) (hw : 0 ≤ w.toInt ∧ w.toInt ≤ 29) : Met l yX4_hasRun wm_X4_hasRun ({ frames := 0, cells := 0, slots := 0, locals := 0 }) (va_Pc [.ref (a 157), .int w, .int f, .int n1] (yA (a 186) D sz (xwT sk a t i q c d) (xtT t))) (va_Qi (fun (r : Int32) (_ : Unit) => ((0 ≤ r.toInt ∧ r.toInt ≤ 1) ∧ (Im (r.toInt = 1) (0 ≤ f.toInt ∧ 0 ≤ n1.toInt ∧ f.toInt + n1.toInt ≤ 12)))) oA (ro sz)) 0 0 (ro sz) := by
  refine Met.ofW (cc := cX4_hasRun) (maxL := 4) (ret := (some .boolean)) (by decide +kernel) rfl ?_
  intro p e s m args below meth cd s₁ B hml hv
  obtain ⟨rfl, ⟨hsz, hP, hK⟩, hN, hZ⟩ := hv
  have hx := B.exec
  have hb := B.bytes
  have hr := B.returns
  have hts := atoms_spec (ws := wm_X4_hasRun) B.pre
  have hown : s.vm.findClass RX4 = some m.cls := findClass_of_methodNamed B.named
  have hlocks := B.notSynchronized
  subst hsz
  have hA : ∀ q : Nat, s.heap.size ≤ q → ro s.heap.size q := fun _ h => h
  have hS : va_S (ro s.heap.size) s.heap s.heap [] := va_S.rf
  have hl := lv_entry ([.ref (a 157), .int w, .int f, .int n1]) (n := 4) (Nat.le_of_ble_eq_true rfl)
  rw [lg_entry_eq]
  generalize (lg_sl ([.ref (a 157), .int w, .int f, .int n1]) ++ List.replicate (4 - (lg_sl ([.ref (a 157), .int w, .int f, .int n1])).length) Slot.unset).toArray = ls at hl ⊢
  have hl : lv_has ls 4 [(0, .ref (a 157)), (1, .int w), (2, .int f), (3, .int n1)] := hl
  refine lv_iload_n hx hb dX4_hasRun_0 rfl (lv_at hl 2 rfl) ?_
  refine lv_if_lt (tgt := 34) hx hb dX4_hasRun_1 (by decide +kernel) (fun c1 => ?_) (fun c1 => ?_)
  · have f1 := (ti_lt (a := f.toInt) (b := 0) rfl (by decide +kernel)).mp c1
    refine lv_iconst (v := 0) hx hb dX4_hasRun_34 (by decide +kernel) ?_
    exact ro_zret hx hb hr hlocks hS rfl dX4_hasRun_35 ⟨(show 0 ≤ (0 : Int32).toInt ∧ (0 : Int32).toInt ≤ 1 from by decide +kernel), (show Im ((0 : Int32).toInt = 1) (0 ≤ f.toInt ∧ 0 ≤ n1.toInt ∧ f.toInt + n1.toInt ≤ 12) from fun h9 => absurd h9 (by decide +kernel))⟩
  · have f1 := mt (ti_lt (a := f.toInt) (b := 0) rfl (by decide +kernel)).mpr c1
    refine lv_iload_n hx hb dX4_hasRun_4 rfl (lv_at hl 3 rfl) ?_
    refine lv_if_lt (tgt := 34) hx hb dX4_hasRun_5 (by decide +kernel) (fun c2 => ?_) (fun c2 => ?_)
    · have f2 := (ti_lt (a := n1.toInt) (b := 0) rfl (by decide +kernel)).mp c2
      refine lv_iconst (v := 0) hx hb dX4_hasRun_34 (by decide +kernel) ?_
      exact ro_zret hx hb hr hlocks hS rfl dX4_hasRun_35 ⟨(show 0 ≤ (0 : Int32).toInt ∧ (0 : Int32).toInt ≤ 1 from by decide +kernel), (show Im ((0 : Int32).toInt = 1) (0 ≤ f.toInt ∧ 0 ≤ n1.toInt ∧ f.toInt + n1.toInt ≤ 12) from fun h9 => absurd h9 (by decide +kernel))⟩
    · have f2 := mt (ti_lt (a := n1.toInt) (b := 0) rfl (by decide +kernel)).mpr c2
      refine lv_iload_n hx hb dX4_hasRun_8 rfl (lv_at hl 2 rfl) ?_
      refine lv_aload_n hx hb dX4_hasRun_9 rfl (lv_at hl 0 rfl) ?_
      refine xgT_L_lengths hx hb hts (fun _ h => List.mem_cons_of_mem _ (List.mem_append_right _ h)) hown hK hP (hts (.fieldLink RX4 15 "TalePlay$Lines" "lengths" "[I") (List.mem_cons_of_mem _ (List.mem_append_left _ (List.mem_of_getElem? (i := 0) rfl)))) dX4_hasRun_10 ?_
      refine lv_iload_n hx hb dX4_hasRun_13 rfl (lv_at hl 1 rfl) ?_
      refine xlT_159 hx hb hK hP (vp_in_iff.mpr (by have h9 : w.toInt = w.toInt := rfl; omega)) dX4_hasRun_14 (fun x3 ex3 => ?_)
      have rx3 : 0 ≤ x3.toInt ∧ x3.toInt ≤ 12 := by rw [ex3]; exact hI.2 159 _
      refine lv_icmp_gt (tgt := 34) hx hb dX4_hasRun_15 (by decide +kernel) (fun c4 => ?_) (fun c4 => ?_)
      · have f4 := (ti_lt (a := x3.toInt) (b := f.toInt) rfl rfl).mp c4
        refine lv_iconst (v := 0) hx hb dX4_hasRun_34 (by decide +kernel) ?_
        exact ro_zret hx hb hr hlocks hS rfl dX4_hasRun_35 ⟨(show 0 ≤ (0 : Int32).toInt ∧ (0 : Int32).toInt ≤ 1 from by decide +kernel), (show Im ((0 : Int32).toInt = 1) (0 ≤ f.toInt ∧ 0 ≤ n1.toInt ∧ f.toInt + n1.toInt ≤ 12) from fun h9 => absurd h9 (by decide +kernel))⟩
      · have f4 := mt (ti_lt (a := x3.toInt) (b := f.toInt) rfl rfl).mpr c4
        refine lv_iload_n hx hb dX4_hasRun_18 rfl (lv_at hl 3 rfl) ?_
        refine lv_aload_n hx hb dX4_hasRun_19 rfl (lv_at hl 0 rfl) ?_
        refine xgT_L_lengths hx hb hts (fun _ h => List.mem_cons_of_mem _ (List.mem_append_right _ h)) hown hK hP (hts (.fieldLink RX4 15 "TalePlay$Lines" "lengths" "[I") (List.mem_cons_of_mem _ (List.mem_append_left _ (List.mem_of_getElem? (i := 0) rfl)))) dX4_hasRun_20 ?_
        refine lv_iload_n hx hb dX4_hasRun_23 rfl (lv_at hl 1 rfl) ?_
        refine xlT_159 hx hb hK hP (vp_in_iff.mpr (by have h9 : w.toInt = w.toInt := rfl; omega)) dX4_hasRun_24 (fun x5 ex5 => ?_)
        have rx5 : 0 ≤ x5.toInt ∧ x5.toInt ≤ 12 := by rw [ex5]; exact hI.2 159 _
        refine lv_iload_n hx hb dX4_hasRun_25 rfl (lv_at hl 2 rfl) ?_
        refine lv_isub hx hb dX4_hasRun_26 ?_
        refine lv_topi (fun x6 ex6 => ?_)
        have tx6 := ti_sub (a := x5.toInt) (b := f.toInt) ex6 rfl rfl (by omega) (by omega)
        refine lv_icmp_gt (tgt := 34) hx hb dX4_hasRun_27 (by decide +kernel) (fun c7 => ?_) (fun c7 => ?_)
        · have f7 := (ti_lt (a := (x5.toInt - f.toInt)) (b := n1.toInt) tx6 rfl).mp c7
          refine lv_iconst (v := 0) hx hb dX4_hasRun_34 (by decide +kernel) ?_
          exact ro_zret hx hb hr hlocks hS rfl dX4_hasRun_35 ⟨(show 0 ≤ (0 : Int32).toInt ∧ (0 : Int32).toInt ≤ 1 from by decide +kernel), (show Im ((0 : Int32).toInt = 1) (0 ≤ f.toInt ∧ 0 ≤ n1.toInt ∧ f.toInt + n1.toInt ≤ 12) from fun h9 => absurd h9 (by decide +kernel))⟩
        · have f7 := mt (ti_lt (a := (x5.toInt - f.toInt)) (b := n1.toInt) tx6 rfl).mpr c7
          refine lv_iconst (v := 1) hx hb dX4_hasRun_30 (by decide +kernel) ?_
          refine lv_goto (tgt := 35) hx hb dX4_hasRun_31 (by decide +kernel) ?_
          exact ro_zret hx hb hr hlocks hS rfl dX4_hasRun_35 ⟨(show 0 ≤ (1 : Int32).toInt ∧ (1 : Int32).toInt ≤ 1 from by decide +kernel), (show Im ((1 : Int32).toInt = 1) (0 ≤ f.toInt ∧ 0 ≤ n1.toInt ∧ f.toInt + n1.toInt ≤ 12) from fun _ => by omega)⟩

def wm_X4_cutTo : List Cond := .code yX4_cutTo cX4_cutTo 4 (some .long) :: (([.methodLink RX4 28 yX4_floatBits, .static yX4_floatBits, .initialized RX4, .code yX4_floatBits cX4_floatBits 1 (some .int), .constant RX4 32 (2147483647), .constant RX4 33 (2139095040), .constant RX4 34 (2143289344)] : List Cond))
set_option maxRecDepth 20000 in
theorem gm_X4_cutTo_X4_floatBits_28 : GoodIn wm_X4_cutTo (va_wsS RX4 28 yX4_floatBits wm_X4_floatBits) := goodIn_w (List.forall_mem_append.mpr ⟨List.forall_mem_cons.mpr ⟨List.mem_cons_of_mem _ (List.mem_of_getElem? (i := 0) rfl), List.forall_mem_cons.mpr ⟨List.mem_cons_of_mem _ (List.mem_of_getElem? (i := 1) rfl), List.forall_mem_cons.mpr ⟨List.mem_cons_of_mem _ (List.mem_of_getElem? (i := 2) rfl), (fun _ h => absurd h List.not_mem_nil)⟩⟩⟩, List.forall_mem_cons.mpr ⟨List.mem_cons_of_mem _ (List.mem_of_getElem? (i := 3) rfl), List.forall_mem_cons.mpr ⟨List.mem_cons_of_mem _ (List.mem_of_getElem? (i := 4) rfl), List.forall_mem_cons.mpr ⟨List.mem_cons_of_mem _ (List.mem_of_getElem? (i := 5) rfl), List.forall_mem_cons.mpr ⟨List.mem_cons_of_mem _ (List.mem_of_getElem? (i := 6) rfl), (fun _ h => absurd h List.not_mem_nil)⟩⟩⟩⟩⟩) (by decide +kernel)
set_option maxHeartbeats 4000000 in
set_option maxRecDepth 100000 in
theorem x_X4_cutTo (l : Launch) (D : va_G) (sz : Nat) (sk : Value) (a : Nat → Nat) (t : Nat → ClassId) (i : Nat → Int32) (q : Int64) (c : Nat → Nat → Int32) (d : Nat → Nat → Int64) (s1 : Int32) (v1 : Int64) (hI : xInv i c) : Met l yX4_cutTo wm_X4_cutTo ({ frames := 1, cells := 0, slots := 0, locals := 20 }) (va_Pc [.ref (a 157), .int s1, .long v1] (yA (a 186) D sz (xwT sk a t i q c d) (xtT t))) (va_Ql (fun (r : Int64) (_ : Unit) => True) oA (ro sz)) 0 0 (ro sz) := by
  refine Met.ofW (cc := cX4_cutTo) (maxL := 4) (ret := (some .long)) (by decide +kernel) rfl ?_
  intro p e s m args below meth cd s₁ B hml hv
  obtain ⟨rfl, ⟨hsz, hP, hK⟩, hN, hZ⟩ := hv
  have hx := B.exec
  have hb := B.bytes
  have hr := B.returns
  have hts := atoms_spec (ws := wm_X4_cutTo) B.pre
  have hown : s.vm.findClass RX4 = some m.cls := findClass_of_methodNamed B.named
  have hlocks := B.notSynchronized
  subst hsz
  have hA : ∀ q : Nat, s.heap.size ≤ q → ro s.heap.size q := fun _ h => h
  have hS : va_S (ro s.heap.size) s.heap s.heap [] := va_S.rf
  have hl := lv_entry ([.ref (a 157), .int s1, .long v1]) (n := 4) (Nat.le_of_ble_eq_true rfl)
  rw [lg_entry_eq]
  generalize (lg_sl ([.ref (a 157), .int s1, .long v1]) ++ List.replicate (4 - (lg_sl ([.ref (a 157), .int s1, .long v1])).length) Slot.unset).toArray = ls at hl ⊢
  have hl : lv_has ls 4 [(0, .ref (a 157)), (1, .int s1), (2, .long v1)] := hl
  refine lv_iload_n hx hb dX4_cutTo_0 rfl (lv_at hl 1 rfl) ?_
  rcases (show (s1.toInt < 0 ∨ 2 < s1.toInt) ∨ s1.toInt = 0 ∨ s1.toInt = 1 ∨ s1.toInt = 2 by omega) with f1 | f1 | f1 | f1
  · refine lv_tableOut (tgt := 50) hx hb dX4_cutTo_1 f1 (by decide +kernel) ?_
    refine lv_lload_n hx hb dX4_cutTo_50 rfl (lv_at hl 2 rfl) ?_
    exact ro_lret hx hb hr hlocks hS dX4_cutTo_51 trivial
  · refine lv_tableIn (off := 27) (tgt := 28) hx hb dX4_cutTo_1 (by omega) (by omega) (by rw [f1]; rfl) (by decide +kernel) ?_
    refine lv_lload_n hx hb dX4_cutTo_28 rfl (lv_at hl 2 rfl) ?_
    refine lv_l2i (v := v1.toInt32) hx hb dX4_cutTo_29 rfl ?_
    refine lv_topi (fun x2 ex2 => ?_)
    refine lv_i2b (v := x2.toInt8.toInt32) hx hb dX4_cutTo_30 rfl ?_
    refine lv_topi (fun x3 ex3 => ?_)
    refine lv_i2l (v := x3.toInt64) hx hb dX4_cutTo_31 rfl ?_
    refine lv_goto (tgt := 51) hx hb dX4_cutTo_32 (by decide +kernel) ?_
    exact ro_lret hx hb hr hlocks hS dX4_cutTo_51 trivial
  · refine lv_tableIn (off := 34) (tgt := 35) hx hb dX4_cutTo_1 (by omega) (by omega) (by rw [f1]; rfl) (by decide +kernel) ?_
    refine lv_lload_n hx hb dX4_cutTo_35 rfl (lv_at hl 2 rfl) ?_
    refine lv_l2i (v := v1.toInt32) hx hb dX4_cutTo_36 rfl ?_
    refine lv_topi (fun x4 ex4 => ?_)
    refine lv_i2l (v := x4.toInt64) hx hb dX4_cutTo_37 rfl ?_
    refine lv_goto (tgt := 51) hx hb dX4_cutTo_38 (by decide +kernel) ?_
    exact ro_lret hx hb hr hlocks hS dX4_cutTo_51 trivial
  · refine lv_tableIn (off := 40) (tgt := 41) hx hb dX4_cutTo_1 (by omega) (by omega) (by rw [f1]; rfl) (by decide +kernel) ?_
    refine lv_lload_n hx hb dX4_cutTo_41 rfl (lv_at hl 2 rfl) ?_
    refine lv_l2i (v := v1.toInt32) hx hb dX4_cutTo_42 rfl ?_
    refine lv_topi (fun x5 ex5 => ?_)
    have hPc := hP.sub (ws' := []) [] rfl
    have hKc := hK.sub (tys' := []) [] rfl
    refine ro_calli (va_runS (As := [.int x5]) (rest := []) ⟨hx, hb, hml, hown, hts⟩ (c_X4_floatBits l D s.heap.size x5) (va_cwS 1 hts gm_X4_cutTo_X4_floatBits_28 rfl rfl rfl (by decide +kernel) ⟨Nat.le_of_ble_eq_true rfl, Nat.le_of_ble_eq_true rfl⟩) (pA_S hKc hPc) rfl rfl hl.1 rfl (lv_room (Nat.le_of_ble_eq_true rfl)) dX4_cutTo_43 ⟨Nat.le_of_ble_eq_true rfl, Nat.le_of_ble_eq_true rfl⟩) hS hA hP (fun r7 u7 H locs hw7 hP hS => ?_)
    refine lv_i2l (v := r7.toInt64) hx hb dX4_cutTo_46 rfl ?_
    refine lv_goto (tgt := 51) hx hb dX4_cutTo_47 (by decide +kernel) ?_
    exact ro_lret hx hb hr hlocks hS dX4_cutTo_51 trivial

