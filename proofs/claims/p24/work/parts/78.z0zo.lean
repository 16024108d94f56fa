set_option maxHeartbeats 4000000 in
set_option maxRecDepth 100000 in
theorem c_X11_deedPart_e (l : Launch) (D : va_G) (sz : Nat) (v : Int32) (w : Int32) (a : Int) (ha : v.toInt = a) (g0 : 0 ≤ a) : Met l yX11_deedPart wm_X11_deedPart ({ frames := 0, cells := 0, slots := 0, locals := 0 }) (va_Pc [.int v, .int w] (pA D sz [] [])) (va_Qi (fun (r : Int32) (_ : Unit) => r.toInt = dpV w.toInt a) oA (ro sz)) 0 0 (ro sz) := by
  refine Met.ofW (cc := cX11_deedPart) (maxL := 2) (ret := (some .int)) (by decide +kernel) rfl ?_
  intro p e s m args below meth c s₁ B hml hv
  obtain ⟨rfl, hsz, hP, hK⟩ := hv
  have hx := B.exec
  have hb := B.bytes
  have hr := B.returns
  have hts := atoms_spec (ws := wm_X11_deedPart) B.pre
  have hown : s.vm.findClass RX11 = some m.cls := findClass_of_methodNamed B.named
  have hlocks := B.notSynchronized
  subst hsz
  have hA : ∀ q : Nat, s.heap.size ≤ q → ro s.heap.size q := fun _ h => h
  have hS : va_S (ro s.heap.size) s.heap s.heap [] := va_S.rf
  have hP : va_P D vwCl [] s.heap := hP
  have hl := lv_entry ([.int v, .int w]) (n := 2) (Nat.le_of_ble_eq_true rfl)
  rw [lg_entry_eq]
  generalize (lg_sl ([.int v, .int w]) ++ List.replicate (2 - (lg_sl ([.int v, .int w])).length) Slot.unset).toArray = ls at hl ⊢
  have hl : lv_has ls 2 [(0, .int v), (1, .int w)] := hl
  refine lv_iload_n hx hb dX11_deedPart_0 rfl (lv_at hl 1 rfl) ?_
  rcases (show (w.toInt ≠ 0 ∧ w.toInt ≠ 1) ∨ w.toInt = 0 ∨ w.toInt = 1 by omega) with f1 | f1 | f1
  · refine lv_lookup (off := 43) (tgt := 44) hx hb dX11_deedPart_1 (by decide +kernel) (by show (if (0 : Int) = w.toInt then (27 : Int) else (if (1 : Int) = w.toInt then (34 : Int) else 43)) = 43; rw [if_neg (fun e9 => f1.1 e9.symm), if_neg (fun e9 => f1.2 e9.symm)]) (by decide +kernel) ?_
    refine lv_iload_n hx hb dX11_deedPart_44 rfl (lv_at hl 0 rfl) ?_
    refine lv_bipush (v := 31) hx hb dX11_deedPart_45 (by decide +kernel) ?_
    refine lv_iand hx hb dX11_deedPart_47 ?_
    refine lv_topi (fun x2 ex2 => ?_)
    exact ro_iret hx hb hr hlocks hS dX11_deedPart_48 (by unfold dpV; rw [if_neg (by omega), if_neg (by omega), ← ha]; exact and31 (by omega) ex2)
  · refine lv_lookup (off := 27) (tgt := 28) hx hb dX11_deedPart_1 (by decide +kernel) (by rw [f1]; rfl) (by decide +kernel) ?_
    refine lv_iload_n hx hb dX11_deedPart_28 rfl (lv_at hl 0 rfl) ?_
    refine lv_bipush (v := 10) hx hb dX11_deedPart_29 (by decide +kernel) ?_
    refine lv_ishr hx hb dX11_deedPart_31 ?_
    refine lv_topi (fun x3 ex3 => ?_)
    refine lv_goto (tgt := 48) hx hb dX11_deedPart_32 (by decide +kernel) ?_
    exact ro_iret hx hb hr hlocks hS dX11_deedPart_48 (by unfold dpV; rw [if_pos (by omega), ← ha]; exact shrN (k := 10) (by omega) (by omega) (by decide +kernel) ex3)
  · refine lv_lookup (off := 34) (tgt := 35) hx hb dX11_deedPart_1 (by decide +kernel) (by rw [f1]; rfl) (by decide +kernel) ?_
    refine lv_iload_n hx hb dX11_deedPart_35 rfl (lv_at hl 0 rfl) ?_
    refine lv_iconst (v := 5) hx hb dX11_deedPart_36 (by decide +kernel) ?_
    refine lv_ishr hx hb dX11_deedPart_37 ?_
    refine lv_topi (fun x4 ex4 => ?_)
    refine lv_bipush (v := 31) hx hb dX11_deedPart_38 (by decide +kernel) ?_
    refine lv_iand hx hb dX11_deedPart_40 ?_
    refine lv_topi (fun x5 ex5 => ?_)
    refine lv_goto (tgt := 48) hx hb dX11_deedPart_41 (by decide +kernel) ?_
    exact ro_iret hx hb hr hlocks hS dX11_deedPart_48 (by unfold dpV; rw [if_neg (by omega), if_pos (by omega), ← ha]; have h9 : x4.toInt = v.toInt / 32 := shrN (k := 5) (by omega) (by omega) (by decide +kernel) ex4; rw [← h9]; exact and31 (by omega) ex5)

def wm_X11_turn_eLX : List Cond := .code yX11_turn cX11_turn 3 (some .int) :: (([.methodLink RX11 91 yX11_isBelow, .static yX11_isBelow, .initialized RX11, .code yX11_isBelow cX11_isBelow 2 (some .boolean), .fieldLink RX11 46 "TalePlay" "tale" "LTalePlay$Tale;", .fieldLink RX11 257 "TalePlay$Tale" "there" "Z", .fieldLink RX11 254 "TalePlay$Tale" "turns" "I", .fieldLink RX11 268 "TalePlay$Tale" "deeds" "[I", .methodLink RX11 271 yX11_deedPart, .static yX11_deedPart, .code yX11_deedPart cX11_deedPart 2 (some .int)] : List Cond) ++ wsX110 ++ wsX90)
set_option maxRecDepth 20000 in
theorem gm_X11_turn_eLX_X11_isBelow_91 : GoodIn wm_X11_turn_eLX (va_wsS RX11 91 yX11_isBelow wm_X11_isBelow) := goodIn_w (List.forall_mem_append.mpr ⟨List.forall_mem_cons.mpr ⟨List.mem_cons_of_mem _ (List.mem_append_left _ (List.mem_append_left _ (List.mem_of_getElem? (i := 0) rfl))), List.forall_mem_cons.mpr ⟨List.mem_cons_of_mem _ (List.mem_append_left _ (List.mem_append_left _ (List.mem_of_getElem? (i := 1) rfl))), List.forall_mem_cons.mpr ⟨List.mem_cons_of_mem _ (List.mem_append_left _ (List.mem_append_left _ (List.mem_of_getElem? (i := 2) rfl))), (fun _ h => absurd h List.not_mem_nil)⟩⟩⟩, List.forall_mem_cons.mpr ⟨List.mem_cons_of_mem _ (List.mem_append_left _ (List.mem_append_left _ (List.mem_of_getElem? (i := 3) rfl))), (fun _ h => absurd h List.not_mem_nil)⟩⟩) (by decide +kernel)
set_option maxRecDepth 20000 in
theorem gm_X11_turn_eLX_X11_deedPart_271 : GoodIn wm_X11_turn_eLX (va_wsS RX11 271 yX11_deedPart wm_X11_deedPart) := goodIn_w (List.forall_mem_append.mpr ⟨List.forall_mem_cons.mpr ⟨List.mem_cons_of_mem _ (List.mem_append_left _ (List.mem_append_left _ (List.mem_of_getElem? (i := 8) rfl))), List.forall_mem_cons.mpr ⟨List.mem_cons_of_mem _ (List.mem_append_left _ (List.mem_append_left _ (List.mem_of_getElem? (i := 9) rfl))), List.forall_mem_cons.mpr ⟨List.mem_cons_of_mem _ (List.mem_append_left _ (List.mem_append_left _ (List.mem_of_getElem? (i := 2) rfl))), (fun _ h => absurd h List.not_mem_nil)⟩⟩⟩, List.forall_mem_cons.mpr ⟨List.mem_cons_of_mem _ (List.mem_append_left _ (List.mem_append_left _ (List.mem_of_getElem? (i := 10) rfl))), (fun _ h => absurd h List.not_mem_nil)⟩⟩) (by decide +kernel)
set_option maxHeartbeats 4000000 in
set_option maxRecDepth 100000 in
theorem x_X11_turn_eLX (l : Launch) (D : va_G) (sz : Nat) (sk : Value) (a : Nat → Nat) (t : Nat → ClassId) (i : Nat → Int32) (q : Int64) (c : Nat → Nat → Int32) (d : Nat → Nat → Int64) (w : Int32) (w1 : Int32) (hI : xInv i c) (hdd : ∀ j : Nat, (j : Int) < (i 148).toInt → 0 ≤ (c 143 j).toInt) : Met l yX11_turn wm_X11_turn_eLX ({ frames := 1, cells := 0, slots := 0, locals := 21 }) (va_Pc [.ref (a 100), .int w, .int w1] (yA (a 186) D sz (xwT sk a t i q c d) (xtT t))) (va_Qi (fun (r : Int32) (_ : Unit) => (True ∧ ((¬ (0 ≤ w1.toInt ∧ w1.toInt ≤ 2 ∧ 0 ≤ w.toInt) ∧ r.toInt = -1) ∨ ((0 ≤ w1.toInt ∧ w1.toInt ≤ 2 ∧ 0 ≤ w.toInt) ∧ ¬ (i 146).toInt = 1 ∧ r.toInt = -5) ∨ ((0 ≤ w1.toInt ∧ w1.toInt ≤ 2 ∧ 0 ≤ w.toInt) ∧ (i 146).toInt = 1 ∧ (i 148).toInt ≤ w.toInt ∧ r.toInt = -1) ∨ ((0 ≤ w1.toInt ∧ w1.toInt ≤ 2 ∧ 0 ≤ w.toInt) ∧ (i 146).toInt = 1 ∧ w.toInt < (i 148).toInt ∧ r.toInt = dpV w1.toInt (c 143 w.toInt.toNat).toInt)))) oA (ro sz)) 0 0 (ro sz) := by
  refine Met.ofW (cc := cX11_turn) (maxL := 3) (ret := (some .int)) (by decide +kernel) rfl ?_
  intro p e s m args below meth cd s₁ B hml hv
  obtain ⟨rfl, ⟨hsz, hP, hK⟩, hN, hZ⟩ := hv
  have hx := B.exec
  have hb := B.bytes
  have hr := B.returns
  have hts := atoms_spec (ws := wm_X11_turn_eLX) B.pre
  have hown : s.vm.findClass RX11 = some m.cls := findClass_of_methodNamed B.named
  have hlocks := B.notSynchronized
  subst hsz
  have hA : ∀ q : Nat, s.heap.size ≤ q → ro s.heap.size q := fun _ h => h
  have hS : va_S (ro s.heap.size) s.heap s.heap [] := va_S.rf
  have hl := lv_entry ([.ref (a 100), .int w, .int w1]) (n := 3) (Nat.le_of_ble_eq_true rfl)
  rw [lg_entry_eq]
  generalize (lg_sl ([.ref (a 100), .int w, .int w1]) ++ List.replicate (3 - (lg_sl ([.ref (a 100), .int w, .int w1])).length) Slot.unset).toArray = ls at hl ⊢
  have hl : lv_has ls 3 [(0, .ref (a 100)), (1, .int w), (2, .int w1)] := hl
  have rb146_i : 0 ≤ (i 146).toInt ∧ (i 146).toInt ≤ 1 := hI.1 146
  have rb148_i : 0 ≤ (i 148).toInt ∧ (i 148).toInt ≤ 100 := hI.1 148
  refine lv_iload_n hx hb dX11_turn_0 rfl (lv_at hl 2 rfl) ?_
  refine lv_iconst (v := 3) hx hb dX11_turn_1 (by decide +kernel) ?_
  have hPc := hP.sub (ws' := []) [] rfl
  have hKc := hK.sub (tys' := []) [] rfl
  refine ro_calli (va_runS (As := [.int w1, .int 3]) (rest := []) ⟨hx, hb, hml, hown, hts⟩ (c_X11_isBelow l D s.heap.size w1 3 w1.toInt 3 rfl (by decide +kernel)) (va_cwS 2 hts gm_X11_turn_eLX_X11_isBelow_91 rfl rfl rfl (by decide +kernel) ⟨Nat.le_of_ble_eq_true rfl, Nat.le_of_ble_eq_true rfl⟩) (pA_S hKc hPc) rfl rfl hl.1 rfl (lv_room (Nat.le_of_ble_eq_true rfl)) dX11_turn_2 ⟨Nat.le_of_ble_eq_true rfl, Nat.le_of_ble_eq_true rfl⟩) hS hA hP (fun r2 u2 H locs hw2 hP hS => ?_)
  have hw2 : r2 = if (0 ≤ w1.toInt ∧ w1.toInt < 3) then 1 else 0 := hw2
  refine lv_if_eq (tgt := 12) hx hb dX11_turn_5 (by decide +kernel) (fun c3 => ?_) (fun c3 => ?_)
  · have f3 := fl_f hw2 c3
    refine lv_iconst (v := (-1)) hx hb dX11_turn_12 (by decide +kernel) ?_
    exact ro_iret hx hb hr hlocks hS dX11_turn_13 ⟨trivial, (show (¬ (0 ≤ w1.toInt ∧ w1.toInt ≤ 2 ∧ 0 ≤ w.toInt) ∧ ((-1) : Int32).toInt = -1) ∨ ((0 ≤ w1.toInt ∧ w1.toInt ≤ 2 ∧ 0 ≤ w.toInt) ∧ ¬ (i 146).toInt = 1 ∧ ((-1) : Int32).toInt = -5) ∨ ((0 ≤ w1.toInt ∧ w1.toInt ≤ 2 ∧ 0 ≤ w.toInt) ∧ (i 146).toInt = 1 ∧ (i 148).toInt ≤ w.toInt ∧ ((-1) : Int32).toInt = -1) ∨ ((0 ≤ w1.toInt ∧ w1.toInt ≤ 2 ∧ 0 ≤ w.toInt) ∧ (i 146).toInt = 1 ∧ w.toInt < (i 148).toInt ∧ ((-1) : Int32).toInt = dpV w1.toInt (c 143 w.toInt.toNat).toInt) from Or.inl ⟨by omega, by decide⟩)⟩
  · have f3 := fl_t hw2 c3
    refine lv_iload_n hx hb dX11_turn_8 rfl (lv_at hl 1 rfl) ?_
    refine lv_if_ge (tgt := 14) hx hb dX11_turn_9 (by decide +kernel) (fun c4 => ?_) (fun c4 => ?_)
    · have f4 := (ti_le (a := 0) (b := w.toInt) (by decide +kernel) rfl).mp c4
      refine lv_aload_n hx hb dX11_turn_14 rfl (lv_at hl 0 rfl) ?_
      refine xgT_X_tale hx hb hts (fun _ h => List.mem_cons_of_mem _ (List.mem_append_left _ (List.mem_append_right _ h))) hown hK hP (hts (.fieldLink RX11 46 "TalePlay" "tale" "LTalePlay$Tale;") (List.mem_cons_of_mem _ (List.mem_append_left _ (List.mem_append_left _ (List.mem_of_getElem? (i := 4) rfl))))) dX11_turn_15 ?_
      refine xgT_T_there (v := (i 146)) rfl hx hb hts (fun _ h => List.mem_cons_of_mem _ (List.mem_append_right _ h)) hown hK hP (hts (.fieldLink RX11 257 "TalePlay$Tale" "there" "Z") (List.mem_cons_of_mem _ (List.mem_append_left _ (List.mem_append_left _ (List.mem_of_getElem? (i := 5) rfl))))) dX11_turn_18 ?_
      refine lv_if_ne (tgt := 27) hx hb dX11_turn_21 (by decide +kernel) (fun c5 => ?_) (fun c5 => ?_)
      · have f5 := mt (ti_eq (a := (i 146).toInt) (b := 0) rfl (by decide +kernel)).mpr c5
        refine lv_iload_n hx hb dX11_turn_27 rfl (lv_at hl 1 rfl) ?_
        refine lv_aload_n hx hb dX11_turn_28 rfl (lv_at hl 0 rfl) ?_
        refine xgT_X_tale hx hb hts (fun _ h => List.mem_cons_of_mem _ (List.mem_append_left _ (List.mem_append_right _ h))) hown hK hP (hts (.fieldLink RX11 46 "TalePlay" "tale" "LTalePlay$Tale;") (List.mem_cons_of_mem _ (List.mem_append_left _ (List.mem_append_left _ (List.mem_of_getElem? (i := 4) rfl))))) dX11_turn_29 ?_
        refine xgT_T_turns (v := (i 148)) rfl hx hb hts (fun _ h => List.mem_cons_of_mem _ (List.mem_append_right _ h)) hown hK hP (hts (.fieldLink RX11 254 "TalePlay$Tale" "turns" "I") (List.mem_cons_of_mem _ (List.mem_append_left _ (List.mem_append_left _ (List.mem_of_getElem? (i := 6) rfl))))) dX11_turn_32 ?_
        refine lv_icmp_lt (tgt := 40) hx hb dX11_turn_35 (by decide +kernel) (fun c6 => ?_) (fun c6 => ?_)
        · have f6 := (ti_lt (a := w.toInt) (b := (i 148).toInt) rfl rfl).mp c6
          refine lv_aload_n hx hb dX11_turn_40 rfl (lv_at hl 0 rfl) ?_
          refine xgT_X_tale hx hb hts (fun _ h => List.mem_cons_of_mem _ (List.mem_append_left _ (List.mem_append_right _ h))) hown hK hP (hts (.fieldLink RX11 46 "TalePlay" "tale" "LTalePlay$Tale;") (List.mem_cons_of_mem _ (List.mem_append_left _ (List.mem_append_left _ (List.mem_of_getElem? (i := 4) rfl))))) dX11_turn_41 ?_
          refine xgT_T_deeds hx hb hts (fun _ h => List.mem_cons_of_mem _ (List.mem_append_right _ h)) hown hK hP (hts (.fieldLink RX11 268 "TalePlay$Tale" "deeds" "[I") (List.mem_cons_of_mem _ (List.mem_append_left _ (List.mem_append_left _ (List.mem_of_getElem? (i := 7) rfl))))) dX11_turn_44 ?_
          refine lv_iload_n hx hb dX11_turn_47 rfl (lv_at hl 1 rfl) ?_
          refine xlT_143 hx hb hK hP (vp_in_iff.mpr (by have h9 : w.toInt = w.toInt := rfl; omega)) dX11_turn_48 (fun x7 ex7 => ?_)
          have gx7 : (c 143 (w : Int32).toNatClampNeg).toInt = x7.toInt := (congrArg Int32.toInt ex7).symm
          have hd0 : 0 ≤ x7.toInt := by rw [ex7]; exact hdd _ (by rw [cl_nn (by omega)]; omega)
          refine lv_iload_n hx hb dX11_turn_49 rfl (lv_at hl 2 rfl) ?_
          have hPc := hP.sub (ws' := []) [] rfl
          have hKc := hK.sub (tys' := []) [] rfl
          refine ro_calli (va_runS (As := [.int x7, .int w1]) (rest := []) ⟨hx, hb, hml, hown, hts⟩ (c_X11_deedPart_e l D H.size x7 w1 x7.toInt rfl (by omega)) (va_cwS 2 hts gm_X11_turn_eLX_X11_deedPart_271 rfl rfl rfl (by decide +kernel) ⟨Nat.le_of_ble_eq_true rfl, Nat.le_of_ble_eq_true rfl⟩) (pA_S hKc hPc) rfl rfl hl.1 rfl (lv_room (Nat.le_of_ble_eq_true rfl)) dX11_turn_50 ⟨Nat.le_of_ble_eq_true rfl, Nat.le_of_ble_eq_true rfl⟩) hS hA hP (fun r9 u9 H locs hw9 hP hS => ?_)
          have hw9 : r9.toInt = dpV w1.toInt x7.toInt := hw9
          exact ro_iret hx hb hr hlocks hS dX11_turn_53 ⟨trivial, (show (¬ (0 ≤ w1.toInt ∧ w1.toInt ≤ 2 ∧ 0 ≤ w.toInt) ∧ r9.toInt = -1) ∨ ((0 ≤ w1.toInt ∧ w1.toInt ≤ 2 ∧ 0 ≤ w.toInt) ∧ ¬ (i 146).toInt = 1 ∧ r9.toInt = -5) ∨ ((0 ≤ w1.toInt ∧ w1.toInt ≤ 2 ∧ 0 ≤ w.toInt) ∧ (i 146).toInt = 1 ∧ (i 148).toInt ≤ w.toInt ∧ r9.toInt = -1) ∨ ((0 ≤ w1.toInt ∧ w1.toInt ≤ 2 ∧ 0 ≤ w.toInt) ∧ (i 146).toInt = 1 ∧ w.toInt < (i 148).toInt ∧ r9.toInt = dpV w1.toInt (c 143 w.toInt.toNat).toInt) from Or.inr (Or.inr (Or.inr ⟨by omega, by omega, by omega, by rw [show (c 143 w.toInt.toNat).toInt = x7.toInt from gx7]; exact hw9⟩)))⟩
        · have f6 := mt (ti_lt (a := w.toInt) (b := (i 148).toInt) rfl rfl).mpr c6
          refine lv_iconst (v := (-1)) hx hb dX11_turn_38 (by decide +kernel) ?_
          exact ro_iret hx hb hr hlocks hS dX11_turn_39 ⟨trivial, (show (¬ (0 ≤ w1.toInt ∧ w1.toInt ≤ 2 ∧ 0 ≤ w.toInt) ∧ ((-1) : Int32).toInt = -1) ∨ ((0 ≤ w1.toInt ∧ w1.toInt ≤ 2 ∧ 0 ≤ w.toInt) ∧ ¬ (i 146).toInt = 1 ∧ ((-1) : Int32).toInt = -5) ∨ ((0 ≤ w1.toInt ∧ w1.toInt ≤ 2 ∧ 0 ≤ w.toInt) ∧ (i 146).toInt = 1 ∧ (i 148).toInt ≤ w.toInt ∧ ((-1) : Int32).toInt = -1) ∨ ((0 ≤ w1.toInt ∧ w1.toInt ≤ 2 ∧ 0 ≤ w.toInt) ∧ (i 146).toInt = 1 ∧ w.toInt < (i 148).toInt ∧ ((-1) : Int32).toInt = dpV w1.toInt (c 143 w.toInt.toNat).toInt) from Or.inr (Or.inr (Or.inl ⟨by omega, by omega, by omega, by decide⟩)))⟩
      · have f5 := (ti_eq (a := (i 146).toInt) (b := 0) rfl (by decide +kernel)).mp c5
        refine lv_bipush (v := (-5)) hx hb dX11_turn_24 (by decide +kernel) ?_
        exact ro_iret hx hb hr hlocks hS dX11_turn_26 ⟨trivial, (show (¬ (0 ≤ w1.toInt ∧ w1.toInt ≤ 2 ∧ 0 ≤ w.toInt) ∧ ((-5) : Int32).toInt = -1) ∨ ((0 ≤ w1.toInt ∧ w1.toInt ≤ 2 ∧ 0 ≤ w.toInt) ∧ ¬ (i 146).toInt = 1 ∧ ((-5) : Int32).toInt = -5) ∨ ((0 ≤ w1.toInt ∧ w1.toInt ≤ 2 ∧ 0 ≤ w.toInt) ∧ (i 146).toInt = 1 ∧ (i 148).toInt ≤ w.toInt ∧ ((-5) : Int32).toInt = -1) ∨ ((0 ≤ w1.toInt ∧ w1.toInt ≤ 2 ∧ 0 ≤ w.toInt) ∧ (i 146).toInt = 1 ∧ w.toInt < (i 148).toInt ∧ ((-5) : Int32).toInt = dpV w1.toInt (c 143 w.toInt.toNat).toInt) from Or.inr (Or.inl ⟨by omega, by omega, by decide⟩))⟩
    · have f4 := mt (ti_le (a := 0) (b := w.toInt) (by decide +kernel) rfl).mpr c4
      refine lv_iconst (v := (-1)) hx hb dX11_turn_12 (by decide +kernel) ?_
      exact ro_iret hx hb hr hlocks hS dX11_turn_13 ⟨trivial, (show (¬ (0 ≤ w1.toInt ∧ w1.toInt ≤ 2 ∧ 0 ≤ w.toInt) ∧ ((-1) : Int32).toInt = -1) ∨ ((0 ≤ w1.toInt ∧ w1.toInt ≤ 2 ∧ 0 ≤ w.toInt) ∧ ¬ (i 146).toInt = 1 ∧ ((-1) : Int32).toInt = -5) ∨ ((0 ≤ w1.toInt ∧ w1.toInt ≤ 2 ∧ 0 ≤ w.toInt) ∧ (i 146).toInt = 1 ∧ (i 148).toInt ≤ w.toInt ∧ ((-1) : Int32).toInt = -1) ∨ ((0 ≤ w1.toInt ∧ w1.toInt ≤ 2 ∧ 0 ≤ w.toInt) ∧ (i 146).toInt = 1 ∧ w.toInt < (i 148).toInt ∧ ((-1) : Int32).toInt = dpV w1.toInt (c 143 w.toInt.toNat).toInt) from Or.inl ⟨by omega, by decide⟩)⟩

set_option maxHeartbeats 4000000 in
set_option maxRecDepth 100000 in
theorem s_X12_turn_t (l : Launch) (D : va_G) (sz : Nat) (o : Nat) (a : Nat → Nat) (t : Nat → ClassId) (i : Nat → Int32) (q : Int64) (c : Nat → Nat → Int32) (d : Nat → Nat → Int64) (w : Int32) (w1 : Int32) (hI : mInv i c) : Met l yX12_turn wm_X12_turn ({ frames := 1, cells := 0, slots := 0, locals := 25 }) (va_Pc [.ref o, .int w, .int w1] (pA D sz (mW o a t i q c d) (mT t))) (va_Qi (fun (r : Int32) (_ : Unit) => (True ∧ ((¬ (0 ≤ w1.toInt ∧ w1.toInt ≤ 2 ∧ 0 ≤ w.toInt) ∧ r.toInt = -1) ∨ ((0 ≤ w1.toInt ∧ w1.toInt ≤ 2 ∧ 0 ≤ w.toInt) ∧ (i 22).toInt = -9 ∧ r.toInt = -5) ∨ ((0 ≤ w1.toInt ∧ w1.toInt ≤ 2 ∧ 0 ≤ w.toInt) ∧ ¬ (i 22).toInt = -9 ∧ (i 27).toInt ≤ w.toInt ∧ r.toInt = -1) ∨ ((0 ≤ w1.toInt ∧ w1.toInt ≤ 2 ∧ 0 ≤ w.toInt) ∧ ¬ (i 22).toInt = -9 ∧ w.toInt < (i 27).toInt ∧ r.toInt = (c 28 (3 * w.toInt + w1.toInt).toNat).toInt)))) oA (ro sz)) 0 0 (ro sz) := by
  refine Met.ofW (cc := cX12_turn) (maxL := 3) (ret := (some .int)) (by decide +kernel) rfl ?_
  intro p e s m args below meth cd s₁ B hml hv
  obtain ⟨rfl, hsz, hP, hK⟩ := hv
  have hx := B.exec
  have hb := B.bytes
  have hr := B.returns
  have hts := atoms_spec (ws := wm_X12_turn) B.pre
  have hown : s.vm.findClass RX12 = some m.cls := findClass_of_methodNamed B.named
  have hlocks := B.notSynchronized
  subst hsz
  have hA : ∀ q : Nat, s.heap.size ≤ q → ro s.heap.size q := fun _ h => h
  have hS : va_S (ro s.heap.size) s.heap s.heap [] := va_S.rf
  have hl := lv_entry ([.ref o, .int w, .int w1]) (n := 3) (Nat.le_of_ble_eq_true rfl)
  rw [lg_entry_eq]
  generalize (lg_sl ([.ref o, .int w, .int w1]) ++ List.replicate (3 - (lg_sl ([.ref o, .int w, .int w1])).length) Slot.unset).toArray = ls at hl ⊢
  have hl : lv_has ls 3 [(0, .ref o), (1, .int w), (2, .int w1)] := hl
  have rb22_i : (i 22).toInt = -9 ∨ (0 ≤ (i 22).toInt ∧ (i 22).toInt ≤ 29) := hI.1 22
  have rb27_i : 0 ≤ (i 27).toInt ∧ (i 27).toInt ≤ 100 := hI.1 27
  refine lv_iload_n hx hb dX12_turn_0 rfl (lv_at hl 1 rfl) ?_
  refine lv_if_lt (tgt := 16) hx hb dX12_turn_1 (by decide +kernel) (fun c1 => ?_) (fun c1 => ?_)
  · have f1 := (ti_lt (a := w.toInt) (b := 0) rfl (by decide +kernel)).mp c1
    refine lv_iconst (v := (-1)) hx hb dX12_turn_16 (by decide +kernel) ?_
    exact ro_iret hx hb hr hlocks hS dX12_turn_17 ⟨trivial, (show (¬ (0 ≤ w1.toInt ∧ w1.toInt ≤ 2 ∧ 0 ≤ w.toInt) ∧ ((-1) : Int32).toInt = -1) ∨ ((0 ≤ w1.toInt ∧ w1.toInt ≤ 2 ∧ 0 ≤ w.toInt) ∧ (i 22).toInt = -9 ∧ ((-1) : Int32).toInt = -5) ∨ ((0 ≤ w1.toInt ∧ w1.toInt ≤ 2 ∧ 0 ≤ w.toInt) ∧ ¬ (i 22).toInt = -9 ∧ (i 27).toInt ≤ w.toInt ∧ ((-1) : Int32).toInt = -1) ∨ ((0 ≤ w1.toInt ∧ w1.toInt ≤ 2 ∧ 0 ≤ w.toInt) ∧ ¬ (i 22).toInt = -9 ∧ w.toInt < (i 27).toInt ∧ ((-1) : Int32).toInt = (c 28 (3 * w.toInt + w1.toInt).toNat).toInt) from Or.inl ⟨by omega, by decide⟩)⟩
  · have f1 := mt (ti_lt (a := w.toInt) (b := 0) rfl (by decide +kernel)).mpr c1
    refine lv_iload_n hx hb dX12_turn_4 rfl (lv_at hl 2 rfl) ?_
    refine lv_i2l (v := w1.toInt64) hx hb dX12_turn_5 rfl ?_
    refine lv_lconst (v := 0) hx hb dX12_turn_6 (by decide +kernel) ?_
    refine lv_ldc2 (v := 2) hx hb hown (hts (.constantLong RX12 254 (2)) (List.mem_cons_of_mem _ (List.mem_append_left _ (List.mem_of_getElem? (i := 0) rfl)))) dX12_turn_7 ?_
    have hPc := hP.sub (ws' := []) [] rfl
    have hKc := hK.sub (tys' := []) [] rfl
    refine ro_calli (va_runS (As := [.long w1.toInt64, .long 0, .long 2]) (rest := []) ⟨hx, hb, hml, hown, hts⟩ (c_X12_in l D s.heap.size w1.toInt64 0 2 w1.toInt 0 2 ((Int32.toInt_toInt64 w1).trans rfl) (by decide +kernel) (by decide +kernel)) (va_cwS 3 hts gm_X12_turn_X12_in rfl rfl rfl (by decide +kernel) ⟨Nat.le_of_ble_eq_true rfl, Nat.le_of_ble_eq_true rfl⟩) (pA_S hKc hPc) rfl rfl hl.1 rfl (lv_room (Nat.le_of_ble_eq_true rfl)) dX12_turn_10 ⟨Nat.le_of_ble_eq_true rfl, Nat.le_of_ble_eq_true rfl⟩) hS hA hP (fun r2 u2 H locs hw2 hP hS => ?_)
    have hw2 : r2 = if (0 ≤ w1.toInt ∧ w1.toInt ≤ 2) then 1 else 0 := hw2
    refine lv_if_ne (tgt := 18) hx hb dX12_turn_13 (by decide +kernel) (fun c3 => ?_) (fun c3 => ?_)
    · have f3 := fl_t hw2 c3
      refine lv_aload_n hx hb dX12_turn_18 rfl (lv_at hl 0 rfl) ?_
      refine mget_22 (v := (i 22)) rfl hx hb hts (fun _ h => List.mem_cons_of_mem _ (List.mem_append_right _ h)) hown hK hP (hts (.fieldLink RX12 155 "TalePlayModel" "player" "I") (List.mem_cons_of_mem _ (List.mem_append_left _ (List.mem_of_getElem? (i := 5) rfl)))) dX12_turn_19 ?_
      refine lv_bipush (v := (-9)) hx hb dX12_turn_22 (by decide +kernel) ?_
      refine lv_icmp_ne (tgt := 30) hx hb dX12_turn_24 (by decide +kernel) (fun c4 => ?_) (fun c4 => ?_)
      · have f4 := mt (ti_eq (a := (i 22).toInt) (b := (-9)) rfl (by decide +kernel)).mpr c4
        refine lv_iload_n hx hb dX12_turn_30 rfl (lv_at hl 1 rfl) ?_
        refine lv_aload_n hx hb dX12_turn_31 rfl (lv_at hl 0 rfl) ?_
        refine mget_27 (v := (i 27)) rfl hx hb hts (fun _ h => List.mem_cons_of_mem _ (List.mem_append_right _ h)) hown hK hP (hts (.fieldLink RX12 291 "TalePlayModel" "turns" "I") (List.mem_cons_of_mem _ (List.mem_append_left _ (List.mem_of_getElem? (i := 6) rfl)))) dX12_turn_32 ?_
        refine lv_icmp_ge (tgt := 51) hx hb dX12_turn_35 (by decide +kernel) (fun c5 => ?_) (fun c5 => ?_)
        · have f5 := (ti_le (a := (i 27).toInt) (b := w.toInt) rfl rfl).mp c5
          refine lv_iconst (v := (-1)) hx hb dX12_turn_51 (by decide +kernel) ?_
          exact ro_iret hx hb hr hlocks hS dX12_turn_52 ⟨trivial, (show (¬ (0 ≤ w1.toInt ∧ w1.toInt ≤ 2 ∧ 0 ≤ w.toInt) ∧ ((-1) : Int32).toInt = -1) ∨ ((0 ≤ w1.toInt ∧ w1.toInt ≤ 2 ∧ 0 ≤ w.toInt) ∧ (i 22).toInt = -9 ∧ ((-1) : Int32).toInt = -5) ∨ ((0 ≤ w1.toInt ∧ w1.toInt ≤ 2 ∧ 0 ≤ w.toInt) ∧ ¬ (i 22).toInt = -9 ∧ (i 27).toInt ≤ w.toInt ∧ ((-1) : Int32).toInt = -1) ∨ ((0 ≤ w1.toInt ∧ w1.toInt ≤ 2 ∧ 0 ≤ w.toInt) ∧ ¬ (i 22).toInt = -9 ∧ w.toInt < (i 27).toInt ∧ ((-1) : Int32).toInt = (c 28 (3 * w.toInt + w1.toInt).toNat).toInt) from Or.inr (Or.inr (Or.inl ⟨by omega, by omega, by omega, by decide⟩)))⟩
        · have f5 := mt (ti_le (a := (i 27).toInt) (b := w.toInt) rfl rfl).mpr c5
          refine lv_aload_n hx hb dX12_turn_38 rfl (lv_at hl 0 rfl) ?_
          refine mget_28 hx hb hts (fun _ h => List.mem_cons_of_mem _ (List.mem_append_right _ h)) hown hK hP (hts (.fieldLink RX12 62 "TalePlayModel" "turnRow" "[I") (List.mem_cons_of_mem _ (List.mem_append_left _ (List.mem_of_getElem? (i := 7) rfl)))) dX12_turn_39 ?_
          refine lv_iconst (v := 3) hx hb dX12_turn_42 (by decide +kernel) ?_
          refine lv_iload_n hx hb dX12_turn_43 rfl (lv_at hl 1 rfl) ?_
          refine lv_imul hx hb dX12_turn_44 ?_
          refine lv_topi (fun x6 ex6 => ?_)
          have tx6 := ti_mul (a := 3) (b := w.toInt) ex6 (by decide +kernel) rfl (by omega) (by omega)
          refine lv_iload_n hx hb dX12_turn_45 rfl (lv_at hl 2 rfl) ?_
          refine lv_iadd hx hb dX12_turn_46 ?_
          refine lv_topi (fun x7 ex7 => ?_)
          have tx7 := ti_add (a := (3 * w.toInt)) (b := w1.toInt) ex7 tx6 rfl (by omega) (by omega)
          refine mld_28 hx hb hK hP (vp_in_iff.mpr (by have h9 : x7.toInt = ((3 * w.toInt) + w1.toInt) := tx7; omega)) dX12_turn_47 (fun x8 ex8 => ?_)
          have rx8 : 0 ≤ x8.toInt ∧ x8.toInt ≤ 29 := by rw [ex8]; exact hI.2 28 _
          refine lv_goto (tgt := 52) hx hb dX12_turn_48 (by decide +kernel) ?_
          exact ro_iret hx hb hr hlocks hS dX12_turn_52 ⟨trivial, (show (¬ (0 ≤ w1.toInt ∧ w1.toInt ≤ 2 ∧ 0 ≤ w.toInt) ∧ x8.toInt = -1) ∨ ((0 ≤ w1.toInt ∧ w1.toInt ≤ 2 ∧ 0 ≤ w.toInt) ∧ (i 22).toInt = -9 ∧ x8.toInt = -5) ∨ ((0 ≤ w1.toInt ∧ w1.toInt ≤ 2 ∧ 0 ≤ w.toInt) ∧ ¬ (i 22).toInt = -9 ∧ (i 27).toInt ≤ w.toInt ∧ x8.toInt = -1) ∨ ((0 ≤ w1.toInt ∧ w1.toInt ≤ 2 ∧ 0 ≤ w.toInt) ∧ ¬ (i 22).toInt = -9 ∧ w.toInt < (i 27).toInt ∧ x8.toInt = (c 28 (3 * w.toInt + w1.toInt).toNat).toInt) from Or.inr (Or.inr (Or.inr ⟨by omega, by omega, by omega, by rw [ix_n (f := c 28) (s := x7) (show (x7 : Int32).toInt = 3 * w.toInt + w1.toInt from by omega) ex8]⟩)))⟩
      · have f4 := (ti_eq (a := (i 22).toInt) (b := (-9)) rfl (by decide +kernel)).mp c4
        refine lv_bipush (v := (-5)) hx hb dX12_turn_27 (by decide +kernel) ?_
        exact ro_iret hx hb hr hlocks hS dX12_turn_29 ⟨trivial, (show (¬ (0 ≤ w1.toInt ∧ w1.toInt ≤ 2 ∧ 0 ≤ w.toInt) ∧ ((-5) : Int32).toInt = -1) ∨ ((0 ≤ w1.toInt ∧ w1.toInt ≤ 2 ∧ 0 ≤ w.toInt) ∧ (i 22).toInt = -9 ∧ ((-5) : Int32).toInt = -5) ∨ ((0 ≤ w1.toInt ∧ w1.toInt ≤ 2 ∧ 0 ≤ w.toInt) ∧ ¬ (i 22).toInt = -9 ∧ (i 27).toInt ≤ w.toInt ∧ ((-5) : Int32).toInt = -1) ∨ ((0 ≤ w1.toInt ∧ w1.toInt ≤ 2 ∧ 0 ≤ w.toInt) ∧ ¬ (i 22).toInt = -9 ∧ w.toInt < (i 27).toInt ∧ ((-5) : Int32).toInt = (c 28 (3 * w.toInt + w1.toInt).toNat).toInt) from Or.inr (Or.inl ⟨by omega, by omega, by decide⟩))⟩
    · have f3 := fl_f hw2 c3
      refine lv_iconst (v := (-1)) hx hb dX12_turn_16 (by decide +kernel) ?_
      exact ro_iret hx hb hr hlocks hS dX12_turn_17 ⟨trivial, (show (¬ (0 ≤ w1.toInt ∧ w1.toInt ≤ 2 ∧ 0 ≤ w.toInt) ∧ ((-1) : Int32).toInt = -1) ∨ ((0 ≤ w1.toInt ∧ w1.toInt ≤ 2 ∧ 0 ≤ w.toInt) ∧ (i 22).toInt = -9 ∧ ((-1) : Int32).toInt = -5) ∨ ((0 ≤ w1.toInt ∧ w1.toInt ≤ 2 ∧ 0 ≤ w.toInt) ∧ ¬ (i 22).toInt = -9 ∧ (i 27).toInt ≤ w.toInt ∧ ((-1) : Int32).toInt = -1) ∨ ((0 ≤ w1.toInt ∧ w1.toInt ≤ 2 ∧ 0 ≤ w.toInt) ∧ ¬ (i 22).toInt = -9 ∧ w.toInt < (i 27).toInt ∧ ((-1) : Int32).toInt = (c 28 (3 * w.toInt + w1.toInt).toNat).toInt) from Or.inl ⟨by omega, by decide⟩)⟩

