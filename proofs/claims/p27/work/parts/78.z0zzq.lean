set_option maxHeartbeats 4000000 in
set_option maxRecDepth 100000 in
theorem c_X11_deedPart_e (l : Launch) (D : va_G) (sz : Nat) (v : Int32) (w : Int32) (a : Int) (ha : v.toInt = a) (g0 : 0 ≤ a) : Met l yX11_deedPart wm_X11_deedPart ({ frames := 0, cells := 0, slots := 0, locals := 0 }) (va_Pc [.int v, .int w] (pA D sz [] [])) (va_Qi (fun (r : Int32) (_ : Unit) => r.toInt = dpV w.toInt a) oA (ro sz)) 0 0 (ro sz) := by
  refine Met.ofW (cc := cX11_deedPart) (maxL := 2) (ret := (some .int)) (by decide +kernel) rfl ?_
  intro p e s m args below meth c s₁ B hml hv
  obtain ⟨rfl, hsz, hP, hK⟩ := hv
  have hx := B.exec
  have hb := B.bytes
  have hr := B.returns
  have hts := atoms_spec (ws := wm_X11_deedPart) B.pre
  have hown : s.vm.findClass RX11 = some m.cls := findClass_of_methodNamed B.named
  have hlocks := B.notSynchronized
  subst hsz
  have hA : ∀ q : Nat, s.heap.size ≤ q → ro s.heap.size q := fun _ h => h
  have hS : va_S (ro s.heap.size) s.heap s.heap [] := va_S.rf
  have hP : va_P D vwCl [] s.heap := hP
  have hl := lv_entry ([.int v, .int w]) (n := 2) (Nat.le_of_ble_eq_true rfl)
  rw [lg_entry_eq]
  generalize (lg_sl ([.int v, .int w]) ++ List.replicate (2 - (lg_sl ([.int v, .int w])).length) Slot.unset).toArray = ls at hl ⊢
  have hl : lv_has ls 2 [(0, .int v), (1, .int w)] := hl
  refine lv_iload_n hx hb dX11_deedPart_0 rfl (lv_at hl 1 rfl) ?_
  rcases (show (w.toInt ≠ 0 ∧ w.toInt ≠ 1) ∨ w.toInt = 0 ∨ w.toInt = 1 by omega) with f1 | f1 | f1
  · refine lv_lookup (off := 43) (tgt := 44) hx hb dX11_deedPart_1 (by decide +kernel) (by show (if (0 : Int) = w.toInt then (27 : Int) else (if (1 : Int) = w.toInt then (34 : Int) else 43)) = 43; rw [if_neg (fun e9 => f1.1 e9.symm), if_neg (fun e9 => f1.2 e9.symm)]) (by decide +kernel) ?_
    refine lv_iload_n hx hb dX11_deedPart_44 rfl (lv_at hl 0 rfl) ?_
    refine lv_bipush (v := 31) hx hb dX11_deedPart_45 (by decide +kernel) ?_
    refine lv_iand hx hb dX11_deedPart_47 ?_
    refine lv_topi (fun x2 ex2 => ?_)
    exact ro_iret hx hb hr hlocks hS dX11_deedPart_48 (by unfold dpV; rw [if_neg (by omega), if_neg (by omega), ← ha]; exact and31 (by omega) ex2)
  · refine lv_lookup (off := 27) (tgt := 28) hx hb dX11_deedPart_1 (by decide +kernel) (by rw [f1]; rfl) (by decide +kernel) ?_
    refine lv_iload_n hx hb dX11_deedPart_28 rfl (lv_at hl 0 rfl) ?_
    refine lv_bipush (v := 10) hx hb dX11_deedPart_29 (by decide +kernel) ?_
    refine lv_ishr hx hb dX11_deedPart_31 ?_
    refine lv_topi (fun x3 ex3 => ?_)
    refine lv_goto (tgt := 48) hx hb dX11_deedPart_32 (by decide +kernel) ?_
    exact ro_iret hx hb hr hlocks hS dX11_deedPart_48 (by unfold dpV; rw [if_pos (by omega), ← ha]; exact shrN (k := 10) (by omega) (by omega) (by decide +kernel) ex3)
  · refine lv_lookup (off := 34) (tgt := 35) hx hb dX11_deedPart_1 (by decide +kernel) (by rw [f1]; rfl) (by decide +kernel) ?_
    refine lv_iload_n hx hb dX11_deedPart_35 rfl (lv_at hl 0 rfl) ?_
    refine lv_iconst (v := 5) hx hb dX11_deedPart_36 (by decide +kernel) ?_
    refine lv_ishr hx hb dX11_deedPart_37 ?_
    refine lv_topi (fun x4 ex4 => ?_)
    refine lv_bipush (v := 31) hx hb dX11_deedPart_38 (by decide +kernel) ?_
    refine lv_iand hx hb dX11_deedPart_40 ?_
    refine lv_topi (fun x5 ex5 => ?_)
    refine lv_goto (tgt := 48) hx hb dX11_deedPart_41 (by decide +kernel) ?_
    exact ro_iret hx hb hr hlocks hS dX11_deedPart_48 (by unfold dpV; rw [if_neg (by omega), if_pos (by omega), ← ha]; have h9 : x4.toInt = v.toInt / 32 := shrN (k := 5) (by omega) (by omega) (by decide +kernel) ex4; rw [← h9]; exact and31 (by omega) ex5)

def wm_X11_sought_nE : List Cond := .code yX11_sought cX11_sought 3 (some .int) :: (([.methodLink RX11 91 yX11_isBelow, .static yX11_isBelow, .initialized RX11, .code yX11_isBelow cX11_isBelow 2 (some .boolean), .fieldLink RX11 64 "TalePlay" "seeker" "LTalePlay$Seeker;"] : List Cond) ++ wsX110)
set_option maxRecDepth 20000 in
theorem gm_X11_sought_nE_X11_isBelow_91 : GoodIn wm_X11_sought_nE (va_wsS RX11 91 yX11_isBelow wm_X11_isBelow) := goodIn_w (List.forall_mem_append.mpr ⟨List.forall_mem_cons.mpr ⟨List.mem_cons_of_mem _ (List.mem_append_left _ (List.mem_of_getElem? (i := 0) rfl)), List.forall_mem_cons.mpr ⟨List.mem_cons_of_mem _ (List.mem_append_left _ (List.mem_of_getElem? (i := 1) rfl)), List.forall_mem_cons.mpr ⟨List.mem_cons_of_mem _ (List.mem_append_left _ (List.mem_of_getElem? (i := 2) rfl)), (fun _ h => absurd h List.not_mem_nil)⟩⟩⟩, List.forall_mem_cons.mpr ⟨List.mem_cons_of_mem _ (List.mem_append_left _ (List.mem_of_getElem? (i := 3) rfl)), (fun _ h => absurd h List.not_mem_nil)⟩⟩) (by decide +kernel)
set_option maxHeartbeats 4000000 in
set_option maxRecDepth 100000 in
theorem x_X11_sought_nE (l : Launch) (D : va_G) (sz : Nat) (a : Nat → Nat) (t : Nat → ClassId) (i : Nat → Int32) (q : Int64) (c : Nat → Nat → Int32) (d : Nat → Nat → Int64) (w : Int32) (s1 : Int32) (hI : xInv i c) : Met l yX11_sought wm_X11_sought_nE ({ frames := 1, cells := 0, slots := 0, locals := 21 }) (va_Pc [.ref (a 100), .int w, .int s1] (yA (a 186) D sz (xwT .null a t i q c d) (xtT t))) (va_Qi (fun (r : Int32) (_ : Unit) => (True ∧ ((¬ (0 ≤ s1.toInt ∧ s1.toInt ≤ 2) ∧ r.toInt = -1) ∨ ((0 ≤ s1.toInt ∧ s1.toInt ≤ 2) ∧ ¬ (0 ≤ w.toInt ∧ w.toInt < -9) ∧ r.toInt = -9) ∨ ((0 ≤ s1.toInt ∧ s1.toInt ≤ 2) ∧ 0 ≤ w.toInt ∧ w.toInt < -9 ∧ r.toInt = dpV s1.toInt ((fun _ => 0 : Nat → Int32) w.toInt.toNat).toInt)))) oA (ro sz)) 0 0 (ro sz) := by
  refine Met.ofW (cc := cX11_sought) (maxL := 3) (ret := (some .int)) (by decide +kernel) rfl ?_
  intro p e s m args below meth cd s₁ B hml hv
  obtain ⟨rfl, ⟨hsz, hP, hK⟩, hN, hZ⟩ := hv
  have hx := B.exec
  have hb := B.bytes
  have hr := B.returns
  have hts := atoms_spec (ws := wm_X11_sought_nE) B.pre
  have hown : s.vm.findClass RX11 = some m.cls := findClass_of_methodNamed B.named
  have hlocks := B.notSynchronized
  subst hsz
  have hA : ∀ q : Nat, s.heap.size ≤ q → ro s.heap.size q := fun _ h => h
  have hS : va_S (ro s.heap.size) s.heap s.heap [] := va_S.rf
  have hl := lv_entry ([.ref (a 100), .int w, .int s1]) (n := 3) (Nat.le_of_ble_eq_true rfl)
  rw [lg_entry_eq]
  generalize (lg_sl ([.ref (a 100), .int w, .int s1]) ++ List.replicate (3 - (lg_sl ([.ref (a 100), .int w, .int s1])).length) Slot.unset).toArray = ls at hl ⊢
  have hl : lv_has ls 3 [(0, .ref (a 100)), (1, .int w), (2, .int s1)] := hl
  refine lv_iload_n hx hb dX11_sought_0 rfl (lv_at hl 2 rfl) ?_
  refine lv_iconst (v := 3) hx hb dX11_sought_1 (by decide +kernel) ?_
  have hPc := hP.sub (ws' := []) [] rfl
  have hKc := hK.sub (tys' := []) [] rfl
  refine ro_calli (va_runS (As := [.int s1, .int 3]) (rest := []) ⟨hx, hb, hml, hown, hts⟩ (c_X11_isBelow l D s.heap.size s1 3 s1.toInt 3 rfl (by decide +kernel)) (va_cwS 2 hts gm_X11_sought_nE_X11_isBelow_91 rfl rfl rfl (by decide +kernel) ⟨Nat.le_of_ble_eq_true rfl, Nat.le_of_ble_eq_true rfl⟩) (pA_S hKc hPc) rfl rfl hl.1 rfl (lv_room (Nat.le_of_ble_eq_true rfl)) dX11_sought_2 ⟨Nat.le_of_ble_eq_true rfl, Nat.le_of_ble_eq_true rfl⟩) hS hA hP (fun r2 u2 H locs hw2 hP hS => ?_)
  have hw2 : r2 = if (0 ≤ s1.toInt ∧ s1.toInt < 3) then 1 else 0 := hw2
  refine lv_if_ne (tgt := 10) hx hb dX11_sought_5 (by decide +kernel) (fun c3 => ?_) (fun c3 => ?_)
  · have f3 := fl_t hw2 c3
    refine lv_aload_n hx hb dX11_sought_10 rfl (lv_at hl 0 rfl) ?_
    refine xgT_X_seeker hx hb hts (fun _ h => List.mem_cons_of_mem _ (List.mem_append_right _ h)) hown hK hP (hts (.fieldLink RX11 64 "TalePlay" "seeker" "LTalePlay$Seeker;") (List.mem_cons_of_mem _ (List.mem_append_left _ (List.mem_of_getElem? (i := 4) rfl)))) dX11_sought_11 ?_
    refine lv_ifnullN (tgt := 31) hx hb dX11_sought_14 (by decide +kernel) ?_
    refine lv_bipush (v := (-9)) hx hb dX11_sought_31 (by decide +kernel) ?_
    exact ro_iret hx hb hr hlocks hS dX11_sought_33 ⟨trivial, (show (¬ (0 ≤ s1.toInt ∧ s1.toInt ≤ 2) ∧ ((-9) : Int32).toInt = -1) ∨ ((0 ≤ s1.toInt ∧ s1.toInt ≤ 2) ∧ ¬ (0 ≤ w.toInt ∧ w.toInt < -9) ∧ ((-9) : Int32).toInt = -9) ∨ ((0 ≤ s1.toInt ∧ s1.toInt ≤ 2) ∧ 0 ≤ w.toInt ∧ w.toInt < -9 ∧ ((-9) : Int32).toInt = dpV s1.toInt ((fun _ => 0 : Nat → Int32) w.toInt.toNat).toInt) from Or.inr (Or.inl ⟨by omega, by omega, by decide⟩))⟩
  · have f3 := fl_f hw2 c3
    refine lv_iconst (v := (-1)) hx hb dX11_sought_8 (by decide +kernel) ?_
    exact ro_iret hx hb hr hlocks hS dX11_sought_9 ⟨trivial, (show (¬ (0 ≤ s1.toInt ∧ s1.toInt ≤ 2) ∧ ((-1) : Int32).toInt = -1) ∨ ((0 ≤ s1.toInt ∧ s1.toInt ≤ 2) ∧ ¬ (0 ≤ w.toInt ∧ w.toInt < -9) ∧ ((-1) : Int32).toInt = -9) ∨ ((0 ≤ s1.toInt ∧ s1.toInt ≤ 2) ∧ 0 ≤ w.toInt ∧ w.toInt < -9 ∧ ((-1) : Int32).toInt = dpV s1.toInt ((fun _ => 0 : Nat → Int32) w.toInt.toNat).toInt) from Or.inl ⟨by omega, by decide⟩)⟩

def wm_X11_sought_sE : List Cond := .code yX11_sought cX11_sought 3 (some .int) :: (([.methodLink RX11 91 yX11_isBelow, .static yX11_isBelow, .initialized RX11, .code yX11_isBelow cX11_isBelow 2 (some .boolean), .fieldLink RX11 64 "TalePlay" "seeker" "LTalePlay$Seeker;", .fieldLink RX11 299 "TalePlay$Seeker" "playLength" "I", .fieldLink RX11 302 "TalePlay$Seeker" "play" "[I", .methodLink RX11 271 yX11_deedPart, .static yX11_deedPart, .code yX11_deedPart cX11_deedPart 2 (some .int)] : List Cond) ++ wsX110 ++ wsX70)
set_option maxRecDepth 20000 in
theorem gm_X11_sought_sE_X11_isBelow_91 : GoodIn wm_X11_sought_sE (va_wsS RX11 91 yX11_isBelow wm_X11_isBelow) := goodIn_w (List.forall_mem_append.mpr ⟨List.forall_mem_cons.mpr ⟨List.mem_cons_of_mem _ (List.mem_append_left _ (List.mem_append_left _ (List.mem_of_getElem? (i := 0) rfl))), List.forall_mem_cons.mpr ⟨List.mem_cons_of_mem _ (List.mem_append_left _ (List.mem_append_left _ (List.mem_of_getElem? (i := 1) rfl))), List.forall_mem_cons.mpr ⟨List.mem_cons_of_mem _ (List.mem_append_left _ (List.mem_append_left _ (List.mem_of_getElem? (i := 2) rfl))), (fun _ h => absurd h List.not_mem_nil)⟩⟩⟩, List.forall_mem_cons.mpr ⟨List.mem_cons_of_mem _ (List.mem_append_left _ (List.mem_append_left _ (List.mem_of_getElem? (i := 3) rfl))), (fun _ h => absurd h List.not_mem_nil)⟩⟩) (by decide +kernel)
set_option maxRecDepth 20000 in
theorem gm_X11_sought_sE_X11_deedPart_271 : GoodIn wm_X11_sought_sE (va_wsS RX11 271 yX11_deedPart wm_X11_deedPart) := goodIn_w (List.forall_mem_append.mpr ⟨List.forall_mem_cons.mpr ⟨List.mem_cons_of_mem _ (List.mem_append_left _ (List.mem_append_left _ (List.mem_of_getElem? (i := 7) rfl))), List.forall_mem_cons.mpr ⟨List.mem_cons_of_mem _ (List.mem_append_left _ (List.mem_append_left _ (List.mem_of_getElem? (i := 8) rfl))), List.forall_mem_cons.mpr ⟨List.mem_cons_of_mem _ (List.mem_append_left _ (List.mem_append_left _ (List.mem_of_getElem? (i := 2) rfl))), (fun _ h => absurd h List.not_mem_nil)⟩⟩⟩, List.forall_mem_cons.mpr ⟨List.mem_cons_of_mem _ (List.mem_append_left _ (List.mem_append_left _ (List.mem_of_getElem? (i := 9) rfl))), (fun _ h => absurd h List.not_mem_nil)⟩⟩) (by decide +kernel)
set_option maxHeartbeats 4000000 in
set_option maxRecDepth 100000 in
theorem x_X11_sought_sE (l : Launch) (D : va_G) (sz : Nat) (a : Nat → Nat) (t : Nat → ClassId) (i : Nat → Int32) (q : Int64) (c : Nat → Nat → Int32) (d : Nat → Nat → Int64) (w : Int32) (s1 : Int32) (hI : xInv i c) (hds : ∀ j : Nat, (j : Int) < (i 173).toInt → 0 ≤ (c 172 j).toInt) : Met l yX11_sought wm_X11_sought_sE ({ frames := 1, cells := 0, slots := 0, locals := 21 }) (va_Pc [.ref (a 100), .int w, .int s1] (yA (a 186) D sz (xwU (.ref (a 166)) a t i q c d) (xtU t))) (va_Qi (fun (r : Int32) (_ : Unit) => (True ∧ ((¬ (0 ≤ s1.toInt ∧ s1.toInt ≤ 2) ∧ r.toInt = -1) ∨ ((0 ≤ s1.toInt ∧ s1.toInt ≤ 2) ∧ ¬ (0 ≤ w.toInt ∧ w.toInt < (i 173).toInt) ∧ r.toInt = -9) ∨ ((0 ≤ s1.toInt ∧ s1.toInt ≤ 2) ∧ 0 ≤ w.toInt ∧ w.toInt < (i 173).toInt ∧ r.toInt = dpV s1.toInt (c 172 w.toInt.toNat).toInt)))) oA (ro sz)) 0 0 (ro sz) := by
  refine Met.ofW (cc := cX11_sought) (maxL := 3) (ret := (some .int)) (by decide +kernel) rfl ?_
  intro p e s m args below meth cd s₁ B hml hv
  obtain ⟨rfl, ⟨hsz, hP, hK⟩, hN, hZ⟩ := hv
  have hx := B.exec
  have hb := B.bytes
  have hr := B.returns
  have hts := atoms_spec (ws := wm_X11_sought_sE) B.pre
  have hown : s.vm.findClass RX11 = some m.cls := findClass_of_methodNamed B.named
  have hlocks := B.notSynchronized
  subst hsz
  have hA : ∀ q : Nat, s.heap.size ≤ q → ro s.heap.size q := fun _ h => h
  have hS : va_S (ro s.heap.size) s.heap s.heap [] := va_S.rf
  have hl := lv_entry ([.ref (a 100), .int w, .int s1]) (n := 3) (Nat.le_of_ble_eq_true rfl)
  rw [lg_entry_eq]
  generalize (lg_sl ([.ref (a 100), .int w, .int s1]) ++ List.replicate (3 - (lg_sl ([.ref (a 100), .int w, .int s1])).length) Slot.unset).toArray = ls at hl ⊢
  have hl : lv_has ls 3 [(0, .ref (a 100)), (1, .int w), (2, .int s1)] := hl
  have rb173_i : (i 173).toInt = -9 ∨ (0 ≤ (i 173).toInt ∧ (i 173).toInt ≤ 300) := hI.1 173
  refine lv_iload_n hx hb dX11_sought_0 rfl (lv_at hl 2 rfl) ?_
  refine lv_iconst (v := 3) hx hb dX11_sought_1 (by decide +kernel) ?_
  have hPc := hP.sub (ws' := []) [] rfl
  have hKc := hK.sub (tys' := []) [] rfl
  refine ro_calli (va_runS (As := [.int s1, .int 3]) (rest := []) ⟨hx, hb, hml, hown, hts⟩ (c_X11_isBelow l D s.heap.size s1 3 s1.toInt 3 rfl (by decide +kernel)) (va_cwS 2 hts gm_X11_sought_sE_X11_isBelow_91 rfl rfl rfl (by decide +kernel) ⟨Nat.le_of_ble_eq_true rfl, Nat.le_of_ble_eq_true rfl⟩) (pA_S hKc hPc) rfl rfl hl.1 rfl (lv_room (Nat.le_of_ble_eq_true rfl)) dX11_sought_2 ⟨Nat.le_of_ble_eq_true rfl, Nat.le_of_ble_eq_true rfl⟩) hS hA hP (fun r2 u2 H locs hw2 hP hS => ?_)
  have hw2 : r2 = if (0 ≤ s1.toInt ∧ s1.toInt < 3) then 1 else 0 := hw2
  refine lv_if_ne (tgt := 10) hx hb dX11_sought_5 (by decide +kernel) (fun c3 => ?_) (fun c3 => ?_)
  · have f3 := fl_t hw2 c3
    refine lv_aload_n hx hb dX11_sought_10 rfl (lv_at hl 0 rfl) ?_
    refine xgU_X_seeker hx hb hts (fun _ h => List.mem_cons_of_mem _ (List.mem_append_left _ (List.mem_append_right _ h))) hown hK hP (hts (.fieldLink RX11 64 "TalePlay" "seeker" "LTalePlay$Seeker;") (List.mem_cons_of_mem _ (List.mem_append_left _ (List.mem_append_left _ (List.mem_of_getElem? (i := 4) rfl))))) dX11_sought_11 ?_
    refine lv_ifnull hx hb dX11_sought_14 ?_
    refine lv_iload_n hx hb dX11_sought_17 rfl (lv_at hl 1 rfl) ?_
    refine lv_aload_n hx hb dX11_sought_18 rfl (lv_at hl 0 rfl) ?_
    refine xgU_X_seeker hx hb hts (fun _ h => List.mem_cons_of_mem _ (List.mem_append_left _ (List.mem_append_right _ h))) hown hK hP (hts (.fieldLink RX11 64 "TalePlay" "seeker" "LTalePlay$Seeker;") (List.mem_cons_of_mem _ (List.mem_append_left _ (List.mem_append_left _ (List.mem_of_getElem? (i := 4) rfl))))) dX11_sought_19 ?_
    refine xgU_S_playLength (v := (i 173)) rfl hx hb hts (fun _ h => List.mem_cons_of_mem _ (List.mem_append_right _ h)) hown hK hP (hts (.fieldLink RX11 299 "TalePlay$Seeker" "playLength" "I") (List.mem_cons_of_mem _ (List.mem_append_left _ (List.mem_append_left _ (List.mem_of_getElem? (i := 5) rfl))))) dX11_sought_22 ?_
    have hPc := hP.sub (ws' := []) [] rfl
    have hKc := hK.sub (tys' := []) [] rfl
    refine ro_calli (va_runS (As := [.int w, .int (i 173)]) (rest := []) ⟨hx, hb, hml, hown, hts⟩ (c_X11_isBelow l D H.size w (i 173) w.toInt ((i 173).toInt) rfl rfl) (va_cwS 2 hts gm_X11_sought_sE_X11_isBelow_91 rfl rfl rfl (by decide +kernel) ⟨Nat.le_of_ble_eq_true rfl, Nat.le_of_ble_eq_true rfl⟩) (pA_S hKc hPc) rfl rfl hl.1 rfl (lv_room (Nat.le_of_ble_eq_true rfl)) dX11_sought_25 ⟨Nat.le_of_ble_eq_true rfl, Nat.le_of_ble_eq_true rfl⟩) hS hA hP (fun r5 u5 H locs hw5 hP hS => ?_)
    have hw5 : r5 = if (0 ≤ w.toInt ∧ w.toInt < ((i 173).toInt)) then 1 else 0 := hw5
    refine lv_if_ne (tgt := 34) hx hb dX11_sought_28 (by decide +kernel) (fun c6 => ?_) (fun c6 => ?_)
    · have f6 := fl_t hw5 c6
      refine lv_aload_n hx hb dX11_sought_34 rfl (lv_at hl 0 rfl) ?_
      refine xgU_X_seeker hx hb hts (fun _ h => List.mem_cons_of_mem _ (List.mem_append_left _ (List.mem_append_right _ h))) hown hK hP (hts (.fieldLink RX11 64 "TalePlay" "seeker" "LTalePlay$Seeker;") (List.mem_cons_of_mem _ (List.mem_append_left _ (List.mem_append_left _ (List.mem_of_getElem? (i := 4) rfl))))) dX11_sought_35 ?_
      refine xgU_S_play hx hb hts (fun _ h => List.mem_cons_of_mem _ (List.mem_append_right _ h)) hown hK hP (hts (.fieldLink RX11 302 "TalePlay$Seeker" "play" "[I") (List.mem_cons_of_mem _ (List.mem_append_left _ (List.mem_append_left _ (List.mem_of_getElem? (i := 6) rfl))))) dX11_sought_38 ?_
      refine lv_iload_n hx hb dX11_sought_41 rfl (lv_at hl 1 rfl) ?_
      refine xlU_172 hx hb hK hP (vp_in_iff.mpr (by have h9 : w.toInt = w.toInt := rfl; omega)) dX11_sought_42 (fun x7 ex7 => ?_)
      have gx7 : (c 172 (w : Int32).toNatClampNeg).toInt = x7.toInt := (congrArg Int32.toInt ex7).symm
      have hd0 : 0 ≤ x7.toInt := by rw [ex7]; exact hds _ (by rw [cl_nn (by omega)]; omega)
      refine lv_iload_n hx hb dX11_sought_43 rfl (lv_at hl 2 rfl) ?_
      have hPc := hP.sub (ws' := []) [] rfl
      have hKc := hK.sub (tys' := []) [] rfl
      refine ro_calli (va_runS (As := [.int x7, .int s1]) (rest := []) ⟨hx, hb, hml, hown, hts⟩ (c_X11_deedPart_e l D H.size x7 s1 x7.toInt rfl (by omega)) (va_cwS 2 hts gm_X11_sought_sE_X11_deedPart_271 rfl rfl rfl (by decide +kernel) ⟨Nat.le_of_ble_eq_true rfl, Nat.le_of_ble_eq_true rfl⟩) (pA_S hKc hPc) rfl rfl hl.1 rfl (lv_room (Nat.le_of_ble_eq_true rfl)) dX11_sought_44 ⟨Nat.le_of_ble_eq_true rfl, Nat.le_of_ble_eq_true rfl⟩) hS hA hP (fun r9 u9 H locs hw9 hP hS => ?_)
      have hw9 : r9.toInt = dpV s1.toInt x7.toInt := hw9
      exact ro_iret hx hb hr hlocks hS dX11_sought_47 ⟨trivial, (show (¬ (0 ≤ s1.toInt ∧ s1.toInt ≤ 2) ∧ r9.toInt = -1) ∨ ((0 ≤ s1.toInt ∧ s1.toInt ≤ 2) ∧ ¬ (0 ≤ w.toInt ∧ w.toInt < (i 173).toInt) ∧ r9.toInt = -9) ∨ ((0 ≤ s1.toInt ∧ s1.toInt ≤ 2) ∧ 0 ≤ w.toInt ∧ w.toInt < (i 173).toInt ∧ r9.toInt = dpV s1.toInt (c 172 w.toInt.toNat).toInt) from Or.inr (Or.inr ⟨by omega, by omega, by omega, by rw [show (c 172 w.toInt.toNat).toInt = x7.toInt from gx7]; exact hw9⟩))⟩
    · have f6 := fl_f hw5 c6
      refine lv_bipush (v := (-9)) hx hb dX11_sought_31 (by decide +kernel) ?_
      exact ro_iret hx hb hr hlocks hS dX11_sought_33 ⟨trivial, (show (¬ (0 ≤ s1.toInt ∧ s1.toInt ≤ 2) ∧ ((-9) : Int32).toInt = -1) ∨ ((0 ≤ s1.toInt ∧ s1.toInt ≤ 2) ∧ ¬ (0 ≤ w.toInt ∧ w.toInt < (i 173).toInt) ∧ ((-9) : Int32).toInt = -9) ∨ ((0 ≤ s1.toInt ∧ s1.toInt ≤ 2) ∧ 0 ≤ w.toInt ∧ w.toInt < (i 173).toInt ∧ ((-9) : Int32).toInt = dpV s1.toInt (c 172 w.toInt.toNat).toInt) from Or.inr (Or.inl ⟨by omega, by omega, by decide⟩))⟩
  · have f3 := fl_f hw2 c3
    refine lv_iconst (v := (-1)) hx hb dX11_sought_8 (by decide +kernel) ?_
    exact ro_iret hx hb hr hlocks hS dX11_sought_9 ⟨trivial, (show (¬ (0 ≤ s1.toInt ∧ s1.toInt ≤ 2) ∧ ((-1) : Int32).toInt = -1) ∨ ((0 ≤ s1.toInt ∧ s1.toInt ≤ 2) ∧ ¬ (0 ≤ w.toInt ∧ w.toInt < (i 173).toInt) ∧ ((-1) : Int32).toInt = -9) ∨ ((0 ≤ s1.toInt ∧ s1.toInt ≤ 2) ∧ 0 ≤ w.toInt ∧ w.toInt < (i 173).toInt ∧ ((-1) : Int32).toInt = dpV s1.toInt (c 172 w.toInt.toNat).toInt) from Or.inl ⟨by omega, by decide⟩)⟩

set_option maxHeartbeats 4000000 in
set_option maxRecDepth 100000 in
theorem s_X12_sought_k (l : Launch) (D : va_G) (sz : Nat) (o : Nat) (a : Nat → Nat) (t : Nat → ClassId) (i : Nat → Int32) (q : Int64) (c : Nat → Nat → Int32) (d : Nat → Nat → Int64) (w : Int32) (w1 : Int32) (hI : mInv i c) : Met l yX12_sought wm_X12_sought ({ frames := 1, cells := 0, slots := 0, locals := 25 }) (va_Pc [.ref o, .int w, .int w1] (pA D sz (mW o a t i q c d) (mT t))) (va_Qi (fun (r : Int32) (_ : Unit) => (True ∧ ((¬ (0 ≤ w1.toInt ∧ w1.toInt ≤ 2) ∧ r.toInt = -1) ∨ ((0 ≤ w1.toInt ∧ w1.toInt ≤ 2) ∧ ¬ (0 ≤ w.toInt ∧ w.toInt < (i 57).toInt) ∧ r.toInt = -9) ∨ ((0 ≤ w1.toInt ∧ w1.toInt ≤ 2) ∧ 0 ≤ w.toInt ∧ w.toInt < (i 57).toInt ∧ r.toInt = (c 56 (3 * w.toInt + w1.toInt).toNat).toInt)))) oA (ro sz)) 0 0 (ro sz) := by
  refine Met.ofW (cc := cX12_sought) (maxL := 3) (ret := (some .int)) (by decide +kernel) rfl ?_
  intro p e s m args below meth cd s₁ B hml hv
  obtain ⟨rfl, hsz, hP, hK⟩ := hv
  have hx := B.exec
  have hb := B.bytes
  have hr := B.returns
  have hts := atoms_spec (ws := wm_X12_sought) B.pre
  have hown : s.vm.findClass RX12 = some m.cls := findClass_of_methodNamed B.named
  have hlocks := B.notSynchronized
  subst hsz
  have hA : ∀ q : Nat, s.heap.size ≤ q → ro s.heap.size q := fun _ h => h
  have hS : va_S (ro s.heap.size) s.heap s.heap [] := va_S.rf
  have hl := lv_entry ([.ref o, .int w, .int w1]) (n := 3) (Nat.le_of_ble_eq_true rfl)
  rw [lg_entry_eq]
  generalize (lg_sl ([.ref o, .int w, .int w1]) ++ List.replicate (3 - (lg_sl ([.ref o, .int w, .int w1])).length) Slot.unset).toArray = ls at hl ⊢
  have hl : lv_has ls 3 [(0, .ref o), (1, .int w), (2, .int w1)] := hl
  have rb57_i : (i 57).toInt = -9 ∨ (0 ≤ (i 57).toInt ∧ (i 57).toInt ≤ 300) := hI.1 57
  refine lv_iload_n hx hb dX12_sought_0 rfl (lv_at hl 2 rfl) ?_
  refine lv_i2l (v := w1.toInt64) hx hb dX12_sought_1 rfl ?_
  refine lv_lconst (v := 0) hx hb dX12_sought_2 (by decide +kernel) ?_
  refine lv_ldc2 (v := 2) hx hb hown (hts (.constantLong RX12 254 (2)) (List.mem_cons_of_mem _ (List.mem_append_left _ (List.mem_of_getElem? (i := 0) rfl)))) dX12_sought_3 ?_
  have hPc := hP.sub (ws' := []) [] rfl
  have hKc := hK.sub (tys' := []) [] rfl
  refine ro_calli (va_runS (As := [.long w1.toInt64, .long 0, .long 2]) (rest := []) ⟨hx, hb, hml, hown, hts⟩ (c_X12_in l D s.heap.size w1.toInt64 0 2 w1.toInt 0 2 ((Int32.toInt_toInt64 w1).trans rfl) (by decide +kernel) (by decide +kernel)) (va_cwS 3 hts gm_X12_sought_X12_in rfl rfl rfl (by decide +kernel) ⟨Nat.le_of_ble_eq_true rfl, Nat.le_of_ble_eq_true rfl⟩) (pA_S hKc hPc) rfl rfl hl.1 rfl (lv_room (Nat.le_of_ble_eq_true rfl)) dX12_sought_6 ⟨Nat.le_of_ble_eq_true rfl, Nat.le_of_ble_eq_true rfl⟩) hS hA hP (fun r1 u1 H locs hw1 hP hS => ?_)
  have hw1 : r1 = if (0 ≤ w1.toInt ∧ w1.toInt ≤ 2) then 1 else 0 := hw1
  refine lv_if_ne (tgt := 14) hx hb dX12_sought_9 (by decide +kernel) (fun c2 => ?_) (fun c2 => ?_)
  · have f2 := fl_t hw1 c2
    refine lv_iload_n hx hb dX12_sought_14 rfl (lv_at hl 1 rfl) ?_
    refine lv_i2l (v := w.toInt64) hx hb dX12_sought_15 rfl ?_
    refine lv_lconst (v := 0) hx hb dX12_sought_16 (by decide +kernel) ?_
    refine lv_aload_n hx hb dX12_sought_17 rfl (lv_at hl 0 rfl) ?_
    refine mget_57 (v := (i 57)) rfl hx hb hts (fun _ h => List.mem_cons_of_mem _ (List.mem_append_right _ h)) hown hK hP (hts (.fieldLink RX12 158 "TalePlayModel" "soughtMany" "I") (List.mem_cons_of_mem _ (List.mem_append_left _ (List.mem_of_getElem? (i := 5) rfl)))) dX12_sought_18 ?_
    refine lv_iconst (v := 1) hx hb dX12_sought_21 (by decide +kernel) ?_
    refine lv_isub hx hb dX12_sought_22 ?_
    refine lv_topi (fun x3 ex3 => ?_)
    have tx3 := ti_sub (a := (i 57).toInt) (b := 1) ex3 rfl (by decide +kernel) (by omega) (by omega)
    refine lv_i2l (v := x3.toInt64) hx hb dX12_sought_23 rfl ?_
    have hPc := hP.sub (ws' := []) [] rfl
    have hKc := hK.sub (tys' := []) [] rfl
    refine ro_calli (va_runS (As := [.long w.toInt64, .long 0, .long x3.toInt64]) (rest := []) ⟨hx, hb, hml, hown, hts⟩ (c_X12_in l D H.size w.toInt64 0 x3.toInt64 w.toInt 0 ((i 57).toInt - 1) ((Int32.toInt_toInt64 w).trans rfl) (by decide +kernel) ((Int32.toInt_toInt64 x3).trans tx3)) (va_cwS 3 hts gm_X12_sought_X12_in rfl rfl rfl (by decide +kernel) ⟨Nat.le_of_ble_eq_true rfl, Nat.le_of_ble_eq_true rfl⟩) (pA_S hKc hPc) rfl rfl hl.1 rfl (lv_room (Nat.le_of_ble_eq_true rfl)) dX12_sought_24 ⟨Nat.le_of_ble_eq_true rfl, Nat.le_of_ble_eq_true rfl⟩) hS hA hP (fun r4 u4 H locs hw4 hP hS => ?_)
    have hw4 : r4 = if (0 ≤ w.toInt ∧ w.toInt ≤ ((i 57).toInt - 1)) then 1 else 0 := hw4
    refine lv_if_eq (tgt := 43) hx hb dX12_sought_27 (by decide +kernel) (fun c5 => ?_) (fun c5 => ?_)
    · have f5 := fl_f hw4 c5
      refine lv_bipush (v := (-9)) hx hb dX12_sought_43 (by decide +kernel) ?_
      exact ro_iret hx hb hr hlocks hS dX12_sought_45 ⟨trivial, (show (¬ (0 ≤ w1.toInt ∧ w1.toInt ≤ 2) ∧ ((-9) : Int32).toInt = -1) ∨ ((0 ≤ w1.toInt ∧ w1.toInt ≤ 2) ∧ ¬ (0 ≤ w.toInt ∧ w.toInt < (i 57).toInt) ∧ ((-9) : Int32).toInt = -9) ∨ ((0 ≤ w1.toInt ∧ w1.toInt ≤ 2) ∧ 0 ≤ w.toInt ∧ w.toInt < (i 57).toInt ∧ ((-9) : Int32).toInt = (c 56 (3 * w.toInt + w1.toInt).toNat).toInt) from Or.inr (Or.inl ⟨by omega, by omega, by decide⟩))⟩
    · have f5 := fl_t hw4 c5
      refine lv_aload_n hx hb dX12_sought_30 rfl (lv_at hl 0 rfl) ?_
      refine mget_56 hx hb hts (fun _ h => List.mem_cons_of_mem _ (List.mem_append_right _ h)) hown hK hP (hts (.fieldLink RX12 123 "TalePlayModel" "soughtRow" "[I") (List.mem_cons_of_mem _ (List.mem_append_left _ (List.mem_of_getElem? (i := 6) rfl)))) dX12_sought_31 ?_
      refine lv_iconst (v := 3) hx hb dX12_sought_34 (by decide +kernel) ?_
      refine lv_iload_n hx hb dX12_sought_35 rfl (lv_at hl 1 rfl) ?_
      refine lv_imul hx hb dX12_sought_36 ?_
      refine lv_topi (fun x6 ex6 => ?_)
      have tx6 := ti_mul (a := 3) (b := w.toInt) ex6 (by decide +kernel) rfl (by omega) (by omega)
      refine lv_iload_n hx hb dX12_sought_37 rfl (lv_at hl 2 rfl) ?_
      refine lv_iadd hx hb dX12_sought_38 ?_
      refine lv_topi (fun x7 ex7 => ?_)
      have tx7 := ti_add (a := (3 * w.toInt)) (b := w1.toInt) ex7 tx6 rfl (by omega) (by omega)
      refine mld_56 hx hb hK hP (vp_in_iff.mpr (by have h9 : x7.toInt = ((3 * w.toInt) + w1.toInt) := tx7; omega)) dX12_sought_39 (fun x8 ex8 => ?_)
      have rx8 : 0 ≤ x8.toInt ∧ x8.toInt ≤ 29 := by rw [ex8]; exact hI.2 56 _
      refine lv_goto (tgt := 45) hx hb dX12_sought_40 (by decide +kernel) ?_
      exact ro_iret hx hb hr hlocks hS dX12_sought_45 ⟨trivial, (show (¬ (0 ≤ w1.toInt ∧ w1.toInt ≤ 2) ∧ x8.toInt = -1) ∨ ((0 ≤ w1.toInt ∧ w1.toInt ≤ 2) ∧ ¬ (0 ≤ w.toInt ∧ w.toInt < (i 57).toInt) ∧ x8.toInt = -9) ∨ ((0 ≤ w1.toInt ∧ w1.toInt ≤ 2) ∧ 0 ≤ w.toInt ∧ w.toInt < (i 57).toInt ∧ x8.toInt = (c 56 (3 * w.toInt + w1.toInt).toNat).toInt) from Or.inr (Or.inr ⟨by omega, by omega, by omega, by rw [ix_n (f := c 56) (s := x7) (show (x7 : Int32).toInt = 3 * w.toInt + w1.toInt from by omega) ex8]⟩))⟩
  · have f2 := fl_f hw1 c2
    refine lv_iconst (v := (-1)) hx hb dX12_sought_12 (by decide +kernel) ?_
    exact ro_iret hx hb hr hlocks hS dX12_sought_13 ⟨trivial, (show (¬ (0 ≤ w1.toInt ∧ w1.toInt ≤ 2) ∧ ((-1) : Int32).toInt = -1) ∨ ((0 ≤ w1.toInt ∧ w1.toInt ≤ 2) ∧ ¬ (0 ≤ w.toInt ∧ w.toInt < (i 57).toInt) ∧ ((-1) : Int32).toInt = -9) ∨ ((0 ≤ w1.toInt ∧ w1.toInt ≤ 2) ∧ 0 ≤ w.toInt ∧ w.toInt < (i 57).toInt ∧ ((-1) : Int32).toInt = (c 56 (3 * w.toInt + w1.toInt).toNat).toInt) from Or.inl ⟨by omega, by decide⟩)⟩

