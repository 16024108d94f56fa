set_option maxHeartbeats 4000000 in
set_option maxRecDepth 100000 in
theorem c_X6_flagged_eS (l : Launch) (D : va_G) (sz : Nat) (c1 : Int32) (f1 : Int32) (z : Int32) (a : Int) (b : Int) (e0 : Int) (ha : c1.toInt = a) (hb_ : f1.toInt = b) (he0 : z.toInt = e0) (g0 : 0 ≤ a ∧ a ≤ 16383) (g1 : 0 ≤ b ∧ b ≤ 5) : Met l yX6_flagged wm_X6_flagged ({ frames := 0, cells := 0, slots := 0, locals := 0 }) (va_Pc [.int c1, .int f1, .int z] (pA D sz [] [])) (va_Qi (fun (r : Int32) (_ : Unit) => 0 ≤ r.toInt ∧ r.toInt ≤ 16383 ∧ r.toInt % 256 = a % 256 ∧ FlB c1 r b (¬ (e0 : Int) = 0)) oA (ro sz)) 0 0 (ro sz) := by
  refine Met.ofW (cc := cX6_flagged) (maxL := 4) (ret := (some .int)) (by decide +kernel) rfl ?_
  intro p e s m args below meth c s₁ B hml hv
  obtain ⟨rfl, hsz, hP, hK⟩ := hv
  have hx := B.exec
  have hb := B.bytes
  have hr := B.returns
  have hts := atoms_spec (ws := wm_X6_flagged) B.pre
  have hown : s.vm.findClass RX6 = some m.cls := findClass_of_methodNamed B.named
  have hlocks := B.notSynchronized
  subst hsz
  have hA : ∀ q : Nat, s.heap.size ≤ q → ro s.heap.size q := fun _ h => h
  have hS : va_S (ro s.heap.size) s.heap s.heap [] := va_S.rf
  have hP : va_P D vwCl [] s.heap := hP
  have hl := lv_entry ([.int c1, .int f1, .int z]) (n := 4) (Nat.le_of_ble_eq_true rfl)
  rw [lg_entry_eq]
  generalize (lg_sl ([.int c1, .int f1, .int z]) ++ List.replicate (4 - (lg_sl ([.int c1, .int f1, .int z])).length) Slot.unset).toArray = ls at hl ⊢
  have hl : lv_has ls 4 [(0, .int c1), (1, .int f1), (2, .int z)] := hl
  refine lv_iconst (v := 1) hx hb dX6_flagged_0 (by decide +kernel) ?_
  refine lv_bipush (v := 8) hx hb dX6_flagged_1 (by decide +kernel) ?_
  refine lv_iload_n hx hb dX6_flagged_3 rfl (lv_at hl 1 rfl) ?_
  refine lv_iadd hx hb dX6_flagged_4 ?_
  refine lv_topi (fun x1 ex1 => ?_)
  have tx1 := ti_add (a := 8) (b := b) ex1 (by decide +kernel) hb_ (by omega) (by omega)
  refine lv_ishl hx hb dX6_flagged_5 ?_
  refine lv_topi (fun x2 ex2 => ?_)
  refine lv_istore_n (lv' := [(3, .int x2), (0, .int c1), (1, .int f1), (2, .int z)]) hx hb dX6_flagged_6 rfl hl (by decide +kernel) rfl (fun ls hl => ?_)
  refine lv_iload_n hx hb dX6_flagged_7 rfl (lv_at hl 3 rfl) ?_
  refine lv_if_eq (tgt := 17) hx hb dX6_flagged_8 (by decide +kernel) (fun c3 => ?_) (fun c3 => ?_)
  · have f3 := (ti_eq (a := e0) (b := 0) he0 (by decide +kernel)).mp c3
    refine lv_iload_n hx hb dX6_flagged_17 rfl (lv_at hl 1 rfl) ?_
    refine lv_iload_n hx hb dX6_flagged_18 rfl (lv_at hl 0 rfl) ?_
    refine lv_iconst (v := (-1)) hx hb dX6_flagged_19 (by decide +kernel) ?_
    refine lv_ixor hx hb dX6_flagged_20 ?_
    refine lv_topi (fun x4 ex4 => ?_)
    refine lv_iand hx hb dX6_flagged_21 ?_
    refine lv_topi (fun x5 ex5 => ?_)
    exact ro_iret hx hb hr hlocks hS dX6_flagged_22 (by have hb9 := flag_b (f := f1) (x := x1) (b := x2) (by rw [hb_]; exact g1) (by rw [hb_]; exact tx1) ex2; have h9 := flag_and (c := c1) _ hb9.2 (by rw [ha]; exact g0) hb9.1 ex4 ex5; rw [ha] at h9; exact ⟨h9.1, h9.2.1, h9.2.2, FlB_off hb9.2 hb9.1 ex4 ex5 (by rw [hb_]; omega) (by omega)⟩)
  · have f3 := mt (ti_eq (a := e0) (b := 0) he0 (by decide +kernel)).mpr c3
    refine lv_iload_n hx hb dX6_flagged_11 rfl (lv_at hl 1 rfl) ?_
    refine lv_iload_n hx hb dX6_flagged_12 rfl (lv_at hl 0 rfl) ?_
    refine lv_ior hx hb dX6_flagged_13 ?_
    refine lv_topi (fun x6 ex6 => ?_)
    refine lv_goto (tgt := 22) hx hb dX6_flagged_14 (by decide +kernel) ?_
    exact ro_iret hx hb hr hlocks hS dX6_flagged_22 (by have hb9 := flag_b (f := f1) (x := x1) (b := x2) (by rw [hb_]; exact g1) (by rw [hb_]; exact tx1) ex2; have h9 := flag_or (c := c1) _ hb9.2 (by rw [ha]; exact g0) hb9.1 ex6; rw [ha] at h9; exact ⟨h9.1, h9.2.1, h9.2.2, FlB_on hb9.2 hb9.1 ex6 (by rw [hb_]; omega) (by omega)⟩)

def wm_X0_placedAs_eSA : List Cond := .code yX0_placedAs cX0_placedAs 3 (some .int) :: (([.fieldLink RX0 33 "TalePlay$Acts" "scene" "LTalePlay$Scene;", .methodLink RX0 80 yX6_formOf, .instanceMethod yX6_formOf, .selects RX6 yX6_formOf yX6_formOf, .initialized RX6, .code yX6_formOf cX6_formOf 3 (some .int), .fieldLink RX6 9 "TalePlay$Scene" "cells" "[I", .methodLink RX0 83 yX6_holderOf, .instanceMethod yX6_holderOf, .selects RX6 yX6_holderOf yX6_holderOf, .code yX6_holderOf cX6_holderOf 3 (some .int), .methodLink RX0 155 yX6_placed, .static yX6_placed, .code yX6_placed cX6_placed 3 (some .int)] : List Cond) ++ wsX00 ++ wsX60)
set_option maxRecDepth 20000 in
theorem gm_X0_placedAs_eSA_X6_formOf_SS_80 : GoodIn wm_X0_placedAs_eSA (wsV RX0 80 RX6 yX6_formOf wm_X6_formOf_SS) := goodIn_w (List.forall_mem_append.mpr ⟨List.forall_mem_cons.mpr ⟨List.mem_cons_of_mem _ (List.mem_append_left _ (List.mem_append_left _ (List.mem_of_getElem? (i := 1) rfl))), List.forall_mem_cons.mpr ⟨List.mem_cons_of_mem _ (List.mem_append_left _ (List.mem_append_left _ (List.mem_of_getElem? (i := 2) rfl))), List.forall_mem_cons.mpr ⟨List.mem_cons_of_mem _ (List.mem_append_left _ (List.mem_append_left _ (List.mem_of_getElem? (i := 3) rfl))), List.forall_mem_cons.mpr ⟨List.mem_cons_of_mem _ (List.mem_append_left _ (List.mem_append_left _ (List.mem_of_getElem? (i := 4) rfl))), (fun _ h => absurd h List.not_mem_nil)⟩⟩⟩⟩, List.forall_mem_cons.mpr ⟨List.mem_cons_of_mem _ (List.mem_append_left _ (List.mem_append_left _ (List.mem_of_getElem? (i := 5) rfl))), List.forall_mem_append.mpr ⟨List.forall_mem_cons.mpr ⟨List.mem_cons_of_mem _ (List.mem_append_left _ (List.mem_append_left _ (List.mem_of_getElem? (i := 6) rfl))), (fun _ h => absurd h List.not_mem_nil)⟩, (fun _ h => List.mem_cons_of_mem _ (List.mem_append_right _ h))⟩⟩⟩) (by decide +kernel)
set_option maxRecDepth 20000 in
theorem gm_X0_placedAs_eSA_X6_holderOf_SS_83 : GoodIn wm_X0_placedAs_eSA (wsV RX0 83 RX6 yX6_holderOf wm_X6_holderOf_SS) := goodIn_w (List.forall_mem_append.mpr ⟨List.forall_mem_cons.mpr ⟨List.mem_cons_of_mem _ (List.mem_append_left _ (List.mem_append_left _ (List.mem_of_getElem? (i := 7) rfl))), List.forall_mem_cons.mpr ⟨List.mem_cons_of_mem _ (List.mem_append_left _ (List.mem_append_left _ (List.mem_of_getElem? (i := 8) rfl))), List.forall_mem_cons.mpr ⟨List.mem_cons_of_mem _ (List.mem_append_left _ (List.mem_append_left _ (List.mem_of_getElem? (i := 9) rfl))), List.forall_mem_cons.mpr ⟨List.mem_cons_of_mem _ (List.mem_append_left _ (List.mem_append_left _ (List.mem_of_getElem? (i := 4) rfl))), (fun _ h => absurd h List.not_mem_nil)⟩⟩⟩⟩, List.forall_mem_cons.mpr ⟨List.mem_cons_of_mem _ (List.mem_append_left _ (List.mem_append_left _ (List.mem_of_getElem? (i := 10) rfl))), List.forall_mem_append.mpr ⟨List.forall_mem_cons.mpr ⟨List.mem_cons_of_mem _ (List.mem_append_left _ (List.mem_append_left _ (List.mem_of_getElem? (i := 6) rfl))), (fun _ h => absurd h List.not_mem_nil)⟩, (fun _ h => List.mem_cons_of_mem _ (List.mem_append_right _ h))⟩⟩⟩) (by decide +kernel)
set_option maxRecDepth 20000 in
theorem gm_X0_placedAs_eSA_X6_placed_155 : GoodIn wm_X0_placedAs_eSA (va_wsS RX0 155 yX6_placed wm_X6_placed) := goodIn_w (List.forall_mem_append.mpr ⟨List.forall_mem_cons.mpr ⟨List.mem_cons_of_mem _ (List.mem_append_left _ (List.mem_append_left _ (List.mem_of_getElem? (i := 11) rfl))), List.forall_mem_cons.mpr ⟨List.mem_cons_of_mem _ (List.mem_append_left _ (List.mem_append_left _ (List.mem_of_getElem? (i := 12) rfl))), List.forall_mem_cons.mpr ⟨List.mem_cons_of_mem _ (List.mem_append_left _ (List.mem_append_left _ (List.mem_of_getElem? (i := 4) rfl))), (fun _ h => absurd h List.not_mem_nil)⟩⟩⟩, List.forall_mem_cons.mpr ⟨List.mem_cons_of_mem _ (List.mem_append_left _ (List.mem_append_left _ (List.mem_of_getElem? (i := 13) rfl))), (fun _ h => absurd h List.not_mem_nil)⟩⟩) (by decide +kernel)
set_option maxHeartbeats 4000000 in
set_option maxRecDepth 100000 in
theorem x_X0_placedAs_eSA (l : Launch) (D : va_G) (sz : Nat) (sk : Value) (a : Nat → Nat) (t : Nat → ClassId) (i : Nat → Int32) (q : Int64) (c : Nat → Nat → Int32) (d : Nat → Nat → Int64) (c1 : Int32) (w : Int32) (hI : xInv i c) (hc1 : 0 ≤ c1.toInt ∧ c1.toInt ≤ 16383) (hw : 0 ≤ w.toInt ∧ w.toInt ≤ 29) (hpm : ¬ (c 179 w.toNatClampNeg).toInt % 256 = 255) : Met l yX0_placedAs wm_X0_placedAs_eSA ({ frames := 1, cells := 0, slots := 0, locals := 22 }) (va_Pc [.ref (a 184), .int c1, .int w] (yA (a 186) D sz (xwS sk a t i q c d) (xtS t))) (va_Qi (fun (r : Int32) (_ : Unit) => ((0 ≤ r.toInt ∧ r.toInt ≤ 16383 ∧ ¬ r.toInt % 256 = 255 ∧ r.toInt % 8 ≤ 4 ∧ r.toInt / 8 % 32 ≤ 29) ∧ (r.toInt = c1.toInt / 256 * 256 + (hF (c 179)) w.toInt * 8 + (fX (c 179)) w.toInt))) oA (ro sz)) 0 0 (ro sz) := by
  refine Met.ofW (cc := cX0_placedAs) (maxL := 3) (ret := (some .int)) (by decide +kernel) rfl ?_
  intro p e s m args below meth cd s₁ B hml hv
  obtain ⟨rfl, ⟨hsz, hP, hK⟩, hN, hZ⟩ := hv
  have hx := B.exec
  have hb := B.bytes
  have hr := B.returns
  have hts := atoms_spec (ws := wm_X0_placedAs_eSA) B.pre
  have hown : s.vm.findClass RX0 = some m.cls := findClass_of_methodNamed B.named
  have hlocks := B.notSynchronized
  subst hsz
  have hA : ∀ q : Nat, s.heap.size ≤ q → ro s.heap.size q := fun _ h => h
  have hS : va_S (ro s.heap.size) s.heap s.heap [] := va_S.rf
  have hl := lv_entry ([.ref (a 184), .int c1, .int w]) (n := 3) (Nat.le_of_ble_eq_true rfl)
  rw [lg_entry_eq]
  generalize (lg_sl ([.ref (a 184), .int c1, .int w]) ++ List.replicate (3 - (lg_sl ([.ref (a 184), .int c1, .int w])).length) Slot.unset).toArray = ls at hl ⊢
  have hl : lv_has ls 3 [(0, .ref (a 184)), (1, .int c1), (2, .int w)] := hl
  refine lv_iload_n hx hb dX0_placedAs_0 rfl (lv_at hl 1 rfl) ?_
  refine lv_aload_n hx hb dX0_placedAs_1 rfl (lv_at hl 0 rfl) ?_
  refine xgS_SA_scene hx hb hts (fun _ h => List.mem_cons_of_mem _ (List.mem_append_left _ (List.mem_append_right _ h))) hown hK hP (hts (.fieldLink RX0 33 "TalePlay$Acts" "scene" "LTalePlay$Scene;") (List.mem_cons_of_mem _ (List.mem_append_left _ (List.mem_append_left _ (List.mem_of_getElem? (i := 0) rfl))))) dX0_placedAs_2 ?_
  refine lv_iload_n hx hb dX0_placedAs_5 rfl (lv_at hl 2 rfl) ?_
  refine ro_calli (va_runV (As := [.int w]) (rest := [.int c1]) ⟨hx, hb, hml, hown, hts⟩ (x_X6_formOf_SS l D s.heap.size .null a t i q c d w hI (show 0 ≤ w.toInt ∧ w.toInt ≤ 29 from by omega)) (cwV 1 hts gm_X0_placedAs_eSA_X6_formOf_SS_80 rfl rfl rfl (by decide +kernel) ⟨Nat.le_of_ble_eq_true rfl, Nat.le_of_ble_eq_true rfl⟩) (yA_V hN (xZ_k hZ hS hA) (xkS_P2 hK) (xuS_P2 (sk := sk) hP) (ci := 6) (q0 := 0) rfl rfl) rfl rfl hl.1 rfl (lv_room (Nat.le_of_ble_eq_true rfl)) dX0_placedAs_6 ⟨Nat.le_of_ble_eq_true rfl, Nat.le_of_ble_eq_true rfl⟩) hS hA hP (fun r1 u1 H locs hw1 hP hS => ?_)
  have hw1 : ((r1.toInt = -9 ∧ (c 179 w.toNatClampNeg).toInt % 256 = 255) ∨ (0 ≤ r1.toInt ∧ r1.toInt ≤ 4 ∧ ¬ (c 179 w.toNatClampNeg).toInt % 256 = 255 ∧ r1.toInt = (c 179 w.toNatClampNeg).toInt % 8)) := hw1
  have hf9 : (fX (c 179)) w.toInt = r1.toInt := fX_at (by omega) hw1
  refine lv_aload_n hx hb dX0_placedAs_9 rfl (lv_at hl 0 rfl) ?_
  refine xgS_SA_scene hx hb hts (fun _ h => List.mem_cons_of_mem _ (List.mem_append_left _ (List.mem_append_right _ h))) hown hK hP (hts (.fieldLink RX0 33 "TalePlay$Acts" "scene" "LTalePlay$Scene;") (List.mem_cons_of_mem _ (List.mem_append_left _ (List.mem_append_left _ (List.mem_of_getElem? (i := 0) rfl))))) dX0_placedAs_10 ?_
  refine lv_iload_n hx hb dX0_placedAs_13 rfl (lv_at hl 2 rfl) ?_
  refine ro_calli (va_runV (As := [.int w]) (rest := [.int r1, .int c1]) ⟨hx, hb, hml, hown, hts⟩ (x_X6_holderOf_SS l D H.size .null a t i q c d w hI (show 0 ≤ w.toInt ∧ w.toInt ≤ 29 from by omega)) (cwV 1 hts gm_X0_placedAs_eSA_X6_holderOf_SS_83 rfl rfl rfl (by decide +kernel) ⟨Nat.le_of_ble_eq_true rfl, Nat.le_of_ble_eq_true rfl⟩) (yA_V hN (xZ_k hZ hS hA) (xkS_P2 hK) (xuS_P2 (sk := sk) hP) (ci := 6) (q0 := 0) rfl rfl) rfl rfl hl.1 rfl (lv_room (Nat.le_of_ble_eq_true rfl)) dX0_placedAs_14 ⟨Nat.le_of_ble_eq_true rfl, Nat.le_of_ble_eq_true rfl⟩) hS hA hP (fun r2 u2 H locs hw2 hP hS => ?_)
  have hw2 : ((r2.toInt = -9 ∧ (c 179 w.toNatClampNeg).toInt % 256 = 255) ∨ (0 ≤ r2.toInt ∧ r2.toInt ≤ 29 ∧ ¬ (c 179 w.toNatClampNeg).toInt % 256 = 255 ∧ r2.toInt = (c 179 w.toNatClampNeg).toInt / 8 % 32)) := hw2
  have hh9 : (hF (c 179)) w.toInt = r2.toInt := hF_at (by omega) hw2
  have hPc := hP.sub (ws' := []) [] rfl
  have hKc := hK.sub (tys' := []) [] rfl
  refine ro_calli (va_runS (As := [.int c1, .int r1, .int r2]) (rest := []) ⟨hx, hb, hml, hown, hts⟩ (c_X6_placed l D H.size c1 r1 r2 c1.toInt r1.toInt r2.toInt rfl rfl rfl (by omega) (by omega) (by omega)) (va_cwS 3 hts gm_X0_placedAs_eSA_X6_placed_155 rfl rfl rfl (by decide +kernel) ⟨Nat.le_of_ble_eq_true rfl, Nat.le_of_ble_eq_true rfl⟩) (pA_S hKc hPc) rfl rfl hl.1 rfl (lv_room (Nat.le_of_ble_eq_true rfl)) dX0_placedAs_17 ⟨Nat.le_of_ble_eq_true rfl, Nat.le_of_ble_eq_true rfl⟩) hS hA hP (fun r4 u4 H locs hw4 hP hS => ?_)
  have hw4 : r4.toInt = c1.toInt / 256 * 256 + r2.toInt * 8 + r1.toInt := hw4
  exact ro_iret hx hb hr hlocks hS dX0_placedAs_20 ⟨(show 0 ≤ r4.toInt ∧ r4.toInt ≤ 16383 ∧ ¬ r4.toInt % 256 = 255 ∧ r4.toInt % 8 ≤ 4 ∧ r4.toInt / 8 % 32 ≤ 29 from by omega), (show r4.toInt = c1.toInt / 256 * 256 + (hF (c 179)) w.toInt * 8 + (fX (c 179)) w.toInt from by rw [hf9, hh9]; exact hw4)⟩

