def wm_X11_place_e : List Cond := .code yX11_place cX11_place 3 (some .int) :: ((([.fieldLink RX11 10 "TalePlay" "world" "LTalePlay$World;", .methodLink RX11 109 yX10_hasObject, .instanceMethod yX10_hasObject, .selects RX10 yX10_hasObject yX10_hasObject, .initialized RX10, .code yX10_hasObject cX10_hasObject 2 (some .boolean), .fieldLink RX10 37 "TalePlay$World" "objects" "I", .methodLink RX11 91 yX11_isBelow, .static yX11_isBelow, .initialized RX11, .code yX11_isBelow cX11_isBelow 2 (some .boolean), .fieldLink RX11 21 "TalePlay" "book" "LTalePlay$Book;", .fieldLink RX11 214 "TalePlay$Book" "placeBy" "[I", .fieldLink RX11 203 "TalePlay$Book" "places" "LTalePlay$Scene;", .methodLink RX11 206 yX6_formOf, .instanceMethod yX6_formOf] : List Cond) ++ ([.selects RX6 yX6_formOf yX6_formOf, .initialized RX6, .code yX6_formOf cX6_formOf 3 (some .int), .fieldLink RX6 9 "TalePlay$Scene" "cells" "[I", .methodLink RX11 211 yX6_holderOf, .instanceMethod yX6_holderOf, .selects RX6 yX6_holderOf yX6_holderOf, .code yX6_holderOf cX6_holderOf 3 (some .int)] : List Cond)) ++ wsX110 ++ wsX100 ++ wsX10 ++ wsX60)
set_option maxRecDepth 20000 in
theorem gm_X11_place_e_X10_hasObject_109 : GoodIn wm_X11_place_e (wsV RX11 109 RX10 yX10_hasObject wm_X10_hasObject) := goodIn_w (List.forall_mem_append.mpr ⟨List.forall_mem_cons.mpr ⟨List.mem_cons_of_mem _ (List.mem_append_left _ (List.mem_append_left _ (List.mem_append_left _ (List.mem_append_left _ (List.mem_append_left _ (List.mem_of_getElem? (i := 1) rfl)))))), List.forall_mem_cons.mpr ⟨List.mem_cons_of_mem _ (List.mem_append_left _ (List.mem_append_left _ (List.mem_append_left _ (List.mem_append_left _ (List.mem_append_left _ (List.mem_of_getElem? (i := 2) rfl)))))), List.forall_mem_cons.mpr ⟨List.mem_cons_of_mem _ (List.mem_append_left _ (List.mem_append_left _ (List.mem_append_left _ (List.mem_append_left _ (List.mem_append_left _ (List.mem_of_getElem? (i := 3) rfl)))))), List.forall_mem_cons.mpr ⟨List.mem_cons_of_mem _ (List.mem_append_left _ (List.mem_append_left _ (List.mem_append_left _ (List.mem_append_left _ (List.mem_append_left _ (List.mem_of_getElem? (i := 4) rfl)))))), (fun _ h => absurd h List.not_mem_nil)⟩⟩⟩⟩, List.forall_mem_cons.mpr ⟨List.mem_cons_of_mem _ (List.mem_append_left _ (List.mem_append_left _ (List.mem_append_left _ (List.mem_append_left _ (List.mem_append_left _ (List.mem_of_getElem? (i := 5) rfl)))))), List.forall_mem_append.mpr ⟨List.forall_mem_cons.mpr ⟨List.mem_cons_of_mem _ (List.mem_append_left _ (List.mem_append_left _ (List.mem_append_left _ (List.mem_append_left _ (List.mem_append_left _ (List.mem_of_getElem? (i := 6) rfl)))))), (fun _ h => absurd h List.not_mem_nil)⟩, (fun _ h => List.mem_cons_of_mem _ (List.mem_append_left _ (List.mem_append_left _ (List.mem_append_right _ h))))⟩⟩⟩) (by decide +kernel)
set_option maxRecDepth 20000 in
theorem gm_X11_place_e_X11_isBelow_91 : GoodIn wm_X11_place_e (va_wsS RX11 91 yX11_isBelow wm_X11_isBelow) := goodIn_w (List.forall_mem_append.mpr ⟨List.forall_mem_cons.mpr ⟨List.mem_cons_of_mem _ (List.mem_append_left _ (List.mem_append_left _ (List.mem_append_left _ (List.mem_append_left _ (List.mem_append_left _ (List.mem_of_getElem? (i := 7) rfl)))))), List.forall_mem_cons.mpr ⟨List.mem_cons_of_mem _ (List.mem_append_left _ (List.mem_append_left _ (List.mem_append_left _ (List.mem_append_left _ (List.mem_append_left _ (List.mem_of_getElem? (i := 8) rfl)))))), List.forall_mem_cons.mpr ⟨List.mem_cons_of_mem _ (List.mem_append_left _ (List.mem_append_left _ (List.mem_append_left _ (List.mem_append_left _ (List.mem_append_left _ (List.mem_of_getElem? (i := 9) rfl)))))), (fun _ h => absurd h List.not_mem_nil)⟩⟩⟩, List.forall_mem_cons.mpr ⟨List.mem_cons_of_mem _ (List.mem_append_left _ (List.mem_append_left _ (List.mem_append_left _ (List.mem_append_left _ (List.mem_append_left _ (List.mem_of_getElem? (i := 10) rfl)))))), (fun _ h => absurd h List.not_mem_nil)⟩⟩) (by decide +kernel)
set_option maxRecDepth 20000 in
theorem gm_X11_place_e_X6_formOf_BP_206 : GoodIn wm_X11_place_e (wsV RX11 206 RX6 yX6_formOf wm_X6_formOf_BP) := goodIn_w (List.forall_mem_append.mpr ⟨List.forall_mem_cons.mpr ⟨List.mem_cons_of_mem _ (List.mem_append_left _ (List.mem_append_left _ (List.mem_append_left _ (List.mem_append_left _ (List.mem_append_left _ (List.mem_of_getElem? (i := 14) rfl)))))), List.forall_mem_cons.mpr ⟨List.mem_cons_of_mem _ (List.mem_append_left _ (List.mem_append_left _ (List.mem_append_left _ (List.mem_append_left _ (List.mem_append_left _ (List.mem_of_getElem? (i := 15) rfl)))))), List.forall_mem_cons.mpr ⟨List.mem_cons_of_mem _ (List.mem_append_left _ (List.mem_append_left _ (List.mem_append_left _ (List.mem_append_left _ (List.mem_append_right _ (List.mem_of_getElem? (i := 0) rfl)))))), List.forall_mem_cons.mpr ⟨List.mem_cons_of_mem _ (List.mem_append_left _ (List.mem_append_left _ (List.mem_append_left _ (List.mem_append_left _ (List.mem_append_right _ (List.mem_of_getElem? (i := 1) rfl)))))), (fun _ h => absurd h List.not_mem_nil)⟩⟩⟩⟩, List.forall_mem_cons.mpr ⟨List.mem_cons_of_mem _ (List.mem_append_left _ (List.mem_append_left _ (List.mem_append_left _ (List.mem_append_left _ (List.mem_append_right _ (List.mem_of_getElem? (i := 2) rfl)))))), List.forall_mem_append.mpr ⟨List.forall_mem_cons.mpr ⟨List.mem_cons_of_mem _ (List.mem_append_left _ (List.mem_append_left _ (List.mem_append_left _ (List.mem_append_left _ (List.mem_append_right _ (List.mem_of_getElem? (i := 3) rfl)))))), (fun _ h => absurd h List.not_mem_nil)⟩, (fun _ h => List.mem_cons_of_mem _ (List.mem_append_right _ h))⟩⟩⟩) (by decide +kernel)
set_option maxRecDepth 20000 in
theorem gm_X11_place_e_X6_holderOf_BP_211 : GoodIn wm_X11_place_e (wsV RX11 211 RX6 yX6_holderOf wm_X6_holderOf_BP) := goodIn_w (List.forall_mem_append.mpr ⟨List.forall_mem_cons.mpr ⟨List.mem_cons_of_mem _ (List.mem_append_left _ (List.mem_append_left _ (List.mem_append_left _ (List.mem_append_left _ (List.mem_append_right _ (List.mem_of_getElem? (i := 4) rfl)))))), List.forall_mem_cons.mpr ⟨List.mem_cons_of_mem _ (List.mem_append_left _ (List.mem_append_left _ (List.mem_append_left _ (List.mem_append_left _ (List.mem_append_right _ (List.mem_of_getElem? (i := 5) rfl)))))), List.forall_mem_cons.mpr ⟨List.mem_cons_of_mem _ (List.mem_append_left _ (List.mem_append_left _ (List.mem_append_left _ (List.mem_append_left _ (List.mem_append_right _ (List.mem_of_getElem? (i := 6) rfl)))))), List.forall_mem_cons.mpr ⟨List.mem_cons_of_mem _ (List.mem_append_left _ (List.mem_append_left _ (List.mem_append_left _ (List.mem_append_left _ (List.mem_append_right _ (List.mem_of_getElem? (i := 1) rfl)))))), (fun _ h => absurd h List.not_mem_nil)⟩⟩⟩⟩, List.forall_mem_cons.mpr ⟨List.mem_cons_of_mem _ (List.mem_append_left _ (List.mem_append_left _ (List.mem_append_left _ (List.mem_append_left _ (List.mem_append_right _ (List.mem_of_getElem? (i := 7) rfl)))))), List.forall_mem_append.mpr ⟨List.forall_mem_cons.mpr ⟨List.mem_cons_of_mem _ (List.mem_append_left _ (List.mem_append_left _ (List.mem_append_left _ (List.mem_append_left _ (List.mem_append_right _ (List.mem_of_getElem? (i := 3) rfl)))))), (fun _ h => absurd h List.not_mem_nil)⟩, (fun _ h => List.mem_cons_of_mem _ (List.mem_append_right _ h))⟩⟩⟩) (by decide +kernel)
set_option maxHeartbeats 4000000 in
set_option maxRecDepth 100000 in
theorem x_X11_place_e (l : Launch) (D : va_G) (sz : Nat) (sk : Value) (a : Nat → Nat) (t : Nat → ClassId) (i : Nat → Int32) (q : Int64) (c : Nat → Nat → Int32) (d : Nat → Nat → Int64) (w : Int32) (w1 : Int32) (hI : xInv i c) : Met l yX11_place wm_X11_place_e ({ frames := 1, cells := 0, slots := 0, locals := 22 }) (va_Pc [.ref (a 100), .int w, .int w1] (yA (a 186) D sz (xwT sk a t i q c d) (xtT t))) (va_Qi (fun (r : Int32) (_ : Unit) => (True ∧ (PcX (c 127) (c 118) (i 111).toInt w.toInt w1.toInt r.toInt))) oA (ro sz)) 0 0 (ro sz) := by
  refine Met.ofW (cc := cX11_place) (maxL := 3) (ret := (some .int)) (by decide +kernel) rfl ?_
  intro p e s m args below meth cd s₁ B hml hv
  obtain ⟨rfl, ⟨hsz, hP, hK⟩, hN, hZ⟩ := hv
  have hx := B.exec
  have hb := B.bytes
  have hr := B.returns
  have hts := atoms_spec (ws := wm_X11_place_e) B.pre
  have hown : s.vm.findClass RX11 = some m.cls := findClass_of_methodNamed B.named
  have hlocks := B.notSynchronized
  subst hsz
  have hA : ∀ q : Nat, s.heap.size ≤ q → ro s.heap.size q := fun _ h => h
  have hS : va_S (ro s.heap.size) s.heap s.heap [] := va_S.rf
  have hl := lv_entry ([.ref (a 100), .int w, .int w1]) (n := 3) (Nat.le_of_ble_eq_true rfl)
  rw [lg_entry_eq]
  generalize (lg_sl ([.ref (a 100), .int w, .int w1]) ++ List.replicate (3 - (lg_sl ([.ref (a 100), .int w, .int w1])).length) Slot.unset).toArray = ls at hl ⊢
  have hl : lv_has ls 3 [(0, .ref (a 100)), (1, .int w), (2, .int w1)] := hl
  have rb111_i : 0 ≤ (i 111).toInt ∧ (i 111).toInt ≤ 30 := hI.1 111
  refine lv_aload_n hx hb dX11_place_0 rfl (lv_at hl 0 rfl) ?_
  refine xgT_X_world hx hb hts (fun _ h => List.mem_cons_of_mem _ (List.mem_append_left _ (List.mem_append_left _ (List.mem_append_left _ (List.mem_append_right _ h))))) hown hK hP (hts (.fieldLink RX11 10 "TalePlay" "world" "LTalePlay$World;") (List.mem_cons_of_mem _ (List.mem_append_left _ (List.mem_append_left _ (List.mem_append_left _ (List.mem_append_left _ (List.mem_append_left _ (List.mem_of_getElem? (i := 0) rfl)))))))) dX11_place_1 ?_
  refine lv_iload_n hx hb dX11_place_4 rfl (lv_at hl 1 rfl) ?_
  refine ro_calli (va_runV (As := [.int w]) (rest := []) ⟨hx, hb, hml, hown, hts⟩ (x_X10_hasObject l D s.heap.size .null a t i q c d w hI ) (cwV 1 hts gm_X11_place_e_X10_hasObject_109 rfl rfl rfl (by decide +kernel) ⟨Nat.le_of_ble_eq_true rfl, Nat.le_of_ble_eq_true rfl⟩) (yA_V hN (xZ_k hZ hS hA) (xkT_W hK) (xuT_W (sk := sk) hP) (ci := 10) (q0 := 0) rfl rfl) rfl rfl hl.1 rfl (lv_room (Nat.le_of_ble_eq_true rfl)) dX11_place_5 ⟨Nat.le_of_ble_eq_true rfl, Nat.le_of_ble_eq_true rfl⟩) hS hA hP (fun r1 u1 H locs hw1 hP hS => ?_)
  have hw1 : r1 = if (0 ≤ w.toInt ∧ w.toInt < (i 111).toInt) then 1 else 0 := hw1
  refine lv_if_eq (tgt := 19) hx hb dX11_place_8 (by decide +kernel) (fun c2 => ?_) (fun c2 => ?_)
  · have f2 := fl_f hw1 c2
    refine lv_iconst (v := (-1)) hx hb dX11_place_19 (by decide +kernel) ?_
    exact ro_iret hx hb hr hlocks hS dX11_place_20 ⟨trivial, (show PcX (c 127) (c 118) (i 111).toInt w.toInt w1.toInt ((-1) : Int32).toInt from Or.inl ⟨by omega, by decide⟩)⟩
  · have f2 := fl_t hw1 c2
    refine lv_iload_n hx hb dX11_place_11 rfl (lv_at hl 2 rfl) ?_
    refine lv_iconst (v := 3) hx hb dX11_place_12 (by decide +kernel) ?_
    have hPc := hP.sub (ws' := []) [] rfl
    have hKc := hK.sub (tys' := []) [] rfl
    refine ro_calli (va_runS (As := [.int w1, .int 3]) (rest := []) ⟨hx, hb, hml, hown, hts⟩ (c_X11_isBelow l D H.size w1 3 w1.toInt 3 rfl (by decide +kernel)) (va_cwS 2 hts gm_X11_place_e_X11_isBelow_91 rfl rfl rfl (by decide +kernel) ⟨Nat.le_of_ble_eq_true rfl, Nat.le_of_ble_eq_true rfl⟩) (pA_S hKc hPc) rfl rfl hl.1 rfl (lv_room (Nat.le_of_ble_eq_true rfl)) dX11_place_13 ⟨Nat.le_of_ble_eq_true rfl, Nat.le_of_ble_eq_true rfl⟩) hS hA hP (fun r4 u4 H locs hw4 hP hS => ?_)
    have hw4 : r4 = if (0 ≤ w1.toInt ∧ w1.toInt < 3) then 1 else 0 := hw4
    refine lv_if_ne (tgt := 21) hx hb dX11_place_16 (by decide +kernel) (fun c5 => ?_) (fun c5 => ?_)
    · have f5 := fl_t hw4 c5
      refine lv_iload_n hx hb dX11_place_21 rfl (lv_at hl 2 rfl) ?_
      rcases (show (w1.toInt ≠ 0 ∧ w1.toInt ≠ 1) ∨ w1.toInt = 0 ∨ w1.toInt = 1 by omega) with f6 | f6 | f6
      · refine lv_lookup (off := 54) (tgt := 76) hx hb dX11_place_22 (by decide +kernel) (by show (if (0 : Int) = w1.toInt then (26 : Int) else (if (1 : Int) = w1.toInt then (40 : Int) else 54)) = 54; rw [if_neg (fun e9 => f6.1 e9.symm), if_neg (fun e9 => f6.2 e9.symm)]) (by decide +kernel) ?_
        refine lv_aload_n hx hb dX11_place_76 rfl (lv_at hl 0 rfl) ?_
        refine xgT_X_book hx hb hts (fun _ h => List.mem_cons_of_mem _ (List.mem_append_left _ (List.mem_append_left _ (List.mem_append_left _ (List.mem_append_right _ h))))) hown hK hP (hts (.fieldLink RX11 21 "TalePlay" "book" "LTalePlay$Book;") (List.mem_cons_of_mem _ (List.mem_append_left _ (List.mem_append_left _ (List.mem_append_left _ (List.mem_append_left _ (List.mem_append_left _ (List.mem_of_getElem? (i := 11) rfl)))))))) dX11_place_77 ?_
        refine xgT_B_placeBy hx hb hts (fun _ h => List.mem_cons_of_mem _ (List.mem_append_left _ (List.mem_append_right _ h))) hown hK hP (hts (.fieldLink RX11 214 "TalePlay$Book" "placeBy" "[I") (List.mem_cons_of_mem _ (List.mem_append_left _ (List.mem_append_left _ (List.mem_append_left _ (List.mem_append_left _ (List.mem_append_left _ (List.mem_of_getElem? (i := 12) rfl)))))))) dX11_place_80 ?_
        refine lv_iload_n hx hb dX11_place_83 rfl (lv_at hl 1 rfl) ?_
        refine xlT_118 hx hb hK hP (vp_in_iff.mpr (by have h9 : w.toInt = w.toInt := rfl; omega)) dX11_place_84 (fun x7 ex7 => ?_)
        have rx7 : x7.toInt = -9 ∨ (0 ≤ x7.toInt ∧ x7.toInt ≤ 199) := by rw [ex7]; exact hI.2 118 _
        have gx7 : (c 118 (w : Int32).toNatClampNeg).toInt = x7.toInt := (congrArg Int32.toInt ex7).symm
        exact ro_iret hx hb hr hlocks hS dX11_place_85 ⟨trivial, (show PcX (c 127) (c 118) (i 111).toInt w.toInt w1.toInt x7.toInt from Or.inr ⟨by omega, by have h9 : (c 118 w.toInt.toNat).toInt = x7.toInt := gx7; omega⟩)⟩
      · refine lv_lookup (off := 26) (tgt := 48) hx hb dX11_place_22 (by decide +kernel) (by rw [f6]; rfl) (by decide +kernel) ?_
        refine lv_aload_n hx hb dX11_place_48 rfl (lv_at hl 0 rfl) ?_
        refine xgT_X_book hx hb hts (fun _ h => List.mem_cons_of_mem _ (List.mem_append_left _ (List.mem_append_left _ (List.mem_append_left _ (List.mem_append_right _ h))))) hown hK hP (hts (.fieldLink RX11 21 "TalePlay" "book" "LTalePlay$Book;") (List.mem_cons_of_mem _ (List.mem_append_left _ (List.mem_append_left _ (List.mem_append_left _ (List.mem_append_left _ (List.mem_append_left _ (List.mem_of_getElem? (i := 11) rfl)))))))) dX11_place_49 ?_
        refine xgT_B_places hx hb hts (fun _ h => List.mem_cons_of_mem _ (List.mem_append_left _ (List.mem_append_right _ h))) hown hK hP (hts (.fieldLink RX11 203 "TalePlay$Book" "places" "LTalePlay$Scene;") (List.mem_cons_of_mem _ (List.mem_append_left _ (List.mem_append_left _ (List.mem_append_left _ (List.mem_append_left _ (List.mem_append_left _ (List.mem_of_getElem? (i := 13) rfl)))))))) dX11_place_52 ?_
        refine lv_iload_n hx hb dX11_place_55 rfl (lv_at hl 1 rfl) ?_
        refine ro_calli (va_runV (As := [.int w]) (rest := []) ⟨hx, hb, hml, hown, hts⟩ (x_X6_formOf_BP l D H.size .null a t i q c d w hI (show 0 ≤ w.toInt ∧ w.toInt ≤ 29 from by omega)) (cwV 1 hts gm_X11_place_e_X6_formOf_BP_206 rfl rfl rfl (by decide +kernel) ⟨Nat.le_of_ble_eq_true rfl, Nat.le_of_ble_eq_true rfl⟩) (yA_V hN (xZ_k hZ hS hA) (xkT_P0 hK) (xuT_P0 (sk := sk) hP) (ci := 6) (q0 := 0) rfl rfl) rfl rfl hl.1 rfl (lv_room (Nat.le_of_ble_eq_true rfl)) dX11_place_56 ⟨Nat.le_of_ble_eq_true rfl, Nat.le_of_ble_eq_true rfl⟩) hS hA hP (fun r8 u8 H locs hw8 hP hS => ?_)
        have hw8 : ((r8.toInt = -9 ∧ (c 127 w.toNatClampNeg).toInt % 256 = 255) ∨ (0 ≤ r8.toInt ∧ r8.toInt ≤ 4 ∧ ¬ (c 127 w.toNatClampNeg).toInt % 256 = 255 ∧ r8.toInt = (c 127 w.toNatClampNeg).toInt % 8)) := hw8
        refine lv_goto (tgt := 85) hx hb dX11_place_59 (by decide +kernel) ?_
        exact ro_iret hx hb hr hlocks hS dX11_place_85 ⟨trivial, (show PcX (c 127) (c 118) (i 111).toInt w.toInt w1.toInt r8.toInt from Or.inr ⟨by omega, by have h9 : (c 127 w.toInt.toNat).toInt = (c 127 w.toNatClampNeg).toInt := rfl; omega⟩)⟩
      · refine lv_lookup (off := 40) (tgt := 62) hx hb dX11_place_22 (by decide +kernel) (by rw [f6]; rfl) (by decide +kernel) ?_
        refine lv_aload_n hx hb dX11_place_62 rfl (lv_at hl 0 rfl) ?_
        refine xgT_X_book hx hb hts (fun _ h => List.mem_cons_of_mem _ (List.mem_append_left _ (List.mem_append_left _ (List.mem_append_left _ (List.mem_append_right _ h))))) hown hK hP (hts (.fieldLink RX11 21 "TalePlay" "book" "LTalePlay$Book;") (List.mem_cons_of_mem _ (List.mem_append_left _ (List.mem_append_left _ (List.mem_append_left _ (List.mem_append_left _ (List.mem_append_left _ (List.mem_of_getElem? (i := 11) rfl)))))))) dX11_place_63 ?_
        refine xgT_B_places hx hb hts (fun _ h => List.mem_cons_of_mem _ (List.mem_append_left _ (List.mem_append_right _ h))) hown hK hP (hts (.fieldLink RX11 203 "TalePlay$Book" "places" "LTalePlay$Scene;") (List.mem_cons_of_mem _ (List.mem_append_left _ (List.mem_append_left _ (List.mem_append_left _ (List.mem_append_left _ (List.mem_append_left _ (List.mem_of_getElem? (i := 13) rfl)))))))) dX11_place_66 ?_
        refine lv_iload_n hx hb dX11_place_69 rfl (lv_at hl 1 rfl) ?_
        refine ro_calli (va_runV (As := [.int w]) (rest := []) ⟨hx, hb, hml, hown, hts⟩ (x_X6_holderOf_BP l D H.size .null a t i q c d w hI (show 0 ≤ w.toInt ∧ w.toInt ≤ 29 from by omega)) (cwV 1 hts gm_X11_place_e_X6_holderOf_BP_211 rfl rfl rfl (by decide +kernel) ⟨Nat.le_of_ble_eq_true rfl, Nat.le_of_ble_eq_true rfl⟩) (yA_V hN (xZ_k hZ hS hA) (xkT_P0 hK) (xuT_P0 (sk := sk) hP) (ci := 6) (q0 := 0) rfl rfl) rfl rfl hl.1 rfl (lv_room (Nat.le_of_ble_eq_true rfl)) dX11_place_70 ⟨Nat.le_of_ble_eq_true rfl, Nat.le_of_ble_eq_true rfl⟩) hS hA hP (fun r9 u9 H locs hw9 hP hS => ?_)
        have hw9 : ((r9.toInt = -9 ∧ (c 127 w.toNatClampNeg).toInt % 256 = 255) ∨ (0 ≤ r9.toInt ∧ r9.toInt ≤ 29 ∧ ¬ (c 127 w.toNatClampNeg).toInt % 256 = 255 ∧ r9.toInt = (c 127 w.toNatClampNeg).toInt / 8 % 32)) := hw9
        refine lv_goto (tgt := 85) hx hb dX11_place_73 (by decide +kernel) ?_
        exact ro_iret hx hb hr hlocks hS dX11_place_85 ⟨trivial, (show PcX (c 127) (c 118) (i 111).toInt w.toInt w1.toInt r9.toInt from Or.inr ⟨by omega, by have h9 : (c 127 w.toInt.toNat).toInt = (c 127 w.toNatClampNeg).toInt := rfl; omega⟩)⟩
    · have f5 := fl_f hw4 c5
      refine lv_iconst (v := (-1)) hx hb dX11_place_19 (by decide +kernel) ?_
      exact ro_iret hx hb hr hlocks hS dX11_place_20 ⟨trivial, (show PcX (c 127) (c 118) (i 111).toInt w.toInt w1.toInt ((-1) : Int32).toInt from Or.inl ⟨by omega, by decide⟩)⟩

set_option maxHeartbeats 4000000 in
set_option maxRecDepth 100000 in
theorem s_X12_place_e (l : Launch) (D : va_G) (sz : Nat) (o : Nat) (a : Nat → Nat) (t : Nat → ClassId) (i : Nat → Int32) (q : Int64) (c : Nat → Nat → Int32) (d : Nat → Nat → Int64) (w : Int32) (w1 : Int32) (hI : mInv i c) : Met l yX12_place wm_X12_place ({ frames := 2, cells := 0, slots := 0, locals := 46 }) (va_Pc [.ref o, .int w, .int w1] (pA D sz (mW o a t i q c d) (mT t))) (va_Qi (fun (r : Int32) (_ : Unit) => (True ∧ (PcM (c 9) (c 10) (c 11) (c 13) (i 8).toInt (i 5).toInt w.toInt w1.toInt r.toInt))) oA (ro sz)) 0 0 (ro sz) := by
  refine Met.ofW (cc := cX12_place) (maxL := 4) (ret := (some .int)) (by decide +kernel) rfl ?_
  intro p e s m args below meth cd s₁ B hml hv
  obtain ⟨rfl, hsz, hP, hK⟩ := hv
  have hx := B.exec
  have hb := B.bytes
  have hr := B.returns
  have hts := atoms_spec (ws := wm_X12_place) B.pre
  have hown : s.vm.findClass RX12 = some m.cls := findClass_of_methodNamed B.named
  have hlocks := B.notSynchronized
  subst hsz
  have hA : ∀ q : Nat, s.heap.size ≤ q → ro s.heap.size q := fun _ h => h
  have hS : va_S (ro s.heap.size) s.heap s.heap [] := va_S.rf
  have hl := lv_entry ([.ref o, .int w, .int w1]) (n := 4) (Nat.le_of_ble_eq_true rfl)
  rw [lg_entry_eq]
  generalize (lg_sl ([.ref o, .int w, .int w1]) ++ List.replicate (4 - (lg_sl ([.ref o, .int w, .int w1])).length) Slot.unset).toArray = ls at hl ⊢
  have hl : lv_has ls 4 [(0, .ref o), (1, .int w), (2, .int w1)] := hl
  have rb5_i : 0 ≤ (i 5).toInt ∧ (i 5).toInt ≤ 30 := hI.1 5
  refine lv_aload_n hx hb dX12_place_0 rfl (lv_at hl 0 rfl) ?_
  refine lv_iload_n hx hb dX12_place_1 rfl (lv_at hl 1 rfl) ?_
  refine ro_calli (va_runV (As := [.int w]) (rest := []) ⟨hx, hb, hml, hown, hts⟩ (s_X12_isObject l D s.heap.size o a t i q c d w hI ) (cwV 1 hts gm_X12_place_X12_isObject rfl rfl rfl (by decide +kernel) ⟨Nat.le_of_ble_eq_true rfl, Nat.le_of_ble_eq_true rfl⟩) (pA_V hK hP (ci := 12) (q0 := 0) rfl rfl) rfl rfl hl.1 rfl (lv_room (Nat.le_of_ble_eq_true rfl)) dX12_place_2 ⟨Nat.le_of_ble_eq_true rfl, Nat.le_of_ble_eq_true rfl⟩) hS hA hP (fun r1 u1 H locs hw1 hP hS => ?_)
  have hw1 : r1 = if (0 ≤ w.toInt ∧ w.toInt ≤ (i 5).toInt - 1) then 1 else 0 := hw1
  refine lv_if_eq (tgt := 20) hx hb dX12_place_5 (by decide +kernel) (fun c2 => ?_) (fun c2 => ?_)
  · have f2 := fl_f hw1 c2
    refine lv_iconst (v := (-1)) hx hb dX12_place_20 (by decide +kernel) ?_
    exact ro_iret hx hb hr hlocks hS dX12_place_21 ⟨trivial, (show PcM (c 9) (c 10) (c 11) (c 13) (i 8).toInt (i 5).toInt w.toInt w1.toInt ((-1) : Int32).toInt from Or.inl ⟨by omega, by decide⟩)⟩
  · have f2 := fl_t hw1 c2
    refine lv_iload_n hx hb dX12_place_8 rfl (lv_at hl 2 rfl) ?_
    refine lv_i2l (v := w1.toInt64) hx hb dX12_place_9 rfl ?_
    refine lv_lconst (v := 0) hx hb dX12_place_10 (by decide +kernel) ?_
    refine lv_ldc2 (v := 2) hx hb hown (hts (.constantLong RX12 254 (2)) (List.mem_cons_of_mem _ (List.mem_append_left _ (List.mem_append_left _ (List.mem_of_getElem? (i := 9) rfl))))) dX12_place_11 ?_
    have hPc := hP.sub (ws' := []) [] rfl
    have hKc := hK.sub (tys' := []) [] rfl
    refine ro_calli (va_runS (As := [.long w1.toInt64, .long 0, .long 2]) (rest := []) ⟨hx, hb, hml, hown, hts⟩ (c_X12_in l D H.size w1.toInt64 0 2 w1.toInt 0 2 ((Int32.toInt_toInt64 w1).trans rfl) (by decide +kernel) (by decide +kernel)) (va_cwS 3 hts gm_X12_place_X12_in rfl rfl rfl (by decide +kernel) ⟨Nat.le_of_ble_eq_true rfl, Nat.le_of_ble_eq_true rfl⟩) (pA_S hKc hPc) rfl rfl hl.1 rfl (lv_room (Nat.le_of_ble_eq_true rfl)) dX12_place_14 ⟨Nat.le_of_ble_eq_true rfl, Nat.le_of_ble_eq_true rfl⟩) hS hA hP (fun r3 u3 H locs hw3 hP hS => ?_)
    have hw3 : r3 = if (0 ≤ w1.toInt ∧ w1.toInt ≤ 2) then 1 else 0 := hw3
    refine lv_if_ne (tgt := 22) hx hb dX12_place_17 (by decide +kernel) (fun c4 => ?_) (fun c4 => ?_)
    · have f4 := fl_t hw3 c4
      refine lv_aload_n hx hb dX12_place_22 rfl (lv_at hl 0 rfl) ?_
      refine lv_iload_n hx hb dX12_place_23 rfl (lv_at hl 1 rfl) ?_
      have rb8_i : 0 ≤ (i 8).toInt ∧ (i 8).toInt ≤ 200 := hI.1 8
      refine ro_calli (va_runV (As := [.int w]) (rest := []) ⟨hx, hb, hml, hown, hts⟩ (s_X12_placing l D H.size o a t i q c d w hI ) (cwV 1 hts gm_X12_place_X12_placing rfl rfl rfl (by decide +kernel) ⟨Nat.le_of_ble_eq_true rfl, Nat.le_of_ble_eq_true rfl⟩) (pA_V hK hP (ci := 12) (q0 := 0) rfl rfl) rfl rfl hl.1 rfl (lv_room (Nat.le_of_ble_eq_true rfl)) dX12_place_24 ⟨Nat.le_of_ble_eq_true rfl, Nat.le_of_ble_eq_true rfl⟩) hS hA hP (fun r5 u5 H locs hw5 hP hS => ?_)
      have hw5 : ((r5.toInt = -9 ∨ (0 ≤ r5.toInt ∧ r5.toInt ≤ 199)) ∧ (r5.toInt = pL (c 9) (c 10) (c 13) (i 8).toInt w.toInt)) := hw5
      obtain ⟨hw5, hr5_0⟩ := hw5
      have hr5_0 : r5.toInt = pL (c 9) (c 10) (c 13) (i 8).toInt w.toInt := hr5_0
      refine lv_istore_n (lv' := [(3, .int r5), (0, .ref o), (1, .int w), (2, .int w1)]) hx hb dX12_place_27 rfl hl (by decide +kernel) rfl (fun ls hl => ?_)
      refine lv_iload_n hx hb dX12_place_28 rfl (lv_at hl 0 rfl) ?_
      refine lv_bipush (v := (-9)) hx hb dX12_place_29 (by decide +kernel) ?_
      refine lv_icmp_ne (tgt := 39) hx hb dX12_place_31 (by decide +kernel) (fun c6 => ?_) (fun c6 => ?_)
      · have f6 := mt (ti_eq (a := r5.toInt) (b := (-9)) rfl (by decide +kernel)).mpr c6
        refine lv_iload_n hx hb dX12_place_39 rfl (lv_at hl 3 rfl) ?_
        refine lv_if_ne (tgt := 52) hx hb dX12_place_40 (by decide +kernel) (fun c7 => ?_) (fun c7 => ?_)
        · have f7 := mt (ti_eq (a := w1.toInt) (b := 0) rfl (by decide +kernel)).mpr c7
          refine lv_iload_n hx hb dX12_place_52 rfl (lv_at hl 3 rfl) ?_
          refine lv_iconst (v := 1) hx hb dX12_place_53 (by decide +kernel) ?_
          refine lv_icmp_ne (tgt := 66) hx hb dX12_place_54 (by decide +kernel) (fun c8 => ?_) (fun c8 => ?_)
          · have f8 := mt (ti_eq (a := w1.toInt) (b := 1) rfl (by decide +kernel)).mpr c8
            refine lv_iload_n hx hb dX12_place_66 rfl (lv_at hl 0 rfl) ?_
            exact ro_iret hx hb hr hlocks hS dX12_place_67 ⟨trivial, (show PcM (c 9) (c 10) (c 11) (c 13) (i 8).toInt (i 5).toInt w.toInt w1.toInt r5.toInt from Or.inr ⟨by omega, Or.inr (by rw [← hr5_0]; omega)⟩)⟩
          · have f8 := (ti_eq (a := w1.toInt) (b := 1) rfl (by decide +kernel)).mp c8
            refine lv_aload_n hx hb dX12_place_57 rfl (lv_at hl 1 rfl) ?_
            refine mget_11 hx hb hts (fun _ h => List.mem_cons_of_mem _ (List.mem_append_right _ h)) hown hK hP (hts (.fieldLink RX12 31 "TalePlayModel" "middle" "[I") (List.mem_cons_of_mem _ (List.mem_append_left _ (List.mem_append_right _ (List.mem_of_getElem? (i := 2) rfl))))) dX12_place_58 ?_
            refine lv_iload_n hx hb dX12_place_61 rfl (lv_at hl 0 rfl) ?_
            refine mld_11 hx hb hK hP (vp_in_iff.mpr (by have h9 : r5.toInt = r5.toInt := rfl; omega)) dX12_place_62 (fun x9 ex9 => ?_)
            have rx9 : 0 ≤ x9.toInt ∧ x9.toInt ≤ 29 := by rw [ex9]; exact hI.2 11 _
            have gx9 : (c 11 (r5 : Int32).toNatClampNeg).toInt = x9.toInt := by rw [ex9]
            refine lv_goto (tgt := 67) hx hb dX12_place_63 (by decide +kernel) ?_
            exact ro_iret hx hb hr hlocks hS dX12_place_67 ⟨trivial, (show PcM (c 9) (c 10) (c 11) (c 13) (i 8).toInt (i 5).toInt w.toInt w1.toInt x9.toInt from Or.inr ⟨by omega, Or.inr (by rw [← hr5_0]; have h9 : (c 11 r5.toInt.toNat).toInt = x9.toInt := gx9; omega)⟩)⟩
        · have f7 := (ti_eq (a := w1.toInt) (b := 0) rfl (by decide +kernel)).mp c7
          refine lv_aload_n hx hb dX12_place_43 rfl (lv_at hl 1 rfl) ?_
          refine mget_9 hx hb hts (fun _ h => List.mem_cons_of_mem _ (List.mem_append_right _ h)) hown hK hP (hts (.fieldLink RX12 25 "TalePlayModel" "form" "[I") (List.mem_cons_of_mem _ (List.mem_append_left _ (List.mem_append_right _ (List.mem_of_getElem? (i := 0) rfl))))) dX12_place_44 ?_
          refine lv_iload_n hx hb dX12_place_47 rfl (lv_at hl 0 rfl) ?_
          refine mld_9 hx hb hK hP (vp_in_iff.mpr (by have h9 : r5.toInt = r5.toInt := rfl; omega)) dX12_place_48 (fun x10 ex10 => ?_)
          have rx10 : 0 ≤ x10.toInt ∧ x10.toInt ≤ 7 := by rw [ex10]; exact hI.2 9 _
          have gx10 : (c 9 (r5 : Int32).toNatClampNeg).toInt = x10.toInt := by rw [ex10]
          refine lv_goto (tgt := 67) hx hb dX12_place_49 (by decide +kernel) ?_
          exact ro_iret hx hb hr hlocks hS dX12_place_67 ⟨trivial, (show PcM (c 9) (c 10) (c 11) (c 13) (i 8).toInt (i 5).toInt w.toInt w1.toInt x10.toInt from Or.inr ⟨by omega, Or.inr (by rw [← hr5_0]; have h9 : (c 9 r5.toInt.toNat).toInt = x10.toInt := gx10; omega)⟩)⟩
      · have f6 := (ti_eq (a := r5.toInt) (b := (-9)) rfl (by decide +kernel)).mp c6
        refine lv_bipush (v := (-9)) hx hb dX12_place_34 (by decide +kernel) ?_
        refine lv_goto (tgt := 67) hx hb dX12_place_36 (by decide +kernel) ?_
        exact ro_iret hx hb hr hlocks hS dX12_place_67 ⟨trivial, (show PcM (c 9) (c 10) (c 11) (c 13) (i 8).toInt (i 5).toInt w.toInt w1.toInt ((-9) : Int32).toInt from Or.inr ⟨by omega, Or.inl ⟨by omega, by decide⟩⟩)⟩
    · have f4 := fl_f hw3 c4
      refine lv_iconst (v := (-1)) hx hb dX12_place_20 (by decide +kernel) ?_
      exact ro_iret hx hb hr hlocks hS dX12_place_21 ⟨trivial, (show PcM (c 9) (c 10) (c 11) (c 13) (i 8).toInt (i 5).toInt w.toInt w1.toInt ((-1) : Int32).toInt from Or.inl ⟨by omega, by decide⟩)⟩

