def wm_X11_places_BP : List Cond := .code yX11_places cX11_places 1 (some (.object "TalePlay$Scene")) :: (([.fieldLink RX11 46 "TalePlay" "tale" "LTalePlay$Tale;", .fieldLink RX11 257 "TalePlay$Tale" "there" "Z", .fieldLink RX11 21 "TalePlay" "book" "LTalePlay$Book;", .fieldLink RX11 203 "TalePlay$Book" "places" "LTalePlay$Scene;"] : List Cond) ++ wsX110 ++ wsX90 ++ wsX10)
set_option maxHeartbeats 4000000 in
set_option maxRecDepth 100000 in
theorem x_X11_places_BP (l : Launch) (D : va_G) (sz : Nat) (sk : Value) (a : Nat → Nat) (t : Nat → ClassId) (i : Nat → Int32) (q : Int64) (c : Nat → Nat → Int32) (d : Nat → Nat → Int64) (hI : xInv i c) (hth : (i 146).toInt = 0) : Met l yX11_places wm_X11_places_BP ({ frames := 0, cells := 0, slots := 0, locals := 0 }) (va_Pc [.ref (a 100)] (yA (a 186) D sz (xwT sk a t i q c d) (xtT t))) (va_Qr (fun (_ : Unit) => True) (oR (a 126)) (ro sz)) 0 0 (ro sz) := by
  refine Met.ofW (cc := cX11_places) (maxL := 1) (ret := (some (.object "TalePlay$Scene"))) (by decide +kernel) rfl ?_
  intro p e s m args below meth cd s₁ B hml hv
  obtain ⟨rfl, ⟨hsz, hP, hK⟩, hN, hZ⟩ := hv
  have hx := B.exec
  have hb := B.bytes
  have hr := B.returns
  have hts := atoms_spec (ws := wm_X11_places_BP) B.pre
  have hown : s.vm.findClass RX11 = some m.cls := findClass_of_methodNamed B.named
  have hlocks := B.notSynchronized
  subst hsz
  have hA : ∀ q : Nat, s.heap.size ≤ q → ro s.heap.size q := fun _ h => h
  have hS : va_S (ro s.heap.size) s.heap s.heap [] := va_S.rf
  have hl := lv_entry ([.ref (a 100)]) (n := 1) (Nat.le_of_ble_eq_true rfl)
  rw [lg_entry_eq]
  generalize (lg_sl ([.ref (a 100)]) ++ List.replicate (1 - (lg_sl ([.ref (a 100)])).length) Slot.unset).toArray = ls at hl ⊢
  have hl : lv_has ls 1 [(0, .ref (a 100))] := hl
  refine lv_aload_n hx hb dX11_places_0 rfl (lv_at hl 0 rfl) ?_
  refine xgT_X_tale hx hb hts (fun _ h => List.mem_cons_of_mem _ (List.mem_append_left _ (List.mem_append_left _ (List.mem_append_right _ h)))) hown hK hP (hts (.fieldLink RX11 46 "TalePlay" "tale" "LTalePlay$Tale;") (List.mem_cons_of_mem _ (List.mem_append_left _ (List.mem_append_left _ (List.mem_append_left _ (List.mem_of_getElem? (i := 0) rfl)))))) dX11_places_1 ?_
  refine xgT_T_there (v := (i 146)) rfl hx hb hts (fun _ h => List.mem_cons_of_mem _ (List.mem_append_left _ (List.mem_append_right _ h))) hown hK hP (hts (.fieldLink RX11 257 "TalePlay$Tale" "there" "Z") (List.mem_cons_of_mem _ (List.mem_append_left _ (List.mem_append_left _ (List.mem_append_left _ (List.mem_of_getElem? (i := 1) rfl)))))) dX11_places_4 ?_
  have rb146_i : 0 ≤ (i 146).toInt ∧ (i 146).toInt ≤ 1 := hI.1 146
  refine lv_if_eq (tgt := 20) hx hb dX11_places_7 (by decide +kernel) (fun c1 => ?_) (fun c1 => ?_)
  · have f1 := (ti_eq (a := (i 146).toInt) (b := 0) rfl (by decide +kernel)).mp c1
    refine lv_aload_n hx hb dX11_places_20 rfl (lv_at hl 0 rfl) ?_
    refine xgT_X_book hx hb hts (fun _ h => List.mem_cons_of_mem _ (List.mem_append_left _ (List.mem_append_left _ (List.mem_append_right _ h)))) hown hK hP (hts (.fieldLink RX11 21 "TalePlay" "book" "LTalePlay$Book;") (List.mem_cons_of_mem _ (List.mem_append_left _ (List.mem_append_left _ (List.mem_append_left _ (List.mem_of_getElem? (i := 2) rfl)))))) dX11_places_21 ?_
    refine xgT_B_places hx hb hts (fun _ h => List.mem_cons_of_mem _ (List.mem_append_right _ h)) hown hK hP (hts (.fieldLink RX11 203 "TalePlay$Book" "places" "LTalePlay$Scene;") (List.mem_cons_of_mem _ (List.mem_append_left _ (List.mem_append_left _ (List.mem_append_left _ (List.mem_of_getElem? (i := 3) rfl)))))) dX11_places_24 ?_
    exact ro_aret hx hb hr hlocks hS dX11_places_27 rfl
  · have f1 := mt (ti_eq (a := (i 146).toInt) (b := 0) rfl (by decide +kernel)).mpr c1
    exfalso; omega

def wm_X11_places_TS : List Cond := .code yX11_places cX11_places 1 (some (.object "TalePlay$Scene")) :: (([.fieldLink RX11 46 "TalePlay" "tale" "LTalePlay$Tale;", .fieldLink RX11 257 "TalePlay$Tale" "there" "Z", .fieldLink RX11 286 "TalePlay$Tale" "scene" "LTalePlay$Scene;"] : List Cond) ++ wsX110 ++ wsX90)
set_option maxHeartbeats 4000000 in
set_option maxRecDepth 100000 in
theorem x_X11_places_TS (l : Launch) (D : va_G) (sz : Nat) (sk : Value) (a : Nat → Nat) (t : Nat → ClassId) (i : Nat → Int32) (q : Int64) (c : Nat → Nat → Int32) (d : Nat → Nat → Int64) (hI : xInv i c) (hth : (i 146).toInt = 1) : Met l yX11_places wm_X11_places_TS ({ frames := 0, cells := 0, slots := 0, locals := 0 }) (va_Pc [.ref (a 100)] (yA (a 186) D sz (xwT sk a t i q c d) (xtT t))) (va_Qr (fun (_ : Unit) => True) (oR (a 149)) (ro sz)) 0 0 (ro sz) := by
  refine Met.ofW (cc := cX11_places) (maxL := 1) (ret := (some (.object "TalePlay$Scene"))) (by decide +kernel) rfl ?_
  intro p e s m args below meth cd s₁ B hml hv
  obtain ⟨rfl, ⟨hsz, hP, hK⟩, hN, hZ⟩ := hv
  have hx := B.exec
  have hb := B.bytes
  have hr := B.returns
  have hts := atoms_spec (ws := wm_X11_places_TS) B.pre
  have hown : s.vm.findClass RX11 = some m.cls := findClass_of_methodNamed B.named
  have hlocks := B.notSynchronized
  subst hsz
  have hA : ∀ q : Nat, s.heap.size ≤ q → ro s.heap.size q := fun _ h => h
  have hS : va_S (ro s.heap.size) s.heap s.heap [] := va_S.rf
  have hl := lv_entry ([.ref (a 100)]) (n := 1) (Nat.le_of_ble_eq_true rfl)
  rw [lg_entry_eq]
  generalize (lg_sl ([.ref (a 100)]) ++ List.replicate (1 - (lg_sl ([.ref (a 100)])).length) Slot.unset).toArray = ls at hl ⊢
  have hl : lv_has ls 1 [(0, .ref (a 100))] := hl
  refine lv_aload_n hx hb dX11_places_0 rfl (lv_at hl 0 rfl) ?_
  refine xgT_X_tale hx hb hts (fun _ h => List.mem_cons_of_mem _ (List.mem_append_left _ (List.mem_append_right _ h))) hown hK hP (hts (.fieldLink RX11 46 "TalePlay" "tale" "LTalePlay$Tale;") (List.mem_cons_of_mem _ (List.mem_append_left _ (List.mem_append_left _ (List.mem_of_getElem? (i := 0) rfl))))) dX11_places_1 ?_
  refine xgT_T_there (v := (i 146)) rfl hx hb hts (fun _ h => List.mem_cons_of_mem _ (List.mem_append_right _ h)) hown hK hP (hts (.fieldLink RX11 257 "TalePlay$Tale" "there" "Z") (List.mem_cons_of_mem _ (List.mem_append_left _ (List.mem_append_left _ (List.mem_of_getElem? (i := 1) rfl))))) dX11_places_4 ?_
  have rb146_i : 0 ≤ (i 146).toInt ∧ (i 146).toInt ≤ 1 := hI.1 146
  refine lv_if_eq (tgt := 20) hx hb dX11_places_7 (by decide +kernel) (fun c1 => ?_) (fun c1 => ?_)
  · have f1 := (ti_eq (a := (i 146).toInt) (b := 0) rfl (by decide +kernel)).mp c1
    exfalso; omega
  · have f1 := mt (ti_eq (a := (i 146).toInt) (b := 0) rfl (by decide +kernel)).mpr c1
    refine lv_aload_n hx hb dX11_places_10 rfl (lv_at hl 0 rfl) ?_
    refine xgT_X_tale hx hb hts (fun _ h => List.mem_cons_of_mem _ (List.mem_append_left _ (List.mem_append_right _ h))) hown hK hP (hts (.fieldLink RX11 46 "TalePlay" "tale" "LTalePlay$Tale;") (List.mem_cons_of_mem _ (List.mem_append_left _ (List.mem_append_left _ (List.mem_of_getElem? (i := 0) rfl))))) dX11_places_11 ?_
    refine xgT_T_scene hx hb hts (fun _ h => List.mem_cons_of_mem _ (List.mem_append_right _ h)) hown hK hP (hts (.fieldLink RX11 286 "TalePlay$Tale" "scene" "LTalePlay$Scene;") (List.mem_cons_of_mem _ (List.mem_append_left _ (List.mem_append_left _ (List.mem_of_getElem? (i := 2) rfl))))) dX11_places_14 ?_
    refine lv_goto (tgt := 27) hx hb dX11_places_17 (by decide +kernel) ?_
    exact ro_aret hx hb hr hlocks hS dX11_places_27 rfl
