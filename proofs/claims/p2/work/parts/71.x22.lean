def wm_X11_count_n : List Cond := .code yX11_count cX11_count 2 (some .int) :: (([.fieldLink RX11 10 "TalePlay" "world" "LTalePlay$World;", .fieldLink RX11 84 "TalePlay$World" "kinds" "I", .fieldLink RX11 102 "TalePlay$World" "objects" "I", .fieldLink RX11 21 "TalePlay" "book" "LTalePlay$Book;", .fieldLink RX11 191 "TalePlay$Book" "standing" "I", .fieldLink RX11 168 "TalePlay$Book" "total" "I", .fieldLink RX11 60 "TalePlay" "casts" "LTalePlay$Casts;", .fieldLink RX11 334 "TalePlay$Casts" "made" "I", .fieldLink RX11 46 "TalePlay" "tale" "LTalePlay$Tale;", .fieldLink RX11 254 "TalePlay$Tale" "turns" "I", .fieldLink RX11 257 "TalePlay$Tale" "there" "Z", .fieldLink RX11 289 "TalePlay$Tale" "player" "I", .fieldLink RX11 64 "TalePlay" "seeker" "LTalePlay$Seeker;"] : List Cond) ++ wsX110 ++ wsX100 ++ wsX10 ++ wsX30 ++ wsX90)
set_option maxHeartbeats 4000000 in
set_option maxRecDepth 100000 in
theorem x_X11_count_n (l : Launch) (D : va_G) (sz : Nat) (a : Nat → Nat) (t : Nat → ClassId) (i : Nat → Int32) (q : Int64) (c : Nat → Nat → Int32) (d : Nat → Nat → Int64) (w : Int32) (hI : xInv i c) : Met l yX11_count wm_X11_count_n ({ frames := 0, cells := 0, slots := 0, locals := 0 }) (va_Pc [.ref (a 100), .int w] (yA (a 186) D sz (xwT .null a t i q c d) (xtT t))) (va_Qi (fun (r : Int32) (_ : Unit) => True) oA (ro sz)) 0 0 (ro sz) := by
  refine Met.ofW (cc := cX11_count) (maxL := 2) (ret := (some .int)) (by decide) rfl ?_
  intro p e s m args below meth cd s₁ B hml hv
  obtain ⟨rfl, ⟨hsz, hP, hK⟩, hN, hZ⟩ := hv
  have hx := B.exec
  have hb := B.bytes
  have hr := B.returns
  have hts := atoms_spec (ws := wm_X11_count_n) B.pre
  have hown : s.vm.findClass RX11 = some m.cls := findClass_of_methodNamed B.named
  have hlocks := B.notSynchronized
  subst hsz
  have hA : ∀ q : Nat, s.heap.size ≤ q → ro s.heap.size q := fun _ h => h
  have hS : va_S (ro s.heap.size) s.heap s.heap [] := va_S.rf
  have hl := lv_entry ([.ref (a 100), .int w]) (n := 2) (Nat.le_of_ble_eq_true rfl)
  rw [lg_entry_eq]
  generalize (lg_sl ([.ref (a 100), .int w]) ++ List.replicate (2 - (lg_sl ([.ref (a 100), .int w])).length) Slot.unset).toArray = ls at hl ⊢
  have hl : lv_has ls 2 [(0, .ref (a 100)), (1, .int w)] := hl
  refine lv_iload_n hx hb dX11_count_0 rfl (lv_at hl 1 rfl) ?_
  rcases (show (w.toInt < 0 ∨ 7 < w.toInt) ∨ w.toInt = 0 ∨ w.toInt = 1 ∨ w.toInt = 2 ∨ w.toInt = 3 ∨ w.toInt = 4 ∨ w.toInt = 5 ∨ w.toInt = 6 ∨ w.toInt = 7 by omega) with f1 | f1 | f1 | f1 | f1 | f1 | f1 | f1 | f1
  · refine lv_tableOut (tgt := 155) hx hb dX11_count_1 f1 (by decide) ?_
    refine lv_iconst (v := (-1)) hx hb dX11_count_155 (by decide) ?_
    exact ro_iret hx hb hr hlocks hS dX11_count_156 trivial
  · refine lv_tableIn (off := 47) (tgt := 48) hx hb dX11_count_1 (by omega) (by omega) (by rw [f1]; rfl) (by decide) ?_
    refine lv_aload_n hx hb dX11_count_48 rfl (lv_at hl 0 rfl) ?_
    refine xgT_X_world hx hb hts (fun _ h => List.mem_cons_of_mem _ (List.mem_append_left _ (List.mem_append_left _ (List.mem_append_left _ (List.mem_append_left _ (List.mem_append_right _ h)))))) hown hK hP (hts (.fieldLink RX11 10 "TalePlay" "world" "LTalePlay$World;") (by decide +kernel)) dX11_count_49 ?_
    refine xgT_W_kinds (v := (i 110)) rfl hx hb hts (fun _ h => List.mem_cons_of_mem _ (List.mem_append_left _ (List.mem_append_left _ (List.mem_append_left _ (List.mem_append_right _ h))))) hown hK hP (hts (.fieldLink RX11 84 "TalePlay$World" "kinds" "I") (by decide +kernel)) dX11_count_52 ?_
    have rb110_i : 6 ≤ (i 110).toInt ∧ (i 110).toInt ≤ 24 := hI.1 110
    refine lv_goto (tgt := 156) hx hb dX11_count_55 (by decide) ?_
    exact ro_iret hx hb hr hlocks hS dX11_count_156 trivial
  · refine lv_tableIn (off := 57) (tgt := 58) hx hb dX11_count_1 (by omega) (by omega) (by rw [f1]; rfl) (by decide) ?_
    refine lv_aload_n hx hb dX11_count_58 rfl (lv_at hl 0 rfl) ?_
    refine xgT_X_world hx hb hts (fun _ h => List.mem_cons_of_mem _ (List.mem_append_left _ (List.mem_append_left _ (List.mem_append_left _ (List.mem_append_left _ (List.mem_append_right _ h)))))) hown hK hP (hts (.fieldLink RX11 10 "TalePlay" "world" "LTalePlay$World;") (by decide +kernel)) dX11_count_59 ?_
    refine xgT_W_objects (v := (i 111)) rfl hx hb hts (fun _ h => List.mem_cons_of_mem _ (List.mem_append_left _ (List.mem_append_left _ (List.mem_append_left _ (List.mem_append_right _ h))))) hown hK hP (hts (.fieldLink RX11 102 "TalePlay$World" "objects" "I") (by decide +kernel)) dX11_count_62 ?_
    have rb111_i : 0 ≤ (i 111).toInt ∧ (i 111).toInt ≤ 30 := hI.1 111
    refine lv_goto (tgt := 156) hx hb dX11_count_65 (by decide) ?_
    exact ro_iret hx hb hr hlocks hS dX11_count_156 trivial
  · refine lv_tableIn (off := 67) (tgt := 68) hx hb dX11_count_1 (by omega) (by omega) (by rw [f1]; rfl) (by decide) ?_
    refine lv_aload_n hx hb dX11_count_68 rfl (lv_at hl 0 rfl) ?_
    refine xgT_X_book hx hb hts (fun _ h => List.mem_cons_of_mem _ (List.mem_append_left _ (List.mem_append_left _ (List.mem_append_left _ (List.mem_append_left _ (List.mem_append_right _ h)))))) hown hK hP (hts (.fieldLink RX11 21 "TalePlay" "book" "LTalePlay$Book;") (by decide +kernel)) dX11_count_69 ?_
    refine xgT_B_standing (v := (i 125)) rfl hx hb hts (fun _ h => List.mem_cons_of_mem _ (List.mem_append_left _ (List.mem_append_left _ (List.mem_append_right _ h)))) hown hK hP (hts (.fieldLink RX11 191 "TalePlay$Book" "standing" "I") (by decide +kernel)) dX11_count_72 ?_
    refine lv_goto (tgt := 156) hx hb dX11_count_75 (by decide) ?_
    exact ro_iret hx hb hr hlocks hS dX11_count_156 trivial
  · refine lv_tableIn (off := 77) (tgt := 78) hx hb dX11_count_1 (by omega) (by omega) (by rw [f1]; rfl) (by decide) ?_
    refine lv_aload_n hx hb dX11_count_78 rfl (lv_at hl 0 rfl) ?_
    refine xgT_X_book hx hb hts (fun _ h => List.mem_cons_of_mem _ (List.mem_append_left _ (List.mem_append_left _ (List.mem_append_left _ (List.mem_append_left _ (List.mem_append_right _ h)))))) hown hK hP (hts (.fieldLink RX11 21 "TalePlay" "book" "LTalePlay$Book;") (by decide +kernel)) dX11_count_79 ?_
    refine xgT_B_total (v := (i 124)) rfl hx hb hts (fun _ h => List.mem_cons_of_mem _ (List.mem_append_left _ (List.mem_append_left _ (List.mem_append_right _ h)))) hown hK hP (hts (.fieldLink RX11 168 "TalePlay$Book" "total" "I") (by decide +kernel)) dX11_count_82 ?_
    have rb124_i : 0 ≤ (i 124).toInt ∧ (i 124).toInt ≤ 200 := hI.1 124
    refine lv_goto (tgt := 156) hx hb dX11_count_85 (by decide) ?_
    exact ro_iret hx hb hr hlocks hS dX11_count_156 trivial
  · refine lv_tableIn (off := 87) (tgt := 88) hx hb dX11_count_1 (by omega) (by omega) (by rw [f1]; rfl) (by decide) ?_
    refine lv_aload_n hx hb dX11_count_88 rfl (lv_at hl 0 rfl) ?_
    refine xgT_X_casts hx hb hts (fun _ h => List.mem_cons_of_mem _ (List.mem_append_left _ (List.mem_append_left _ (List.mem_append_left _ (List.mem_append_left _ (List.mem_append_right _ h)))))) hown hK hP (hts (.fieldLink RX11 60 "TalePlay" "casts" "LTalePlay$Casts;") (by decide +kernel)) dX11_count_89 ?_
    refine xgT_C_made (v := (i 165)) rfl hx hb hts (fun _ h => List.mem_cons_of_mem _ (List.mem_append_left _ (List.mem_append_right _ h))) hown hK hP (hts (.fieldLink RX11 334 "TalePlay$Casts" "made" "I") (by decide +kernel)) dX11_count_92 ?_
    have rb165_i : 0 ≤ (i 165).toInt ∧ (i 165).toInt ≤ 10 := hI.1 165
    refine lv_goto (tgt := 156) hx hb dX11_count_95 (by decide) ?_
    exact ro_iret hx hb hr hlocks hS dX11_count_156 trivial
  · refine lv_tableIn (off := 97) (tgt := 98) hx hb dX11_count_1 (by omega) (by omega) (by rw [f1]; rfl) (by decide) ?_
    refine lv_aload_n hx hb dX11_count_98 rfl (lv_at hl 0 rfl) ?_
    refine xgT_X_tale hx hb hts (fun _ h => List.mem_cons_of_mem _ (List.mem_append_left _ (List.mem_append_left _ (List.mem_append_left _ (List.mem_append_left _ (List.mem_append_right _ h)))))) hown hK hP (hts (.fieldLink RX11 46 "TalePlay" "tale" "LTalePlay$Tale;") (by decide +kernel)) dX11_count_99 ?_
    refine xgT_T_turns (v := (i 148)) rfl hx hb hts (fun _ h => List.mem_cons_of_mem _ (List.mem_append_right _ h)) hown hK hP (hts (.fieldLink RX11 254 "TalePlay$Tale" "turns" "I") (by decide +kernel)) dX11_count_102 ?_
    have rb148_i : 0 ≤ (i 148).toInt ∧ (i 148).toInt ≤ 100 := hI.1 148
    refine lv_goto (tgt := 156) hx hb dX11_count_105 (by decide) ?_
    exact ro_iret hx hb hr hlocks hS dX11_count_156 trivial
  · refine lv_tableIn (off := 107) (tgt := 108) hx hb dX11_count_1 (by omega) (by omega) (by rw [f1]; rfl) (by decide) ?_
    refine lv_aload_n hx hb dX11_count_108 rfl (lv_at hl 0 rfl) ?_
    refine xgT_X_tale hx hb hts (fun _ h => List.mem_cons_of_mem _ (List.mem_append_left _ (List.mem_append_left _ (List.mem_append_left _ (List.mem_append_left _ (List.mem_append_right _ h)))))) hown hK hP (hts (.fieldLink RX11 46 "TalePlay" "tale" "LTalePlay$Tale;") (by decide +kernel)) dX11_count_109 ?_
    refine xgT_T_there (v := (i 146)) rfl hx hb hts (fun _ h => List.mem_cons_of_mem _ (List.mem_append_right _ h)) hown hK hP (hts (.fieldLink RX11 257 "TalePlay$Tale" "there" "Z") (by decide +kernel)) dX11_count_112 ?_
    have rb146_i : 0 ≤ (i 146).toInt ∧ (i 146).toInt ≤ 1 := hI.1 146
    refine lv_if_eq (tgt := 128) hx hb dX11_count_115 (by decide) (fun c2 => ?_) (fun c2 => ?_)
    · have f2 := (ti_eq (a := (i 146).toInt) (b := 0) rfl (by decide)).mp c2
      refine lv_bipush (v := (-9)) hx hb dX11_count_128 (by decide) ?_
      refine lv_goto (tgt := 156) hx hb dX11_count_130 (by decide) ?_
      exact ro_iret hx hb hr hlocks hS dX11_count_156 trivial
    · have f2 := mt (ti_eq (a := (i 146).toInt) (b := 0) rfl (by decide)).mpr c2
      refine lv_aload_n hx hb dX11_count_118 rfl (lv_at hl 0 rfl) ?_
      refine xgT_X_tale hx hb hts (fun _ h => List.mem_cons_of_mem _ (List.mem_append_left _ (List.mem_append_left _ (List.mem_append_left _ (List.mem_append_left _ (List.mem_append_right _ h)))))) hown hK hP (hts (.fieldLink RX11 46 "TalePlay" "tale" "LTalePlay$Tale;") (by decide +kernel)) dX11_count_119 ?_
      refine xgT_T_player (v := (i 147)) rfl hx hb hts (fun _ h => List.mem_cons_of_mem _ (List.mem_append_right _ h)) hown hK hP (hts (.fieldLink RX11 289 "TalePlay$Tale" "player" "I") (by decide +kernel)) dX11_count_122 ?_
      have rb147_i : (i 147).toInt = -9 ∨ (0 ≤ (i 147).toInt ∧ (i 147).toInt ≤ 29) := hI.1 147
      refine lv_goto (tgt := 156) hx hb dX11_count_125 (by decide) ?_
      exact ro_iret hx hb hr hlocks hS dX11_count_156 trivial
  · refine lv_tableIn (off := 132) (tgt := 133) hx hb dX11_count_1 (by omega) (by omega) (by rw [f1]; rfl) (by decide) ?_
    refine lv_aload_n hx hb dX11_count_133 rfl (lv_at hl 0 rfl) ?_
    refine xgT_X_seeker hx hb hts (fun _ h => List.mem_cons_of_mem _ (List.mem_append_left _ (List.mem_append_left _ (List.mem_append_left _ (List.mem_append_left _ (List.mem_append_right _ h)))))) hown hK hP (hts (.fieldLink RX11 64 "TalePlay" "seeker" "LTalePlay$Seeker;") (by decide +kernel)) dX11_count_134 ?_
    refine lv_ifnonnullN hx hb dX11_count_137 ?_
    refine lv_bipush (v := (-9)) hx hb dX11_count_140 (by decide) ?_
    refine lv_goto (tgt := 156) hx hb dX11_count_142 (by decide) ?_
    exact ro_iret hx hb hr hlocks hS dX11_count_156 trivial

def wm_X11_count_s : List Cond := .code yX11_count cX11_count 2 (some .int) :: (([.fieldLink RX11 10 "TalePlay" "world" "LTalePlay$World;", .fieldLink RX11 84 "TalePlay$World" "kinds" "I", .fieldLink RX11 102 "TalePlay$World" "objects" "I", .fieldLink RX11 21 "TalePlay" "book" "LTalePlay$Book;", .fieldLink RX11 191 "TalePlay$Book" "standing" "I", .fieldLink RX11 168 "TalePlay$Book" "total" "I", .fieldLink RX11 60 "TalePlay" "casts" "LTalePlay$Casts;", .fieldLink RX11 334 "TalePlay$Casts" "made" "I", .fieldLink RX11 46 "TalePlay" "tale" "LTalePlay$Tale;", .fieldLink RX11 254 "TalePlay$Tale" "turns" "I", .fieldLink RX11 257 "TalePlay$Tale" "there" "Z", .fieldLink RX11 289 "TalePlay$Tale" "player" "I", .fieldLink RX11 64 "TalePlay" "seeker" "LTalePlay$Seeker;", .fieldLink RX11 299 "TalePlay$Seeker" "playLength" "I"] : List Cond) ++ wsX110 ++ wsX100 ++ wsX10 ++ wsX30 ++ wsX90 ++ wsX70)
set_option maxHeartbeats 4000000 in
set_option maxRecDepth 100000 in
theorem x_X11_count_s (l : Launch) (D : va_G) (sz : Nat) (a : Nat → Nat) (t : Nat → ClassId) (i : Nat → Int32) (q : Int64) (c : Nat → Nat → Int32) (d : Nat → Nat → Int64) (w : Int32) (hI : xInv i c) : Met l yX11_count wm_X11_count_s ({ frames := 0, cells := 0, slots := 0, locals := 0 }) (va_Pc [.ref (a 100), .int w] (yA (a 186) D sz (xwU (.ref (a 166)) a t i q c d) (xtU t))) (va_Qi (fun (r : Int32) (_ : Unit) => True) oA (ro sz)) 0 0 (ro sz) := by
  refine Met.ofW (cc := cX11_count) (maxL := 2) (ret := (some .int)) (by decide) rfl ?_
  intro p e s m args below meth cd s₁ B hml hv
  obtain ⟨rfl, ⟨hsz, hP, hK⟩, hN, hZ⟩ := hv
  have hx := B.exec
  have hb := B.bytes
  have hr := B.returns
  have hts := atoms_spec (ws := wm_X11_count_s) B.pre
  have hown : s.vm.findClass RX11 = some m.cls := findClass_of_methodNamed B.named
  have hlocks := B.notSynchronized
  subst hsz
  have hA : ∀ q : Nat, s.heap.size ≤ q → ro s.heap.size q := fun _ h => h
  have hS : va_S (ro s.heap.size) s.heap s.heap [] := va_S.rf
  have hl := lv_entry ([.ref (a 100), .int w]) (n := 2) (Nat.le_of_ble_eq_true rfl)
  rw [lg_entry_eq]
  generalize (lg_sl ([.ref (a 100), .int w]) ++ List.replicate (2 - (lg_sl ([.ref (a 100), .int w])).length) Slot.unset).toArray = ls at hl ⊢
  have hl : lv_has ls 2 [(0, .ref (a 100)), (1, .int w)] := hl
  refine lv_iload_n hx hb dX11_count_0 rfl (lv_at hl 1 rfl) ?_
  rcases (show (w.toInt < 0 ∨ 7 < w.toInt) ∨ w.toInt = 0 ∨ w.toInt = 1 ∨ w.toInt = 2 ∨ w.toInt = 3 ∨ w.toInt = 4 ∨ w.toInt = 5 ∨ w.toInt = 6 ∨ w.toInt = 7 by omega) with f1 | f1 | f1 | f1 | f1 | f1 | f1 | f1 | f1
  · refine lv_tableOut (tgt := 155) hx hb dX11_count_1 f1 (by decide) ?_
    refine lv_iconst (v := (-1)) hx hb dX11_count_155 (by decide) ?_
    exact ro_iret hx hb hr hlocks hS dX11_count_156 trivial
  · refine lv_tableIn (off := 47) (tgt := 48) hx hb dX11_count_1 (by omega) (by omega) (by rw [f1]; rfl) (by decide) ?_
    refine lv_aload_n hx hb dX11_count_48 rfl (lv_at hl 0 rfl) ?_
    refine xgU_X_world hx hb hts (fun _ h => List.mem_cons_of_mem _ (List.mem_append_left _ (List.mem_append_left _ (List.mem_append_left _ (List.mem_append_left _ (List.mem_append_left _ (List.mem_append_right _ h))))))) hown hK hP (hts (.fieldLink RX11 10 "TalePlay" "world" "LTalePlay$World;") (by decide +kernel)) dX11_count_49 ?_
    refine xgU_W_kinds (v := (i 110)) rfl hx hb hts (fun _ h => List.mem_cons_of_mem _ (List.mem_append_left _ (List.mem_append_left _ (List.mem_append_left _ (List.mem_append_left _ (List.mem_append_right _ h)))))) hown hK hP (hts (.fieldLink RX11 84 "TalePlay$World" "kinds" "I") (by decide +kernel)) dX11_count_52 ?_
    have rb110_i : 6 ≤ (i 110).toInt ∧ (i 110).toInt ≤ 24 := hI.1 110
    refine lv_goto (tgt := 156) hx hb dX11_count_55 (by decide) ?_
    exact ro_iret hx hb hr hlocks hS dX11_count_156 trivial
  · refine lv_tableIn (off := 57) (tgt := 58) hx hb dX11_count_1 (by omega) (by omega) (by rw [f1]; rfl) (by decide) ?_
    refine lv_aload_n hx hb dX11_count_58 rfl (lv_at hl 0 rfl) ?_
    refine xgU_X_world hx hb hts (fun _ h => List.mem_cons_of_mem _ (List.mem_append_left _ (List.mem_append_left _ (List.mem_append_left _ (List.mem_append_left _ (List.mem_append_left _ (List.mem_append_right _ h))))))) hown hK hP (hts (.fieldLink RX11 10 "TalePlay" "world" "LTalePlay$World;") (by decide +kernel)) dX11_count_59 ?_
    refine xgU_W_objects (v := (i 111)) rfl hx hb hts (fun _ h => List.mem_cons_of_mem _ (List.mem_append_left _ (List.mem_append_left _ (List.mem_append_left _ (List.mem_append_left _ (List.mem_append_right _ h)))))) hown hK hP (hts (.fieldLink RX11 102 "TalePlay$World" "objects" "I") (by decide +kernel)) dX11_count_62 ?_
    have rb111_i : 0 ≤ (i 111).toInt ∧ (i 111).toInt ≤ 30 := hI.1 111
    refine lv_goto (tgt := 156) hx hb dX11_count_65 (by decide) ?_
    exact ro_iret hx hb hr hlocks hS dX11_count_156 trivial
  · refine lv_tableIn (off := 67) (tgt := 68) hx hb dX11_count_1 (by omega) (by omega) (by rw [f1]; rfl) (by decide) ?_
    refine lv_aload_n hx hb dX11_count_68 rfl (lv_at hl 0 rfl) ?_
    refine xgU_X_book hx hb hts (fun _ h => List.mem_cons_of_mem _ (List.mem_append_left _ (List.mem_append_left _ (List.mem_append_left _ (List.mem_append_left _ (List.mem_append_left _ (List.mem_append_right _ h))))))) hown hK hP (hts (.fieldLink RX11 21 "TalePlay" "book" "LTalePlay$Book;") (by decide +kernel)) dX11_count_69 ?_
    refine xgU_B_standing (v := (i 125)) rfl hx hb hts (fun _ h => List.mem_cons_of_mem _ (List.mem_append_left _ (List.mem_append_left _ (List.mem_append_left _ (List.mem_append_right _ h))))) hown hK hP (hts (.fieldLink RX11 191 "TalePlay$Book" "standing" "I") (by decide +kernel)) dX11_count_72 ?_
    refine lv_goto (tgt := 156) hx hb dX11_count_75 (by decide) ?_
    exact ro_iret hx hb hr hlocks hS dX11_count_156 trivial
  · refine lv_tableIn (off := 77) (tgt := 78) hx hb dX11_count_1 (by omega) (by omega) (by rw [f1]; rfl) (by decide) ?_
    refine lv_aload_n hx hb dX11_count_78 rfl (lv_at hl 0 rfl) ?_
    refine xgU_X_book hx hb hts (fun _ h => List.mem_cons_of_mem _ (List.mem_append_left _ (List.mem_append_left _ (List.mem_append_left _ (List.mem_append_left _ (List.mem_append_left _ (List.mem_append_right _ h))))))) hown hK hP (hts (.fieldLink RX11 21 "TalePlay" "book" "LTalePlay$Book;") (by decide +kernel)) dX11_count_79 ?_
    refine xgU_B_total (v := (i 124)) rfl hx hb hts (fun _ h => List.mem_cons_of_mem _ (List.mem_append_left _ (List.mem_append_left _ (List.mem_append_left _ (List.mem_append_right _ h))))) hown hK hP (hts (.fieldLink RX11 168 "TalePlay$Book" "total" "I") (by decide +kernel)) dX11_count_82 ?_
    have rb124_i : 0 ≤ (i 124).toInt ∧ (i 124).toInt ≤ 200 := hI.1 124
    refine lv_goto (tgt := 156) hx hb dX11_count_85 (by decide) ?_
    exact ro_iret hx hb hr hlocks hS dX11_count_156 trivial
  · refine lv_tableIn (off := 87) (tgt := 88) hx hb dX11_count_1 (by omega) (by omega) (by rw [f1]; rfl) (by decide) ?_
    refine lv_aload_n hx hb dX11_count_88 rfl (lv_at hl 0 rfl) ?_
    refine xgU_X_casts hx hb hts (fun _ h => List.mem_cons_of_mem _ (List.mem_append_left _ (List.mem_append_left _ (List.mem_append_left _ (List.mem_append_left _ (List.mem_append_left _ (List.mem_append_right _ h))))))) hown hK hP (hts (.fieldLink RX11 60 "TalePlay" "casts" "LTalePlay$Casts;") (by decide +kernel)) dX11_count_89 ?_
    refine xgU_C_made (v := (i 165)) rfl hx hb hts (fun _ h => List.mem_cons_of_mem _ (List.mem_append_left _ (List.mem_append_left _ (List.mem_append_right _ h)))) hown hK hP (hts (.fieldLink RX11 334 "TalePlay$Casts" "made" "I") (by decide +kernel)) dX11_count_92 ?_
    have rb165_i : 0 ≤ (i 165).toInt ∧ (i 165).toInt ≤ 10 := hI.1 165
    refine lv_goto (tgt := 156) hx hb dX11_count_95 (by decide) ?_
    exact ro_iret hx hb hr hlocks hS dX11_count_156 trivial
  · refine lv_tableIn (off := 97) (tgt := 98) hx hb dX11_count_1 (by omega) (by omega) (by rw [f1]; rfl) (by decide) ?_
    refine lv_aload_n hx hb dX11_count_98 rfl (lv_at hl 0 rfl) ?_
    refine xgU_X_tale hx hb hts (fun _ h => List.mem_cons_of_mem _ (List.mem_append_left _ (List.mem_append_left _ (List.mem_append_left _ (List.mem_append_left _ (List.mem_append_left _ (List.mem_append_right _ h))))))) hown hK hP (hts (.fieldLink RX11 46 "TalePlay" "tale" "LTalePlay$Tale;") (by decide +kernel)) dX11_count_99 ?_
    refine xgU_T_turns (v := (i 148)) rfl hx hb hts (fun _ h => List.mem_cons_of_mem _ (List.mem_append_left _ (List.mem_append_right _ h))) hown hK hP (hts (.fieldLink RX11 254 "TalePlay$Tale" "turns" "I") (by decide +kernel)) dX11_count_102 ?_
    have rb148_i : 0 ≤ (i 148).toInt ∧ (i 148).toInt ≤ 100 := hI.1 148
    refine lv_goto (tgt := 156) hx hb dX11_count_105 (by decide) ?_
    exact ro_iret hx hb hr hlocks hS dX11_count_156 trivial
  · refine lv_tableIn (off := 107) (tgt := 108) hx hb dX11_count_1 (by omega) (by omega) (by rw [f1]; rfl) (by decide) ?_
    refine lv_aload_n hx hb dX11_count_108 rfl (lv_at hl 0 rfl) ?_
    refine xgU_X_tale hx hb hts (fun _ h => List.mem_cons_of_mem _ (List.mem_append_left _ (List.mem_append_left _ (List.mem_append_left _ (List.mem_append_left _ (List.mem_append_left _ (List.mem_append_right _ h))))))) hown hK hP (hts (.fieldLink RX11 46 "TalePlay" "tale" "LTalePlay$Tale;") (by decide +kernel)) dX11_count_109 ?_
    refine xgU_T_there (v := (i 146)) rfl hx hb hts (fun _ h => List.mem_cons_of_mem _ (List.mem_append_left _ (List.mem_append_right _ h))) hown hK hP (hts (.fieldLink RX11 257 "TalePlay$Tale" "there" "Z") (by decide +kernel)) dX11_count_112 ?_
    have rb146_i : 0 ≤ (i 146).toInt ∧ (i 146).toInt ≤ 1 := hI.1 146
    refine lv_if_eq (tgt := 128) hx hb dX11_count_115 (by decide) (fun c2 => ?_) (fun c2 => ?_)
    · have f2 := (ti_eq (a := (i 146).toInt) (b := 0) rfl (by decide)).mp c2
      refine lv_bipush (v := (-9)) hx hb dX11_count_128 (by decide) ?_
      refine lv_goto (tgt := 156) hx hb dX11_count_130 (by decide) ?_
      exact ro_iret hx hb hr hlocks hS dX11_count_156 trivial
    · have f2 := mt (ti_eq (a := (i 146).toInt) (b := 0) rfl (by decide)).mpr c2
      refine lv_aload_n hx hb dX11_count_118 rfl (lv_at hl 0 rfl) ?_
      refine xgU_X_tale hx hb hts (fun _ h => List.mem_cons_of_mem _ (List.mem_append_left _ (List.mem_append_left _ (List.mem_append_left _ (List.mem_append_left _ (List.mem_append_left _ (List.mem_append_right _ h))))))) hown hK hP (hts (.fieldLink RX11 46 "TalePlay" "tale" "LTalePlay$Tale;") (by decide +kernel)) dX11_count_119 ?_
      refine xgU_T_player (v := (i 147)) rfl hx hb hts (fun _ h => List.mem_cons_of_mem _ (List.mem_append_left _ (List.mem_append_right _ h))) hown hK hP (hts (.fieldLink RX11 289 "TalePlay$Tale" "player" "I") (by decide +kernel)) dX11_count_122 ?_
      have rb147_i : (i 147).toInt = -9 ∨ (0 ≤ (i 147).toInt ∧ (i 147).toInt ≤ 29) := hI.1 147
      refine lv_goto (tgt := 156) hx hb dX11_count_125 (by decide) ?_
      exact ro_iret hx hb hr hlocks hS dX11_count_156 trivial
  · refine lv_tableIn (off := 132) (tgt := 133) hx hb dX11_count_1 (by omega) (by omega) (by rw [f1]; rfl) (by decide) ?_
    refine lv_aload_n hx hb dX11_count_133 rfl (lv_at hl 0 rfl) ?_
    refine xgU_X_seeker hx hb hts (fun _ h => List.mem_cons_of_mem _ (List.mem_append_left _ (List.mem_append_left _ (List.mem_append_left _ (List.mem_append_left _ (List.mem_append_left _ (List.mem_append_right _ h))))))) hown hK hP (hts (.fieldLink RX11 64 "TalePlay" "seeker" "LTalePlay$Seeker;") (by decide +kernel)) dX11_count_134 ?_
    refine lv_ifnonnull (tgt := 145) hx hb dX11_count_137 (by decide) ?_
    refine lv_aload_n hx hb dX11_count_145 rfl (lv_at hl 0 rfl) ?_
    refine xgU_X_seeker hx hb hts (fun _ h => List.mem_cons_of_mem _ (List.mem_append_left _ (List.mem_append_left _ (List.mem_append_left _ (List.mem_append_left _ (List.mem_append_left _ (List.mem_append_right _ h))))))) hown hK hP (hts (.fieldLink RX11 64 "TalePlay" "seeker" "LTalePlay$Seeker;") (by decide +kernel)) dX11_count_146 ?_
    refine xgU_S_playLength (v := (i 173)) rfl hx hb hts (fun _ h => List.mem_cons_of_mem _ (List.mem_append_right _ h)) hown hK hP (hts (.fieldLink RX11 299 "TalePlay$Seeker" "playLength" "I") (by decide +kernel)) dX11_count_149 ?_
    have rb173_i : (i 173).toInt = -9 ∨ (0 ≤ (i 173).toInt ∧ (i 173).toInt ≤ 300) := hI.1 173
    refine lv_goto (tgt := 156) hx hb dX11_count_152 (by decide) ?_
    exact ro_iret hx hb hr hlocks hS dX11_count_156 trivial

def wm_X11_sought_n : List Cond := .code yX11_sought cX11_sought 3 (some .int) :: (([.methodLink RX11 91 yX11_isBelow, .static yX11_isBelow, .initialized RX11, .code yX11_isBelow cX11_isBelow 2 (some .boolean), .fieldLink RX11 64 "TalePlay" "seeker" "LTalePlay$Seeker;"] : List Cond) ++ wsX110)
set_option maxRecDepth 20000 in
theorem gm_X11_sought_n_X11_isBelow_91 : GoodIn wm_X11_sought_n (va_wsS RX11 91 yX11_isBelow wm_X11_isBelow) := goodIn_app (goodIn_of _ (by decide +kernel)) (goodIn_r _ [4] rfl (by decide +kernel))
set_option maxHeartbeats 4000000 in
set_option maxRecDepth 100000 in
theorem x_X11_sought_n (l : Launch) (D : va_G) (sz : Nat) (a : Nat → Nat) (t : Nat → ClassId) (i : Nat → Int32) (q : Int64) (c : Nat → Nat → Int32) (d : Nat → Nat → Int64) (w : Int32) (s1 : Int32) (hI : xInv i c) : Met l yX11_sought wm_X11_sought_n ({ frames := 1, cells := 0, slots := 0, locals := 21 }) (va_Pc [.ref (a 100), .int w, .int s1] (yA (a 186) D sz (xwT .null a t i q c d) (xtT t))) (va_Qi (fun (r : Int32) (_ : Unit) => True) oA (ro sz)) 0 0 (ro sz) := by
  refine Met.ofW (cc := cX11_sought) (maxL := 3) (ret := (some .int)) (by decide) rfl ?_
  intro p e s m args below meth cd s₁ B hml hv
  obtain ⟨rfl, ⟨hsz, hP, hK⟩, hN, hZ⟩ := hv
  have hx := B.exec
  have hb := B.bytes
  have hr := B.returns
  have hts := atoms_spec (ws := wm_X11_sought_n) B.pre
  have hown : s.vm.findClass RX11 = some m.cls := findClass_of_methodNamed B.named
  have hlocks := B.notSynchronized
  subst hsz
  have hA : ∀ q : Nat, s.heap.size ≤ q → ro s.heap.size q := fun _ h => h
  have hS : va_S (ro s.heap.size) s.heap s.heap [] := va_S.rf
  have hl := lv_entry ([.ref (a 100), .int w, .int s1]) (n := 3) (Nat.le_of_ble_eq_true rfl)
  rw [lg_entry_eq]
  generalize (lg_sl ([.ref (a 100), .int w, .int s1]) ++ List.replicate (3 - (lg_sl ([.ref (a 100), .int w, .int s1])).length) Slot.unset).toArray = ls at hl ⊢
  have hl : lv_has ls 3 [(0, .ref (a 100)), (1, .int w), (2, .int s1)] := hl
  refine lv_iload_n hx hb dX11_sought_0 rfl (lv_at hl 2 rfl) ?_
  refine lv_iconst (v := 3) hx hb dX11_sought_1 (by decide) ?_
  have hPc := hP.sub (ws' := []) [] rfl
  have hKc := hK.sub (tys' := []) [] rfl
  refine ro_calli (va_runS (As := [.int s1, .int 3]) (rest := []) ⟨hx, hb, hml, hown, hts⟩ (c_X11_isBelow l D s.heap.size s1 3 s1.toInt 3 rfl (by decide)) (va_cwS 2 hts gm_X11_sought_n_X11_isBelow_91 rfl rfl rfl (by decide +kernel) ⟨Nat.le_of_ble_eq_true rfl, Nat.le_of_ble_eq_true rfl⟩) (pA_S hKc hPc) rfl rfl hl.1 rfl (lv_room (Nat.le_of_ble_eq_true rfl)) dX11_sought_2 ⟨Nat.le_of_ble_eq_true rfl, Nat.le_of_ble_eq_true rfl⟩) hS hA hP (fun r2 u2 H locs hw2 hP hS => ?_)
  have hw2 : r2 = if (0 ≤ s1.toInt ∧ s1.toInt < 3) then 1 else 0 := hw2
  refine lv_if_ne (tgt := 10) hx hb dX11_sought_5 (by decide) (fun c3 => ?_) (fun c3 => ?_)
  · have f3 := fl_t hw2 c3
    refine lv_aload_n hx hb dX11_sought_10 rfl (lv_at hl 0 rfl) ?_
    refine xgT_X_seeker hx hb hts (fun _ h => List.mem_cons_of_mem _ (List.mem_append_right _ h)) hown hK hP (hts (.fieldLink RX11 64 "TalePlay" "seeker" "LTalePlay$Seeker;") (by decide +kernel)) dX11_sought_11 ?_
    refine lv_ifnullN (tgt := 31) hx hb dX11_sought_14 (by decide) ?_
    refine lv_bipush (v := (-9)) hx hb dX11_sought_31 (by decide) ?_
    exact ro_iret hx hb hr hlocks hS dX11_sought_33 trivial
  · have f3 := fl_f hw2 c3
    refine lv_iconst (v := (-1)) hx hb dX11_sought_8 (by decide) ?_
    exact ro_iret hx hb hr hlocks hS dX11_sought_9 trivial

def wm_X11_sought_s : List Cond := .code yX11_sought cX11_sought 3 (some .int) :: (([.methodLink RX11 91 yX11_isBelow, .static yX11_isBelow, .initialized RX11, .code yX11_isBelow cX11_isBelow 2 (some .boolean), .fieldLink RX11 64 "TalePlay" "seeker" "LTalePlay$Seeker;", .fieldLink RX11 299 "TalePlay$Seeker" "playLength" "I", .fieldLink RX11 302 "TalePlay$Seeker" "play" "[I", .methodLink RX11 271 yX11_deedPart, .static yX11_deedPart, .code yX11_deedPart cX11_deedPart 2 (some .int)] : List Cond) ++ wsX110 ++ wsX70)
set_option maxRecDepth 20000 in
theorem gm_X11_sought_s_X11_isBelow_91 : GoodIn wm_X11_sought_s (va_wsS RX11 91 yX11_isBelow wm_X11_isBelow) := goodIn_app (goodIn_of _ (by decide +kernel)) (goodIn_r _ [4] rfl (by decide +kernel))
set_option maxRecDepth 20000 in
theorem gm_X11_sought_s_X11_deedPart_271 : GoodIn wm_X11_sought_s (va_wsS RX11 271 yX11_deedPart wm_X11_deedPart) := goodIn_app (goodIn_of _ (by decide +kernel)) (goodIn_r _ [10] rfl (by decide +kernel))
set_option maxHeartbeats 4000000 in
set_option maxRecDepth 100000 in
theorem x_X11_sought_s (l : Launch) (D : va_G) (sz : Nat) (a : Nat → Nat) (t : Nat → ClassId) (i : Nat → Int32) (q : Int64) (c : Nat → Nat → Int32) (d : Nat → Nat → Int64) (w : Int32) (s1 : Int32) (hI : xInv i c) : Met l yX11_sought wm_X11_sought_s ({ frames := 1, cells := 0, slots := 0, locals := 21 }) (va_Pc [.ref (a 100), .int w, .int s1] (yA (a 186) D sz (xwU (.ref (a 166)) a t i q c d) (xtU t))) (va_Qi (fun (r : Int32) (_ : Unit) => True) oA (ro sz)) 0 0 (ro sz) := by
  refine Met.ofW (cc := cX11_sought) (maxL := 3) (ret := (some .int)) (by decide) rfl ?_
  intro p e s m args below meth cd s₁ B hml hv
  obtain ⟨rfl, ⟨hsz, hP, hK⟩, hN, hZ⟩ := hv
  have hx := B.exec
  have hb := B.bytes
  have hr := B.returns
  have hts := atoms_spec (ws := wm_X11_sought_s) B.pre
  have hown : s.vm.findClass RX11 = some m.cls := findClass_of_methodNamed B.named
  have hlocks := B.notSynchronized
  subst hsz
  have hA : ∀ q : Nat, s.heap.size ≤ q → ro s.heap.size q := fun _ h => h
  have hS : va_S (ro s.heap.size) s.heap s.heap [] := va_S.rf
  have hl := lv_entry ([.ref (a 100), .int w, .int s1]) (n := 3) (Nat.le_of_ble_eq_true rfl)
  rw [lg_entry_eq]
  generalize (lg_sl ([.ref (a 100), .int w, .int s1]) ++ List.replicate (3 - (lg_sl ([.ref (a 100), .int w, .int s1])).length) Slot.unset).toArray = ls at hl ⊢
  have hl : lv_has ls 3 [(0, .ref (a 100)), (1, .int w), (2, .int s1)] := hl
  refine lv_iload_n hx hb dX11_sought_0 rfl (lv_at hl 2 rfl) ?_
  refine lv_iconst (v := 3) hx hb dX11_sought_1 (by decide) ?_
  have hPc := hP.sub (ws' := []) [] rfl
  have hKc := hK.sub (tys' := []) [] rfl
  refine ro_calli (va_runS (As := [.int s1, .int 3]) (rest := []) ⟨hx, hb, hml, hown, hts⟩ (c_X11_isBelow l D s.heap.size s1 3 s1.toInt 3 rfl (by decide)) (va_cwS 2 hts gm_X11_sought_s_X11_isBelow_91 rfl rfl rfl (by decide +kernel) ⟨Nat.le_of_ble_eq_true rfl, Nat.le_of_ble_eq_true rfl⟩) (pA_S hKc hPc) rfl rfl hl.1 rfl (lv_room (Nat.le_of_ble_eq_true rfl)) dX11_sought_2 ⟨Nat.le_of_ble_eq_true rfl, Nat.le_of_ble_eq_true rfl⟩) hS hA hP (fun r2 u2 H locs hw2 hP hS => ?_)
  have hw2 : r2 = if (0 ≤ s1.toInt ∧ s1.toInt < 3) then 1 else 0 := hw2
  refine lv_if_ne (tgt := 10) hx hb dX11_sought_5 (by decide) (fun c3 => ?_) (fun c3 => ?_)
  · have f3 := fl_t hw2 c3
    refine lv_aload_n hx hb dX11_sought_10 rfl (lv_at hl 0 rfl) ?_
    refine xgU_X_seeker hx hb hts (fun _ h => List.mem_cons_of_mem _ (List.mem_append_left _ (List.mem_append_right _ h))) hown hK hP (hts (.fieldLink RX11 64 "TalePlay" "seeker" "LTalePlay$Seeker;") (by decide +kernel)) dX11_sought_11 ?_
    refine lv_ifnull hx hb dX11_sought_14 ?_
    refine lv_iload_n hx hb dX11_sought_17 rfl (lv_at hl 1 rfl) ?_
    refine lv_aload_n hx hb dX11_sought_18 rfl (lv_at hl 0 rfl) ?_
    refine xgU_X_seeker hx hb hts (fun _ h => List.mem_cons_of_mem _ (List.mem_append_left _ (List.mem_append_right _ h))) hown hK hP (hts (.fieldLink RX11 64 "TalePlay" "seeker" "LTalePlay$Seeker;") (by decide +kernel)) dX11_sought_19 ?_
    refine xgU_S_playLength (v := (i 173)) rfl hx hb hts (fun _ h => List.mem_cons_of_mem _ (List.mem_append_right _ h)) hown hK hP (hts (.fieldLink RX11 299 "TalePlay$Seeker" "playLength" "I") (by decide +kernel)) dX11_sought_22 ?_
    have rb173_i : (i 173).toInt = -9 ∨ (0 ≤ (i 173).toInt ∧ (i 173).toInt ≤ 300) := hI.1 173
    have hPc := hP.sub (ws' := []) [] rfl
    have hKc := hK.sub (tys' := []) [] rfl
    refine ro_calli (va_runS (As := [.int w, .int (i 173)]) (rest := []) ⟨hx, hb, hml, hown, hts⟩ (c_X11_isBelow l D H.size w (i 173) w.toInt ((i 173).toInt) rfl rfl) (va_cwS 2 hts gm_X11_sought_s_X11_isBelow_91 rfl rfl rfl (by decide +kernel) ⟨Nat.le_of_ble_eq_true rfl, Nat.le_of_ble_eq_true rfl⟩) (pA_S hKc hPc) rfl rfl hl.1 rfl (lv_room (Nat.le_of_ble_eq_true rfl)) dX11_sought_25 ⟨Nat.le_of_ble_eq_true rfl, Nat.le_of_ble_eq_true rfl⟩) hS hA hP (fun r5 u5 H locs hw5 hP hS => ?_)
    have hw5 : r5 = if (0 ≤ w.toInt ∧ w.toInt < ((i 173).toInt)) then 1 else 0 := hw5
    refine lv_if_ne (tgt := 34) hx hb dX11_sought_28 (by decide) (fun c6 => ?_) (fun c6 => ?_)
    · have f6 := fl_t hw5 c6
      refine lv_aload_n hx hb dX11_sought_34 rfl (lv_at hl 0 rfl) ?_
      refine xgU_X_seeker hx hb hts (fun _ h => List.mem_cons_of_mem _ (List.mem_append_left _ (List.mem_append_right _ h))) hown hK hP (hts (.fieldLink RX11 64 "TalePlay" "seeker" "LTalePlay$Seeker;") (by decide +kernel)) dX11_sought_35 ?_
      refine xgU_S_play hx hb hts (fun _ h => List.mem_cons_of_mem _ (List.mem_append_right _ h)) hown hK hP (hts (.fieldLink RX11 302 "TalePlay$Seeker" "play" "[I") (by decide +kernel)) dX11_sought_38 ?_
      refine lv_iload_n hx hb dX11_sought_41 rfl (lv_at hl 1 rfl) ?_
      refine xlU_172 hx hb hK hP (vp_in_iff.mpr (by have h9 : w.toInt = w.toInt := rfl; omega)) dX11_sought_42 (fun x7 ex7 => ?_)
      refine lv_iload_n hx hb dX11_sought_43 rfl (lv_at hl 2 rfl) ?_
      have hPc := hP.sub (ws' := []) [] rfl
      have hKc := hK.sub (tys' := []) [] rfl
      refine ro_calli (va_runS (As := [.int x7, .int s1]) (rest := []) ⟨hx, hb, hml, hown, hts⟩ (c_X11_deedPart l D H.size x7 s1) (va_cwS 2 hts gm_X11_sought_s_X11_deedPart_271 rfl rfl rfl (by decide +kernel) ⟨Nat.le_of_ble_eq_true rfl, Nat.le_of_ble_eq_true rfl⟩) (pA_S hKc hPc) rfl rfl hl.1 rfl (lv_room (Nat.le_of_ble_eq_true rfl)) dX11_sought_44 ⟨Nat.le_of_ble_eq_true rfl, Nat.le_of_ble_eq_true rfl⟩) hS hA hP (fun r9 u9 H locs hw9 hP hS => ?_)
      exact ro_iret hx hb hr hlocks hS dX11_sought_47 trivial
    · have f6 := fl_f hw5 c6
      refine lv_bipush (v := (-9)) hx hb dX11_sought_31 (by decide) ?_
      exact ro_iret hx hb hr hlocks hS dX11_sought_33 trivial
  · have f3 := fl_f hw2 c3
    refine lv_iconst (v := (-1)) hx hb dX11_sought_8 (by decide) ?_
    exact ro_iret hx hb hr hlocks hS dX11_sought_9 trivial

def wm_X7_startFrom : List Cond := .code yX7_startFrom cX7_startFrom 3 none :: (([.fieldLink RX7 65 "TalePlay$Scene" "cells" "[I", .fieldLink RX7 39 "TalePlay$Seeker" "scene" "LTalePlay$Scene;", .methodLink RX7 68 arraycopyName, .native arraycopyName, .static arraycopyName, .initialized "java/lang/System", .fieldLink RX7 57 "TalePlay$Seeker" "acts" "LTalePlay$Acts;", .fieldLink RX7 74 "TalePlay$Acts" "player" "I"] : List Cond) ++ wsX60 ++ wsX70 ++ wsX00)
set_option maxHeartbeats 4000000 in
set_option maxRecDepth 100000 in
theorem x_X7_startFrom (l : Launch) (D : va_G) (sz : Nat) (a : Nat → Nat) (t : Nat → ClassId) (i : Nat → Int32) (q : Int64) (c : Nat → Nat → Int32) (d : Nat → Nat → Int64) (w : Int32) (hI : xInv i c) (hw : 0 ≤ w.toInt ∧ w.toInt ≤ 29) (hPS : PS (c 150) w) : Met l yX7_startFrom wm_X7_startFrom ({ frames := 1, cells := 0, slots := 0, locals := 40 }) (va_Pc [.ref (a 166), .ref (a 149), .int w] (yB (a 186) D sz (xwU (.ref (a 166)) a t i q c d) (xtU t))) (va_Qv (fun (u : MS) => True ∧ xInv u.1 u.2.2.1 ∧ (∀ k, k ∉ ([185] : List Nat) → u.1 k = i k) ∧ (∀ k, k ∉ ([179] : List Nat) → u.2.2.1 k = c k) ∧ (PS (u.2.2.1 179) (u.1 185)) ∧ ((u.1 185).toInt = w.toInt)) (oC D (va_A (xwU (.ref (a 166)) a t i q c d) sz) (fun u : MS => xwU (.ref (a 166)) a t u.1 u.2.1 u.2.2.1 u.2.2.2) (fun _ => [])) (va_A (xwU (.ref (a 166)) a t i q c d) sz)) 0 0 (va_A (xwU (.ref (a 166)) a t i q c d) sz) := by
  refine Met.ofW (cc := cX7_startFrom) (maxL := 3) (ret := none) (by decide) rfl ?_
  intro p e s m args below meth cd s₁ B hml hv
  obtain ⟨rfl, ⟨hsz, hP, hK, hD0⟩, hN, hZ, hBW⟩ := hv
  have hx := B.exec
  have hb := B.bytes
  have hr := B.returns
  have hts := atoms_spec (ws := wm_X7_startFrom) B.pre
  have hown : s.vm.findClass RX7 = some m.cls := findClass_of_methodNamed B.named
  have hlocks := B.notSynchronized
  subst hsz
  have hD := hD0.self (sz := s.heap.size)
  have hZ := xZ_A hZ hP hBW
  generalize hAe : va_A (xwU (.ref (a 166)) a t i q c d) s.heap.size = A at hD hZ ⊢
  have hA : ∀ q : Nat, s.heap.size ≤ q → A q := fun q h => by rw [← hAe]; exact Or.inr h
  have hS : va_S A s.heap s.heap [] := va_S.rf
  have hfi : ∀ k, k ∉ ([] : List Nat) → i k = i k := fun _ _ => rfl
  have hfc : ∀ k, k ∉ ([] : List Nat) → c k = c k := fun _ _ => rfl
  have hl := lv_entry ([.ref (a 166), .ref (a 149), .int w]) (n := 3) (Nat.le_of_ble_eq_true rfl)
  rw [lg_entry_eq]
  generalize (lg_sl ([.ref (a 166), .ref (a 149), .int w]) ++ List.replicate (3 - (lg_sl ([.ref (a 166), .ref (a 149), .int w])).length) Slot.unset).toArray = ls at hl ⊢
  have hl : lv_has ls 3 [(0, .ref (a 166)), (1, .ref (a 149)), (2, .int w)] := hl
  refine lv_aload_n hx hb dX7_startFrom_0 rfl (lv_at hl 1 rfl) ?_
  refine xgU_TS_cells hx hb hts (fun _ h => List.mem_cons_of_mem _ (List.mem_append_left _ (List.mem_append_left _ (List.mem_append_right _ h)))) hown hK hP (hts (.fieldLink RX7 65 "TalePlay$Scene" "cells" "[I") (by decide +kernel)) dX7_startFrom_1 ?_
  refine lv_iconst (v := 0) hx hb dX7_startFrom_4 (by decide) ?_
  refine lv_aload_n hx hb dX7_startFrom_5 rfl (lv_at hl 0 rfl) ?_
  refine xgU_S_scene hx hb hts (fun _ h => List.mem_cons_of_mem _ (List.mem_append_left _ (List.mem_append_right _ h))) hown hK hP (hts (.fieldLink RX7 39 "TalePlay$Seeker" "scene" "LTalePlay$Scene;") (by decide +kernel)) dX7_startFrom_6 ?_
  refine xgU_SS_cells hx hb hts (fun _ h => List.mem_cons_of_mem _ (List.mem_append_left _ (List.mem_append_left _ (List.mem_append_right _ h)))) hown hK hP (hts (.fieldLink RX7 65 "TalePlay$Scene" "cells" "[I") (by decide +kernel)) dX7_startFrom_9 ?_
  refine lv_iconst (v := 0) hx hb dX7_startFrom_12 (by decide) ?_
  refine lv_bipush (v := 30) hx hb dX7_startFrom_13 (by decide) ?_
  refine va_copyi (sp := 0) (dp := 0) (n := 30) hx hb (hml.trans hl.1.symm) hown (hts (.methodLink RX7 68 arraycopyName) (by decide +kernel)) (hts (.native arraycopyName) (by decide +kernel)) (hts (.static arraycopyName) (by decide +kernel)) (hts (.initialized "java/lang/System") (by decide +kernel)) hK hP hD hS 38 59 30 45 rfl rfl rfl rfl rfl (by decide) (by decide) (by decide) (by show (0 : Int32).toInt.toNat + (30 : Int32).toInt.toNat ≤ 30; have h80 : (0 : Int32).toInt = 0 := (by decide); have h81 : (30 : Int32).toInt = 30 := (by decide); omega) (by show (0 : Int32).toInt.toNat + (30 : Int32).toInt.toNat ≤ 30; have h80 : (0 : Int32).toInt = 0 := (by decide); have h81 : (30 : Int32).toInt = 30 := (by decide); omega) (fun _ _ => rfl) (Nat.le_of_ble_eq_true rfl) (Nat.le_of_ble_eq_true rfl) dX7_startFrom_15 (fun H locs hP hD hS => ?_)
  have hP : va_P D vwCl (xwU (.ref (a 166)) a t i q (updF c 179 (va_cpy (c 150) (c 179) (0 : Int32).toNatClampNeg (0 : Int32).toNatClampNeg (30 : Int32).toNatClampNeg)) d) H := hP
  have hD : va_D A (xwU (.ref (a 166)) a t i q (updF c 179 (va_cpy (c 150) (c 179) (0 : Int32).toNatClampNeg (0 : Int32).toNatClampNeg (30 : Int32).toNatClampNeg)) d) := hD
  have hI := xInv_f hI (k := 179) (f := (va_cpy (c 150) (c 179) (0 : Int32).toNatClampNeg (0 : Int32).toNatClampNeg (30 : Int32).toNatClampNeg)) (fun j => by unfold va_cpy; split; (· exact hI.2 150 _); (· exact hI.2 179 _))
  have hfc : ∀ k, k ∉ ([179] : List Nat) → (updF c 179 (va_cpy (c 150) (c 179) (0 : Int32).toNatClampNeg (0 : Int32).toNatClampNeg (30 : Int32).toNatClampNeg)) k = c k := fr_f hfc (by decide) (by decide)
  refine lv_aload_n hx hb dX7_startFrom_18 rfl (lv_at hl 0 rfl) ?_
  refine xgU_S_acts hx hb hts (fun _ h => List.mem_cons_of_mem _ (List.mem_append_left _ (List.mem_append_right _ h))) hown hK hP (hts (.fieldLink RX7 57 "TalePlay$Seeker" "acts" "LTalePlay$Acts;") (by decide +kernel)) dX7_startFrom_19 ?_
  refine lv_iload_n hx hb dX7_startFrom_22 rfl (lv_at hl 2 rfl) ?_
  refine xpU_SA_player hx hb hts (fun _ h => List.mem_cons_of_mem _ (List.mem_append_right _ h)) hown hK hP hD hS (hts (.fieldLink RX7 74 "TalePlay$Acts" "player" "I") (by decide +kernel)) rfl rfl dX7_startFrom_23 (fun H locs hP hD hS => ?_)
  have hI := xInv_i hI (k := 185) (v := w) (show (w : Int32).toInt = -9 ∨ (0 ≤ (w : Int32).toInt ∧ (w : Int32).toInt ≤ 29) from by omega)
  have hfi : ∀ k, k ∉ ([185] : List Nat) → (upd i 185 w) k = i k := fr_iz hfi (by decide) (by decide)
  have hPS2 : PS ((updF c 179 (va_cpy (c 150) (c 179) (0 : Int32).toNatClampNeg (0 : Int32).toNatClampNeg (30 : Int32).toNatClampNeg)) 179) (w : Int32) := PS_c (z := 0) (z2 := 0) (tt := 30) hPS hw (by decide) (by decide) (by decide)
  exact rw_vret ((upd i 185 w), q, (updF c 179 (va_cpy (c 150) (c 179) (0 : Int32).toNatClampNeg (0 : Int32).toNatClampNeg (30 : Int32).toNatClampNeg)), d) hx hb hr hlocks hS (hK.sub (tys' := []) [] rfl) hP hD dX7_startFrom_26 ⟨trivial, hI, fr_w hfi (by decide), fr_w hfc (by decide), (show PS ((updF c 179 (va_cpy (c 150) (c 179) (0 : Int32).toNatClampNeg (0 : Int32).toNatClampNeg (30 : Int32).toNatClampNeg)) 179) (w : Int32) from hPS2), (show (w : Int32).toInt = w.toInt from by omega)⟩

def wm_X11_seek_s : List Cond := .code yX11_seek cX11_seek 4 (some .int) :: (([.fieldLink RX11 10 "TalePlay" "world" "LTalePlay$World;", .methodLink RX11 109 yX10_hasObject, .instanceMethod yX10_hasObject, .selects RX10 yX10_hasObject yX10_hasObject, .initialized RX10, .code yX10_hasObject cX10_hasObject 2 (some .boolean), .fieldLink RX10 37 "TalePlay$World" "objects" "I", .fieldLink RX11 46 "TalePlay" "tale" "LTalePlay$Tale;", .fieldLink RX11 257 "TalePlay$Tale" "there" "Z", .fieldLink RX11 64 "TalePlay" "seeker" "LTalePlay$Seeker;", .fieldLink RX11 286 "TalePlay$Tale" "scene" "LTalePlay$Scene;", .fieldLink RX11 289 "TalePlay$Tale" "player" "I", .methodLink RX11 292 yX7_startFrom, .instanceMethod yX7_startFrom, .selects RX7 yX7_startFrom yX7_startFrom, .initialized RX7, .code yX7_startFrom cX7_startFrom 3 none, .fieldLink RX7 65 "TalePlay$Scene" "cells" "[I", .fieldLink RX7 39 "TalePlay$Seeker" "scene" "LTalePlay$Scene;", .methodLink RX7 68 arraycopyName, .native arraycopyName, .static arraycopyName, .initialized "java/lang/System", .fieldLink RX7 57 "TalePlay$Seeker" "acts" "LTalePlay$Acts;", .fieldLink RX7 74 "TalePlay$Acts" "player" "I", .methodLink RX11 296 yX7_search, .instanceMethod yX7_search, .selects RX7 yX7_search yX7_search, .code yX7_search cX7_search 6 (some .int), .fieldLink RX7 77 "TalePlay$Seeker" "goalThing" "I", .fieldLink RX7 80 "TalePlay$Seeker" "goalHolder" "I", .fieldLink RX7 83 "TalePlay$Seeker" "found" "I", .fieldLink RX7 86 "TalePlay$Seeker" "states" "I", .fieldLink RX7 18 "TalePlay$Seeker" "slots" "[I", .methodLink RX7 89 yJ7_fill_53178, .static yJ7_fill_53178, .initialized RJ7, .code yJ7_fill_53178 cJ7_fill_53178 4 none, .methodLink RX7 95 yX7_markOfScene, .instanceMethod yX7_markOfScene, .selects RX7 yX7_markOfScene yX7_markOfScene, .code yX7_markOfScene cX7_markOfScene 3 (some .int), .methodLink RX7 154 yX7_weightOf, .static yX7_weightOf, .code yX7_weightOf cX7_weightOf 1 (some .int), .constant RX7 163 (-1640531535), .methodLink RX7 99 yX7_slotFor, .instanceMethod yX7_slotFor, .selects RX7 yX7_slotFor yX7_slotFor, .code yX7_slotFor cX7_slotFor 4 (some .int), .fieldLink RX7 15 "TalePlay$Seeker" "marks" "[I", .methodLink RX7 164 yX7_isScene, .instanceMethod yX7_isScene, .selects RX7 yX7_isScene yX7_isScene, .code yX7_isScene cX7_isScene 3 (some .boolean), .fieldLink RX7 30 "TalePlay$Seeker" "world" "LTalePlay$World;", .fieldLink RX7 125 "TalePlay$World" "objects" "I", .fieldLink RX7 9 "TalePlay$Seeker" "kept" "[I", .methodLink RX7 103 yX7_keep, .instanceMethod yX7_keep, .selects RX7 yX7_keep yX7_keep, .code yX7_keep cX7_keep 5 none, .fieldLink RX7 21 "TalePlay$Seeker" "parents" "[I", .fieldLink RX7 24 "TalePlay$Seeker" "deeds" "[I", .methodLink RX7 160 yX6_holderOf, .instanceMethod yX6_holderOf, .selects RX6 yX6_holderOf yX6_holderOf, .initialized RX6, .code yX6_holderOf cX6_holderOf 3 (some .int), .fieldLink RX6 9 "TalePlay$Scene" "cells" "[I", .methodLink RX7 115 yX7_tellPlay, .instanceMethod yX7_tellPlay, .selects RX7 yX7_tellPlay yX7_tellPlay, .code yX7_tellPlay cX7_tellPlay 3 none, .fieldLink RX7 61 "TalePlay$Seeker" "playLength" "I", .fieldLink RX7 27 "TalePlay$Seeker" "play" "[I", .methodLink RX7 107 yX7_isEnded, .instanceMethod yX7_isEnded, .selects RX7 yX7_isEnded yX7_isEnded, .code yX7_isEnded cX7_isEnded 1 (some .boolean), .methodLink RX7 111 yX7_tryFrom, .instanceMethod yX7_tryFrom, .selects RX7 yX7_tryFrom yX7_tryFrom, .code yX7_tryFrom cX7_tryFrom 5 none, .fieldLink RX7 48 "TalePlay$Seeker" "sight" "LTalePlay$Sight;", .methodLink RX7 118 yX8_look, .instanceMethod yX8_look, .selects RX8 yX8_look yX8_look, .initialized RX8, .code yX8_look cX8_look 6 none, .methodLink RX8 30 yX8_shellOf, .instanceMethod yX8_shellOf, .selects RX8 yX8_shellOf yX8_shellOf, .code yX8_shellOf cX8_shellOf 5 (some .int), .fieldLink RX8 26 "TalePlay$Sight" "scene" "LTalePlay$Scene;", .methodLink RX8 62 yX6_holderOf, .fieldLink RX8 18 "TalePlay$Sight" "world" "LTalePlay$World;", .methodLink RX8 34 yX10_sortOf, .instanceMethod yX10_sortOf, .selects RX10 yX10_sortOf yX10_sortOf, .code yX10_sortOf cX10_sortOf 2 (some .int), .fieldLink RX10 15 "TalePlay$World" "sorts" "[I", .fieldLink RX10 21 "TalePlay$World" "kindOf" "[I", .methodLink RX8 65 yX8_isCover, .instanceMethod yX8_isCover, .selects RX8 yX8_isCover yX8_isCover, .code yX8_isCover cX8_isCover 3 (some .boolean), .methodLink RX8 40 yX6_has, .instanceMethod yX6_has, .selects RX6 yX6_has yX6_has, .code yX6_has cX6_has 3 (some .boolean), .fieldLink RX8 46 "TalePlay$Sight" "bright" "Z", .fieldLink RX8 50 "TalePlay$World" "objects" "I", .methodLink RX8 58 yX6_lies, .instanceMethod yX6_lies, .selects RX6 yX6_lies yX6_lies, .code yX6_lies cX6_lies 4 (some .boolean), .fieldLink RX8 9 "TalePlay$Sight" "seen" "[Z", .fieldLink RX8 15 "TalePlay$Sight" "reached" "[Z", .methodLink RX8 54 yX8_isInView, .instanceMethod yX8_isInView, .selects RX8 yX8_isInView yX8_isInView, .code yX8_isInView cX8_isInView 6 (some .boolean), .fieldLink RX8 22 "TalePlay$Sight" "roads" "LTalePlay$Roads;", .methodLink RX8 69 yX5_isSide, .instanceMethod yX5_isSide, .selects RX5 yX5_isSide yX5_isSide, .initialized RX5, .code yX5_isSide cX5_isSide 3 (some .boolean), .fieldLink RX5 24 "TalePlay$Roads" "firstSides" "[I", .fieldLink RX5 27 "TalePlay$Roads" "secondSides" "[I", .methodLink RX7 130 yX0_reasonOfX, .instanceMethod yX0_reasonOfX, .selects RX0 yX0_reasonOfX yX0_reasonOfX, .initialized RX0, .code yX0_reasonOfX cX0_reasonOfX 3 (some .int), .methodLink RX0 42 yX0_reasonToGo, .instanceMethod yX0_reasonToGo, .selects RX0 yX0_reasonToGo yX0_reasonToGo, .code yX0_reasonToGo cX0_reasonToGo 4 (some .int), .methodLink RX0 91 yX0_isByRoom, .instanceMethod yX0_isByRoom, .selects RX0 yX0_isByRoom yX0_isByRoom, .code yX0_isByRoom cX0_isByRoom 1 (some .boolean), .fieldLink RX0 33 "TalePlay$Acts" "scene" "LTalePlay$Scene;", .fieldLink RX0 38 "TalePlay$Acts" "player" "I", .methodLink RX0 80 yX6_formOf, .instanceMethod yX6_formOf, .selects RX6 yX6_formOf yX6_formOf, .code yX6_formOf cX6_formOf 3 (some .int), .fieldLink RX0 9 "TalePlay$Acts" "world" "LTalePlay$World;", .methodLink RX0 83 yX6_holderOf, .methodLink RX0 86 yX10_sortOf, .fieldLink RX0 19 "TalePlay$Acts" "roads" "LTalePlay$Roads;", .fieldLink RX0 95 "TalePlay$Roads" "leads" "[I", .fieldLink RX0 101 "TalePlay$Roads" "doors" "[I", .methodLink RX0 104 yX6_has, .methodLink RX0 46 yX0_reasonToTake, .instanceMethod yX0_reasonToTake, .selects RX0 yX0_reasonToTake yX0_reasonToTake, .code yX0_reasonToTake cX0_reasonToTake 3 (some .int), .fieldLink RX0 34 "TalePlay$Acts" "sight" "LTalePlay$Sight;", .fieldLink RX0 108 "TalePlay$Sight" "seen" "[Z", .methodLink RX0 112 yX6_isUp, .instanceMethod yX6_isUp, .selects RX6 yX6_isUp yX6_isUp, .code yX6_isUp cX6_isUp 5 (some .boolean), .methodLink RX6 25 yX6_holderOf, .methodLink RX0 49 yX0_isHeld, .instanceMethod yX0_isHeld, .selects RX0 yX0_isHeld yX0_isHeld, .code yX0_isHeld cX0_isHeld 2 (some .boolean), .methodLink RX0 74 yX6_lies, .methodLink RX0 115 yX10_isGoods, .instanceMethod yX10_isGoods, .selects RX10 yX10_isGoods yX10_isGoods, .code yX10_isGoods cX10_isGoods 2 (some .boolean), .methodLink RX10 44 yX10_isMovable, .instanceMethod yX10_isMovable, .selects RX10 yX10_isMovable yX10_isMovable, .code yX10_isMovable cX10_isMovable 3 (some .boolean), .methodLink RX10 40 yX10_sortOf, .fieldLink RX0 118 "TalePlay$Sight" "reached" "[Z", .methodLink RX0 121 yX0_isAnothers, .instanceMethod yX0_isAnothers, .selects RX0 yX0_isAnothers yX0_isAnothers, .code yX0_isAnothers cX0_isAnothers 4 (some .boolean), .fieldLink RX0 23 "TalePlay$Acts" "bulks" "LTalePlay$Bulks;", .code yX2_weighBy cX2_weighBy 6 (some .int), .fieldLink RX2 15 "TalePlay$Bulks" "world" "LTalePlay$World;", .methodLink RX2 42 yX10_sortOf, .methodLink RX2 45 yX2_noteBodies, .instanceMethod yX2_noteBodies, .selects RX2 yX2_noteBodies yX2_noteBodies, .initialized RX2, .code yX2_noteBodies cX2_noteBodies 2 none, .fieldLink RX2 60 "TalePlay$Bulks" "BODIES" "[I", .methodLink RX2 63 yX2_note, .instanceMethod yX2_note, .selects RX2 yX2_note yX2_note, .code yX2_note cX2_note 2 none, .fieldLink RX2 27 "TalePlay$Bulks" "tracing" "Z", .fieldLink RX2 49 "TalePlay$World" "sizeOf" "[I", .methodLink RX2 52 yX2_weighThose, .instanceMethod yX2_weighThose, .selects RX2 yX2_weighThose yX2_weighThose, .code yX2_weighThose cX2_weighThose 7 (some .int), .fieldLink RX2 31 "TalePlay$World" "objects" "I", .methodLink RX2 56 yX6_lies, .methodLink RX2 23 yX2_weighBy, .instanceMethod yX2_weighBy, .selects RX2 yX2_weighBy yX2_weighBy, .methodLink RX0 53 yX0_reasonOfShutter, .instanceMethod yX0_reasonOfShutter, .selects RX0 yX0_reasonOfShutter yX0_reasonOfShutter, .code yX0_reasonOfShutter cX0_reasonOfShutter 4 (some .int), .methodLink RX0 137 yX10_isShutter, .instanceMethod yX10_isShutter, .selects RX10 yX10_isShutter yX10_isShutter, .code yX10_isShutter cX10_isShutter 3 (some .boolean), .methodLink RX0 140 yX0_reasonOfLeaf, .static yX0_reasonOfLeaf, .code yX0_reasonOfLeaf cX0_reasonOfLeaf 3 (some .int), .methodLink RX0 57 yX0_reasonToWear, .instanceMethod yX0_reasonToWear, .selects RX0 yX0_reasonToWear yX0_reasonToWear, .code yX0_reasonToWear cX0_reasonToWear 2 (some .int), .methodLink RX0 60 yX0_reasonToEnter, .instanceMethod yX0_reasonToEnter, .selects RX0 yX0_reasonToEnter yX0_reasonToEnter, .code yX0_reasonToEnter cX0_reasonToEnter 3 (some .int), .methodLink RX0 63 yX0_reasonToLeave, .instanceMethod yX0_reasonToLeave, .selects RX0 yX0_reasonToLeave yX0_reasonToLeave, .code yX0_reasonToLeave cX0_reasonToLeave 3 (some .int), .methodLink RX7 134 yX7_tryWith, .instanceMethod yX7_tryWith, .selects RX7 yX7_tryWith yX7_tryWith, .code yX7_tryWith cX7_tryWith 6 none, .methodLink RX7 138 yX0_hasY, .static yX0_hasY, .code yX0_hasY cX0_hasY 1 (some .boolean), .methodLink RX7 141 yX0_reasonOfY, .instanceMethod yX0_reasonOfY, .selects RX0 yX0_reasonOfY yX0_reasonOfY, .code yX0_reasonOfY cX0_reasonOfY 4 (some .int), .methodLink RX0 67 yX0_reasonToPut, .instanceMethod yX0_reasonToPut, .selects RX0 yX0_reasonToPut yX0_reasonToPut, .code yX0_reasonToPut cX0_reasonToPut 4 (some .int), .methodLink RX0 134 yX6_countOf, .instanceMethod yX6_countOf, .selects RX6 yX6_countOf yX6_countOf, .code yX6_countOf cX6_countOf 5 (some .int), .fieldLink RX6 15 "TalePlay$Scene" "world" "LTalePlay$World;", .fieldLink RX6 34 "TalePlay$World" "objects" "I", .methodLink RX6 38 yX6_lies, .methodLink RX0 71 yX0_reasonOfKey, .instanceMethod yX0_reasonOfKey, .selects RX0 yX0_reasonOfKey yX0_reasonOfKey, .code yX0_reasonOfKey cX0_reasonOfKey 3 (some .int), .fieldLink RX0 15 "TalePlay$Acts" "book" "LTalePlay$Book;", .methodLink RX0 144 yX1_keyOf, .instanceMethod yX1_keyOf, .selects RX1 yX1_keyOf yX1_keyOf, .initialized RX1, .code yX1_keyOf cX1_keyOf 3 (some .int), .fieldLink RX1 37 "TalePlay$Book" "keyBy" "[I", .fieldLink RX1 15 "TalePlay$Book" "as" "[I", .methodLink RX7 145 yX7_step, .instanceMethod yX7_step, .selects RX7 yX7_step yX7_step, .code yX7_step cX7_step 10 none, .methodLink RX7 148 yX0_subjectOf, .instanceMethod yX0_subjectOf, .selects RX0 yX0_subjectOf yX0_subjectOf, .code yX0_subjectOf cX0_subjectOf 3 (some .int), .methodLink RX7 151 yX0_outcomeOf, .instanceMethod yX0_outcomeOf, .selects RX0 yX0_outcomeOf yX0_outcomeOf, .code yX0_outcomeOf cX0_outcomeOf 5 (some .int), .fieldLink RX0 149 "TalePlay$Scene" "cells" "[I", .methodLink RX0 152 yX0_subjectOf, .methodLink RX0 155 yX6_placed, .static yX6_placed, .code yX6_placed cX6_placed 3 (some .int), .methodLink RX0 158 yX6_flagged, .static yX6_flagged, .code yX6_flagged cX6_flagged 4 (some .int), .methodLink RX0 162 yX0_placedAs, .instanceMethod yX0_placedAs, .selects RX0 yX0_placedAs yX0_placedAs, .code yX0_placedAs cX0_placedAs 3 (some .int), .code yX11_deedOf cX11_deedOf 3 (some .int), .initialized RX11, .static yX11_deedOf, .methodLink RX7 121 yX0_hasX, .static yX0_hasX, .code yX0_hasX cX0_hasX 1 (some .boolean)] : List Cond) ++ wsX110 ++ wsX100 ++ wsX90 ++ wsX60 ++ wsX70 ++ wsX00 ++ wsX80 ++ wsX50 ++ wsX20 ++ wsX10)
set_option maxRecDepth 20000 in
theorem gm_X11_seek_s_X10_hasObject_109 : GoodIn wm_X11_seek_s (wsV RX11 109 RX10 yX10_hasObject wm_X10_hasObject) := goodIn_app (goodIn_of _ (by decide +kernel)) (goodIn_r _ [6, 7, 311, 312, 313, 314, 315, 316, 317] rfl (by decide +kernel))
set_option maxRecDepth 20000 in
theorem gm_X11_seek_s_X7_startFrom_292 : GoodIn wm_X11_seek_s (wsV RX11 292 RX7 yX7_startFrom wm_X7_startFrom) := goodIn_app (goodIn_of _ (by decide +kernel)) (goodIn_r _ [17, 18, 19, 20, 21, 22, 23, 24, 25, 329, 330, 331, 332, 333, 334, 335, 336, 337, 338, 339, 340, 341, 342, 343, 344, 345, 346, 347, 348, 349, 350, 351, 352] rfl (by decide +kernel))
set_option maxRecDepth 20000 in
theorem gm_X11_seek_s_X7_search_296 : GoodIn wm_X11_seek_s (wsV RX11 296 RX7 yX7_search wm_X7_search) := goodIn_app (goodIn_of _ (by decide +kernel)) (goodIn_r _ [29, 30, 31, 32, 33, 34, 35, 36, 37, 38, 39, 40, 41, 16, 42, 19, 18, 43, 44, 45, 46, 47, 48, 49, 50, 51, 52, 53, 54, 55, 56, 57, 58, 59, 60, 61, 62, 20, 21, 22, 23, 63, 64, 65, 66, 67, 68, 69, 70, 71, 72, 73, 74, 75, 76, 77, 78, 79, 80, 81, 82, 83, 84, 85, 24, 25, 86, 87, 88, 89, 90, 91, 92, 93, 94, 95, 96, 97, 98, 99, 100, 5, 101, 7, 102, 103, 104, 105, 106, 107, 108, 109, 110, 111, 112, 113, 114, 115, 116, 117, 118, 119, 120, 121, 122, 123, 124, 125, 126, 127, 128, 129, 130, 131, 132, 133, 134, 135, 136, 137, 138, 139, 140, 141, 142, 143, 144, 145, 146, 147, 148, 149, 150, 151, 152, 153, 154, 155, 156, 157, 158, 159, 160, 161, 162, 163, 164, 165, 166, 167, 168, 169, 170, 171, 172, 173, 174, 175, 176, 177, 178, 179, 180, 181, 182, 183, 184, 185, 186, 187, 188, 189, 190, 191, 192, 193, 194, 195, 196, 197, 198, 199, 200, 201, 202, 203, 204, 205, 206, 207, 208, 209, 210, 211, 212, 213, 214, 215, 216, 217, 218, 219, 220, 221, 222, 223, 224, 225, 226, 227, 228, 229, 230, 231, 232, 233, 234, 235, 236, 237, 238, 239, 240, 241, 242, 243, 244, 245, 246, 247, 248, 249, 250, 251, 252, 253, 254, 255, 256, 257, 258, 259, 260, 261, 262, 263, 264, 265, 266, 267, 268, 269, 270, 271, 272, 273, 274, 275, 276, 277, 278, 279, 280, 281, 282, 283, 284, 285, 286, 287, 288, 289, 290, 291, 292, 293, 294, 295, 296, 297, 298, 299, 331, 332, 333, 334, 335, 336, 337, 338, 339, 340, 341, 342, 343, 344, 345, 329, 330, 311, 312, 313, 314, 315, 316, 317, 346, 347, 348, 349, 350, 351, 352, 353, 354, 355, 356, 357, 358, 359, 360, 361, 362, 363, 364, 365, 366, 367, 368, 369, 370, 371, 372, 373, 374, 375, 376, 377, 378, 379, 380, 381, 382, 383, 384, 385, 386, 387, 388] rfl (by decide +kernel))
set_option maxHeartbeats 4000000 in
set_option maxRecDepth 100000 in
theorem x_X11_seek_s (l : Launch) (D : va_G) (sz : Nat) (a : Nat → Nat) (t : Nat → ClassId) (i : Nat → Int32) (q : Int64) (c : Nat → Nat → Int32) (d : Nat → Nat → Int64) (w1 : Int32) (w2 : Int32) (b1 : Int32) (hI : xInv i c) (htr : (i 141).toInt = 0) (hs_P : PJ (i 146) (i 147) (i 156) (i 148) (c 150) (c 144) (c 145)) : Met l yX11_seek wm_X11_seek_s ({ frames := 73, cells := 0, slots := 0, locals := 1899 }) (va_Pc [.ref (a 100), .int w1, .int w2, .int b1] (yB (a 186) D sz (xwU (.ref (a 166)) a t i q c d) (xtU t))) (va_Qi (fun (r : Int32) (u : MS) => True ∧ xInv u.1 u.2.2.1 ∧ (∀ k, k ∉ ([173, 174, 175, 176, 177, 183, 185] : List Nat) → u.1 k = i k) ∧ (∀ k, k ∉ ([167, 168, 169, 170, 171, 172, 179, 181, 182] : List Nat) → u.2.2.1 k = c k)) (oC D (va_A (xwU (.ref (a 166)) a t i q c d) sz) (fun u : MS => xwU (.ref (a 166)) a t u.1 u.2.1 u.2.2.1 u.2.2.2) (fun _ => [])) (va_A (xwU (.ref (a 166)) a t i q c d) sz)) 0 0 (va_A (xwU (.ref (a 166)) a t i q c d) sz) := by
  refine Met.ofW (cc := cX11_seek) (maxL := 4) (ret := (some .int)) (by decide) rfl ?_
  intro p e s m args below meth cd s₁ B hml hv
  obtain ⟨rfl, ⟨hsz, hP, hK, hD0⟩, hN, hZ, hBW⟩ := hv
  have hx := B.exec
  have hb := B.bytes
  have hr := B.returns
  have hts := atoms_spec (ws := wm_X11_seek_s) B.pre
  have hown : s.vm.findClass RX11 = some m.cls := findClass_of_methodNamed B.named
  have hlocks := B.notSynchronized
  subst hsz
  have hD := hD0.self (sz := s.heap.size)
  have hZ := xZ_A hZ hP hBW
  generalize hAe : va_A (xwU (.ref (a 166)) a t i q c d) s.heap.size = A at hD hZ ⊢
  have hA : ∀ q : Nat, s.heap.size ≤ q → A q := fun q h => by rw [← hAe]; exact Or.inr h
  have hS : va_S A s.heap s.heap [] := va_S.rf
  have hfi : ∀ k, k ∉ ([] : List Nat) → i k = i k := fun _ _ => rfl
  have hfc : ∀ k, k ∉ ([] : List Nat) → c k = c k := fun _ _ => rfl
  have hl := lv_entry ([.ref (a 100), .int w1, .int w2, .int b1]) (n := 4) (Nat.le_of_ble_eq_true rfl)
  rw [lg_entry_eq]
  generalize (lg_sl ([.ref (a 100), .int w1, .int w2, .int b1]) ++ List.replicate (4 - (lg_sl ([.ref (a 100), .int w1, .int w2, .int b1])).length) Slot.unset).toArray = ls at hl ⊢
  have hl : lv_has ls 4 [(0, .ref (a 100)), (1, .int w1), (2, .int w2), (3, .int b1)] := hl
  refine lv_aload_n hx hb dX11_seek_0 rfl (lv_at hl 0 rfl) ?_
  refine xgU_X_world hx hb hts (fun _ h => List.mem_cons_of_mem _ (List.mem_append_left _ (List.mem_append_left _ (List.mem_append_left _ (List.mem_append_left _ (List.mem_append_left _ (List.mem_append_left _ (List.mem_append_left _ (List.mem_append_left _ (List.mem_append_left _ (List.mem_append_right _ h))))))))))) hown hK hP (hts (.fieldLink RX11 10 "TalePlay" "world" "LTalePlay$World;") (by decide +kernel)) dX11_seek_1 ?_
  refine lv_iload_n hx hb dX11_seek_4 rfl (lv_at hl 1 rfl) ?_
  have rb111_i : 0 ≤ (i 111).toInt ∧ (i 111).toInt ≤ 30 := hI.1 111
  refine ro_calli (va_runV (As := [.int w1]) (rest := []) ⟨hx, hb, hml, hown, hts⟩ (x_X10_hasObject l D s.heap.size .null a t i q c d w1 hI ) (cwV 1 hts gm_X11_seek_s_X10_hasObject_109 rfl rfl rfl (by decide +kernel) ⟨Nat.le_of_ble_eq_true rfl, Nat.le_of_ble_eq_true rfl⟩) (yA_V hN (xZ_k hZ hS hA) (xkU_W hK) (xuU_W (sk := (.ref (a 166))) hP) (ci := 10) (q0 := 0) rfl rfl) rfl rfl hl.1 rfl (lv_room (Nat.le_of_ble_eq_true rfl)) dX11_seek_5 ⟨Nat.le_of_ble_eq_true rfl, Nat.le_of_ble_eq_true rfl⟩) hS hA hP (fun r1 u1 H locs hw1 hP hS => ?_)
  have hw1 : r1 = if (0 ≤ w1.toInt ∧ w1.toInt < (i 111).toInt) then 1 else 0 := hw1
  refine lv_if_eq (tgt := 33) hx hb dX11_seek_8 (by decide) (fun c2 => ?_) (fun c2 => ?_)
  · have f2 := fl_f hw1 c2
    refine lv_iconst (v := (-1)) hx hb dX11_seek_33 (by decide) ?_
    exact rw_iret (i, q, c, d) hx hb hr hlocks hS (hK.sub (tys' := []) [] rfl) hP hD dX11_seek_34 ⟨trivial, hI, fr_w hfi (by decide), fr_w hfc (by decide)⟩
  · have f2 := fl_t hw1 c2
    refine lv_aload_n hx hb dX11_seek_11 rfl (lv_at hl 0 rfl) ?_
    refine xgU_X_world hx hb hts (fun _ h => List.mem_cons_of_mem _ (List.mem_append_left _ (List.mem_append_left _ (List.mem_append_left _ (List.mem_append_left _ (List.mem_append_left _ (List.mem_append_left _ (List.mem_append_left _ (List.mem_append_left _ (List.mem_append_left _ (List.mem_append_right _ h))))))))))) hown hK hP (hts (.fieldLink RX11 10 "TalePlay" "world" "LTalePlay$World;") (by decide +kernel)) dX11_seek_12 ?_
    refine lv_iload_n hx hb dX11_seek_15 rfl (lv_at hl 2 rfl) ?_
    refine ro_calli (va_runV (As := [.int w2]) (rest := []) ⟨hx, hb, hml, hown, hts⟩ (x_X10_hasObject l D H.size .null a t i q c d w2 hI ) (cwV 1 hts gm_X11_seek_s_X10_hasObject_109 rfl rfl rfl (by decide +kernel) ⟨Nat.le_of_ble_eq_true rfl, Nat.le_of_ble_eq_true rfl⟩) (yA_V hN (xZ_k hZ hS hA) (xkU_W hK) (xuU_W (sk := (.ref (a 166))) hP) (ci := 10) (q0 := 0) rfl rfl) rfl rfl hl.1 rfl (lv_room (Nat.le_of_ble_eq_true rfl)) dX11_seek_16 ⟨Nat.le_of_ble_eq_true rfl, Nat.le_of_ble_eq_true rfl⟩) hS hA hP (fun r3 u3 H locs hw3 hP hS => ?_)
    have hw3 : r3 = if (0 ≤ w2.toInt ∧ w2.toInt < (i 111).toInt) then 1 else 0 := hw3
    refine lv_if_eq (tgt := 33) hx hb dX11_seek_19 (by decide) (fun c4 => ?_) (fun c4 => ?_)
    · have f4 := fl_f hw3 c4
      refine lv_iconst (v := (-1)) hx hb dX11_seek_33 (by decide) ?_
      exact rw_iret (i, q, c, d) hx hb hr hlocks hS (hK.sub (tys' := []) [] rfl) hP hD dX11_seek_34 ⟨trivial, hI, fr_w hfi (by decide), fr_w hfc (by decide)⟩
    · have f4 := fl_t hw3 c4
      refine lv_iload_n hx hb dX11_seek_22 rfl (lv_at hl 3 rfl) ?_
      refine lv_if_lt (tgt := 33) hx hb dX11_seek_23 (by decide) (fun c5 => ?_) (fun c5 => ?_)
      · have f5 := (ti_lt (a := b1.toInt) (b := 0) rfl (by decide)).mp c5
        refine lv_iconst (v := (-1)) hx hb dX11_seek_33 (by decide) ?_
        exact rw_iret (i, q, c, d) hx hb hr hlocks hS (hK.sub (tys' := []) [] rfl) hP hD dX11_seek_34 ⟨trivial, hI, fr_w hfi (by decide), fr_w hfc (by decide)⟩
      · have f5 := mt (ti_lt (a := b1.toInt) (b := 0) rfl (by decide)).mpr c5
        refine lv_iload_n hx hb dX11_seek_26 rfl (lv_at hl 3 rfl) ?_
        refine lv_sipush (v := 300) hx hb dX11_seek_27 (by decide) ?_
        refine lv_icmp_le (tgt := 35) hx hb dX11_seek_30 (by decide) (fun c6 => ?_) (fun c6 => ?_)
        · have f6 := (ti_le (a := b1.toInt) (b := 300) rfl (by decide)).mp c6
          refine lv_aload_n hx hb dX11_seek_35 rfl (lv_at hl 0 rfl) ?_
          refine xgU_X_tale hx hb hts (fun _ h => List.mem_cons_of_mem _ (List.mem_append_left _ (List.mem_append_left _ (List.mem_append_left _ (List.mem_append_left _ (List.mem_append_left _ (List.mem_append_left _ (List.mem_append_left _ (List.mem_append_left _ (List.mem_append_left _ (List.mem_append_right _ h))))))))))) hown hK hP (hts (.fieldLink RX11 46 "TalePlay" "tale" "LTalePlay$Tale;") (by decide +kernel)) dX11_seek_36 ?_
          refine xgU_T_there (v := (i 146)) rfl hx hb hts (fun _ h => List.mem_cons_of_mem _ (List.mem_append_left _ (List.mem_append_left _ (List.mem_append_left _ (List.mem_append_left _ (List.mem_append_left _ (List.mem_append_left _ (List.mem_append_left _ (List.mem_append_right _ h))))))))) hown hK hP (hts (.fieldLink RX11 257 "TalePlay$Tale" "there" "Z") (by decide +kernel)) dX11_seek_39 ?_
          have rb146_i : 0 ≤ (i 146).toInt ∧ (i 146).toInt ≤ 1 := hI.1 146
          refine lv_if_ne (tgt := 48) hx hb dX11_seek_42 (by decide) (fun c7 => ?_) (fun c7 => ?_)
          · have f7 := mt (ti_eq (a := (i 146).toInt) (b := 0) rfl (by decide)).mpr c7
            obtain ⟨hp1, hp2, hp3, hp4, hp5⟩ := hs_P (by omega)
            refine lv_aload_n hx hb dX11_seek_48 rfl (lv_at hl 0 rfl) ?_
            refine xgU_X_seeker hx hb hts (fun _ h => List.mem_cons_of_mem _ (List.mem_append_left _ (List.mem_append_left _ (List.mem_append_left _ (List.mem_append_left _ (List.mem_append_left _ (List.mem_append_left _ (List.mem_append_left _ (List.mem_append_left _ (List.mem_append_left _ (List.mem_append_right _ h))))))))))) hown hK hP (hts (.fieldLink RX11 64 "TalePlay" "seeker" "LTalePlay$Seeker;") (by decide +kernel)) dX11_seek_49 ?_
            refine lv_ifnonnull (tgt := 82) hx hb dX11_seek_52 (by decide) ?_
            refine lv_aload_n hx hb dX11_seek_82 rfl (lv_at hl 0 rfl) ?_
            refine xgU_X_seeker hx hb hts (fun _ h => List.mem_cons_of_mem _ (List.mem_append_left _ (List.mem_append_left _ (List.mem_append_left _ (List.mem_append_left _ (List.mem_append_left _ (List.mem_append_left _ (List.mem_append_left _ (List.mem_append_left _ (List.mem_append_left _ (List.mem_append_right _ h))))))))))) hown hK hP (hts (.fieldLink RX11 64 "TalePlay" "seeker" "LTalePlay$Seeker;") (by decide +kernel)) dX11_seek_83 ?_
            refine lv_aload_n hx hb dX11_seek_86 rfl (lv_at hl 0 rfl) ?_
            refine xgU_X_tale hx hb hts (fun _ h => List.mem_cons_of_mem _ (List.mem_append_left _ (List.mem_append_left _ (List.mem_append_left _ (List.mem_append_left _ (List.mem_append_left _ (List.mem_append_left _ (List.mem_append_left _ (List.mem_append_left _ (List.mem_append_left _ (List.mem_append_right _ h))))))))))) hown hK hP (hts (.fieldLink RX11 46 "TalePlay" "tale" "LTalePlay$Tale;") (by decide +kernel)) dX11_seek_87 ?_
            refine xgU_T_scene hx hb hts (fun _ h => List.mem_cons_of_mem _ (List.mem_append_left _ (List.mem_append_left _ (List.mem_append_left _ (List.mem_append_left _ (List.mem_append_left _ (List.mem_append_left _ (List.mem_append_left _ (List.mem_append_right _ h))))))))) hown hK hP (hts (.fieldLink RX11 286 "TalePlay$Tale" "scene" "LTalePlay$Scene;") (by decide +kernel)) dX11_seek_90 ?_
            refine lv_aload_n hx hb dX11_seek_93 rfl (lv_at hl 0 rfl) ?_
            refine xgU_X_tale hx hb hts (fun _ h => List.mem_cons_of_mem _ (List.mem_append_left _ (List.mem_append_left _ (List.mem_append_left _ (List.mem_append_left _ (List.mem_append_left _ (List.mem_append_left _ (List.mem_append_left _ (List.mem_append_left _ (List.mem_append_left _ (List.mem_append_right _ h))))))))))) hown hK hP (hts (.fieldLink RX11 46 "TalePlay" "tale" "LTalePlay$Tale;") (by decide +kernel)) dX11_seek_94 ?_
            refine xgU_T_player (v := (i 147)) rfl hx hb hts (fun _ h => List.mem_cons_of_mem _ (List.mem_append_left _ (List.mem_append_left _ (List.mem_append_left _ (List.mem_append_left _ (List.mem_append_left _ (List.mem_append_left _ (List.mem_append_left _ (List.mem_append_right _ h))))))))) hown hK hP (hts (.fieldLink RX11 289 "TalePlay$Tale" "player" "I") (by decide +kernel)) dX11_seek_97 ?_
            have rb147_i : (i 147).toInt = -9 ∨ (0 ≤ (i 147).toInt ∧ (i 147).toInt ≤ 29) := hI.1 147
            refine al_callv (va_runV (As := [.ref (a 149), .int (i 147)]) (rest := []) ⟨hx, hb, hml, hown, hts⟩ (x_X7_startFrom l D H.size a t i q c d (i 147) hI (show 0 ≤ (i 147).toInt ∧ (i 147).toInt ≤ 29 from by omega) hp4) (cwV 2 hts gm_X11_seek_s_X7_startFrom_292 rfl rfl rfl (by decide +kernel) ⟨Nat.le_of_ble_eq_true rfl, Nat.le_of_ble_eq_true rfl⟩) (yB_V hN (xZ_k hZ hS hA) (xZ_n hZ hD) hK hP hD (ci := 7) (q0 := 51) rfl rfl) rfl rfl hl.1 rfl (lv_room (Nat.le_of_ble_eq_true rfl)) dX11_seek_100 ⟨Nat.le_of_ble_eq_true rfl, Nat.le_of_ble_eq_true rfl⟩) hS hA hP hD (fun u8 H locs hw8 hP hD hS => ?_)
            obtain ⟨i8, q8, c8, d8⟩ := u8
            have hw8 : True ∧ xInv i8 c8 ∧ (∀ k, k ∉ ([185] : List Nat) → i8 k = i k) ∧ (∀ k, k ∉ ([179] : List Nat) → c8 k = c k) ∧ (PS (c8 179) (i8 185)) ∧ ((i8 185).toInt = (i 147).toInt) := hw8
            obtain ⟨hw8, hI, hei8, hec8, hxp8_0, hxp8_1⟩ := hw8
            have hxp8_0 : PS (c8 179) (i8 185) := hxp8_0
            have hxp8_1 : (i8 185).toInt = (i 147).toInt := hxp8_1
            have hfi : ∀ k, k ∉ ([185] : List Nat) → i8 k = i k := fr_z hfi hei8 (by decide) (by decide)
            have hfc : ∀ k, k ∉ ([179] : List Nat) → c8 k = c k := fr_z hfc hec8 (by decide) (by decide)
            have hPS : PS (c8 179) ((i8 185) : Int32) := hxp8_0
            have rb147_i8 : (i8 147).toInt = -9 ∨ (0 ≤ (i8 147).toInt ∧ (i8 147).toInt ≤ 29) := hI.1 147
            have re147_i8 : (i8 147).toInt = (i 147).toInt := congrArg Int32.toInt (hfi 147 (by decide))
            refine lv_aload_n hx hb dX11_seek_103 rfl (lv_at hl 0 rfl) ?_
            refine xgU_X_seeker hx hb hts (fun _ h => List.mem_cons_of_mem _ (List.mem_append_left _ (List.mem_append_left _ (List.mem_append_left _ (List.mem_append_left _ (List.mem_append_left _ (List.mem_append_left _ (List.mem_append_left _ (List.mem_append_left _ (List.mem_append_left _ (List.mem_append_right _ h))))))))))) hown hK hP (hts (.fieldLink RX11 64 "TalePlay" "seeker" "LTalePlay$Seeker;") (by decide +kernel)) dX11_seek_104 ?_
            refine lv_iload_n hx hb dX11_seek_107 rfl (lv_at hl 1 rfl) ?_
            refine lv_iload_n hx hb dX11_seek_108 rfl (lv_at hl 2 rfl) ?_
            refine lv_iload_n hx hb dX11_seek_109 rfl (lv_at hl 3 rfl) ?_
            have rb141_i8 : 0 ≤ (i8 141).toInt ∧ (i8 141).toInt ≤ 1 := hI.1 141
            have re141_i8 : (i8 141).toInt = (i 141).toInt := congrArg Int32.toInt (hfi 141 (by decide))
            have rb185_i8 : (i8 185).toInt = -9 ∨ (0 ≤ (i8 185).toInt ∧ (i8 185).toInt ≤ 29) := hI.1 185
            refine rw_calli (wr := (xwV (.ref (a 166)) a t i8 q8 c8 d8)) (va_runV (As := [.int w1, .int w2, .int b1]) (rest := []) ⟨hx, hb, hml, hown, hts⟩ (x_X7_search l D H.size .null a t i8 q8 c8 d8 w1 w2 b1 hI (show 0 ≤ w1.toInt ∧ w1.toInt ≤ 29 from by omega) (show 0 ≤ w2.toInt ∧ w2.toInt ≤ 29 from by omega) (show 0 ≤ b1.toInt ∧ b1.toInt ≤ 300 from by omega) (show 0 ≤ ((i8 185) : Int32).toInt ∧ ((i8 185) : Int32).toInt ≤ 29 from by omega) (show ((i8 141) : Int32).toInt = 0 from by omega) hPS) (cwV 3 hts gm_X11_seek_s_X7_search_296 rfl rfl rfl (by decide +kernel) ⟨Nat.le_of_ble_eq_true rfl, Nat.le_of_ble_eq_true rfl⟩) (yB_V hN (xZ_k hZ hS hA) (xZ_n hZ (hD.sub (ws' := (xwS (.ref (a 166)) a t i8 q8 c8 d8)) [2, 3, 4, 5, 6, 7, 8, 9, 10, 11, 12, 13, 14, 15, 16, 17, 18, 19, 20, 21, 22, 23, 24, 25, 26, 27, 28, 29, 30, 31, 32, 51, 52, 53, 54, 55, 56, 57, 58, 59, 60, 61, 62, 63] (by decide) rfl)) (xkU_S hK) (xuU_S (sk := (.ref (a 166))) hP) (hD.sub (ws' := (xwS (.ref (a 166)) a t i8 q8 c8 d8)) [2, 3, 4, 5, 6, 7, 8, 9, 10, 11, 12, 13, 14, 15, 16, 17, 18, 19, 20, 21, 22, 23, 24, 25, 26, 27, 28, 29, 30, 31, 32, 51, 52, 53, 54, 55, 56, 57, 58, 59, 60, 61, 62, 63] (by decide) rfl) (ci := 7) (q0 := 31) rfl rfl) rfl rfl hl.1 rfl (lv_room (Nat.le_of_ble_eq_true rfl)) dX11_seek_110 ⟨Nat.le_of_ble_eq_true rfl, Nat.le_of_ble_eq_true rfl⟩) hS hA hK hP hD [2, 3, 4, 5, 6, 7, 8, 9, 10, 11, 12, 13, 14, 15, 16, 17, 18, 19, 20, 21, 22, 23, 24, 25, 26, 27, 28, 29, 30, 31, 32, 51, 52, 53, 54, 55, 56, 57, 58, 59, 60, 61, 62, 63] [0, 1, 33, 34, 35, 36, 37, 38, 39, 40, 41, 42, 43, 44, 45, 46, 47, 48, 49, 50] rfl rfl (by decide) (by decide) (fun r9 u9 H locs hw9 hK9 hP hD hS => ?_)
            obtain ⟨i9, q9, c9, d9⟩ := u9
            have hw9 : True ∧ xInv i9 c9 ∧ (∀ k, k ∉ ([173, 174, 175, 176, 177, 183] : List Nat) → i9 k = i8 k) ∧ (∀ k, k ∉ ([167, 168, 169, 170, 171, 172, 179, 181, 182] : List Nat) → c9 k = c8 k) := hw9
            obtain ⟨hw9, hI, hei9, hec9⟩ := hw9
            have hV9 : (xwV (.ref (a 166)) a t i8 q8 c8 d8) = xwV (.ref (a 166)) a t i9 q8 c9 d8 := xwV_e (fun k hk => hei9 k (lt_nm (by decide) hk)) (fun k hk => hec9 k (lt_nm (by decide) hk))
            have hP : va_P D vwCl (xwV (.ref (a 166)) a t i9 q8 c9 d8 ++ xwS (.ref (a 166)) a t i9 q9 c9 d9) H := by rw [← hV9]; exact hP
            have hD : va_D A (xwV (.ref (a 166)) a t i9 q8 c9 d8 ++ xwS (.ref (a 166)) a t i9 q9 c9 d9) := by rw [← hV9]; exact hD
            have hP := hP.sub (ws' := (xwU (.ref (a 166)) a t i9 q8 c9 d8)) [0, 1, 20, 21, 22, 23, 24, 25, 26, 27, 28, 29, 30, 31, 32, 33, 34, 35, 36, 37, 38, 39, 40, 41, 42, 43, 44, 45, 46, 47, 48, 49, 50, 2, 3, 4, 5, 6, 7, 8, 9, 10, 11, 12, 13, 14, 15, 16, 17, 18, 19, 51, 52, 53, 54, 55, 56, 57, 58, 59, 60, 61, 62, 63] rfl
            have hD := hD.sub (ws' := (xwU (.ref (a 166)) a t i9 q8 c9 d8)) [0, 1, 20, 21, 22, 23, 24, 25, 26, 27, 28, 29, 30, 31, 32, 33, 34, 35, 36, 37, 38, 39, 40, 41, 42, 43, 44, 45, 46, 47, 48, 49, 50, 2, 3, 4, 5, 6, 7, 8, 9, 10, 11, 12, 13, 14, 15, 16, 17, 18, 19, 51, 52, 53, 54, 55, 56, 57, 58, 59, 60, 61, 62, 63] (by decide) rfl
            have hfi : ∀ k, k ∉ ([173, 174, 175, 176, 177, 183, 185] : List Nat) → i9 k = i k := fr_z hfi hei9 (by decide) (by decide)
            have hfc : ∀ k, k ∉ ([167, 168, 169, 170, 171, 172, 179, 181, 182] : List Nat) → c9 k = c k := fr_z hfc hec9 (by decide) (by decide)
            exact rw_iret (i9, q8, c9, d8) hx hb hr hlocks hS (hK.sub (tys' := []) [] rfl) hP hD dX11_seek_113 ⟨trivial, hI, fr_w hfi (by decide), fr_w hfc (by decide)⟩
          · have f7 := (ti_eq (a := (i 146).toInt) (b := 0) rfl (by decide)).mp c7
            refine lv_bipush (v := (-5)) hx hb dX11_seek_45 (by decide) ?_
            exact rw_iret (i, q, c, d) hx hb hr hlocks hS (hK.sub (tys' := []) [] rfl) hP hD dX11_seek_47 ⟨trivial, hI, fr_w hfi (by decide), fr_w hfc (by decide)⟩
        · have f6 := mt (ti_le (a := b1.toInt) (b := 300) rfl (by decide)).mpr c6
          refine lv_iconst (v := (-1)) hx hb dX11_seek_33 (by decide) ?_
          exact rw_iret (i, q, c, d) hx hb hr hlocks hS (hK.sub (tys' := []) [] rfl) hP hD dX11_seek_34 ⟨trivial, hI, fr_w hfi (by decide), fr_w hfc (by decide)⟩

def wm_X11_seek_r : List Cond := .code yX11_seek cX11_seek 4 (some .int) :: (([.fieldLink RX11 10 "TalePlay" "world" "LTalePlay$World;", .methodLink RX11 109 yX10_hasObject, .instanceMethod yX10_hasObject, .selects RX10 yX10_hasObject yX10_hasObject, .initialized RX10, .code yX10_hasObject cX10_hasObject 2 (some .boolean), .fieldLink RX10 37 "TalePlay$World" "objects" "I", .fieldLink RX11 46 "TalePlay" "tale" "LTalePlay$Tale;", .fieldLink RX11 257 "TalePlay$Tale" "there" "Z"] : List Cond) ++ wsX110 ++ wsX100 ++ wsX90)
set_option maxRecDepth 20000 in
theorem gm_X11_seek_r_X10_hasObject_109 : GoodIn wm_X11_seek_r (wsV RX11 109 RX10 yX10_hasObject wm_X10_hasObject) := goodIn_app (goodIn_of _ (by decide +kernel)) (goodIn_r _ [6, 7, 21, 22, 23, 24, 25, 26, 27] rfl (by decide +kernel))
set_option maxHeartbeats 4000000 in
set_option maxRecDepth 100000 in
theorem x_X11_seek_r (l : Launch) (D : va_G) (sz : Nat) (a : Nat → Nat) (t : Nat → ClassId) (i : Nat → Int32) (q : Int64) (c : Nat → Nat → Int32) (d : Nat → Nat → Int64) (w1 : Int32) (w2 : Int32) (b1 : Int32) (hI : xInv i c) (hno : ¬ (0 ≤ w1.toInt ∧ w1.toInt < (i 111).toInt ∧ 0 ≤ w2.toInt ∧ w2.toInt < (i 111).toInt ∧ 0 ≤ b1.toInt ∧ b1.toInt ≤ 300 ∧ ¬ (i 146).toInt = 0)) : Met l yX11_seek wm_X11_seek_r ({ frames := 1, cells := 0, slots := 0, locals := 21 }) (va_Pc [.ref (a 100), .int w1, .int w2, .int b1] (yA (a 186) D sz (xwT .null a t i q c d) (xtT t))) (va_Qi (fun (r : Int32) (_ : Unit) => True) oA (ro sz)) 0 0 (ro sz) := by
  refine Met.ofW (cc := cX11_seek) (maxL := 4) (ret := (some .int)) (by decide) rfl ?_
  intro p e s m args below meth cd s₁ B hml hv
  obtain ⟨rfl, ⟨hsz, hP, hK⟩, hN, hZ⟩ := hv
  have hx := B.exec
  have hb := B.bytes
  have hr := B.returns
  have hts := atoms_spec (ws := wm_X11_seek_r) B.pre
  have hown : s.vm.findClass RX11 = some m.cls := findClass_of_methodNamed B.named
  have hlocks := B.notSynchronized
  subst hsz
  have hA : ∀ q : Nat, s.heap.size ≤ q → ro s.heap.size q := fun _ h => h
  have hS : va_S (ro s.heap.size) s.heap s.heap [] := va_S.rf
  have hl := lv_entry ([.ref (a 100), .int w1, .int w2, .int b1]) (n := 4) (Nat.le_of_ble_eq_true rfl)
  rw [lg_entry_eq]
  generalize (lg_sl ([.ref (a 100), .int w1, .int w2, .int b1]) ++ List.replicate (4 - (lg_sl ([.ref (a 100), .int w1, .int w2, .int b1])).length) Slot.unset).toArray = ls at hl ⊢
  have hl : lv_has ls 4 [(0, .ref (a 100)), (1, .int w1), (2, .int w2), (3, .int b1)] := hl
  refine lv_aload_n hx hb dX11_seek_0 rfl (lv_at hl 0 rfl) ?_
  refine xgT_X_world hx hb hts (fun _ h => List.mem_cons_of_mem _ (List.mem_append_left _ (List.mem_append_left _ (List.mem_append_right _ h)))) hown hK hP (hts (.fieldLink RX11 10 "TalePlay" "world" "LTalePlay$World;") (by decide +kernel)) dX11_seek_1 ?_
  refine lv_iload_n hx hb dX11_seek_4 rfl (lv_at hl 1 rfl) ?_
  have rb111_i : 0 ≤ (i 111).toInt ∧ (i 111).toInt ≤ 30 := hI.1 111
  refine ro_calli (va_runV (As := [.int w1]) (rest := []) ⟨hx, hb, hml, hown, hts⟩ (x_X10_hasObject l D s.heap.size .null a t i q c d w1 hI ) (cwV 1 hts gm_X11_seek_r_X10_hasObject_109 rfl rfl rfl (by decide +kernel) ⟨Nat.le_of_ble_eq_true rfl, Nat.le_of_ble_eq_true rfl⟩) (yA_V hN (xZ_k hZ hS hA) (xkT_W hK) (xuT_W (sk := .null) hP) (ci := 10) (q0 := 0) rfl rfl) rfl rfl hl.1 rfl (lv_room (Nat.le_of_ble_eq_true rfl)) dX11_seek_5 ⟨Nat.le_of_ble_eq_true rfl, Nat.le_of_ble_eq_true rfl⟩) hS hA hP (fun r1 u1 H locs hw1 hP hS => ?_)
  have hw1 : r1 = if (0 ≤ w1.toInt ∧ w1.toInt < (i 111).toInt) then 1 else 0 := hw1
  refine lv_if_eq (tgt := 33) hx hb dX11_seek_8 (by decide) (fun c2 => ?_) (fun c2 => ?_)
  · have f2 := fl_f hw1 c2
    refine lv_iconst (v := (-1)) hx hb dX11_seek_33 (by decide) ?_
    exact ro_iret hx hb hr hlocks hS dX11_seek_34 trivial
  · have f2 := fl_t hw1 c2
    refine lv_aload_n hx hb dX11_seek_11 rfl (lv_at hl 0 rfl) ?_
    refine xgT_X_world hx hb hts (fun _ h => List.mem_cons_of_mem _ (List.mem_append_left _ (List.mem_append_left _ (List.mem_append_right _ h)))) hown hK hP (hts (.fieldLink RX11 10 "TalePlay" "world" "LTalePlay$World;") (by decide +kernel)) dX11_seek_12 ?_
    refine lv_iload_n hx hb dX11_seek_15 rfl (lv_at hl 2 rfl) ?_
    refine ro_calli (va_runV (As := [.int w2]) (rest := []) ⟨hx, hb, hml, hown, hts⟩ (x_X10_hasObject l D H.size .null a t i q c d w2 hI ) (cwV 1 hts gm_X11_seek_r_X10_hasObject_109 rfl rfl rfl (by decide +kernel) ⟨Nat.le_of_ble_eq_true rfl, Nat.le_of_ble_eq_true rfl⟩) (yA_V hN (xZ_k hZ hS hA) (xkT_W hK) (xuT_W (sk := .null) hP) (ci := 10) (q0 := 0) rfl rfl) rfl rfl hl.1 rfl (lv_room (Nat.le_of_ble_eq_true rfl)) dX11_seek_16 ⟨Nat.le_of_ble_eq_true rfl, Nat.le_of_ble_eq_true rfl⟩) hS hA hP (fun r3 u3 H locs hw3 hP hS => ?_)
    have hw3 : r3 = if (0 ≤ w2.toInt ∧ w2.toInt < (i 111).toInt) then 1 else 0 := hw3
    refine lv_if_eq (tgt := 33) hx hb dX11_seek_19 (by decide) (fun c4 => ?_) (fun c4 => ?_)
    · have f4 := fl_f hw3 c4
      refine lv_iconst (v := (-1)) hx hb dX11_seek_33 (by decide) ?_
      exact ro_iret hx hb hr hlocks hS dX11_seek_34 trivial
    · have f4 := fl_t hw3 c4
      refine lv_iload_n hx hb dX11_seek_22 rfl (lv_at hl 3 rfl) ?_
      refine lv_if_lt (tgt := 33) hx hb dX11_seek_23 (by decide) (fun c5 => ?_) (fun c5 => ?_)
      · have f5 := (ti_lt (a := b1.toInt) (b := 0) rfl (by decide)).mp c5
        refine lv_iconst (v := (-1)) hx hb dX11_seek_33 (by decide) ?_
        exact ro_iret hx hb hr hlocks hS dX11_seek_34 trivial
      · have f5 := mt (ti_lt (a := b1.toInt) (b := 0) rfl (by decide)).mpr c5
        refine lv_iload_n hx hb dX11_seek_26 rfl (lv_at hl 3 rfl) ?_
        refine lv_sipush (v := 300) hx hb dX11_seek_27 (by decide) ?_
        refine lv_icmp_le (tgt := 35) hx hb dX11_seek_30 (by decide) (fun c6 => ?_) (fun c6 => ?_)
        · have f6 := (ti_le (a := b1.toInt) (b := 300) rfl (by decide)).mp c6
          refine lv_aload_n hx hb dX11_seek_35 rfl (lv_at hl 0 rfl) ?_
          refine xgT_X_tale hx hb hts (fun _ h => List.mem_cons_of_mem _ (List.mem_append_left _ (List.mem_append_left _ (List.mem_append_right _ h)))) hown hK hP (hts (.fieldLink RX11 46 "TalePlay" "tale" "LTalePlay$Tale;") (by decide +kernel)) dX11_seek_36 ?_
          refine xgT_T_there (v := (i 146)) rfl hx hb hts (fun _ h => List.mem_cons_of_mem _ (List.mem_append_right _ h)) hown hK hP (hts (.fieldLink RX11 257 "TalePlay$Tale" "there" "Z") (by decide +kernel)) dX11_seek_39 ?_
          have rb146_i : 0 ≤ (i 146).toInt ∧ (i 146).toInt ≤ 1 := hI.1 146
          refine lv_if_ne (tgt := 48) hx hb dX11_seek_42 (by decide) (fun c7 => ?_) (fun c7 => ?_)
          · have f7 := mt (ti_eq (a := (i 146).toInt) (b := 0) rfl (by decide)).mpr c7
            exfalso; omega
          · have f7 := (ti_eq (a := (i 146).toInt) (b := 0) rfl (by decide)).mp c7
            refine lv_bipush (v := (-5)) hx hb dX11_seek_45 (by decide) ?_
            exact ro_iret hx hb hr hlocks hS dX11_seek_47 trivial
        · have f6 := mt (ti_le (a := b1.toInt) (b := 300) rfl (by decide)).mpr c6
          refine lv_iconst (v := (-1)) hx hb dX11_seek_33 (by decide) ?_
          exact ro_iret hx hb hr hlocks hS dX11_seek_34 trivial

