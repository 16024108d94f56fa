def wm_X7_weightOf : List Cond := .code yX7_weightOf cX7_weightOf 1 (some .int) :: (([.constant RX7 163 (-1640531535)] : List Cond))
set_option maxHeartbeats 4000000 in
set_option maxRecDepth 100000 in
theorem c_X7_weightOf (l : Launch) (D : va_G) (sz : Nat) (v : Int32) : Met l yX7_weightOf wm_X7_weightOf ({ frames := 0, cells := 0, slots := 0, locals := 0 }) (va_Pc [.int v] (pA D sz [] [])) (va_Qi (fun (_ : Int32) (_ : Unit) => True) oA (ro sz)) 0 0 (ro sz) := by
  refine Met.ofW (cc := cX7_weightOf) (maxL := 1) (ret := (some .int)) (by decide) rfl ?_
  intro p e s m args below meth c s₁ B hml hv
  obtain ⟨rfl, hsz, hP, hK⟩ := hv
  have hx := B.exec
  have hb := B.bytes
  have hr := B.returns
  have hts := atoms_spec (ws := wm_X7_weightOf) B.pre
  have hown : s.vm.findClass RX7 = some m.cls := findClass_of_methodNamed B.named
  have hlocks := B.notSynchronized
  subst hsz
  have hA : ∀ q : Nat, s.heap.size ≤ q → ro s.heap.size q := fun _ h => h
  have hS : va_S (ro s.heap.size) s.heap s.heap [] := va_S.rf
  have hP : va_P D vwCl [] s.heap := hP
  have hl := lv_entry ([.int v]) (n := 1) (Nat.le_of_ble_eq_true rfl)
  rw [lg_entry_eq]
  generalize (lg_sl ([.int v]) ++ List.replicate (1 - (lg_sl ([.int v])).length) Slot.unset).toArray = ls at hl ⊢
  have hl : lv_has ls 1 [(0, .int v)] := hl
  refine lv_iconst (v := 2) hx hb dX7_weightOf_0 (by decide) ?_
  refine lv_iload_n hx hb dX7_weightOf_1 rfl (lv_at hl 0 rfl) ?_
  refine lv_imul hx hb dX7_weightOf_2 ?_
  refine lv_topi (fun x1 ex1 => ?_)
  refine lv_iconst (v := 1) hx hb dX7_weightOf_3 (by decide) ?_
  refine lv_iadd hx hb dX7_weightOf_4 ?_
  refine lv_topi (fun x2 ex2 => ?_)
  refine lv_ldc (v := (-1640531535)) hx hb hown (hts (.constant RX7 163 (-1640531535)) (by decide +kernel)) dX7_weightOf_5 ?_
  refine lv_imul hx hb dX7_weightOf_7 ?_
  refine lv_topi (fun x3 ex3 => ?_)
  exact ro_iret hx hb hr hlocks hS dX7_weightOf_8 trivial

def wm_X7_isEnded : List Cond := .code yX7_isEnded cX7_isEnded 1 (some .boolean) :: (([.fieldLink RX7 83 "TalePlay$Seeker" "found" "I", .fieldLink RX7 86 "TalePlay$Seeker" "states" "I"] : List Cond) ++ wsX70)
set_option maxHeartbeats 4000000 in
set_option maxRecDepth 100000 in
theorem x_X7_isEnded (l : Launch) (D : va_G) (sz : Nat) (sk : Value) (a : Nat → Nat) (t : Nat → ClassId) (i : Nat → Int32) (q : Int64) (c : Nat → Nat → Int32) (d : Nat → Nat → Int64) (hI : xInv i c) : Met l yX7_isEnded wm_X7_isEnded ({ frames := 0, cells := 0, slots := 0, locals := 0 }) (va_Pc [.ref (a 166)] (yA (a 186) D sz (xwS sk a t i q c d) (xtS t))) (va_Qi (fun (r : Int32) (_ : Unit) => r = (if (¬ (i 175).toInt = -9 ∨ 300 ≤ (i 174).toInt) then 1 else 0)) oA (ro sz)) 0 0 (ro sz) := by
  refine Met.ofW (cc := cX7_isEnded) (maxL := 1) (ret := (some .boolean)) (by decide) rfl ?_
  intro p e s m args below meth cd s₁ B hml hv
  obtain ⟨rfl, ⟨hsz, hP, hK⟩, hN, hZ⟩ := hv
  have hx := B.exec
  have hb := B.bytes
  have hr := B.returns
  have hts := atoms_spec (ws := wm_X7_isEnded) B.pre
  have hown : s.vm.findClass RX7 = some m.cls := findClass_of_methodNamed B.named
  have hlocks := B.notSynchronized
  subst hsz
  have hA : ∀ q : Nat, s.heap.size ≤ q → ro s.heap.size q := fun _ h => h
  have hS : va_S (ro s.heap.size) s.heap s.heap [] := va_S.rf
  have hl := lv_entry ([.ref (a 166)]) (n := 1) (Nat.le_of_ble_eq_true rfl)
  rw [lg_entry_eq]
  generalize (lg_sl ([.ref (a 166)]) ++ List.replicate (1 - (lg_sl ([.ref (a 166)])).length) Slot.unset).toArray = ls at hl ⊢
  have hl : lv_has ls 1 [(0, .ref (a 166))] := hl
  refine lv_aload_n hx hb dX7_isEnded_0 rfl (lv_at hl 0 rfl) ?_
  refine xgS_S_found (v := (i 175)) rfl hx hb hts (fun _ h => List.mem_cons_of_mem _ (List.mem_append_right _ h)) hown hK hP (hts (.fieldLink RX7 83 "TalePlay$Seeker" "found" "I") (by decide +kernel)) dX7_isEnded_1 ?_
  have rb175_i : (i 175).toInt = -9 ∨ (0 ≤ (i 175).toInt ∧ (i 175).toInt ≤ 299) := hI.1 175
  refine lv_bipush (v := (-9)) hx hb dX7_isEnded_4 (by decide) ?_
  refine lv_icmp_ne (tgt := 19) hx hb dX7_isEnded_6 (by decide) (fun c1 => ?_) (fun c1 => ?_)
  · have f1 := mt (ti_eq (a := (i 175).toInt) (b := (-9)) rfl (by decide)).mpr c1
    refine lv_iconst (v := 1) hx hb dX7_isEnded_19 (by decide) ?_
    refine lv_goto (tgt := 24) hx hb dX7_isEnded_20 (by decide) ?_
    exact ro_zret hx hb hr hlocks hS rfl dX7_isEnded_24 (by show _ = _; rw [if_pos (by omega)])
  · have f1 := (ti_eq (a := (i 175).toInt) (b := (-9)) rfl (by decide)).mp c1
    refine lv_aload_n hx hb dX7_isEnded_9 rfl (lv_at hl 0 rfl) ?_
    refine xgS_S_states (v := (i 174)) rfl hx hb hts (fun _ h => List.mem_cons_of_mem _ (List.mem_append_right _ h)) hown hK hP (hts (.fieldLink RX7 86 "TalePlay$Seeker" "states" "I") (by decide +kernel)) dX7_isEnded_10 ?_
    have rb174_i : 0 ≤ (i 174).toInt ∧ (i 174).toInt ≤ 300 := hI.1 174
    refine lv_sipush (v := 300) hx hb dX7_isEnded_13 (by decide) ?_
    refine lv_icmp_lt (tgt := 23) hx hb dX7_isEnded_16 (by decide) (fun c2 => ?_) (fun c2 => ?_)
    · have f2 := (ti_lt (a := (i 174).toInt) (b := 300) rfl (by decide)).mp c2
      refine lv_iconst (v := 0) hx hb dX7_isEnded_23 (by decide) ?_
      exact ro_zret hx hb hr hlocks hS rfl dX7_isEnded_24 (by show _ = _; rw [if_neg (by omega)])
    · have f2 := mt (ti_lt (a := (i 174).toInt) (b := 300) rfl (by decide)).mpr c2
      refine lv_iconst (v := 1) hx hb dX7_isEnded_19 (by decide) ?_
      refine lv_goto (tgt := 24) hx hb dX7_isEnded_20 (by decide) ?_
      exact ro_zret hx hb hr hlocks hS rfl dX7_isEnded_24 (by show _ = _; rw [if_pos (by omega)])

def wm_X7_markOfScene : List Cond := .code yX7_markOfScene cX7_markOfScene 3 (some .int) :: (([.fieldLink RX7 39 "TalePlay$Seeker" "scene" "LTalePlay$Scene;", .fieldLink RX7 65 "TalePlay$Scene" "cells" "[I", .methodLink RX7 154 yX7_weightOf, .static yX7_weightOf, .initialized RX7, .code yX7_weightOf cX7_weightOf 1 (some .int), .constant RX7 163 (-1640531535)] : List Cond) ++ wsX70 ++ wsX60)
set_option maxRecDepth 20000 in
theorem gm_X7_markOfScene_X7_weightOf_154 : GoodIn wm_X7_markOfScene (va_wsS RX7 154 yX7_weightOf wm_X7_weightOf) := goodIn_app (goodIn_of _ (by decide +kernel)) (goodIn_r _ [6, 7] rfl (by decide +kernel))
set_option maxHeartbeats 4000000 in
set_option maxRecDepth 100000 in
theorem x_X7_markOfScene (l : Launch) (D : va_G) (sz : Nat) (sk : Value) (a : Nat → Nat) (t : Nat → ClassId) (i : Nat → Int32) (q : Int64) (c : Nat → Nat → Int32) (d : Nat → Nat → Int64) (hI : xInv i c) : Met l yX7_markOfScene wm_X7_markOfScene ({ frames := 1, cells := 0, slots := 0, locals := 20 }) (va_Pc [.ref (a 166)] (yA (a 186) D sz (xwS sk a t i q c d) (xtS t))) (va_Qi (fun (r : Int32) (_ : Unit) => True) oA (ro sz)) 0 0 (ro sz) := by
  refine Met.ofW (cc := cX7_markOfScene) (maxL := 3) (ret := (some .int)) (by decide) rfl ?_
  intro p e s m args below meth cd s₁ B hml hv
  obtain ⟨rfl, ⟨hsz, hP, hK⟩, hN, hZ⟩ := hv
  have hx := B.exec
  have hb := B.bytes
  have hr := B.returns
  have hts := atoms_spec (ws := wm_X7_markOfScene) B.pre
  have hown : s.vm.findClass RX7 = some m.cls := findClass_of_methodNamed B.named
  have hlocks := B.notSynchronized
  subst hsz
  have hA : ∀ q : Nat, s.heap.size ≤ q → ro s.heap.size q := fun _ h => h
  have hS : va_S (ro s.heap.size) s.heap s.heap [] := va_S.rf
  have hl := lv_entry ([.ref (a 166)]) (n := 3) (Nat.le_of_ble_eq_true rfl)
  rw [lg_entry_eq]
  generalize (lg_sl ([.ref (a 166)]) ++ List.replicate (3 - (lg_sl ([.ref (a 166)])).length) Slot.unset).toArray = ls at hl ⊢
  have hl : lv_has ls 3 [(0, .ref (a 166))] := hl
  refine lv_iconst (v := 0) hx hb dX7_markOfScene_0 (by decide) ?_
  refine lv_istore_n (lv' := [(1, .int 0), (0, .ref (a 166))]) hx hb dX7_markOfScene_1 rfl hl (by decide) rfl (fun ls hl => ?_)
  refine lv_iconst (v := 0) hx hb dX7_markOfScene_2 (by decide) ?_
  refine lv_istore_n (lv' := [(2, .int 0), (1, .int 0), (0, .ref (a 166))]) hx hb dX7_markOfScene_3 rfl hl (by decide) rfl (fun ls hl => ?_)
  have lp1 : ∀ (fu : Nat) (y1_2 : Int32) (y1_1 : Int32), (0 ≤ y1_2.toInt ∧ y1_2.toInt ≤ 30) → (30 - y1_2.toInt).toNat < fu → ∀ (H : Heap) (locs : List Loc) (ls : Array Slot), va_P D vwCl (xwS sk a t i q c d) H → va_S (ro s.heap.size) s.heap H locs → lv_has ls 3 [(2, .int y1_2), (1, .int y1_1), (0, .ref (a 166))] → W p l e (headSpec wm_X7_markOfScene ({ frames := 1, cells := 0, slots := 0, locals := 20 })).room s m ([.ref (a 166)] : List Value).toArray below meth cd H locs 0 0 (MQ below (va_Qi (fun (r : Int32) (_ : Unit) => True) oA (ro s.heap.size)) ([.ref (a 166)] : List Value).toArray s 0 0 (ro s.heap.size)) (F0 m 4 ls []) := by
    intro fu
    induction fu with
    | zero => intro y1_2 y1_1 hy1_2 hm; exact absurd hm (Nat.not_lt_zero _)
    | succ fu ih =>
      intro y1_2 y1_1 hy1_2 hm H locs ls hP hS hl
      have ih1 := ih
      refine lv_iload_n hx hb dX7_markOfScene_4 rfl (lv_at hl 0 rfl) ?_
      refine lv_bipush (v := 30) hx hb dX7_markOfScene_5 (by decide) ?_
      refine lv_icmp_ge (tgt := 33) hx hb dX7_markOfScene_7 (by decide) (fun c2 => ?_) (fun c2 => ?_)
      · have f2 := (ti_le (a := 30) (b := y1_2.toInt) (by decide) rfl).mp c2
        refine lv_iload_n hx hb dX7_markOfScene_33 rfl (lv_at hl 1 rfl) ?_
        exact ro_iret hx hb hr hlocks hS dX7_markOfScene_34 trivial
      · have f2 := mt (ti_le (a := 30) (b := y1_2.toInt) (by decide) rfl).mpr c2
        refine lv_iload_n hx hb dX7_markOfScene_10 rfl (lv_at hl 1 rfl) ?_
        refine lv_aload_n hx hb dX7_markOfScene_11 rfl (lv_at hl 2 rfl) ?_
        refine xgS_S_scene hx hb hts (fun _ h => List.mem_cons_of_mem _ (List.mem_append_left _ (List.mem_append_right _ h))) hown hK hP (hts (.fieldLink RX7 39 "TalePlay$Seeker" "scene" "LTalePlay$Scene;") (by decide +kernel)) dX7_markOfScene_12 ?_
        refine xgS_SS_cells hx hb hts (fun _ h => List.mem_cons_of_mem _ (List.mem_append_right _ h)) hown hK hP (hts (.fieldLink RX7 65 "TalePlay$Scene" "cells" "[I") (by decide +kernel)) dX7_markOfScene_15 ?_
        refine lv_iload_n hx hb dX7_markOfScene_18 rfl (lv_at hl 0 rfl) ?_
        refine xlS_179 hx hb hK hP (vp_in_iff.mpr (by have h9 : y1_2.toInt = y1_2.toInt := rfl; omega)) dX7_markOfScene_19 (fun x3 ex3 => ?_)
        have rx3 : 0 ≤ x3.toInt ∧ x3.toInt ≤ 16383 ∧ (x3.toInt % 256 = 255 ∨ (x3.toInt % 8 ≤ 4 ∧ x3.toInt / 8 % 32 ≤ 29)) := by rw [ex3]; exact hI.2 179 _
        refine lv_iload_n hx hb dX7_markOfScene_20 rfl (lv_at hl 0 rfl) ?_
        have hPc := hP.sub (ws' := []) [] rfl
        have hKc := hK.sub (tys' := []) [] rfl
        refine ro_calli (va_runS (As := [.int y1_2]) (rest := [.int x3, .int y1_1]) ⟨hx, hb, hml, hown, hts⟩ (c_X7_weightOf l D H.size y1_2) (va_cwS 1 hts gm_X7_markOfScene_X7_weightOf_154 rfl rfl rfl (by decide +kernel) ⟨Nat.le_of_ble_eq_true rfl, Nat.le_of_ble_eq_true rfl⟩) (pA_S hKc hPc) rfl rfl hl.1 rfl (lv_room (Nat.le_of_ble_eq_true rfl)) dX7_markOfScene_21 ⟨Nat.le_of_ble_eq_true rfl, Nat.le_of_ble_eq_true rfl⟩) hS hA hP (fun r5 u5 H locs hw5 hP hS => ?_)
        refine lv_imul hx hb dX7_markOfScene_24 ?_
        refine lv_topi (fun x6 ex6 => ?_)
        refine lv_iadd hx hb dX7_markOfScene_25 ?_
        refine lv_topi (fun x7 ex7 => ?_)
        refine lv_istore_n (lv' := [(1, .int x7), (2, .int y1_2), (0, .ref (a 166))]) hx hb dX7_markOfScene_26 rfl hl (by decide) rfl (fun ls hl => ?_)
        obtain ⟨x8, ex8⟩ : ∃ y : Int32, y = y1_2 + 1 := ⟨_, rfl⟩
        have tx8 := ti_add (a := y1_2.toInt) (b := 1) ex8 rfl (by decide) (by omega) (by omega)
        refine lv_iinc (v := x8) (lv' := [(2, .int x8), (1, .int x7), (0, .ref (a 166))]) hx hb dX7_markOfScene_27 hl (k := 1) rfl (by rw [ex8]; rfl) (by decide) rfl (fun ls hl => ?_)
        refine lv_goto (tgt := 4) hx hb dX7_markOfScene_30 (by decide) ?_
        exact ih1 x8 x7 (show 0 ≤ x8.toInt ∧ x8.toInt ≤ 30 from by have h50 : x8.toInt = (y1_2.toInt + 1) := tx8; omega) (by have h50 : x8.toInt = (y1_2.toInt + 1) := tx8; omega) _ _ _ hP hS (lv_sub hl [0, 1, 2] rfl)
  exact lp1 _ (0 : Int32) (0 : Int32) (show 0 ≤ (0 : Int32).toInt ∧ (0 : Int32).toInt ≤ 30 from by have h50 : (0 : Int32).toInt = 0 := (by decide); have h51 : (0 : Int32).toInt = 0 := (by decide); omega) (Nat.lt_succ_self _) _ _ _ hP hS (lv_sub hl [0, 1, 2] rfl)

def wm_X7_isScene : List Cond := .code yX7_isScene cX7_isScene 3 (some .boolean) :: (([.fieldLink RX7 30 "TalePlay$Seeker" "world" "LTalePlay$World;", .fieldLink RX7 125 "TalePlay$World" "objects" "I", .fieldLink RX7 9 "TalePlay$Seeker" "kept" "[I", .fieldLink RX7 39 "TalePlay$Seeker" "scene" "LTalePlay$Scene;", .fieldLink RX7 65 "TalePlay$Scene" "cells" "[I"] : List Cond) ++ wsX70 ++ wsX100 ++ wsX60)
set_option maxHeartbeats 4000000 in
set_option maxRecDepth 100000 in
theorem x_X7_isScene (l : Launch) (D : va_G) (sz : Nat) (sk : Value) (a : Nat → Nat) (t : Nat → ClassId) (i : Nat → Int32) (q : Int64) (c : Nat → Nat → Int32) (d : Nat → Nat → Int64) (s1 : Int32) (hI : xInv i c) (hs1 : 0 ≤ s1.toInt ∧ s1.toInt ≤ 299) : Met l yX7_isScene wm_X7_isScene ({ frames := 0, cells := 0, slots := 0, locals := 0 }) (va_Pc [.ref (a 166), .int s1] (yA (a 186) D sz (xwS sk a t i q c d) (xtS t))) (va_Qi (fun (r : Int32) (_ : Unit) => (0 ≤ r.toInt ∧ r.toInt ≤ 1)) oA (ro sz)) 0 0 (ro sz) := by
  refine Met.ofW (cc := cX7_isScene) (maxL := 3) (ret := (some .boolean)) (by decide) rfl ?_
  intro p e s m args below meth cd s₁ B hml hv
  obtain ⟨rfl, ⟨hsz, hP, hK⟩, hN, hZ⟩ := hv
  have hx := B.exec
  have hb := B.bytes
  have hr := B.returns
  have hts := atoms_spec (ws := wm_X7_isScene) B.pre
  have hown : s.vm.findClass RX7 = some m.cls := findClass_of_methodNamed B.named
  have hlocks := B.notSynchronized
  subst hsz
  have hA : ∀ q : Nat, s.heap.size ≤ q → ro s.heap.size q := fun _ h => h
  have hS : va_S (ro s.heap.size) s.heap s.heap [] := va_S.rf
  have hl := lv_entry ([.ref (a 166), .int s1]) (n := 3) (Nat.le_of_ble_eq_true rfl)
  rw [lg_entry_eq]
  generalize (lg_sl ([.ref (a 166), .int s1]) ++ List.replicate (3 - (lg_sl ([.ref (a 166), .int s1])).length) Slot.unset).toArray = ls at hl ⊢
  have hl : lv_has ls 3 [(0, .ref (a 166)), (1, .int s1)] := hl
  refine lv_iconst (v := 0) hx hb dX7_isScene_0 (by decide) ?_
  refine lv_istore_n (lv' := [(2, .int 0), (0, .ref (a 166)), (1, .int s1)]) hx hb dX7_isScene_1 rfl hl (by decide) rfl (fun ls hl => ?_)
  have lp1 : ∀ (fu : Nat) (y1_2 : Int32), (0 ≤ y1_2.toInt ∧ y1_2.toInt ≤ 30) → (30 - y1_2.toInt).toNat < fu → ∀ (H : Heap) (locs : List Loc) (ls : Array Slot), va_P D vwCl (xwS sk a t i q c d) H → va_S (ro s.heap.size) s.heap H locs → lv_has ls 3 [(2, .int y1_2), (0, .ref (a 166)), (1, .int s1)] → W p l e (headSpec wm_X7_isScene ({ frames := 0, cells := 0, slots := 0, locals := 0 })).room s m ([.ref (a 166), .int s1] : List Value).toArray below meth cd H locs 0 0 (MQ below (va_Qi (fun (r : Int32) (_ : Unit) => (0 ≤ r.toInt ∧ r.toInt ≤ 1)) oA (ro s.heap.size)) ([.ref (a 166), .int s1] : List Value).toArray s 0 0 (ro s.heap.size)) (F0 m 2 ls []) := by
    intro fu
    induction fu with
    | zero => intro y1_2 hy1_2 hm; exact absurd hm (Nat.not_lt_zero _)
    | succ fu ih =>
      intro y1_2 hy1_2 hm H locs ls hP hS hl
      have ih1 := ih
      refine lv_iload_n hx hb dX7_isScene_2 rfl (lv_at hl 0 rfl) ?_
      refine lv_aload_n hx hb dX7_isScene_3 rfl (lv_at hl 1 rfl) ?_
      refine xgS_S_world hx hb hts (fun _ h => List.mem_cons_of_mem _ (List.mem_append_left _ (List.mem_append_left _ (List.mem_append_right _ h)))) hown hK hP (hts (.fieldLink RX7 30 "TalePlay$Seeker" "world" "LTalePlay$World;") (by decide +kernel)) dX7_isScene_4 ?_
      refine xgS_W_objects (v := (i 111)) rfl hx hb hts (fun _ h => List.mem_cons_of_mem _ (List.mem_append_left _ (List.mem_append_right _ h))) hown hK hP (hts (.fieldLink RX7 125 "TalePlay$World" "objects" "I") (by decide +kernel)) dX7_isScene_7 ?_
      have rb111_i : 0 ≤ (i 111).toInt ∧ (i 111).toInt ≤ 30 := hI.1 111
      refine lv_icmp_ge (tgt := 44) hx hb dX7_isScene_10 (by decide) (fun c2 => ?_) (fun c2 => ?_)
      · have f2 := (ti_le (a := (i 111).toInt) (b := y1_2.toInt) rfl rfl).mp c2
        refine lv_iconst (v := 1) hx hb dX7_isScene_44 (by decide) ?_
        exact ro_zret hx hb hr hlocks hS rfl dX7_isScene_45 (show 0 ≤ (1 : Int32).toInt ∧ (1 : Int32).toInt ≤ 1 from by have h9 : (1 : Int32).toInt = 1 := (by decide); omega)
      · have f2 := mt (ti_le (a := (i 111).toInt) (b := y1_2.toInt) rfl rfl).mpr c2
        refine lv_aload_n hx hb dX7_isScene_13 rfl (lv_at hl 1 rfl) ?_
        refine xgS_S_kept hx hb hts (fun _ h => List.mem_cons_of_mem _ (List.mem_append_left _ (List.mem_append_left _ (List.mem_append_right _ h)))) hown hK hP (hts (.fieldLink RX7 9 "TalePlay$Seeker" "kept" "[I") (by decide +kernel)) dX7_isScene_14 ?_
        refine lv_iload_n hx hb dX7_isScene_17 rfl (lv_at hl 2 rfl) ?_
        refine lv_bipush (v := 30) hx hb dX7_isScene_18 (by decide) ?_
        refine lv_imul hx hb dX7_isScene_20 ?_
        refine lv_topi (fun x3 ex3 => ?_)
        have tx3 := ti_mul (a := s1.toInt) (b := 30) ex3 rfl (by decide) (by omega) (by omega)
        refine lv_iload_n hx hb dX7_isScene_21 rfl (lv_at hl 0 rfl) ?_
        refine lv_iadd hx hb dX7_isScene_22 ?_
        refine lv_topi (fun x4 ex4 => ?_)
        have tx4 := ti_add (a := (s1.toInt * 30)) (b := y1_2.toInt) ex4 tx3 rfl (by omega) (by omega)
        refine xlS_167 hx hb hK hP (vp_in_iff.mpr (by have h9 : x4.toInt = ((s1.toInt * 30) + y1_2.toInt) := tx4; omega)) dX7_isScene_23 (fun x5 ex5 => ?_)
        have rx5 : 0 ≤ x5.toInt ∧ x5.toInt ≤ 16383 ∧ (x5.toInt % 256 = 255 ∨ (x5.toInt % 8 ≤ 4 ∧ x5.toInt / 8 % 32 ≤ 29)) := by rw [ex5]; exact hI.2 167 _
        refine lv_aload_n hx hb dX7_isScene_24 rfl (lv_at hl 1 rfl) ?_
        refine xgS_S_scene hx hb hts (fun _ h => List.mem_cons_of_mem _ (List.mem_append_left _ (List.mem_append_left _ (List.mem_append_right _ h)))) hown hK hP (hts (.fieldLink RX7 39 "TalePlay$Seeker" "scene" "LTalePlay$Scene;") (by decide +kernel)) dX7_isScene_25 ?_
        refine xgS_SS_cells hx hb hts (fun _ h => List.mem_cons_of_mem _ (List.mem_append_right _ h)) hown hK hP (hts (.fieldLink RX7 65 "TalePlay$Scene" "cells" "[I") (by decide +kernel)) dX7_isScene_28 ?_
        refine lv_iload_n hx hb dX7_isScene_31 rfl (lv_at hl 0 rfl) ?_
        refine xlS_179 hx hb hK hP (vp_in_iff.mpr (by have h9 : y1_2.toInt = y1_2.toInt := rfl; omega)) dX7_isScene_32 (fun x6 ex6 => ?_)
        have rx6 : 0 ≤ x6.toInt ∧ x6.toInt ≤ 16383 ∧ (x6.toInt % 256 = 255 ∨ (x6.toInt % 8 ≤ 4 ∧ x6.toInt / 8 % 32 ≤ 29)) := by rw [ex6]; exact hI.2 179 _
        refine lv_icmp_eq (tgt := 38) hx hb dX7_isScene_33 (by decide) (fun c7 => ?_) (fun c7 => ?_)
        · have f7 := (ti_eq (a := x5.toInt) (b := x6.toInt) rfl rfl).mp c7
          obtain ⟨x8, ex8⟩ : ∃ y : Int32, y = y1_2 + 1 := ⟨_, rfl⟩
          have tx8 := ti_add (a := y1_2.toInt) (b := 1) ex8 rfl (by decide) (by omega) (by omega)
          refine lv_iinc (v := x8) (lv' := [(2, .int x8), (0, .ref (a 166)), (1, .int s1)]) hx hb dX7_isScene_38 hl (k := 0) rfl (by rw [ex8]; rfl) (by decide) rfl (fun ls hl => ?_)
          refine lv_goto (tgt := 2) hx hb dX7_isScene_41 (by decide) ?_
          exact ih1 x8 (show 0 ≤ x8.toInt ∧ x8.toInt ≤ 30 from by have h50 : x8.toInt = (y1_2.toInt + 1) := tx8; omega) (by have h50 : x8.toInt = (y1_2.toInt + 1) := tx8; omega) _ _ _ hP hS (lv_sub hl [0, 1, 2] rfl)
        · have f7 := mt (ti_eq (a := x5.toInt) (b := x6.toInt) rfl rfl).mpr c7
          refine lv_iconst (v := 0) hx hb dX7_isScene_36 (by decide) ?_
          exact ro_zret hx hb hr hlocks hS rfl dX7_isScene_37 (show 0 ≤ (0 : Int32).toInt ∧ (0 : Int32).toInt ≤ 1 from by have h9 : (0 : Int32).toInt = 0 := (by decide); omega)
  exact lp1 _ (0 : Int32) (show 0 ≤ (0 : Int32).toInt ∧ (0 : Int32).toInt ≤ 30 from by have h50 : (0 : Int32).toInt = 0 := (by decide); omega) (Nat.lt_succ_self _) _ _ _ hP hS (lv_sub hl [0, 1, 2] rfl)

def wm_X7_slotFor : List Cond := .code yX7_slotFor cX7_slotFor 4 (some .int) :: (([.constant RX7 163 (-1640531535), .fieldLink RX7 18 "TalePlay$Seeker" "slots" "[I", .fieldLink RX7 15 "TalePlay$Seeker" "marks" "[I", .methodLink RX7 164 yX7_isScene, .instanceMethod yX7_isScene, .selects RX7 yX7_isScene yX7_isScene, .initialized RX7, .code yX7_isScene cX7_isScene 3 (some .boolean), .fieldLink RX7 30 "TalePlay$Seeker" "world" "LTalePlay$World;", .fieldLink RX7 125 "TalePlay$World" "objects" "I", .fieldLink RX7 9 "TalePlay$Seeker" "kept" "[I", .fieldLink RX7 39 "TalePlay$Seeker" "scene" "LTalePlay$Scene;", .fieldLink RX7 65 "TalePlay$Scene" "cells" "[I"] : List Cond) ++ wsX70 ++ wsX100 ++ wsX60)
set_option maxRecDepth 20000 in
theorem gm_X7_slotFor_X7_isScene_164 : GoodIn wm_X7_slotFor (wsV RX7 164 RX7 yX7_isScene wm_X7_isScene) := goodIn_app (goodIn_of _ (by decide +kernel)) (goodIn_r _ [8, 9, 10, 11, 12, 13, 14, 15, 16, 17, 18, 19, 20, 21, 22, 23, 24, 25, 26, 27, 28, 29, 30, 31, 32, 33, 34, 35, 36, 37] rfl (by decide +kernel))
set_option maxHeartbeats 4000000 in
set_option maxRecDepth 100000 in
theorem x_X7_slotFor (l : Launch) (D : va_G) (sz : Nat) (sk : Value) (a : Nat → Nat) (t : Nat → ClassId) (i : Nat → Int32) (q : Int64) (c : Nat → Nat → Int32) (d : Nat → Nat → Int64) (b1 : Int32) (hI : xInv i c) : Met l yX7_slotFor wm_X7_slotFor ({ frames := 1, cells := 0, slots := 0, locals := 22 }) (va_Pc [.ref (a 166), .int b1] (yA (a 186) D sz (xwS sk a t i q c d) (xtS t))) (va_Qi (fun (r : Int32) (_ : Unit) => (0 ≤ r.toInt ∧ r.toInt ≤ 1023)) oA (ro sz)) 0 0 (ro sz) := by
  refine Met.ofW (cc := cX7_slotFor) (maxL := 4) (ret := (some .int)) (by decide) rfl ?_
  intro p e s m args below meth cd s₁ B hml hv
  obtain ⟨rfl, ⟨hsz, hP, hK⟩, hN, hZ⟩ := hv
  have hx := B.exec
  have hb := B.bytes
  have hr := B.returns
  have hts := atoms_spec (ws := wm_X7_slotFor) B.pre
  have hown : s.vm.findClass RX7 = some m.cls := findClass_of_methodNamed B.named
  have hlocks := B.notSynchronized
  subst hsz
  have hA : ∀ q : Nat, s.heap.size ≤ q → ro s.heap.size q := fun _ h => h
  have hS : va_S (ro s.heap.size) s.heap s.heap [] := va_S.rf
  have hl := lv_entry ([.ref (a 166), .int b1]) (n := 4) (Nat.le_of_ble_eq_true rfl)
  rw [lg_entry_eq]
  generalize (lg_sl ([.ref (a 166), .int b1]) ++ List.replicate (4 - (lg_sl ([.ref (a 166), .int b1])).length) Slot.unset).toArray = ls at hl ⊢
  have hl : lv_has ls 4 [(0, .ref (a 166)), (1, .int b1)] := hl
  refine lv_iload_n hx hb dX7_slotFor_0 rfl (lv_at hl 1 rfl) ?_
  refine lv_ldc (v := (-1640531535)) hx hb hown (hts (.constant RX7 163 (-1640531535)) (by decide +kernel)) dX7_slotFor_1 ?_
  refine lv_imul hx hb dX7_slotFor_3 ?_
  refine lv_topi (fun x1 ex1 => ?_)
  refine lv_bipush (v := 22) hx hb dX7_slotFor_4 (by decide) ?_
  refine lv_iushr (v := (x1.toUInt32 >>> (((22 : Int32)).toUInt32 &&& Int32.toUInt32 31)).toInt32) hx hb dX7_slotFor_6 rfl ?_
  refine lv_topi (fun x2 ex2 => ?_)
  have b2 := ushr22 ex2.symm
  refine lv_istore_n (lv' := [(2, .int x2), (0, .ref (a 166)), (1, .int b1)]) hx hb dX7_slotFor_7 rfl hl (by decide) rfl (fun ls hl => ?_)
  refine lv_iconst (v := 0) hx hb dX7_slotFor_8 (by decide) ?_
  refine lv_istore_n (lv' := [(3, .int 0), (2, .int x2), (0, .ref (a 166)), (1, .int b1)]) hx hb dX7_slotFor_9 rfl hl (by decide) rfl (fun ls hl => ?_)
  have lp3 : ∀ (fu : Nat) (y3_3 : Int32) (y3_2 : Int32), (0 ≤ y3_3.toInt ∧ y3_3.toInt ≤ 1024) → (0 ≤ y3_2.toInt ∧ y3_2.toInt ≤ 1023) → (1024 - y3_3.toInt).toNat < fu → ∀ (H : Heap) (locs : List Loc) (ls : Array Slot), va_P D vwCl (xwS sk a t i q c d) H → va_S (ro s.heap.size) s.heap H locs → lv_has ls 4 [(3, .int y3_3), (2, .int y3_2), (0, .ref (a 166)), (1, .int b1)] → W p l e (headSpec wm_X7_slotFor ({ frames := 1, cells := 0, slots := 0, locals := 22 })).room s m ([.ref (a 166), .int b1] : List Value).toArray below meth cd H locs 0 0 (MQ below (va_Qi (fun (r : Int32) (_ : Unit) => (0 ≤ r.toInt ∧ r.toInt ≤ 1023)) oA (ro s.heap.size)) ([.ref (a 166), .int b1] : List Value).toArray s 0 0 (ro s.heap.size)) (F0 m 10 ls []) := by
    intro fu
    induction fu with
    | zero => intro y3_3 y3_2 hy3_3 hy3_2 hm; exact absurd hm (Nat.not_lt_zero _)
    | succ fu ih =>
      intro y3_3 y3_2 hy3_3 hy3_2 hm H locs ls hP hS hl
      have ih3 := ih
      refine lv_iload_n hx hb dX7_slotFor_10 rfl (lv_at hl 0 rfl) ?_
      refine lv_sipush (v := 1024) hx hb dX7_slotFor_11 (by decide) ?_
      refine lv_icmp_ge (tgt := 72) hx hb dX7_slotFor_14 (by decide) (fun c4 => ?_) (fun c4 => ?_)
      · have f4 := (ti_le (a := 1024) (b := y3_3.toInt) (by decide) rfl).mp c4
        refine lv_iload_n hx hb dX7_slotFor_72 rfl (lv_at hl 1 rfl) ?_
        exact ro_iret hx hb hr hlocks hS dX7_slotFor_73 (show 0 ≤ y3_2.toInt ∧ y3_2.toInt ≤ 1023 from by omega)
      · have f4 := mt (ti_le (a := 1024) (b := y3_3.toInt) (by decide) rfl).mpr c4
        refine lv_aload_n hx hb dX7_slotFor_17 rfl (lv_at hl 2 rfl) ?_
        refine xgS_S_slots hx hb hts (fun _ h => List.mem_cons_of_mem _ (List.mem_append_left _ (List.mem_append_left _ (List.mem_append_right _ h)))) hown hK hP (hts (.fieldLink RX7 18 "TalePlay$Seeker" "slots" "[I") (by decide +kernel)) dX7_slotFor_18 ?_
        refine lv_iload_n hx hb dX7_slotFor_21 rfl (lv_at hl 1 rfl) ?_
        refine xlS_169 hx hb hK hP (vp_in_iff.mpr (by have h9 : y3_2.toInt = y3_2.toInt := rfl; omega)) dX7_slotFor_22 (fun x5 ex5 => ?_)
        have rx5 : x5.toInt = -9 ∨ (0 ≤ x5.toInt ∧ x5.toInt ≤ 299) := by rw [ex5]; exact hI.2 169 _
        have gx5 : (c 169 (y3_2 : Int32).toNatClampNeg).toInt = x5.toInt := (congrArg Int32.toInt ex5).symm
        refine lv_bipush (v := (-9)) hx hb dX7_slotFor_23 (by decide) ?_
        refine lv_icmp_eq (tgt := 72) hx hb dX7_slotFor_25 (by decide) (fun c6 => ?_) (fun c6 => ?_)
        · have f6 := (ti_eq (a := x5.toInt) (b := (-9)) rfl (by decide)).mp c6
          refine lv_iload_n hx hb dX7_slotFor_72 rfl (lv_at hl 1 rfl) ?_
          exact ro_iret hx hb hr hlocks hS dX7_slotFor_73 (show 0 ≤ y3_2.toInt ∧ y3_2.toInt ≤ 1023 from by omega)
        · have f6 := mt (ti_eq (a := x5.toInt) (b := (-9)) rfl (by decide)).mpr c6
          refine lv_aload_n hx hb dX7_slotFor_28 rfl (lv_at hl 2 rfl) ?_
          refine xgS_S_marks hx hb hts (fun _ h => List.mem_cons_of_mem _ (List.mem_append_left _ (List.mem_append_left _ (List.mem_append_right _ h)))) hown hK hP (hts (.fieldLink RX7 15 "TalePlay$Seeker" "marks" "[I") (by decide +kernel)) dX7_slotFor_29 ?_
          refine lv_aload_n hx hb dX7_slotFor_32 rfl (lv_at hl 2 rfl) ?_
          refine xgS_S_slots hx hb hts (fun _ h => List.mem_cons_of_mem _ (List.mem_append_left _ (List.mem_append_left _ (List.mem_append_right _ h)))) hown hK hP (hts (.fieldLink RX7 18 "TalePlay$Seeker" "slots" "[I") (by decide +kernel)) dX7_slotFor_33 ?_
          refine lv_iload_n hx hb dX7_slotFor_36 rfl (lv_at hl 1 rfl) ?_
          refine xlS_169 hx hb hK hP (vp_in_iff.mpr (by have h9 : y3_2.toInt = y3_2.toInt := rfl; omega)) dX7_slotFor_37 (fun x7 ex7 => ?_)
          have rx7 : x7.toInt = -9 ∨ (0 ≤ x7.toInt ∧ x7.toInt ≤ 299) := by rw [ex7]; exact hI.2 169 _
          have gx7 : (c 169 (y3_2 : Int32).toNatClampNeg).toInt = x7.toInt := (congrArg Int32.toInt ex7).symm
          refine xlS_168 hx hb hK hP (vp_in_iff.mpr (by have h9 : x7.toInt = x7.toInt := rfl; omega)) dX7_slotFor_38 (fun x8 ex8 => ?_)
          refine lv_iload_n hx hb dX7_slotFor_39 rfl (lv_at hl 3 rfl) ?_
          have jn9 : ∀ (H : Heap) (locs : List Loc) (ls : Array Slot), va_P D vwCl (xwS sk a t i q c d) H → va_S (ro s.heap.size) s.heap H locs → lv_has ls 4 [(3, .int y3_3), (2, .int y3_2), (0, .ref (a 166)), (1, .int b1)] → W p l e (headSpec wm_X7_slotFor ({ frames := 1, cells := 0, slots := 0, locals := 22 })).room s m ([.ref (a 166), .int b1] : List Value).toArray below meth cd H locs 0 0 (MQ below (va_Qi (fun (r : Int32) (_ : Unit) => (0 ≤ r.toInt ∧ r.toInt ≤ 1023)) oA (ro s.heap.size)) ([.ref (a 166), .int b1] : List Value).toArray s 0 0 (ro s.heap.size)) (F0 m 58 ls []) := by
            intro H locs ls hP hS hl
            refine lv_iload_n hx hb dX7_slotFor_58 rfl (lv_at hl 1 rfl) ?_
            refine lv_iconst (v := 1) hx hb dX7_slotFor_59 (by decide) ?_
            refine lv_iadd hx hb dX7_slotFor_60 ?_
            refine lv_topi (fun x10 ex10 => ?_)
            have tx10 := ti_add (a := y3_2.toInt) (b := 1) ex10 rfl (by decide) (by omega) (by omega)
            refine lv_sipush (v := 1023) hx hb dX7_slotFor_61 (by decide) ?_
            refine lv_iand hx hb dX7_slotFor_64 ?_
            refine lv_topi (fun x11 ex11 => ?_)
            have bx11 := and1023 (by have h50 : x10.toInt = (y3_2.toInt + 1) := tx10; omega) ex11
            refine lv_istore_n (lv' := [(2, .int x11), (3, .int y3_3), (0, .ref (a 166)), (1, .int b1)]) hx hb dX7_slotFor_65 rfl hl (by decide) rfl (fun ls hl => ?_)
            obtain ⟨x12, ex12⟩ : ∃ y : Int32, y = y3_3 + 1 := ⟨_, rfl⟩
            have tx12 := ti_add (a := y3_3.toInt) (b := 1) ex12 rfl (by decide) (by omega) (by omega)
            refine lv_iinc (v := x12) (lv' := [(3, .int x12), (2, .int x11), (0, .ref (a 166)), (1, .int b1)]) hx hb dX7_slotFor_66 hl (k := 1) rfl (by rw [ex12]; rfl) (by decide) rfl (fun ls hl => ?_)
            refine lv_goto (tgt := 10) hx hb dX7_slotFor_69 (by decide) ?_
            exact ih3 x12 x11 (show 0 ≤ x12.toInt ∧ x12.toInt ≤ 1024 from by have h50 : x12.toInt = (y3_3.toInt + 1) := tx12; have h51 : x11.toInt = (x10.toInt % 1024) := bx11; omega) (show 0 ≤ x11.toInt ∧ x11.toInt ≤ 1023 from by have h50 : x12.toInt = (y3_3.toInt + 1) := tx12; have h51 : x11.toInt = (x10.toInt % 1024) := bx11; omega) (by have h50 : x12.toInt = (y3_3.toInt + 1) := tx12; have h51 : x11.toInt = (x10.toInt % 1024) := bx11; omega) _ _ _ hP hS (lv_sub hl [0, 1, 2, 3] rfl)
          refine lv_icmp_ne (tgt := 58) hx hb dX7_slotFor_40 (by decide) (fun c13 => ?_) (fun c13 => ?_)
          · have f13 := mt (ti_eq (a := x8.toInt) (b := b1.toInt) rfl rfl).mpr c13
            exact jn9    _ _ _ hP hS (lv_sub hl [0, 1, 2, 3] rfl)
          · have f13 := (ti_eq (a := x8.toInt) (b := b1.toInt) rfl rfl).mp c13
            refine lv_aload_n hx hb dX7_slotFor_43 rfl (lv_at hl 2 rfl) ?_
            refine lv_aload_n hx hb dX7_slotFor_44 rfl (lv_at hl 2 rfl) ?_
            refine xgS_S_slots hx hb hts (fun _ h => List.mem_cons_of_mem _ (List.mem_append_left _ (List.mem_append_left _ (List.mem_append_right _ h)))) hown hK hP (hts (.fieldLink RX7 18 "TalePlay$Seeker" "slots" "[I") (by decide +kernel)) dX7_slotFor_45 ?_
            refine lv_iload_n hx hb dX7_slotFor_48 rfl (lv_at hl 1 rfl) ?_
            refine xlS_169 hx hb hK hP (vp_in_iff.mpr (by have h9 : y3_2.toInt = y3_2.toInt := rfl; omega)) dX7_slotFor_49 (fun x14 ex14 => ?_)
            have rx14 : x14.toInt = -9 ∨ (0 ≤ x14.toInt ∧ x14.toInt ≤ 299) := by rw [ex14]; exact hI.2 169 _
            have gx14 : (c 169 (y3_2 : Int32).toNatClampNeg).toInt = x14.toInt := (congrArg Int32.toInt ex14).symm
            refine ro_calli (va_runV (As := [.int x14]) (rest := []) ⟨hx, hb, hml, hown, hts⟩ (x_X7_isScene l D H.size .null a t i q c d x14 hI (show 0 ≤ x14.toInt ∧ x14.toInt ≤ 299 from by omega)) (cwV 1 hts gm_X7_slotFor_X7_isScene_164 rfl rfl rfl (by decide +kernel) ⟨Nat.le_of_ble_eq_true rfl, Nat.le_of_ble_eq_true rfl⟩) (yA_V hN (xZ_k hZ hS hA) hK hP (ci := 7) (q0 := 31) rfl rfl) rfl rfl hl.1 rfl (lv_room (Nat.le_of_ble_eq_true rfl)) dX7_slotFor_50 ⟨Nat.le_of_ble_eq_true rfl, Nat.le_of_ble_eq_true rfl⟩) hS hA hP (fun r15 u15 H locs hw15 hP hS => ?_)
            have hw15 : (0 ≤ r15.toInt ∧ r15.toInt ≤ 1) := hw15
            refine lv_if_eq (tgt := 58) hx hb dX7_slotFor_53 (by decide) (fun c16 => ?_) (fun c16 => ?_)
            · have f16 := (ti_eq (a := r15.toInt) (b := 0) rfl (by decide)).mp c16
              exact jn9    _ _ _ hP hS (lv_sub hl [0, 1, 2, 3] rfl)
            · have f16 := mt (ti_eq (a := r15.toInt) (b := 0) rfl (by decide)).mpr c16
              refine lv_iload_n hx hb dX7_slotFor_56 rfl (lv_at hl 1 rfl) ?_
              exact ro_iret hx hb hr hlocks hS dX7_slotFor_57 (show 0 ≤ y3_2.toInt ∧ y3_2.toInt ≤ 1023 from by omega)
  exact lp3 _ (0 : Int32) x2 (show 0 ≤ (0 : Int32).toInt ∧ (0 : Int32).toInt ≤ 1024 from by have h50 : (0 : Int32).toInt = 0 := (by decide); omega) (show 0 ≤ x2.toInt ∧ x2.toInt ≤ 1023 from by have h50 : (0 : Int32).toInt = 0 := (by decide); omega) (Nat.lt_succ_self _) _ _ _ hP hS (lv_sub hl [0, 1, 2, 3] rfl)

def wm_X7_keep : List Cond := .code yX7_keep cX7_keep 5 none :: (([.fieldLink RX7 39 "TalePlay$Seeker" "scene" "LTalePlay$Scene;", .fieldLink RX7 65 "TalePlay$Scene" "cells" "[I", .fieldLink RX7 9 "TalePlay$Seeker" "kept" "[I", .fieldLink RX7 86 "TalePlay$Seeker" "states" "I", .methodLink RX7 68 arraycopyName, .native arraycopyName, .static arraycopyName, .initialized "java/lang/System", .fieldLink RX7 15 "TalePlay$Seeker" "marks" "[I", .fieldLink RX7 21 "TalePlay$Seeker" "parents" "[I", .fieldLink RX7 24 "TalePlay$Seeker" "deeds" "[I", .fieldLink RX7 18 "TalePlay$Seeker" "slots" "[I", .fieldLink RX7 77 "TalePlay$Seeker" "goalThing" "I", .methodLink RX7 160 yX6_holderOf, .instanceMethod yX6_holderOf, .selects RX6 yX6_holderOf yX6_holderOf, .initialized RX6, .code yX6_holderOf cX6_holderOf 3 (some .int), .fieldLink RX6 9 "TalePlay$Scene" "cells" "[I", .fieldLink RX7 80 "TalePlay$Seeker" "goalHolder" "I", .fieldLink RX7 83 "TalePlay$Seeker" "found" "I"] : List Cond) ++ wsX70 ++ wsX60)
set_option maxRecDepth 20000 in
theorem gm_X7_keep_X6_holderOf_SS_160 : GoodIn wm_X7_keep (wsV RX7 160 RX6 yX6_holderOf wm_X6_holderOf_SS) := goodIn_app (goodIn_of _ (by decide +kernel)) (goodIn_r _ [18, 19, 37, 38] rfl (by decide +kernel))
set_option maxHeartbeats 4000000 in
set_option maxRecDepth 100000 in
theorem x_X7_keep (l : Launch) (D : va_G) (sz : Nat) (sk : Value) (a : Nat → Nat) (t : Nat → ClassId) (i : Nat → Int32) (q : Int64) (c : Nat → Nat → Int32) (d : Nat → Nat → Int64) (b1 : Int32) (s1 : Int32) (s2 : Int32) (b2 : Int32) (hI : xInv i c) (hs1 : 0 ≤ s1.toInt ∧ s1.toInt ≤ 1023) (hs2 : s2.toInt = -9 ∨ (0 ≤ s2.toInt ∧ s2.toInt ≤ 299)) (hst : (i 174).toInt ≤ 299) (hsp : 0 ≤ (i 185).toInt ∧ (i 185).toInt ≤ 29) (hKJ : KJ (c 167) (i 174).toInt (i 185)) (hPS : PS (c 179) (i 185)) : Met l yX7_keep wm_X7_keep ({ frames := 1, cells := 0, slots := 0, locals := 40 }) (va_Pc [.ref (a 166), .int b1, .int s1, .int s2, .int b2] (yB (a 186) D sz (xwS sk a t i q c d) (xtS t))) (va_Qv (fun (u : MS) => True ∧ xInv u.1 u.2.2.1 ∧ (∀ k, k ∉ ([174, 175] : List Nat) → u.1 k = i k) ∧ (∀ k, k ∉ ([167, 168, 169, 170, 171] : List Nat) → u.2.2.1 k = c k) ∧ (KJ (u.2.2.1 167) (u.1 174).toInt (u.1 185)) ∧ ((u.1 174).toInt = (i 174).toInt + 1)) (oC D (va_A (xwS sk a t i q c d) sz) (fun u : MS => xwS sk a t u.1 u.2.1 u.2.2.1 u.2.2.2) (fun _ => [])) (va_A (xwS sk a t i q c d) sz)) 0 0 (va_A (xwS sk a t i q c d) sz) := by
  refine Met.ofW (cc := cX7_keep) (maxL := 5) (ret := none) (by decide) rfl ?_
  intro p e s m args below meth cd s₁ B hml hv
  obtain ⟨rfl, ⟨hsz, hP, hK, hD0⟩, hN, hZ, hBW⟩ := hv
  have hx := B.exec
  have hb := B.bytes
  have hr := B.returns
  have hts := atoms_spec (ws := wm_X7_keep) B.pre
  have hown : s.vm.findClass RX7 = some m.cls := findClass_of_methodNamed B.named
  have hlocks := B.notSynchronized
  subst hsz
  have hD := hD0.self (sz := s.heap.size)
  have hZ := xZ_A hZ hP hBW
  generalize hAe : va_A (xwS sk a t i q c d) s.heap.size = A at hD hZ ⊢
  have hA : ∀ q : Nat, s.heap.size ≤ q → A q := fun q h => by rw [← hAe]; exact Or.inr h
  have hS : va_S A s.heap s.heap [] := va_S.rf
  have hfi : ∀ k, k ∉ ([] : List Nat) → i k = i k := fun _ _ => rfl
  have hfc : ∀ k, k ∉ ([] : List Nat) → c k = c k := fun _ _ => rfl
  have hl := lv_entry ([.ref (a 166), .int b1, .int s1, .int s2, .int b2]) (n := 5) (Nat.le_of_ble_eq_true rfl)
  rw [lg_entry_eq]
  generalize (lg_sl ([.ref (a 166), .int b1, .int s1, .int s2, .int b2]) ++ List.replicate (5 - (lg_sl ([.ref (a 166), .int b1, .int s1, .int s2, .int b2])).length) Slot.unset).toArray = ls at hl ⊢
  have hl : lv_has ls 5 [(0, .ref (a 166)), (1, .int b1), (2, .int s1), (3, .int s2), (4, .int b2)] := hl
  refine lv_aload_n hx hb dX7_keep_0 rfl (lv_at hl 0 rfl) ?_
  refine xgS_S_scene hx hb hts (fun _ h => List.mem_cons_of_mem _ (List.mem_append_left _ (List.mem_append_right _ h))) hown hK hP (hts (.fieldLink RX7 39 "TalePlay$Seeker" "scene" "LTalePlay$Scene;") (by decide +kernel)) dX7_keep_1 ?_
  refine xgS_SS_cells hx hb hts (fun _ h => List.mem_cons_of_mem _ (List.mem_append_right _ h)) hown hK hP (hts (.fieldLink RX7 65 "TalePlay$Scene" "cells" "[I") (by decide +kernel)) dX7_keep_4 ?_
  refine lv_iconst (v := 0) hx hb dX7_keep_7 (by decide) ?_
  refine lv_aload_n hx hb dX7_keep_8 rfl (lv_at hl 0 rfl) ?_
  refine xgS_S_kept hx hb hts (fun _ h => List.mem_cons_of_mem _ (List.mem_append_left _ (List.mem_append_right _ h))) hown hK hP (hts (.fieldLink RX7 9 "TalePlay$Seeker" "kept" "[I") (by decide +kernel)) dX7_keep_9 ?_
  refine lv_aload_n hx hb dX7_keep_12 rfl (lv_at hl 0 rfl) ?_
  refine xgS_S_states (v := (i 174)) rfl hx hb hts (fun _ h => List.mem_cons_of_mem _ (List.mem_append_left _ (List.mem_append_right _ h))) hown hK hP (hts (.fieldLink RX7 86 "TalePlay$Seeker" "states" "I") (by decide +kernel)) dX7_keep_13 ?_
  have rb174_i : 0 ≤ (i 174).toInt ∧ (i 174).toInt ≤ 300 := hI.1 174
  refine lv_bipush (v := 30) hx hb dX7_keep_16 (by decide) ?_
  refine lv_imul hx hb dX7_keep_18 ?_
  refine lv_topi (fun x1 ex1 => ?_)
  have tx1 := ti_mul (a := (i 174).toInt) (b := 30) ex1 rfl (by decide) (by omega) (by omega)
  refine lv_bipush (v := 30) hx hb dX7_keep_19 (by decide) ?_
  refine va_copyi (sp := 0) (dp := x1) (n := 30) hx hb (hml.trans hl.1.symm) hown (hts (.methodLink RX7 68 arraycopyName) (by decide +kernel)) (hts (.native arraycopyName) (by decide +kernel)) (hts (.static arraycopyName) (by decide +kernel)) (hts (.initialized "java/lang/System") (by decide +kernel)) hK hP hD hS 39 32 32 26 rfl rfl rfl rfl rfl (by decide) (mt (ti_lt (a := ((i 174).toInt * 30)) (b := 0) tx1 (by decide)).mp (by omega)) (by decide) (by show (0 : Int32).toInt.toNat + (30 : Int32).toInt.toNat ≤ 30; have h80 : (0 : Int32).toInt = 0 := (by decide); have h81 : (30 : Int32).toInt = 30 := (by decide); omega) (by show (x1 : Int32).toInt.toNat + (30 : Int32).toInt.toNat ≤ 9000; have h80 : (x1 : Int32).toInt = ((i 174).toInt * 30) := tx1; have h81 : (30 : Int32).toInt = 30 := (by decide); omega) (fun _ _ => rfl) (Nat.le_of_ble_eq_true rfl) (Nat.le_of_ble_eq_true rfl) dX7_keep_21 (fun H locs hP hD hS => ?_)
  have hP : va_P D vwCl (xwS sk a t i q (updF c 167 (va_cpy (c 179) (c 167) (0 : Int32).toNatClampNeg (x1 : Int32).toNatClampNeg (30 : Int32).toNatClampNeg)) d) H := hP
  have hD : va_D A (xwS sk a t i q (updF c 167 (va_cpy (c 179) (c 167) (0 : Int32).toNatClampNeg (x1 : Int32).toNatClampNeg (30 : Int32).toNatClampNeg)) d) := hD
  have hI := xInv_f hI (k := 167) (f := (va_cpy (c 179) (c 167) (0 : Int32).toNatClampNeg (x1 : Int32).toNatClampNeg (30 : Int32).toNatClampNeg)) (fun j => by unfold va_cpy; split; (· exact hI.2 179 _); (· exact hI.2 167 _))
  have hfc : ∀ k, k ∉ ([167] : List Nat) → (updF c 167 (va_cpy (c 179) (c 167) (0 : Int32).toNatClampNeg (x1 : Int32).toNatClampNeg (30 : Int32).toNatClampNeg)) k = c k := fr_f hfc (by decide) (by decide)
  refine lv_aload_n hx hb dX7_keep_24 rfl (lv_at hl 0 rfl) ?_
  refine xgS_S_marks hx hb hts (fun _ h => List.mem_cons_of_mem _ (List.mem_append_left _ (List.mem_append_right _ h))) hown hK hP (hts (.fieldLink RX7 15 "TalePlay$Seeker" "marks" "[I") (by decide +kernel)) dX7_keep_25 ?_
  refine lv_aload_n hx hb dX7_keep_28 rfl (lv_at hl 0 rfl) ?_
  refine xgS_S_states (v := (i 174)) rfl hx hb hts (fun _ h => List.mem_cons_of_mem _ (List.mem_append_left _ (List.mem_append_right _ h))) hown hK hP (hts (.fieldLink RX7 86 "TalePlay$Seeker" "states" "I") (by decide +kernel)) dX7_keep_29 ?_
  refine lv_iload_n hx hb dX7_keep_32 rfl (lv_at hl 1 rfl) ?_
  refine xsS_168 hx hb hK hP hD hS (vp_in_iff.mpr (by have h9 : (i 174).toInt = (i 174).toInt := rfl; omega)) dX7_keep_33 (fun H locs hP hD hS => ?_)
  have hI := xInv_c hI (k := 168) (j := ((i 174) : Int32).toNatClampNeg) (x := b1) (show True from trivial)
  have hfc : ∀ k, k ∉ ([167, 168] : List Nat) → (updA (updF c 167 (va_cpy (c 179) (c 167) (0 : Int32).toNatClampNeg (x1 : Int32).toNatClampNeg (30 : Int32).toNatClampNeg)) 168 ((i 174) : Int32).toNatClampNeg b1) k = c k := fr_cz hfc (by decide) (by decide)
  refine lv_aload_n hx hb dX7_keep_34 rfl (lv_at hl 0 rfl) ?_
  refine xgS_S_parents hx hb hts (fun _ h => List.mem_cons_of_mem _ (List.mem_append_left _ (List.mem_append_right _ h))) hown hK hP (hts (.fieldLink RX7 21 "TalePlay$Seeker" "parents" "[I") (by decide +kernel)) dX7_keep_35 ?_
  refine lv_aload_n hx hb dX7_keep_38 rfl (lv_at hl 0 rfl) ?_
  refine xgS_S_states (v := (i 174)) rfl hx hb hts (fun _ h => List.mem_cons_of_mem _ (List.mem_append_left _ (List.mem_append_right _ h))) hown hK hP (hts (.fieldLink RX7 86 "TalePlay$Seeker" "states" "I") (by decide +kernel)) dX7_keep_39 ?_
  refine lv_iload_n hx hb dX7_keep_42 rfl (lv_at hl 3 rfl) ?_
  refine xsS_170 hx hb hK hP hD hS (vp_in_iff.mpr (by have h9 : (i 174).toInt = (i 174).toInt := rfl; omega)) dX7_keep_43 (fun H locs hP hD hS => ?_)
  have hI := xInv_c hI (k := 170) (j := ((i 174) : Int32).toNatClampNeg) (x := s2) (show (s2 : Int32).toInt = -9 ∨ (0 ≤ (s2 : Int32).toInt ∧ (s2 : Int32).toInt ≤ 299) from by omega)
  have hfc : ∀ k, k ∉ ([167, 168, 170] : List Nat) → (updA (updA (updF c 167 (va_cpy (c 179) (c 167) (0 : Int32).toNatClampNeg (x1 : Int32).toNatClampNeg (30 : Int32).toNatClampNeg)) 168 ((i 174) : Int32).toNatClampNeg b1) 170 ((i 174) : Int32).toNatClampNeg s2) k = c k := fr_cz hfc (by decide) (by decide)
  refine lv_aload_n hx hb dX7_keep_44 rfl (lv_at hl 0 rfl) ?_
  refine xgS_S_deeds hx hb hts (fun _ h => List.mem_cons_of_mem _ (List.mem_append_left _ (List.mem_append_right _ h))) hown hK hP (hts (.fieldLink RX7 24 "TalePlay$Seeker" "deeds" "[I") (by decide +kernel)) dX7_keep_45 ?_
  refine lv_aload_n hx hb dX7_keep_48 rfl (lv_at hl 0 rfl) ?_
  refine xgS_S_states (v := (i 174)) rfl hx hb hts (fun _ h => List.mem_cons_of_mem _ (List.mem_append_left _ (List.mem_append_right _ h))) hown hK hP (hts (.fieldLink RX7 86 "TalePlay$Seeker" "states" "I") (by decide +kernel)) dX7_keep_49 ?_
  refine lv_iload hx hb dX7_keep_52 (lv_at hl 4 rfl) ?_
  refine xsS_171 hx hb hK hP hD hS (vp_in_iff.mpr (by have h9 : (i 174).toInt = (i 174).toInt := rfl; omega)) dX7_keep_54 (fun H locs hP hD hS => ?_)
  have hI := xInv_c hI (k := 171) (j := ((i 174) : Int32).toNatClampNeg) (x := b2) (show True from trivial)
  have hfc : ∀ k, k ∉ ([167, 168, 170, 171] : List Nat) → (updA (updA (updA (updF c 167 (va_cpy (c 179) (c 167) (0 : Int32).toNatClampNeg (x1 : Int32).toNatClampNeg (30 : Int32).toNatClampNeg)) 168 ((i 174) : Int32).toNatClampNeg b1) 170 ((i 174) : Int32).toNatClampNeg s2) 171 ((i 174) : Int32).toNatClampNeg b2) k = c k := fr_cz hfc (by decide) (by decide)
  refine lv_aload_n hx hb dX7_keep_55 rfl (lv_at hl 0 rfl) ?_
  refine xgS_S_slots hx hb hts (fun _ h => List.mem_cons_of_mem _ (List.mem_append_left _ (List.mem_append_right _ h))) hown hK hP (hts (.fieldLink RX7 18 "TalePlay$Seeker" "slots" "[I") (by decide +kernel)) dX7_keep_56 ?_
  refine lv_iload_n hx hb dX7_keep_59 rfl (lv_at hl 2 rfl) ?_
  refine lv_aload_n hx hb dX7_keep_60 rfl (lv_at hl 0 rfl) ?_
  refine xgS_S_states (v := (i 174)) rfl hx hb hts (fun _ h => List.mem_cons_of_mem _ (List.mem_append_left _ (List.mem_append_right _ h))) hown hK hP (hts (.fieldLink RX7 86 "TalePlay$Seeker" "states" "I") (by decide +kernel)) dX7_keep_61 ?_
  refine xsS_169 hx hb hK hP hD hS (vp_in_iff.mpr (by have h9 : s1.toInt = s1.toInt := rfl; omega)) dX7_keep_64 (fun H locs hP hD hS => ?_)
  have hI := xInv_c hI (k := 169) (j := (s1 : Int32).toNatClampNeg) (x := (i 174)) (show ((i 174) : Int32).toInt = -9 ∨ (0 ≤ ((i 174) : Int32).toInt ∧ ((i 174) : Int32).toInt ≤ 299) from by omega)
  have hfc : ∀ k, k ∉ ([167, 168, 169, 170, 171] : List Nat) → (updA (updA (updA (updA (updF c 167 (va_cpy (c 179) (c 167) (0 : Int32).toNatClampNeg (x1 : Int32).toNatClampNeg (30 : Int32).toNatClampNeg)) 168 ((i 174) : Int32).toNatClampNeg b1) 170 ((i 174) : Int32).toNatClampNeg s2) 171 ((i 174) : Int32).toNatClampNeg b2) 169 (s1 : Int32).toNatClampNeg (i 174)) k = c k := fr_cz hfc (by decide) (by decide)
  refine lv_aload_n hx hb dX7_keep_65 rfl (lv_at hl 0 rfl) ?_
  refine xgS_S_scene hx hb hts (fun _ h => List.mem_cons_of_mem _ (List.mem_append_left _ (List.mem_append_right _ h))) hown hK hP (hts (.fieldLink RX7 39 "TalePlay$Seeker" "scene" "LTalePlay$Scene;") (by decide +kernel)) dX7_keep_66 ?_
  refine lv_aload_n hx hb dX7_keep_69 rfl (lv_at hl 0 rfl) ?_
  refine xgS_S_goalThing (v := (i 176)) rfl hx hb hts (fun _ h => List.mem_cons_of_mem _ (List.mem_append_left _ (List.mem_append_right _ h))) hown hK hP (hts (.fieldLink RX7 77 "TalePlay$Seeker" "goalThing" "I") (by decide +kernel)) dX7_keep_70 ?_
  have rb176_i : 0 ≤ (i 176).toInt ∧ (i 176).toInt ≤ 29 := hI.1 176
  refine ro_calli (va_runV (As := [.int (i 176)]) (rest := []) ⟨hx, hb, hml, hown, hts⟩ (x_X6_holderOf_SS l D H.size .null a t i q (updA (updA (updA (updA (updF c 167 (va_cpy (c 179) (c 167) (0 : Int32).toNatClampNeg (x1 : Int32).toNatClampNeg (30 : Int32).toNatClampNeg)) 168 ((i 174) : Int32).toNatClampNeg b1) 170 ((i 174) : Int32).toNatClampNeg s2) 171 ((i 174) : Int32).toNatClampNeg b2) 169 (s1 : Int32).toNatClampNeg (i 174)) d (i 176) hI (show 0 ≤ (i 176).toInt ∧ (i 176).toInt ≤ 29 from by omega)) (cwV 1 hts gm_X7_keep_X6_holderOf_SS_160 rfl rfl rfl (by decide +kernel) ⟨Nat.le_of_ble_eq_true rfl, Nat.le_of_ble_eq_true rfl⟩) (yA_V hN (xZ_k hZ hS hA) (xkS_P2 hK) (xuS_P2 (sk := sk) hP) (ci := 6) (q0 := 0) rfl rfl) rfl rfl hl.1 rfl (lv_room (Nat.le_of_ble_eq_true rfl)) dX7_keep_73 ⟨Nat.le_of_ble_eq_true rfl, Nat.le_of_ble_eq_true rfl⟩) hS hA hP (fun r3 u3 H locs hw3 hP hS => ?_)
  have hw3 : ((r3.toInt = -9 ∧ ((updA (updA (updA (updA (updF c 167 (va_cpy (c 179) (c 167) (0 : Int32).toNatClampNeg (x1 : Int32).toNatClampNeg (30 : Int32).toNatClampNeg)) 168 ((i 174) : Int32).toNatClampNeg b1) 170 ((i 174) : Int32).toNatClampNeg s2) 171 ((i 174) : Int32).toNatClampNeg b2) 169 (s1 : Int32).toNatClampNeg (i 174)) 179 (i 176).toNatClampNeg).toInt % 256 = 255) ∨ (0 ≤ r3.toInt ∧ r3.toInt ≤ 29 ∧ ¬ ((updA (updA (updA (updA (updF c 167 (va_cpy (c 179) (c 167) (0 : Int32).toNatClampNeg (x1 : Int32).toNatClampNeg (30 : Int32).toNatClampNeg)) 168 ((i 174) : Int32).toNatClampNeg b1) 170 ((i 174) : Int32).toNatClampNeg s2) 171 ((i 174) : Int32).toNatClampNeg b2) 169 (s1 : Int32).toNatClampNeg (i 174)) 179 (i 176).toNatClampNeg).toInt % 256 = 255 ∧ r3.toInt = ((updA (updA (updA (updA (updF c 167 (va_cpy (c 179) (c 167) (0 : Int32).toNatClampNeg (x1 : Int32).toNatClampNeg (30 : Int32).toNatClampNeg)) 168 ((i 174) : Int32).toNatClampNeg b1) 170 ((i 174) : Int32).toNatClampNeg s2) 171 ((i 174) : Int32).toNatClampNeg b2) 169 (s1 : Int32).toNatClampNeg (i 174)) 179 (i 176).toNatClampNeg).toInt / 8 % 32)) := hw3
  refine lv_aload_n hx hb dX7_keep_76 rfl (lv_at hl 0 rfl) ?_
  refine xgS_S_goalHolder (v := (i 177)) rfl hx hb hts (fun _ h => List.mem_cons_of_mem _ (List.mem_append_left _ (List.mem_append_right _ h))) hown hK hP (hts (.fieldLink RX7 80 "TalePlay$Seeker" "goalHolder" "I") (by decide +kernel)) dX7_keep_77 ?_
  have rb177_i : 0 ≤ (i 177).toInt ∧ (i 177).toInt ≤ 29 := hI.1 177
  refine lv_icmp_ne (tgt := 91) hx hb dX7_keep_80 (by decide) (fun c4 => ?_) (fun c4 => ?_)
  · have f4 := mt (ti_eq (a := r3.toInt) (b := (i 177).toInt) rfl rfl).mpr c4
    refine lv_aload_n hx hb dX7_keep_91 rfl (lv_at hl 0 rfl) ?_
    refine lv_dup hx hb dX7_keep_92 rfl ?_
    refine xgS_S_states (v := (i 174)) rfl hx hb hts (fun _ h => List.mem_cons_of_mem _ (List.mem_append_left _ (List.mem_append_right _ h))) hown hK hP (hts (.fieldLink RX7 86 "TalePlay$Seeker" "states" "I") (by decide +kernel)) dX7_keep_93 ?_
    refine lv_iconst (v := 1) hx hb dX7_keep_96 (by decide) ?_
    refine lv_iadd hx hb dX7_keep_97 ?_
    refine lv_topi (fun x5 ex5 => ?_)
    have tx5 := ti_add (a := (i 174).toInt) (b := 1) ex5 rfl (by decide) (by omega) (by omega)
    refine xpS_S_states hx hb hts (fun _ h => List.mem_cons_of_mem _ (List.mem_append_left _ (List.mem_append_right _ h))) hown hK hP hD hS (hts (.fieldLink RX7 86 "TalePlay$Seeker" "states" "I") (by decide +kernel)) rfl rfl dX7_keep_98 (fun H locs hP hD hS => ?_)
    have hI := xInv_i hI (k := 174) (v := x5) (show 0 ≤ (x5 : Int32).toInt ∧ (x5 : Int32).toInt ≤ 300 from by have h9 : x5.toInt = ((i 174).toInt + 1) := tx5; omega)
    have hfi : ∀ k, k ∉ ([174] : List Nat) → (upd i 174 x5) k = i k := fr_iz hfi (by decide) (by decide)
    have hKJ2 : KJ ((updA (updA (updA (updA (updF c 167 (va_cpy (c 179) (c 167) (0 : Int32).toNatClampNeg (x1 : Int32).toNatClampNeg (30 : Int32).toNatClampNeg)) 168 ((i 174) : Int32).toNatClampNeg b1) 170 ((i 174) : Int32).toNatClampNeg s2) 171 ((i 174) : Int32).toNatClampNeg b2) 169 (s1 : Int32).toNatClampNeg (i 174)) 167) (x5 : Int32).toInt ((i 185) : Int32) := KJ_k (st := (i 174)) (st2 := x5) (dp := x1) (z := 0) (tt := 30) hKJ hsp (by omega) tx5 tx1 (by decide) (by decide) hPS
    exact rw_vret ((upd i 174 x5), q, (updA (updA (updA (updA (updF c 167 (va_cpy (c 179) (c 167) (0 : Int32).toNatClampNeg (x1 : Int32).toNatClampNeg (30 : Int32).toNatClampNeg)) 168 ((i 174) : Int32).toNatClampNeg b1) 170 ((i 174) : Int32).toNatClampNeg s2) 171 ((i 174) : Int32).toNatClampNeg b2) 169 (s1 : Int32).toNatClampNeg (i 174)), d) hx hb hr hlocks hS (hK.sub (tys' := []) [] rfl) hP hD dX7_keep_101 ⟨trivial, hI, fr_w hfi (by decide), fr_w hfc (by decide), (show KJ ((updA (updA (updA (updA (updF c 167 (va_cpy (c 179) (c 167) (0 : Int32).toNatClampNeg (x1 : Int32).toNatClampNeg (30 : Int32).toNatClampNeg)) 168 ((i 174) : Int32).toNatClampNeg b1) 170 ((i 174) : Int32).toNatClampNeg s2) 171 ((i 174) : Int32).toNatClampNeg b2) 169 (s1 : Int32).toNatClampNeg (i 174)) 167) (x5 : Int32).toInt ((i 185) : Int32) from hKJ2), (show (x5 : Int32).toInt = (i 174).toInt + 1 from by have h50 : x5.toInt = ((i 174).toInt + 1) := tx5; omega)⟩
  · have f4 := (ti_eq (a := r3.toInt) (b := (i 177).toInt) rfl rfl).mp c4
    refine lv_aload_n hx hb dX7_keep_83 rfl (lv_at hl 0 rfl) ?_
    refine lv_aload_n hx hb dX7_keep_84 rfl (lv_at hl 0 rfl) ?_
    refine xgS_S_states (v := (i 174)) rfl hx hb hts (fun _ h => List.mem_cons_of_mem _ (List.mem_append_left _ (List.mem_append_right _ h))) hown hK hP (hts (.fieldLink RX7 86 "TalePlay$Seeker" "states" "I") (by decide +kernel)) dX7_keep_85 ?_
    refine xpS_S_found hx hb hts (fun _ h => List.mem_cons_of_mem _ (List.mem_append_left _ (List.mem_append_right _ h))) hown hK hP hD hS (hts (.fieldLink RX7 83 "TalePlay$Seeker" "found" "I") (by decide +kernel)) rfl rfl dX7_keep_88 (fun H locs hP hD hS => ?_)
    have hI := xInv_i hI (k := 175) (v := (i 174)) (show ((i 174) : Int32).toInt = -9 ∨ (0 ≤ ((i 174) : Int32).toInt ∧ ((i 174) : Int32).toInt ≤ 299) from by omega)
    have hfi : ∀ k, k ∉ ([175] : List Nat) → (upd i 175 (i 174)) k = i k := fr_iz hfi (by decide) (by decide)
    refine lv_aload_n hx hb dX7_keep_91 rfl (lv_at hl 0 rfl) ?_
    refine lv_dup hx hb dX7_keep_92 rfl ?_
    refine xgS_S_states (i := (upd i 175 (i 174))) (v := (i 174)) rfl hx hb hts (fun _ h => List.mem_cons_of_mem _ (List.mem_append_left _ (List.mem_append_right _ h))) hown hK hP (hts (.fieldLink RX7 86 "TalePlay$Seeker" "states" "I") (by decide +kernel)) dX7_keep_93 ?_
    refine lv_iconst (v := 1) hx hb dX7_keep_96 (by decide) ?_
    refine lv_iadd hx hb dX7_keep_97 ?_
    refine lv_topi (fun x6 ex6 => ?_)
    have tx6 := ti_add (a := (i 174).toInt) (b := 1) ex6 rfl (by decide) (by omega) (by omega)
    refine xpS_S_states hx hb hts (fun _ h => List.mem_cons_of_mem _ (List.mem_append_left _ (List.mem_append_right _ h))) hown hK hP hD hS (hts (.fieldLink RX7 86 "TalePlay$Seeker" "states" "I") (by decide +kernel)) rfl rfl dX7_keep_98 (fun H locs hP hD hS => ?_)
    have hI := xInv_i hI (k := 174) (v := x6) (show 0 ≤ (x6 : Int32).toInt ∧ (x6 : Int32).toInt ≤ 300 from by have h9 : x6.toInt = ((i 174).toInt + 1) := tx6; omega)
    have hfi : ∀ k, k ∉ ([174, 175] : List Nat) → (upd (upd i 175 (i 174)) 174 x6) k = i k := fr_iz hfi (by decide) (by decide)
    have hKJ2 : KJ ((updA (updA (updA (updA (updF c 167 (va_cpy (c 179) (c 167) (0 : Int32).toNatClampNeg (x1 : Int32).toNatClampNeg (30 : Int32).toNatClampNeg)) 168 ((i 174) : Int32).toNatClampNeg b1) 170 ((i 174) : Int32).toNatClampNeg s2) 171 ((i 174) : Int32).toNatClampNeg b2) 169 (s1 : Int32).toNatClampNeg (i 174)) 167) (x6 : Int32).toInt ((i 185) : Int32) := KJ_k (st := (i 174)) (st2 := x6) (dp := x1) (z := 0) (tt := 30) hKJ hsp (by omega) tx6 tx1 (by decide) (by decide) hPS
    exact rw_vret ((upd (upd i 175 (i 174)) 174 x6), q, (updA (updA (updA (updA (updF c 167 (va_cpy (c 179) (c 167) (0 : Int32).toNatClampNeg (x1 : Int32).toNatClampNeg (30 : Int32).toNatClampNeg)) 168 ((i 174) : Int32).toNatClampNeg b1) 170 ((i 174) : Int32).toNatClampNeg s2) 171 ((i 174) : Int32).toNatClampNeg b2) 169 (s1 : Int32).toNatClampNeg (i 174)), d) hx hb hr hlocks hS (hK.sub (tys' := []) [] rfl) hP hD dX7_keep_101 ⟨trivial, hI, fr_w hfi (by decide), fr_w hfc (by decide), (show KJ ((updA (updA (updA (updA (updF c 167 (va_cpy (c 179) (c 167) (0 : Int32).toNatClampNeg (x1 : Int32).toNatClampNeg (30 : Int32).toNatClampNeg)) 168 ((i 174) : Int32).toNatClampNeg b1) 170 ((i 174) : Int32).toNatClampNeg s2) 171 ((i 174) : Int32).toNatClampNeg b2) 169 (s1 : Int32).toNatClampNeg (i 174)) 167) (x6 : Int32).toInt ((i 185) : Int32) from hKJ2), (show (x6 : Int32).toInt = (i 174).toInt + 1 from by have h50 : x6.toInt = ((i 174).toInt + 1) := tx6; omega)⟩

def wm_X7_step : List Cond := .code yX7_step cX7_step 10 none :: (([.fieldLink RX7 57 "TalePlay$Seeker" "acts" "LTalePlay$Acts;", .methodLink RX7 148 yX0_subjectOf, .instanceMethod yX0_subjectOf, .selects RX0 yX0_subjectOf yX0_subjectOf, .initialized RX0, .code yX0_subjectOf cX0_subjectOf 3 (some .int), .fieldLink RX0 38 "TalePlay$Acts" "player" "I", .fieldLink RX7 39 "TalePlay$Seeker" "scene" "LTalePlay$Scene;", .fieldLink RX7 65 "TalePlay$Scene" "cells" "[I", .methodLink RX7 151 yX0_outcomeOf, .instanceMethod yX0_outcomeOf, .selects RX0 yX0_outcomeOf yX0_outcomeOf, .code yX0_outcomeOf cX0_outcomeOf 5 (some .int), .fieldLink RX0 33 "TalePlay$Acts" "scene" "LTalePlay$Scene;", .fieldLink RX0 149 "TalePlay$Scene" "cells" "[I", .methodLink RX0 152 yX0_subjectOf, .fieldLink RX0 19 "TalePlay$Acts" "roads" "LTalePlay$Roads;", .fieldLink RX0 95 "TalePlay$Roads" "leads" "[I", .methodLink RX0 83 yX6_holderOf, .instanceMethod yX6_holderOf, .selects RX6 yX6_holderOf yX6_holderOf, .initialized RX6, .code yX6_holderOf cX6_holderOf 3 (some .int), .fieldLink RX6 9 "TalePlay$Scene" "cells" "[I", .methodLink RX0 155 yX6_placed, .static yX6_placed, .code yX6_placed cX6_placed 3 (some .int), .methodLink RX0 80 yX6_formOf, .instanceMethod yX6_formOf, .selects RX6 yX6_formOf yX6_formOf, .code yX6_formOf cX6_formOf 3 (some .int), .methodLink RX0 158 yX6_flagged, .static yX6_flagged, .code yX6_flagged cX6_flagged 4 (some .int), .fieldLink RX0 9 "TalePlay$Acts" "world" "LTalePlay$World;", .methodLink RX0 86 yX10_sortOf, .instanceMethod yX10_sortOf, .selects RX10 yX10_sortOf yX10_sortOf, .initialized RX10, .code yX10_sortOf cX10_sortOf 2 (some .int), .fieldLink RX10 37 "TalePlay$World" "objects" "I", .fieldLink RX10 15 "TalePlay$World" "sorts" "[I", .fieldLink RX10 21 "TalePlay$World" "kindOf" "[I", .methodLink RX0 162 yX0_placedAs, .instanceMethod yX0_placedAs, .selects RX0 yX0_placedAs yX0_placedAs, .code yX0_placedAs cX0_placedAs 3 (some .int), .fieldLink RX7 15 "TalePlay$Seeker" "marks" "[I", .methodLink RX7 154 yX7_weightOf, .static yX7_weightOf, .initialized RX7, .code yX7_weightOf cX7_weightOf 1 (some .int), .constant RX7 163 (-1640531535), .methodLink RX7 99 yX7_slotFor, .instanceMethod yX7_slotFor, .selects RX7 yX7_slotFor yX7_slotFor, .code yX7_slotFor cX7_slotFor 4 (some .int), .fieldLink RX7 18 "TalePlay$Seeker" "slots" "[I", .methodLink RX7 164 yX7_isScene, .instanceMethod yX7_isScene, .selects RX7 yX7_isScene yX7_isScene, .code yX7_isScene cX7_isScene 3 (some .boolean), .fieldLink RX7 30 "TalePlay$Seeker" "world" "LTalePlay$World;", .fieldLink RX7 125 "TalePlay$World" "objects" "I", .fieldLink RX7 9 "TalePlay$Seeker" "kept" "[I", .code yX11_deedOf cX11_deedOf 3 (some .int), .initialized RX11, .static yX11_deedOf, .methodLink RX7 103 yX7_keep, .instanceMethod yX7_keep, .selects RX7 yX7_keep yX7_keep, .code yX7_keep cX7_keep 5 none, .fieldLink RX7 86 "TalePlay$Seeker" "states" "I", .methodLink RX7 68 arraycopyName, .native arraycopyName, .static arraycopyName, .initialized "java/lang/System", .fieldLink RX7 21 "TalePlay$Seeker" "parents" "[I", .fieldLink RX7 24 "TalePlay$Seeker" "deeds" "[I", .fieldLink RX7 77 "TalePlay$Seeker" "goalThing" "I", .methodLink RX7 160 yX6_holderOf, .fieldLink RX7 80 "TalePlay$Seeker" "goalHolder" "I", .fieldLink RX7 83 "TalePlay$Seeker" "found" "I"] : List Cond) ++ wsX70 ++ wsX00 ++ wsX60 ++ wsX50 ++ wsX100)
set_option maxRecDepth 20000 in
theorem gm_X7_step_X0_subjectOf_SA_148 : GoodIn wm_X7_step (wsV RX7 148 RX0 yX0_subjectOf wm_X0_subjectOf_SA) := goodIn_app (goodIn_of _ (by decide +kernel)) (goodIn_r _ [6, 7, 99, 100, 101, 102, 103, 104, 105] rfl (by decide +kernel))
set_option maxRecDepth 20000 in
theorem gm_X7_step_X0_outcomeOf_SA_151 : GoodIn wm_X7_step (wsV RX7 151 RX0 yX0_outcomeOf wm_X0_outcomeOf_SA) := goodIn_app (goodIn_of _ (by decide +kernel)) (goodIn_r _ [13, 14, 15, 16, 3, 4, 5, 6, 7, 17, 18, 19, 20, 21, 22, 23, 24, 25, 26, 27, 28, 29, 30, 31, 32, 33, 34, 35, 36, 37, 38, 39, 40, 41, 42, 43, 44, 45, 46, 47, 99, 100, 101, 102, 103, 104, 105, 106, 107, 108, 109, 110, 111, 112, 113, 114, 115, 116, 117, 118, 119, 120, 121, 122, 123, 124, 125] rfl (by decide +kernel))
set_option maxRecDepth 20000 in
theorem gm_X7_step_X7_weightOf_154 : GoodIn wm_X7_step (va_wsS RX7 154 yX7_weightOf wm_X7_weightOf) := goodIn_app (goodIn_of _ (by decide +kernel)) (goodIn_r _ [52, 53] rfl (by decide +kernel))
set_option maxRecDepth 20000 in
theorem gm_X7_step_X7_slotFor_99 : GoodIn wm_X7_step (wsV RX7 99 RX7 yX7_slotFor wm_X7_slotFor) := goodIn_app (goodIn_of _ (by decide +kernel)) (goodIn_r _ [57, 53, 58, 48, 59, 60, 61, 51, 62, 63, 64, 65, 8, 9, 84, 85, 86, 87, 88, 89, 90, 91, 92, 93, 94, 95, 96, 97, 98, 119, 120, 121, 122, 123, 124, 125, 106, 107] rfl (by decide +kernel))
set_option maxRecDepth 20000 in
theorem gm_X7_step_X11_deedOf_157 : GoodIn wm_X7_step wm_X11_deedOf := goodIn_r _ [66] rfl (by decide +kernel)
set_option maxRecDepth 20000 in
theorem gm_X7_step_X7_keep_103 : GoodIn wm_X7_step (wsV RX7 103 RX7 yX7_keep wm_X7_keep) := goodIn_app (goodIn_of _ (by decide +kernel)) (goodIn_r _ [72, 8, 9, 65, 73, 74, 75, 76, 77, 48, 78, 79, 58, 80, 81, 20, 21, 22, 23, 24, 82, 83, 84, 85, 86, 87, 88, 89, 90, 91, 92, 93, 94, 95, 96, 97, 98, 106, 107] rfl (by decide +kernel))
set_option maxHeartbeats 4000000 in
set_option maxRecDepth 100000 in
theorem x_X7_step (l : Launch) (D : va_G) (sz : Nat) (sk : Value) (a : Nat → Nat) (t : Nat → ClassId) (i : Nat → Int32) (q : Int64) (c : Nat → Nat → Int32) (d : Nat → Nat → Int64) (s1 : Int32) (v1 : Int32) (w : Int32) (w2 : Int32) (hI : xInv i c) (hs1 : 0 ≤ s1.toInt ∧ s1.toInt ≤ 299) (hv1 : 0 ≤ v1.toInt ∧ v1.toInt ≤ 12) (hx0 : v1.toInt = 0 → 0 ≤ w.toInt ∧ w.toInt ≤ 9) (hx1 : 1 ≤ v1.toInt ∧ v1.toInt ≤ 10 → 0 ≤ w.toInt ∧ w.toInt ≤ 29) (hy1 : v1.toInt = 3 ∨ v1.toInt = 4 ∨ v1.toInt = 7 ∨ v1.toInt = 8 → 0 ≤ w2.toInt ∧ w2.toInt ≤ 29) (hag : Im (v1.toInt = 0) (AG (c 179) (c 129) (i 185) w)) (hal : Im (v1.toInt = 11) (AL (c 179) (i 185))) (hst : (i 174).toInt ≤ 299) (hsp : 0 ≤ (i 185).toInt ∧ (i 185).toInt ≤ 29) (hKJ : KJ (c 167) (i 174).toInt (i 185)) (hPS : PS (c 179) (i 185)) : Met l yX7_step wm_X7_step ({ frames := 3, cells := 0, slots := 0, locals := 68 }) (va_Pc [.ref (a 166), .int s1, .int v1, .int w, .int w2] (yB (a 186) D sz (xwS sk a t i q c d) (xtS t))) (va_Qv (fun (u : MS) => True ∧ xInv u.1 u.2.2.1 ∧ (∀ k, k ∉ ([174, 175] : List Nat) → u.1 k = i k) ∧ (∀ k, k ∉ ([167, 168, 169, 170, 171, 179] : List Nat) → u.2.2.1 k = c k) ∧ (KJ (u.2.2.1 167) (u.1 174).toInt (u.1 185)) ∧ ((i 174).toInt ≤ (u.1 174).toInt) ∧ (u.2.2.1 179 = c 179)) (oC D (va_A (xwS sk a t i q c d) sz) (fun u : MS => xwS sk a t u.1 u.2.1 u.2.2.1 u.2.2.2) (fun _ => [])) (va_A (xwS sk a t i q c d) sz)) 0 0 (va_A (xwS sk a t i q c d) sz) := by
  refine Met.ofW (cc := cX7_step) (maxL := 10) (ret := none) (by decide) rfl ?_
  intro p e s m args below meth cd s₁ B hml hv
  obtain ⟨rfl, ⟨hsz, hP, hK, hD0⟩, hN, hZ, hBW⟩ := hv
  have hx := B.exec
  have hb := B.bytes
  have hr := B.returns
  have hts := atoms_spec (ws := wm_X7_step) B.pre
  have hown : s.vm.findClass RX7 = some m.cls := findClass_of_methodNamed B.named
  have hlocks := B.notSynchronized
  subst hsz
  have hD := hD0.self (sz := s.heap.size)
  have hZ := xZ_A hZ hP hBW
  generalize hAe : va_A (xwS sk a t i q c d) s.heap.size = A at hD hZ ⊢
  have hA : ∀ q : Nat, s.heap.size ≤ q → A q := fun q h => by rw [← hAe]; exact Or.inr h
  have hS : va_S A s.heap s.heap [] := va_S.rf
  have hfi : ∀ k, k ∉ ([] : List Nat) → i k = i k := fun _ _ => rfl
  have hfc : ∀ k, k ∉ ([] : List Nat) → c k = c k := fun _ _ => rfl
  have hl := lv_entry ([.ref (a 166), .int s1, .int v1, .int w, .int w2]) (n := 10) (Nat.le_of_ble_eq_true rfl)
  rw [lg_entry_eq]
  generalize (lg_sl ([.ref (a 166), .int s1, .int v1, .int w, .int w2]) ++ List.replicate (10 - (lg_sl ([.ref (a 166), .int s1, .int v1, .int w, .int w2])).length) Slot.unset).toArray = ls at hl ⊢
  have hl : lv_has ls 10 [(0, .ref (a 166)), (1, .int s1), (2, .int v1), (3, .int w), (4, .int w2)] := hl
  refine lv_aload_n hx hb dX7_step_0 rfl (lv_at hl 0 rfl) ?_
  refine xgS_S_acts hx hb hts (fun _ h => List.mem_cons_of_mem _ (List.mem_append_left _ (List.mem_append_left _ (List.mem_append_left _ (List.mem_append_left _ (List.mem_append_right _ h)))))) hown hK hP (hts (.fieldLink RX7 57 "TalePlay$Seeker" "acts" "LTalePlay$Acts;") (by decide +kernel)) dX7_step_1 ?_
  refine lv_iload_n hx hb dX7_step_4 rfl (lv_at hl 2 rfl) ?_
  refine lv_iload_n hx hb dX7_step_5 rfl (lv_at hl 3 rfl) ?_
  have rb185_i : (i 185).toInt = -9 ∨ (0 ≤ (i 185).toInt ∧ (i 185).toInt ≤ 29) := hI.1 185
  refine ro_calli (va_runV (As := [.int v1, .int w]) (rest := []) ⟨hx, hb, hml, hown, hts⟩ (x_X0_subjectOf_SA l D s.heap.size .null a t i q c d v1 w hI ) (cwV 2 hts gm_X7_step_X0_subjectOf_SA_148 rfl rfl rfl (by decide +kernel) ⟨Nat.le_of_ble_eq_true rfl, Nat.le_of_ble_eq_true rfl⟩) (yA_V hN (xZ_k hZ hS hA) hK hP (ci := 0) (q0 := 43) rfl rfl) rfl rfl hl.1 rfl (lv_room (Nat.le_of_ble_eq_true rfl)) dX7_step_6 ⟨Nat.le_of_ble_eq_true rfl, Nat.le_of_ble_eq_true rfl⟩) hS hA hP (fun r1 u1 H locs hw1 hP hS => ?_)
  have hw1 : ((r1.toInt = (i 185).toInt ∧ (v1.toInt = 0 ∨ 10 ≤ v1.toInt)) ∨ (r1.toInt = w.toInt ∧ ¬ (v1.toInt = 0 ∨ 10 ≤ v1.toInt))) := hw1
  refine lv_istore (lv' := [(5, .int r1), (0, .ref (a 166)), (1, .int s1), (2, .int v1), (3, .int w), (4, .int w2)]) hx hb dX7_step_9 hl (by decide) rfl (fun ls hl => ?_)
  refine lv_aload_n hx hb dX7_step_11 rfl (lv_at hl 1 rfl) ?_
  refine xgS_S_scene hx hb hts (fun _ h => List.mem_cons_of_mem _ (List.mem_append_left _ (List.mem_append_left _ (List.mem_append_left _ (List.mem_append_left _ (List.mem_append_right _ h)))))) hown hK hP (hts (.fieldLink RX7 39 "TalePlay$Seeker" "scene" "LTalePlay$Scene;") (by decide +kernel)) dX7_step_12 ?_
  refine xgS_SS_cells hx hb hts (fun _ h => List.mem_cons_of_mem _ (List.mem_append_left _ (List.mem_append_left _ (List.mem_append_right _ h)))) hown hK hP (hts (.fieldLink RX7 65 "TalePlay$Scene" "cells" "[I") (by decide +kernel)) dX7_step_15 ?_
  refine lv_iload hx hb dX7_step_18 (lv_at hl 0 rfl) ?_
  refine xlS_179 hx hb hK hP (vp_in_iff.mpr (by have h9 : r1.toInt = r1.toInt := rfl; omega)) dX7_step_20 (fun x2 ex2 => ?_)
  have rx2 : 0 ≤ x2.toInt ∧ x2.toInt ≤ 16383 ∧ (x2.toInt % 256 = 255 ∨ (x2.toInt % 8 ≤ 4 ∧ x2.toInt / 8 % 32 ≤ 29)) := by rw [ex2]; exact hI.2 179 _
  refine lv_istore (lv' := [(6, .int x2), (5, .int r1), (0, .ref (a 166)), (1, .int s1), (2, .int v1), (3, .int w), (4, .int w2)]) hx hb dX7_step_21 hl (by decide) rfl (fun ls hl => ?_)
  refine lv_aload_n hx hb dX7_step_23 rfl (lv_at hl 2 rfl) ?_
  refine xgS_S_acts hx hb hts (fun _ h => List.mem_cons_of_mem _ (List.mem_append_left _ (List.mem_append_left _ (List.mem_append_left _ (List.mem_append_left _ (List.mem_append_right _ h)))))) hown hK hP (hts (.fieldLink RX7 57 "TalePlay$Seeker" "acts" "LTalePlay$Acts;") (by decide +kernel)) dX7_step_24 ?_
  refine lv_iload_n hx hb dX7_step_27 rfl (lv_at hl 4 rfl) ?_
  refine lv_iload_n hx hb dX7_step_28 rfl (lv_at hl 5 rfl) ?_
  refine lv_iload hx hb dX7_step_29 (lv_at hl 6 rfl) ?_
  refine ro_calli (va_runV (As := [.int v1, .int w, .int w2]) (rest := []) ⟨hx, hb, hml, hown, hts⟩ (x_X0_outcomeOf_SA l D H.size .null a t i q c d v1 w w2 hI (show 0 ≤ v1.toInt ∧ v1.toInt ≤ 12 from by omega) (show v1.toInt = 0 → 0 ≤ w.toInt ∧ w.toInt ≤ 9 from by omega) (show 1 ≤ v1.toInt ∧ v1.toInt ≤ 10 → 0 ≤ w.toInt ∧ w.toInt ≤ 29 from by omega) (show v1.toInt = 3 ∨ v1.toInt = 4 ∨ v1.toInt = 7 ∨ v1.toInt = 8 → 0 ≤ w2.toInt ∧ w2.toInt ≤ 29 from by omega) (show 0 ≤ ((i 185) : Int32).toInt ∧ ((i 185) : Int32).toInt ≤ 29 from by omega) hag hal (fun _ => hPS)) (cwV 3 hts gm_X7_step_X0_outcomeOf_SA_151 rfl rfl rfl (by decide +kernel) ⟨Nat.le_of_ble_eq_true rfl, Nat.le_of_ble_eq_true rfl⟩) (yA_V hN (xZ_k hZ hS hA) hK hP (ci := 0) (q0 := 43) rfl rfl) rfl rfl hl.1 rfl (lv_room (Nat.le_of_ble_eq_true rfl)) dX7_step_31 ⟨Nat.le_of_ble_eq_true rfl, Nat.le_of_ble_eq_true rfl⟩) hS hA hP (fun r3 u3 H locs hw3 hP hS => ?_)
  have hw3 : ((0 ≤ r3.toInt ∧ r3.toInt ≤ 16383 ∧ (r3.toInt % 256 = 255 ∨ (r3.toInt % 8 ≤ 4 ∧ r3.toInt / 8 % 32 ≤ 29))) ∧ (Im (v1.toInt = 0 ∨ 10 ≤ v1.toInt) (Im (¬ (c 179 (i 185).toNatClampNeg).toInt % 256 = 255) (¬ r3.toInt % 256 = 255))) ∧ (Im (¬ (v1.toInt = 0 ∨ 10 ≤ v1.toInt)) (Im (¬ (c 179 w.toNatClampNeg).toInt % 256 = 255) (¬ r3.toInt % 256 = 255)))) := hw3
  obtain ⟨hw3, hr3_0, hr3_1⟩ := hw3
  have hr3_0 : Im (v1.toInt = 0 ∨ 10 ≤ v1.toInt) (Im (¬ (c 179 (i 185).toNatClampNeg).toInt % 256 = 255) (¬ r3.toInt % 256 = 255)) := hr3_0
  have hr3_1 : Im (¬ (v1.toInt = 0 ∨ 10 ≤ v1.toInt)) (Im (¬ (c 179 w.toNatClampNeg).toInt % 256 = 255) (¬ r3.toInt % 256 = 255)) := hr3_1
  refine lv_istore (lv' := [(7, .int r3), (6, .int x2), (5, .int r1), (0, .ref (a 166)), (1, .int s1), (2, .int v1), (3, .int w), (4, .int w2)]) hx hb dX7_step_34 hl (by decide) rfl (fun ls hl => ?_)
  refine lv_aload_n hx hb dX7_step_36 rfl (lv_at hl 3 rfl) ?_
  refine xgS_S_marks hx hb hts (fun _ h => List.mem_cons_of_mem _ (List.mem_append_left _ (List.mem_append_left _ (List.mem_append_left _ (List.mem_append_left _ (List.mem_append_right _ h)))))) hown hK hP (hts (.fieldLink RX7 15 "TalePlay$Seeker" "marks" "[I") (by decide +kernel)) dX7_step_37 ?_
  refine lv_iload_n hx hb dX7_step_40 rfl (lv_at hl 4 rfl) ?_
  refine xlS_168 hx hb hK hP (vp_in_iff.mpr (by have h9 : s1.toInt = s1.toInt := rfl; omega)) dX7_step_41 (fun x4 ex4 => ?_)
  refine lv_iload hx hb dX7_step_42 (lv_at hl 0 rfl) ?_
  refine lv_iload hx hb dX7_step_44 (lv_at hl 1 rfl) ?_
  refine lv_isub hx hb dX7_step_46 ?_
  refine lv_topi (fun x5 ex5 => ?_)
  have tx5 := ti_sub (a := r3.toInt) (b := x2.toInt) ex5 rfl rfl (by omega) (by omega)
  refine lv_iload hx hb dX7_step_47 (lv_at hl 2 rfl) ?_
  have hPc := hP.sub (ws' := []) [] rfl
  have hKc := hK.sub (tys' := []) [] rfl
  refine ro_calli (va_runS (As := [.int r1]) (rest := [.int x5, .int x4]) ⟨hx, hb, hml, hown, hts⟩ (c_X7_weightOf l D H.size r1) (va_cwS 1 hts gm_X7_step_X7_weightOf_154 rfl rfl rfl (by decide +kernel) ⟨Nat.le_of_ble_eq_true rfl, Nat.le_of_ble_eq_true rfl⟩) (pA_S hKc hPc) rfl rfl hl.1 rfl (lv_room (Nat.le_of_ble_eq_true rfl)) dX7_step_49 ⟨Nat.le_of_ble_eq_true rfl, Nat.le_of_ble_eq_true rfl⟩) hS hA hP (fun r7 u7 H locs hw7 hP hS => ?_)
  refine lv_imul hx hb dX7_step_52 ?_
  refine lv_topi (fun x8 ex8 => ?_)
  refine lv_iadd hx hb dX7_step_53 ?_
  refine lv_topi (fun x9 ex9 => ?_)
  refine lv_istore (lv' := [(8, .int x9), (7, .int r3), (6, .int x2), (5, .int r1), (0, .ref (a 166)), (1, .int s1), (2, .int v1), (3, .int w), (4, .int w2)]) hx hb dX7_step_54 hl (by decide) rfl (fun ls hl => ?_)
  refine lv_aload_n hx hb dX7_step_56 rfl (lv_at hl 4 rfl) ?_
  refine xgS_S_scene hx hb hts (fun _ h => List.mem_cons_of_mem _ (List.mem_append_left _ (List.mem_append_left _ (List.mem_append_left _ (List.mem_append_left _ (List.mem_append_right _ h)))))) hown hK hP (hts (.fieldLink RX7 39 "TalePlay$Seeker" "scene" "LTalePlay$Scene;") (by decide +kernel)) dX7_step_57 ?_
  refine xgS_SS_cells hx hb hts (fun _ h => List.mem_cons_of_mem _ (List.mem_append_left _ (List.mem_append_left _ (List.mem_append_right _ h)))) hown hK hP (hts (.fieldLink RX7 65 "TalePlay$Scene" "cells" "[I") (by decide +kernel)) dX7_step_60 ?_
  refine lv_iload hx hb dX7_step_63 (lv_at hl 3 rfl) ?_
  refine lv_iload hx hb dX7_step_65 (lv_at hl 1 rfl) ?_
  refine xsS_179 hx hb hK hP hD hS (vp_in_iff.mpr (by have h9 : r1.toInt = r1.toInt := rfl; omega)) dX7_step_67 (fun H locs hP hD hS => ?_)
  have hI := xInv_c hI (k := 179) (j := (r1 : Int32).toNatClampNeg) (x := r3) (show 0 ≤ (r3 : Int32).toInt ∧ (r3 : Int32).toInt ≤ 16383 ∧ ((r3 : Int32).toInt % 256 = 255 ∨ ((r3 : Int32).toInt % 8 ≤ 4 ∧ (r3 : Int32).toInt / 8 % 32 ≤ 29)) from by omega)
  have hfc : ∀ k, k ∉ ([179] : List Nat) → (updA c 179 (r1 : Int32).toNatClampNeg r3) k = c k := fr_cz hfc (by decide) (by decide)
  have hPS : PS ((updA c 179 (r1 : Int32).toNatClampNeg r3) 179) ((i 185) : Int32) := PS_u (s := r1) (x := r3) hPS (by omega) (by omega) (fun h9 => by by_cases h8 : v1.toInt = 0 ∨ 10 ≤ v1.toInt; (· exact hr3_0 h8 hPS); (· exact hr3_1 h8 (by rw [cl_e (x := w) (y := (i 185)) (by omega)]; exact hPS)))
  have hKJ : KJ ((updA c 179 (r1 : Int32).toNatClampNeg r3) 167) ((i 174) : Int32).toInt ((i 185) : Int32) := hKJ
  have hmo : (i 174).toInt ≤ ((i 174) : Int32).toInt := Int.le_refl _
  have hcs : ((updA c 179 (r1 : Int32).toNatClampNeg r3) 179) = upd (c 179) r1.toNatClampNeg r3 := rfl
  refine lv_aload_n hx hb dX7_step_68 rfl (lv_at hl 4 rfl) ?_
  refine lv_iload hx hb dX7_step_69 (lv_at hl 0 rfl) ?_
  refine ro_calli (va_runV (As := [.int x9]) (rest := []) ⟨hx, hb, hml, hown, hts⟩ (x_X7_slotFor l D H.size .null a t i q (updA c 179 (r1 : Int32).toNatClampNeg r3) d x9 hI ) (cwV 1 hts gm_X7_step_X7_slotFor_99 rfl rfl rfl (by decide +kernel) ⟨Nat.le_of_ble_eq_true rfl, Nat.le_of_ble_eq_true rfl⟩) (yA_V hN (xZ_k hZ hS hA) hK hP (ci := 7) (q0 := 31) rfl rfl) rfl rfl hl.1 rfl (lv_room (Nat.le_of_ble_eq_true rfl)) dX7_step_71 ⟨Nat.le_of_ble_eq_true rfl, Nat.le_of_ble_eq_true rfl⟩) hS hA hP (fun r10 u10 H locs hw10 hP hS => ?_)
  have hw10 : (0 ≤ r10.toInt ∧ r10.toInt ≤ 1023) := hw10
  refine lv_istore (lv' := [(9, .int r10), (8, .int x9), (7, .int r3), (6, .int x2), (5, .int r1), (0, .ref (a 166)), (1, .int s1), (2, .int v1), (3, .int w), (4, .int w2)]) hx hb dX7_step_74 hl (by decide) rfl (fun ls hl => ?_)
  refine lv_aload_n hx hb dX7_step_76 rfl (lv_at hl 5 rfl) ?_
  refine xgS_S_slots hx hb hts (fun _ h => List.mem_cons_of_mem _ (List.mem_append_left _ (List.mem_append_left _ (List.mem_append_left _ (List.mem_append_left _ (List.mem_append_right _ h)))))) hown hK hP (hts (.fieldLink RX7 18 "TalePlay$Seeker" "slots" "[I") (by decide +kernel)) dX7_step_77 ?_
  refine lv_iload hx hb dX7_step_80 (lv_at hl 0 rfl) ?_
  refine xlS_169 hx hb hK hP (vp_in_iff.mpr (by have h9 : r10.toInt = r10.toInt := rfl; omega)) dX7_step_82 (fun x11 ex11 => ?_)
  have rx11 : x11.toInt = -9 ∨ (0 ≤ x11.toInt ∧ x11.toInt ≤ 299) := by rw [ex11]; exact hI.2 169 _
  refine lv_bipush (v := (-9)) hx hb dX7_step_83 (by decide) ?_
  refine lv_icmp_ne (tgt := 104) hx hb dX7_step_85 (by decide) (fun c12 => ?_) (fun c12 => ?_)
  · have f12 := mt (ti_eq (a := x11.toInt) (b := (-9)) rfl (by decide)).mpr c12
    refine lv_aload_n hx hb dX7_step_104 rfl (lv_at hl 5 rfl) ?_
    refine xgS_S_scene hx hb hts (fun _ h => List.mem_cons_of_mem _ (List.mem_append_left _ (List.mem_append_left _ (List.mem_append_left _ (List.mem_append_left _ (List.mem_append_right _ h)))))) hown hK hP (hts (.fieldLink RX7 39 "TalePlay$Seeker" "scene" "LTalePlay$Scene;") (by decide +kernel)) dX7_step_105 ?_
    refine xgS_SS_cells hx hb hts (fun _ h => List.mem_cons_of_mem _ (List.mem_append_left _ (List.mem_append_left _ (List.mem_append_right _ h)))) hown hK hP (hts (.fieldLink RX7 65 "TalePlay$Scene" "cells" "[I") (by decide +kernel)) dX7_step_108 ?_
    refine lv_iload hx hb dX7_step_111 (lv_at hl 4 rfl) ?_
    refine lv_iload hx hb dX7_step_113 (lv_at hl 3 rfl) ?_
    refine xsS_179 hx hb hK hP hD hS (vp_in_iff.mpr (by have h9 : r1.toInt = r1.toInt := rfl; omega)) dX7_step_115 (fun H locs hP hD hS => ?_)
    have hI := xInv_c hI (k := 179) (j := (r1 : Int32).toNatClampNeg) (x := x2) (show 0 ≤ (x2 : Int32).toInt ∧ (x2 : Int32).toInt ≤ 16383 ∧ ((x2 : Int32).toInt % 256 = 255 ∨ ((x2 : Int32).toInt % 8 ≤ 4 ∧ (x2 : Int32).toInt / 8 % 32 ≤ 29)) from by omega)
    have hfc := fr_c hfc (k := 179) (j := (r1 : Int32).toNatClampNeg) (x := x2) (by decide)
    have hbk : (updA (updA c 179 (r1 : Int32).toNatClampNeg r3) 179 (r1 : Int32).toNatClampNeg x2) 179 = c 179 := by show upd ((updA c 179 (r1 : Int32).toNatClampNeg r3) 179) r1.toNatClampNeg x2 = c 179; rw [hcs]; exact upd_bk ex2
    exact rw_vret (i, q, (updA (updA c 179 (r1 : Int32).toNatClampNeg r3) 179 (r1 : Int32).toNatClampNeg x2), d) hx hb hr hlocks hS (hK.sub (tys' := []) [] rfl) hP hD dX7_step_116 ⟨trivial, hI, fr_w hfi (by decide), fr_w hfc (by decide), (show KJ ((updA (updA c 179 (r1 : Int32).toNatClampNeg r3) 179 (r1 : Int32).toNatClampNeg x2) 167) ((i 174) : Int32).toInt ((i 185) : Int32) from hKJ), (show (i 174).toInt ≤ ((i 174) : Int32).toInt from hmo), (show (updA (updA c 179 (r1 : Int32).toNatClampNeg r3) 179 (r1 : Int32).toNatClampNeg x2) 179 = c 179 from hbk)⟩
  · have f12 := (ti_eq (a := x11.toInt) (b := (-9)) rfl (by decide)).mp c12
    refine lv_aload_n hx hb dX7_step_88 rfl (lv_at hl 5 rfl) ?_
    refine lv_iload hx hb dX7_step_89 (lv_at hl 1 rfl) ?_
    refine lv_iload hx hb dX7_step_91 (lv_at hl 0 rfl) ?_
    refine lv_iload_n hx hb dX7_step_93 rfl (lv_at hl 6 rfl) ?_
    refine lv_iload_n hx hb dX7_step_94 rfl (lv_at hl 7 rfl) ?_
    refine lv_iload_n hx hb dX7_step_95 rfl (lv_at hl 8 rfl) ?_
    refine lv_iload hx hb dX7_step_96 (lv_at hl 9 rfl) ?_
    have hNn13 := hN.2.2.2.2.1
    have hPc := hP.sub (ws' := []) [] rfl
    have hKc := hK.sub (tys' := []) [] rfl
    refine ro_calli (va_runSN (As := [.int v1, .int w, .int w2]) (rest := [.int s1, .int r10, .int x9, .ref (a 166)]) ⟨hx, hb, hml, hown, hts⟩ (c_X11_deedOf l D H.size v1 w w2) ⟨va_cnB 3 hts gm_X7_step_X11_deedOf_157 rfl rfl rfl hNn13 (hts (.initialized RX11) (by decide +kernel)) (by decide +kernel) ⟨Nat.le_of_ble_eq_true rfl, Nat.le_of_ble_eq_true rfl⟩, (hts (.static yX11_deedOf) (by decide +kernel)), trivial⟩ (pA_S hKc hPc) rfl rfl hl.1 rfl (lv_room (Nat.le_of_ble_eq_true rfl)) dX7_step_98 ⟨Nat.le_of_ble_eq_true rfl, Nat.le_of_ble_eq_true rfl⟩) hS hA hP (fun r14 u14 H locs hw14 hP hS => ?_)
    have rb174_i : 0 ≤ (i 174).toInt ∧ (i 174).toInt ≤ 300 := hI.1 174
    refine al_callv (va_runV (As := [.int x9, .int r10, .int s1, .int r14]) (rest := []) ⟨hx, hb, hml, hown, hts⟩ (x_X7_keep l D H.size .null a t i q (updA c 179 (r1 : Int32).toNatClampNeg r3) d x9 r10 s1 r14 hI (show 0 ≤ r10.toInt ∧ r10.toInt ≤ 1023 from by omega) (show s1.toInt = -9 ∨ (0 ≤ s1.toInt ∧ s1.toInt ≤ 299) from by omega) (show ((i 174) : Int32).toInt ≤ 299 from by omega) (show 0 ≤ ((i 185) : Int32).toInt ∧ ((i 185) : Int32).toInt ≤ 29 from by omega) hKJ hPS) (cwV 4 hts gm_X7_step_X7_keep_103 rfl rfl rfl (by decide +kernel) ⟨Nat.le_of_ble_eq_true rfl, Nat.le_of_ble_eq_true rfl⟩) (yB_V hN (xZ_k hZ hS hA) (xZ_n hZ hD) hK hP hD (ci := 7) (q0 := 31) rfl rfl) rfl rfl hl.1 rfl (lv_room (Nat.le_of_ble_eq_true rfl)) dX7_step_101 ⟨Nat.le_of_ble_eq_true rfl, Nat.le_of_ble_eq_true rfl⟩) hS hA hP hD (fun u15 H locs hw15 hP hD hS => ?_)
    obtain ⟨i15, q15, c15, d15⟩ := u15
    have hw15 : True ∧ xInv i15 c15 ∧ (∀ k, k ∉ ([174, 175] : List Nat) → i15 k = i k) ∧ (∀ k, k ∉ ([167, 168, 169, 170, 171] : List Nat) → c15 k = (updA c 179 (r1 : Int32).toNatClampNeg r3) k) ∧ (KJ (c15 167) (i15 174).toInt (i15 185)) ∧ ((i15 174).toInt = (i 174).toInt + 1) := hw15
    obtain ⟨hw15, hI, hei15, hec15, hxp15_0, hxp15_1⟩ := hw15
    have hxp15_0 : KJ (c15 167) (i15 174).toInt (i15 185) := hxp15_0
    have hxp15_1 : (i15 174).toInt = (i 174).toInt + 1 := hxp15_1
    have hfi : ∀ k, k ∉ ([174, 175] : List Nat) → i15 k = i k := fr_z hfi hei15 (by decide) (by decide)
    have hfc : ∀ k, k ∉ ([167, 168, 169, 170, 171, 179] : List Nat) → c15 k = c k := fr_z hfc hec15 (by decide) (by decide)
    have hPS : PS (c15 179) ((i15 185) : Int32) := by rw [show c15 179 = (updA c 179 (r1 : Int32).toNatClampNeg r3) 179 from hec15 179 (by decide), show i15 185 = i 185 from hei15 185 (by decide)]; exact hPS
    have hcs : (c15 179) = upd (c 179) r1.toNatClampNeg r3 := by rw [show c15 179 = (updA c 179 (r1 : Int32).toNatClampNeg r3) 179 from hec15 179 (by decide)]; exact hcs
    have hKJ : KJ (c15 167) ((i15 174) : Int32).toInt ((i15 185) : Int32) := hxp15_0
    have hmo : (i 174).toInt ≤ (i15 174).toInt := by have h9 := hxp15_1; omega
    refine lv_aload_n hx hb dX7_step_104 rfl (lv_at hl 5 rfl) ?_
    refine xgS_S_scene hx hb hts (fun _ h => List.mem_cons_of_mem _ (List.mem_append_left _ (List.mem_append_left _ (List.mem_append_left _ (List.mem_append_left _ (List.mem_append_right _ h)))))) hown hK hP (hts (.fieldLink RX7 39 "TalePlay$Seeker" "scene" "LTalePlay$Scene;") (by decide +kernel)) dX7_step_105 ?_
    refine xgS_SS_cells hx hb hts (fun _ h => List.mem_cons_of_mem _ (List.mem_append_left _ (List.mem_append_left _ (List.mem_append_right _ h)))) hown hK hP (hts (.fieldLink RX7 65 "TalePlay$Scene" "cells" "[I") (by decide +kernel)) dX7_step_108 ?_
    refine lv_iload hx hb dX7_step_111 (lv_at hl 4 rfl) ?_
    refine lv_iload hx hb dX7_step_113 (lv_at hl 3 rfl) ?_
    refine xsS_179 hx hb hK hP hD hS (vp_in_iff.mpr (by have h9 : r1.toInt = r1.toInt := rfl; omega)) dX7_step_115 (fun H locs hP hD hS => ?_)
    have hI := xInv_c hI (k := 179) (j := (r1 : Int32).toNatClampNeg) (x := x2) (show 0 ≤ (x2 : Int32).toInt ∧ (x2 : Int32).toInt ≤ 16383 ∧ ((x2 : Int32).toInt % 256 = 255 ∨ ((x2 : Int32).toInt % 8 ≤ 4 ∧ (x2 : Int32).toInt / 8 % 32 ≤ 29)) from by omega)
    have hfc := fr_c hfc (k := 179) (j := (r1 : Int32).toNatClampNeg) (x := x2) (by decide)
    have hbk : (updA c15 179 (r1 : Int32).toNatClampNeg x2) 179 = c 179 := by show upd (c15 179) r1.toNatClampNeg x2 = c 179; rw [hcs]; exact upd_bk ex2
    exact rw_vret (i15, q15, (updA c15 179 (r1 : Int32).toNatClampNeg x2), d15) hx hb hr hlocks hS (hK.sub (tys' := []) [] rfl) hP hD dX7_step_116 ⟨trivial, hI, fr_w hfi (by decide), fr_w hfc (by decide), (show KJ ((updA c15 179 (r1 : Int32).toNatClampNeg x2) 167) ((i15 174) : Int32).toInt ((i15 185) : Int32) from hKJ), (show (i 174).toInt ≤ ((i15 174) : Int32).toInt from hmo), (show (updA c15 179 (r1 : Int32).toNatClampNeg x2) 179 = c 179 from hbk)⟩

