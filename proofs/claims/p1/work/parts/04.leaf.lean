set_option maxHeartbeats 4000000 in
set_option maxRecDepth 100000 in
theorem c_X12_in (l : Launch) (D : va_G) (sz : Nat) (v : Int64) (lo : Int64) (hi : Int64) (a : Int) (b : Int) (d : Int) (ha : v.toInt = a) (hb_ : lo.toInt = b) (hd_ : hi.toInt = d) : Met l yX12_in wsX12_in ({ frames := 0, cells := 0, slots := 0, locals := 0 }) (va_Pc [.long v, .long lo, .long hi] (pA D sz [] [])) (va_Qi (fun (r : Int32) (_ : Unit) => r = if (b ≤ a ∧ a ≤ d) then 1 else 0) oA (ro sz)) 0 0 (ro sz) := by
  refine Met.ofW (cc := cX12_in) (maxL := 6) (ret := (some .boolean)) (by decide) rfl ?_
  intro p e s m args below meth c s₁ B hml hv
  obtain ⟨rfl, hsz, hP, hK⟩ := hv
  have hx := B.exec
  have hb := B.bytes
  have hr := B.returns
  have hts := atoms_spec (ws := wsX12_in) B.pre
  have hown : s.vm.findClass RX12 = some m.cls := findClass_of_methodNamed B.named
  have hlocks := B.notSynchronized
  subst hsz
  have hA : ∀ q : Nat, s.heap.size ≤ q → ro s.heap.size q := fun _ h => h
  have hS : va_S (ro s.heap.size) s.heap s.heap [] := va_S.rf
  have hP : va_P D vwCl [] s.heap := hP
  have hl := lv_entry ([.long v, .long lo, .long hi]) (n := 6) (Nat.le_of_ble_eq_true rfl)
  rw [lg_entry_eq]
  generalize (lg_sl ([.long v, .long lo, .long hi]) ++ List.replicate (6 - (lg_sl ([.long v, .long lo, .long hi])).length) Slot.unset).toArray = ls at hl ⊢
  have hl : lv_has ls 6 [(0, .long v), (2, .long lo), (4, .long hi)] := hl
  refine lv_lload_n hx hb dX12_in_0 rfl (lv_at hl 0 rfl) ?_
  refine lv_lload_n hx hb dX12_in_1 rfl (lv_at hl 1 rfl) ?_
  refine W.lcmp hx hb dX12_in_2 ?_
  refine lv_if_lt (tgt := 17) hx hb dX12_in_3 (by decide) (fun c1 => ?_) (fun c1 => ?_)
  · have f1 := (lc_lt (a := a) (b := b) ha hb_).mp c1
    refine lv_iconst (v := 0) hx hb dX12_in_17 (by decide) ?_
    exact ro_zret hx hb hr hlocks hS rfl dX12_in_18 (by show _ = _; rw [if_neg (by omega)])
  · have f1 := mt (lc_lt (a := a) (b := b) ha hb_).mpr c1
    refine lv_lload_n hx hb dX12_in_6 rfl (lv_at hl 0 rfl) ?_
    refine lv_lload hx hb dX12_in_7 (lv_at hl 2 rfl) ?_
    refine W.lcmp hx hb dX12_in_9 ?_
    refine lv_if_gt (tgt := 17) hx hb dX12_in_10 (by decide) (fun c2 => ?_) (fun c2 => ?_)
    · have f2 := (lc_gt (a := a) (b := d) ha hd_).mp c2
      refine lv_iconst (v := 0) hx hb dX12_in_17 (by decide) ?_
      exact ro_zret hx hb hr hlocks hS rfl dX12_in_18 (by show _ = _; rw [if_neg (by omega)])
    · have f2 := mt (lc_gt (a := a) (b := d) ha hd_).mpr c2
      refine lv_iconst (v := 1) hx hb dX12_in_13 (by decide) ?_
      refine lv_goto (tgt := 18) hx hb dX12_in_14 (by decide) ?_
      exact ro_zret hx hb hr hlocks hS rfl dX12_in_18 (by show _ = _; rw [if_pos (by omega)])

set_option maxHeartbeats 4000000 in
set_option maxRecDepth 100000 in
theorem c_X12_isObject (l : Launch) (D : va_G) (sz : Nat) (m0 : Nat) (g1 : Nat) (g3 : Nat) (g4 : Nat) (g6 : Nat) (g7 : Nat) (g9 : Nat) (g10 : Nat) (g11 : Nat) (g12 : Nat) (g13 : Nat) (g14 : Nat) (g20 : Nat) (g21 : Nat) (g23 : Nat) (g24 : Nat) (g25 : Nat) (g26 : Nat) (g28 : Nat) (g29 : Nat) (g30 : Nat) (g31 : Nat) (g32 : Nat) (g34 : Nat) (g38 : Nat) (g39 : Nat) (g43 : Nat) (g44 : Nat) (g45 : Nat) (g46 : Nat) (g47 : Nat) (g48 : Nat) (g49 : Nat) (g51 : Nat) (g52 : Nat) (g53 : Nat) (g54 : Nat) (g55 : Nat) (g56 : Nat) (g60 : Nat) (g61 : Nat) (g62 : Nat) (g63 : Nat) (g65 : Nat) (g66 : Nat) (g67 : Nat) (g68 : Nat) (o : Int32) : Met l yX12_isObject wsX12_isObject ({ frames := 1, cells := 0, slots := 0, locals := 25 }) (va_Pc [.ref m0, .int o] (pA D sz [(m0, .inr (12, [.int 0, .ref g1, .int 6, .ref g3, .ref g4, .int 0, .ref g6, .ref g7, .int 0, .ref g9, .ref g10, .ref g11, .ref g12, .ref g13, .ref g14, .int 0, .int 0, .int 0, .int 0, .int 0, .ref g20, .ref g21, .int (-9), .ref g23, .ref g24, .ref g25, .ref g26, .int 0, .ref g28, .ref g29, .ref g30, .ref g31, .ref g32, .int 0, .ref g34, .int 0, .int 0, .long 0, .ref g38, .ref g39, .int 0, .int 0, .int 0, .ref g43, .ref g44, .ref g45, .ref g46, .ref g47, .ref g48, .ref g49, .int 0, .ref g51, .ref g52, .ref g53, .ref g54, .ref g55, .ref g56, .int (-9), .int 0, .int 0, .ref g60, .ref g61, .ref g62, .ref g63, .int 0, .ref g65, .ref g66, .ref g67, .ref g68]))] [])) (va_Qi (fun (r : Int32) (_ : Unit) => r = 0) oA (ro sz)) 0 0 (ro sz) := by
  refine Met.ofW (cc := cX12_isObject) (maxL := 2) (ret := (some .boolean)) (by decide) rfl ?_
  intro p e s m args below meth c s₁ B hml hv
  obtain ⟨rfl, hsz, hP, hK⟩ := hv
  have hx := B.exec
  have hb := B.bytes
  have hr := B.returns
  have hts := atoms_spec (ws := wsX12_isObject) B.pre
  have hown : s.vm.findClass RX12 = some m.cls := findClass_of_methodNamed B.named
  have hlocks := B.notSynchronized
  subst hsz
  have hA : ∀ q : Nat, s.heap.size ≤ q → ro s.heap.size q := fun _ h => h
  have hS : va_S (ro s.heap.size) s.heap s.heap [] := va_S.rf
  have hP : va_P D vwCl [(m0, .inr (12, [.int 0, .ref g1, .int 6, .ref g3, .ref g4, .int 0, .ref g6, .ref g7, .int 0, .ref g9, .ref g10, .ref g11, .ref g12, .ref g13, .ref g14, .int 0, .int 0, .int 0, .int 0, .int 0, .ref g20, .ref g21, .int (-9), .ref g23, .ref g24, .ref g25, .ref g26, .int 0, .ref g28, .ref g29, .ref g30, .ref g31, .ref g32, .int 0, .ref g34, .int 0, .int 0, .long 0, .ref g38, .ref g39, .int 0, .int 0, .int 0, .ref g43, .ref g44, .ref g45, .ref g46, .ref g47, .ref g48, .ref g49, .int 0, .ref g51, .ref g52, .ref g53, .ref g54, .ref g55, .ref g56, .int (-9), .int 0, .int 0, .ref g60, .ref g61, .ref g62, .ref g63, .int 0, .ref g65, .ref g66, .ref g67, .ref g68]))] s.heap := hP
  have hl := lv_entry ([.ref m0, .int o]) (n := 2) (Nat.le_of_ble_eq_true rfl)
  rw [lg_entry_eq]
  generalize (lg_sl ([.ref m0, .int o]) ++ List.replicate (2 - (lg_sl ([.ref m0, .int o])).length) Slot.unset).toArray = ls at hl ⊢
  have hl : lv_has ls 2 [(0, .ref m0), (1, .int o)] := hl
  refine lv_iload_n hx hb dX12_isObject_0 rfl (lv_at hl 1 rfl) ?_
  refine lv_i2l (v := o.toInt64) hx hb dX12_isObject_1 rfl ?_
  refine lv_lconst (v := 0) hx hb dX12_isObject_2 (by decide) ?_
  refine lv_aload_n hx hb dX12_isObject_3 rfl (lv_at hl 0 rfl) ?_
  refine va_get (D := D) (ci := 12) (v := .int 0) (C := RX12) (T := TX12) (N := 69) hx hb hts (fun _ h => List.mem_cons_of_mem _ (List.mem_append_right _ h)) hown hK hP 0 rfl rfl 5 (by decide) (hts (.fieldLink RX12 177 "TalePlayModel" "objects" "I") (by decide +kernel)) (fun _ h9 => h9) rfl dX12_isObject_4 ?_
  refine lv_iconst (v := 1) hx hb dX12_isObject_7 (by decide) ?_
  refine lv_isub hx hb dX12_isObject_8 ?_
  refine tp_i (y := (-1)) (by decide) ?_
  refine lv_i2l (v := (-1)) hx hb dX12_isObject_9 (by decide) ?_
  have hPc := hP.sub (ws' := []) [] rfl
  have hKc := hK.sub (tys' := []) [] rfl
  refine ro_calli (va_runS (As := [.long o.toInt64, .long 0, .long (-1)]) (rest := []) ⟨hx, hb, hml, hown, hts⟩ (c_X12_in l D s.heap.size o.toInt64 0 (-1) o.toInt 0 (-1) ((Int32.toInt_toInt64 o).trans rfl) (by decide) (by decide)) (va_cwS 3 hts gX12_isObject_X12_in rfl rfl rfl (by decide +kernel) ⟨Nat.le_of_ble_eq_true rfl, Nat.le_of_ble_eq_true rfl⟩) (pA_S hKc hPc) rfl rfl hl.1 rfl (lv_room (Nat.le_of_ble_eq_true rfl)) dX12_isObject_10 ⟨Nat.le_of_ble_eq_true rfl, Nat.le_of_ble_eq_true rfl⟩) hS hA hP (fun r1 u1 H locs hw1 hP hS => ?_)
  have hw1 : r1 = if (0 ≤ o.toInt ∧ o.toInt ≤ (-1)) then 1 else 0 := hw1
  exact ro_zret hx hb hr hlocks hS (fl_n hw1) dX12_isObject_13 (by show _ = _; rw [hw1, if_neg (by omega)])

set_option maxHeartbeats 4000000 in
set_option maxRecDepth 100000 in
theorem c_X10_hasKind (l : Launch) (D : va_G) (sz : Nat) (wo : Nat) (wp : Nat) (ws_ : Nat) (wd : Nat) (wk : Nat) (wz : Nat) (k : Int32) : Met l yX10_hasKind wsX10_hasKind ({ frames := 0, cells := 0, slots := 0, locals := 0 }) (va_Pc [.ref wo, .int k] (pA D sz [(wo, .inr (10, [.ref wp, .ref ws_, .ref wd, .ref wk, .ref wz, .int 6, .int 0]))] [])) (va_Qi (fun (r : Int32) (_ : Unit) => r = if (0 ≤ k.toInt ∧ k.toInt < 6) then 1 else 0) oA (ro sz)) 0 0 (ro sz) := by
  refine Met.ofW (cc := cX10_hasKind) (maxL := 2) (ret := (some .boolean)) (by decide) rfl ?_
  intro p e s m args below meth c s₁ B hml hv
  obtain ⟨rfl, hsz, hP, hK⟩ := hv
  have hx := B.exec
  have hb := B.bytes
  have hr := B.returns
  have hts := atoms_spec (ws := wsX10_hasKind) B.pre
  have hown : s.vm.findClass RX10 = some m.cls := findClass_of_methodNamed B.named
  have hlocks := B.notSynchronized
  subst hsz
  have hA : ∀ q : Nat, s.heap.size ≤ q → ro s.heap.size q := fun _ h => h
  have hS : va_S (ro s.heap.size) s.heap s.heap [] := va_S.rf
  have hP : va_P D vwCl [(wo, .inr (10, [.ref wp, .ref ws_, .ref wd, .ref wk, .ref wz, .int 6, .int 0]))] s.heap := hP
  have hl := lv_entry ([.ref wo, .int k]) (n := 2) (Nat.le_of_ble_eq_true rfl)
  rw [lg_entry_eq]
  generalize (lg_sl ([.ref wo, .int k]) ++ List.replicate (2 - (lg_sl ([.ref wo, .int k])).length) Slot.unset).toArray = ls at hl ⊢
  have hl : lv_has ls 2 [(0, .ref wo), (1, .int k)] := hl
  refine lv_iload_n hx hb dX10_hasKind_0 rfl (lv_at hl 1 rfl) ?_
  refine lv_if_lt (tgt := 16) hx hb dX10_hasKind_1 (by decide) (fun c1 => ?_) (fun c1 => ?_)
  · have f1 := (ti_lt (a := k.toInt) (b := 0) rfl (by decide)).mp c1
    refine lv_iconst (v := 0) hx hb dX10_hasKind_16 (by decide) ?_
    exact ro_zret hx hb hr hlocks hS rfl dX10_hasKind_17 (by show _ = _; rw [if_neg (by omega)])
  · have f1 := mt (ti_lt (a := k.toInt) (b := 0) rfl (by decide)).mpr c1
    refine lv_iload_n hx hb dX10_hasKind_4 rfl (lv_at hl 1 rfl) ?_
    refine lv_aload_n hx hb dX10_hasKind_5 rfl (lv_at hl 0 rfl) ?_
    refine va_get (D := D) (ci := 10) (v := .int 6) (C := RX10) (T := TX10) (N := 7) hx hb hts (fun _ h => List.mem_cons_of_mem _ (List.mem_append_right _ h)) hown hK hP 0 rfl rfl 5 (by decide) (hts (.fieldLink RX10 33 "TalePlay$World" "kinds" "I") (by decide +kernel)) (fun _ h9 => h9) rfl dX10_hasKind_6 ?_
    refine lv_icmp_ge (tgt := 16) hx hb dX10_hasKind_9 (by decide) (fun c2 => ?_) (fun c2 => ?_)
    · have f2 := (ti_le (a := 6) (b := k.toInt) (by decide) rfl).mp c2
      refine lv_iconst (v := 0) hx hb dX10_hasKind_16 (by decide) ?_
      exact ro_zret hx hb hr hlocks hS rfl dX10_hasKind_17 (by show _ = _; rw [if_neg (by omega)])
    · have f2 := mt (ti_le (a := 6) (b := k.toInt) (by decide) rfl).mpr c2
      refine lv_iconst (v := 1) hx hb dX10_hasKind_12 (by decide) ?_
      refine lv_goto (tgt := 17) hx hb dX10_hasKind_13 (by decide) ?_
      exact ro_zret hx hb hr hlocks hS rfl dX10_hasKind_17 (by show _ = _; rw [if_pos (by omega)])

set_option maxHeartbeats 4000000 in
set_option maxRecDepth 100000 in
theorem c_X10_hasObject (l : Launch) (D : va_G) (sz : Nat) (wo : Nat) (wp : Nat) (ws_ : Nat) (wd : Nat) (wk : Nat) (wz : Nat) (k : Int32) : Met l yX10_hasObject wsX10_hasObject ({ frames := 0, cells := 0, slots := 0, locals := 0 }) (va_Pc [.ref wo, .int k] (pA D sz [(wo, .inr (10, [.ref wp, .ref ws_, .ref wd, .ref wk, .ref wz, .int 6, .int 0]))] [])) (va_Qi (fun (r : Int32) (_ : Unit) => r = 0) oA (ro sz)) 0 0 (ro sz) := by
  refine Met.ofW (cc := cX10_hasObject) (maxL := 2) (ret := (some .boolean)) (by decide) rfl ?_
  intro p e s m args below meth c s₁ B hml hv
  obtain ⟨rfl, hsz, hP, hK⟩ := hv
  have hx := B.exec
  have hb := B.bytes
  have hr := B.returns
  have hts := atoms_spec (ws := wsX10_hasObject) B.pre
  have hown : s.vm.findClass RX10 = some m.cls := findClass_of_methodNamed B.named
  have hlocks := B.notSynchronized
  subst hsz
  have hA : ∀ q : Nat, s.heap.size ≤ q → ro s.heap.size q := fun _ h => h
  have hS : va_S (ro s.heap.size) s.heap s.heap [] := va_S.rf
  have hP : va_P D vwCl [(wo, .inr (10, [.ref wp, .ref ws_, .ref wd, .ref wk, .ref wz, .int 6, .int 0]))] s.heap := hP
  have hl := lv_entry ([.ref wo, .int k]) (n := 2) (Nat.le_of_ble_eq_true rfl)
  rw [lg_entry_eq]
  generalize (lg_sl ([.ref wo, .int k]) ++ List.replicate (2 - (lg_sl ([.ref wo, .int k])).length) Slot.unset).toArray = ls at hl ⊢
  have hl : lv_has ls 2 [(0, .ref wo), (1, .int k)] := hl
  refine lv_iload_n hx hb dX10_hasObject_0 rfl (lv_at hl 1 rfl) ?_
  refine lv_if_lt (tgt := 16) hx hb dX10_hasObject_1 (by decide) (fun c1 => ?_) (fun c1 => ?_)
  · have f1 := (ti_lt (a := k.toInt) (b := 0) rfl (by decide)).mp c1
    refine lv_iconst (v := 0) hx hb dX10_hasObject_16 (by decide) ?_
    exact ro_zret hx hb hr hlocks hS rfl dX10_hasObject_17 rfl
  · have f1 := mt (ti_lt (a := k.toInt) (b := 0) rfl (by decide)).mpr c1
    refine lv_iload_n hx hb dX10_hasObject_4 rfl (lv_at hl 1 rfl) ?_
    refine lv_aload_n hx hb dX10_hasObject_5 rfl (lv_at hl 0 rfl) ?_
    refine va_get (D := D) (ci := 10) (v := .int 0) (C := RX10) (T := TX10) (N := 7) hx hb hts (fun _ h => List.mem_cons_of_mem _ (List.mem_append_right _ h)) hown hK hP 0 rfl rfl 6 (by decide) (hts (.fieldLink RX10 37 "TalePlay$World" "objects" "I") (by decide +kernel)) (fun _ h9 => h9) rfl dX10_hasObject_6 ?_
    refine lv_icmp_ge (tgt := 16) hx hb dX10_hasObject_9 (by decide) (fun c2 => ?_) (fun c2 => ?_)
    · have f2 := (ti_le (a := 0) (b := k.toInt) (by decide) rfl).mp c2
      refine lv_iconst (v := 0) hx hb dX10_hasObject_16 (by decide) ?_
      exact ro_zret hx hb hr hlocks hS rfl dX10_hasObject_17 rfl
    · have f2 := mt (ti_le (a := 0) (b := k.toInt) (by decide) rfl).mpr c2
      refine lv_iconst (v := 1) hx hb dX10_hasObject_12 (by decide) ?_
      refine lv_goto (tgt := 17) hx hb dX10_hasObject_13 (by decide) ?_
      exact ro_zret hx hb hr hlocks hS rfl dX10_hasObject_17 (by exfalso; omega)

set_option maxHeartbeats 4000000 in
set_option maxRecDepth 100000 in
theorem c_X11_isBelow (l : Launch) (D : va_G) (sz : Nat) (i : Int32) (n : Int32) (a : Int) (b : Int) (ha : i.toInt = a) (hb_ : n.toInt = b) : Met l yX11_isBelow wsX11_isBelow ({ frames := 0, cells := 0, slots := 0, locals := 0 }) (va_Pc [.int i, .int n] (pA D sz [] [])) (va_Qi (fun (r : Int32) (_ : Unit) => r = if (0 ≤ a ∧ a < b) then 1 else 0) oA (ro sz)) 0 0 (ro sz) := by
  refine Met.ofW (cc := cX11_isBelow) (maxL := 2) (ret := (some .boolean)) (by decide) rfl ?_
  intro p e s m args below meth c s₁ B hml hv
  obtain ⟨rfl, hsz, hP, hK⟩ := hv
  have hx := B.exec
  have hb := B.bytes
  have hr := B.returns
  have hts := atoms_spec (ws := wsX11_isBelow) B.pre
  have hown : s.vm.findClass RX11 = some m.cls := findClass_of_methodNamed B.named
  have hlocks := B.notSynchronized
  subst hsz
  have hA : ∀ q : Nat, s.heap.size ≤ q → ro s.heap.size q := fun _ h => h
  have hS : va_S (ro s.heap.size) s.heap s.heap [] := va_S.rf
  have hP : va_P D vwCl [] s.heap := hP
  have hl := lv_entry ([.int i, .int n]) (n := 2) (Nat.le_of_ble_eq_true rfl)
  rw [lg_entry_eq]
  generalize (lg_sl ([.int i, .int n]) ++ List.replicate (2 - (lg_sl ([.int i, .int n])).length) Slot.unset).toArray = ls at hl ⊢
  have hl : lv_has ls 2 [(0, .int i), (1, .int n)] := hl
  refine lv_iload_n hx hb dX11_isBelow_0 rfl (lv_at hl 0 rfl) ?_
  refine lv_if_lt (tgt := 13) hx hb dX11_isBelow_1 (by decide) (fun c1 => ?_) (fun c1 => ?_)
  · have f1 := (ti_lt (a := a) (b := 0) ha (by decide)).mp c1
    refine lv_iconst (v := 0) hx hb dX11_isBelow_13 (by decide) ?_
    exact ro_zret hx hb hr hlocks hS rfl dX11_isBelow_14 (by show _ = _; rw [if_neg (by omega)])
  · have f1 := mt (ti_lt (a := a) (b := 0) ha (by decide)).mpr c1
    refine lv_iload_n hx hb dX11_isBelow_4 rfl (lv_at hl 0 rfl) ?_
    refine lv_iload_n hx hb dX11_isBelow_5 rfl (lv_at hl 1 rfl) ?_
    refine lv_icmp_ge (tgt := 13) hx hb dX11_isBelow_6 (by decide) (fun c2 => ?_) (fun c2 => ?_)
    · have f2 := (ti_le (a := b) (b := a) hb_ ha).mp c2
      refine lv_iconst (v := 0) hx hb dX11_isBelow_13 (by decide) ?_
      exact ro_zret hx hb hr hlocks hS rfl dX11_isBelow_14 (by show _ = _; rw [if_neg (by omega)])
    · have f2 := mt (ti_le (a := b) (b := a) hb_ ha).mpr c2
      refine lv_iconst (v := 1) hx hb dX11_isBelow_9 (by decide) ?_
      refine lv_goto (tgt := 14) hx hb dX11_isBelow_10 (by decide) ?_
      exact ro_zret hx hb hr hlocks hS rfl dX11_isBelow_14 (by show _ = _; rw [if_pos (by omega)])

