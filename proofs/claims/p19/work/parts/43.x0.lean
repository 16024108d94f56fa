def wm_X11_isBelow : List Cond := .code yX11_isBelow cX11_isBelow 2 (some .boolean) :: (([] : List Cond))
set_option maxHeartbeats 4000000 in
set_option maxRecDepth 100000 in
theorem c_X11_isBelow (l : Launch) (D : va_G) (sz : Nat) (i : Int32) (n : Int32) (a : Int) (b : Int) (ha : i.toInt = a) (hb_ : n.toInt = b) : Met l yX11_isBelow wm_X11_isBelow ({ frames := 0, cells := 0, slots := 0, locals := 0 }) (va_Pc [.int i, .int n] (pA D sz [] [])) (va_Qi (fun (r : Int32) (_ : Unit) => r = if (0 ≤ a ∧ a < b) then 1 else 0) oA (ro sz)) 0 0 (ro sz) := by
  refine Met.ofW (cc := cX11_isBelow) (maxL := 2) (ret := (some .boolean)) (by decide +kernel) rfl ?_
  intro p e s m args below meth c s₁ B hml hv
  obtain ⟨rfl, hsz, hP, hK⟩ := hv
  have hx := B.exec
  have hb := B.bytes
  have hr := B.returns
  have hts := atoms_spec (ws := wm_X11_isBelow) B.pre
  have hown : s.vm.findClass RX11 = some m.cls := findClass_of_methodNamed B.named
  have hlocks := B.notSynchronized
  subst hsz
  have hA : ∀ q : Nat, s.heap.size ≤ q → ro s.heap.size q := fun _ h => h
  have hS : va_S (ro s.heap.size) s.heap s.heap [] := va_S.rf
  have hP : va_P D vwCl [] s.heap := hP
  have hl := lv_entry ([.int i, .int n]) (n := 2) (Nat.le_of_ble_eq_true rfl)
  rw [lg_entry_eq]
  generalize (lg_sl ([.int i, .int n]) ++ List.replicate (2 - (lg_sl ([.int i, .int n])).length) Slot.unset).toArray = ls at hl ⊢
  have hl : lv_has ls 2 [(0, .int i), (1, .int n)] := hl
  refine lv_iload_n hx hb dX11_isBelow_0 rfl (lv_at hl 0 rfl) ?_
  refine lv_if_lt (tgt := 13) hx hb dX11_isBelow_1 (by decide +kernel) (fun c1 => ?_) (fun c1 => ?_)
  · have f1 := (ti_lt (a := a) (b := 0) ha (by decide +kernel)).mp c1
    refine lv_iconst (v := 0) hx hb dX11_isBelow_13 (by decide +kernel) ?_
    exact ro_zret hx hb hr hlocks hS rfl dX11_isBelow_14 (by show _ = _; rw [if_neg (by omega)])
  · have f1 := mt (ti_lt (a := a) (b := 0) ha (by decide +kernel)).mpr c1
    refine lv_iload_n hx hb dX11_isBelow_4 rfl (lv_at hl 0 rfl) ?_
    refine lv_iload_n hx hb dX11_isBelow_5 rfl (lv_at hl 1 rfl) ?_
    refine lv_icmp_ge (tgt := 13) hx hb dX11_isBelow_6 (by decide +kernel) (fun c2 => ?_) (fun c2 => ?_)
    · have f2 := (ti_le (a := b) (b := a) hb_ ha).mp c2
      refine lv_iconst (v := 0) hx hb dX11_isBelow_13 (by decide +kernel) ?_
      exact ro_zret hx hb hr hlocks hS rfl dX11_isBelow_14 (by show _ = _; rw [if_neg (by omega)])
    · have f2 := mt (ti_le (a := b) (b := a) hb_ ha).mpr c2
      refine lv_iconst (v := 1) hx hb dX11_isBelow_9 (by decide +kernel) ?_
      refine lv_goto (tgt := 14) hx hb dX11_isBelow_10 (by decide +kernel) ?_
      exact ro_zret hx hb hr hlocks hS rfl dX11_isBelow_14 (by show _ = _; rw [if_pos (by omega)])

def wm_X11_oneIf : List Cond := .code yX11_oneIf cX11_oneIf 1 (some .int) :: (([] : List Cond))
set_option maxHeartbeats 4000000 in
set_option maxRecDepth 100000 in
theorem c_X11_oneIf (l : Launch) (D : va_G) (sz : Nat) (z : Int32) : Met l yX11_oneIf wm_X11_oneIf ({ frames := 0, cells := 0, slots := 0, locals := 0 }) (va_Pc [.int z] (pA D sz [] [])) (va_Qi (fun (_ : Int32) (_ : Unit) => True) oA (ro sz)) 0 0 (ro sz) := by
  refine Met.ofW (cc := cX11_oneIf) (maxL := 1) (ret := (some .int)) (by decide +kernel) rfl ?_
  intro p e s m args below meth c s₁ B hml hv
  obtain ⟨rfl, hsz, hP, hK⟩ := hv
  have hx := B.exec
  have hb := B.bytes
  have hr := B.returns
  have hts := atoms_spec (ws := wm_X11_oneIf) B.pre
  have hown : s.vm.findClass RX11 = some m.cls := findClass_of_methodNamed B.named
  have hlocks := B.notSynchronized
  subst hsz
  have hA : ∀ q : Nat, s.heap.size ≤ q → ro s.heap.size q := fun _ h => h
  have hS : va_S (ro s.heap.size) s.heap s.heap [] := va_S.rf
  have hP : va_P D vwCl [] s.heap := hP
  have hl := lv_entry ([.int z]) (n := 1) (Nat.le_of_ble_eq_true rfl)
  rw [lg_entry_eq]
  generalize (lg_sl ([.int z]) ++ List.replicate (1 - (lg_sl ([.int z])).length) Slot.unset).toArray = ls at hl ⊢
  have hl : lv_has ls 1 [(0, .int z)] := hl
  refine lv_iload_n hx hb dX11_oneIf_0 rfl (lv_at hl 0 rfl) ?_
  refine lv_if_eq (tgt := 8) hx hb dX11_oneIf_1 (by decide +kernel) (fun c1 => ?_) (fun c1 => ?_)
  · have f1 := (ti_eq (a := z.toInt) (b := 0) rfl (by decide +kernel)).mp c1
    refine lv_iconst (v := 0) hx hb dX11_oneIf_8 (by decide +kernel) ?_
    exact ro_iret hx hb hr hlocks hS dX11_oneIf_9 trivial
  · have f1 := mt (ti_eq (a := z.toInt) (b := 0) rfl (by decide +kernel)).mpr c1
    refine lv_iconst (v := 1) hx hb dX11_oneIf_4 (by decide +kernel) ?_
    refine lv_goto (tgt := 9) hx hb dX11_oneIf_5 (by decide +kernel) ?_
    exact ro_iret hx hb hr hlocks hS dX11_oneIf_9 trivial

def wm_X11_deedOf : List Cond := .code yX11_deedOf cX11_deedOf 3 (some .int) :: (([] : List Cond))
set_option maxHeartbeats 4000000 in
set_option maxRecDepth 100000 in
theorem c_X11_deedOf (l : Launch) (D : va_G) (sz : Nat) (v : Int32) (x : Int32) (y : Int32) : Met l yX11_deedOf wm_X11_deedOf ({ frames := 0, cells := 0, slots := 0, locals := 0 }) (va_Pc [.int v, .int x, .int y] (pA D sz [] [])) (va_Qi (fun (_ : Int32) (_ : Unit) => True) oA (ro sz)) 0 0 (ro sz) := by
  refine Met.ofW (cc := cX11_deedOf) (maxL := 3) (ret := (some .int)) (by decide +kernel) rfl ?_
  intro p e s m args below meth c s₁ B hml hv
  obtain ⟨rfl, hsz, hP, hK⟩ := hv
  have hx := B.exec
  have hb := B.bytes
  have hr := B.returns
  have hts := atoms_spec (ws := wm_X11_deedOf) B.pre
  have hown : s.vm.findClass RX11 = some m.cls := findClass_of_methodNamed B.named
  have hlocks := B.notSynchronized
  subst hsz
  have hA : ∀ q : Nat, s.heap.size ≤ q → ro s.heap.size q := fun _ h => h
  have hS : va_S (ro s.heap.size) s.heap s.heap [] := va_S.rf
  have hP : va_P D vwCl [] s.heap := hP
  have hl := lv_entry ([.int v, .int x, .int y]) (n := 3) (Nat.le_of_ble_eq_true rfl)
  rw [lg_entry_eq]
  generalize (lg_sl ([.int v, .int x, .int y]) ++ List.replicate (3 - (lg_sl ([.int v, .int x, .int y])).length) Slot.unset).toArray = ls at hl ⊢
  have hl : lv_has ls 3 [(0, .int v), (1, .int x), (2, .int y)] := hl
  refine lv_iload_n hx hb dX11_deedOf_0 rfl (lv_at hl 0 rfl) ?_
  refine lv_bipush (v := 10) hx hb dX11_deedOf_1 (by decide +kernel) ?_
  refine lv_ishl hx hb dX11_deedOf_3 ?_
  refine lv_topi (fun x1 ex1 => ?_)
  refine lv_iload_n hx hb dX11_deedOf_4 rfl (lv_at hl 1 rfl) ?_
  refine lv_iconst (v := 5) hx hb dX11_deedOf_5 (by decide +kernel) ?_
  refine lv_ishl hx hb dX11_deedOf_6 ?_
  refine lv_topi (fun x2 ex2 => ?_)
  refine lv_ior hx hb dX11_deedOf_7 ?_
  refine lv_topi (fun x3 ex3 => ?_)
  refine lv_iload_n hx hb dX11_deedOf_8 rfl (lv_at hl 2 rfl) ?_
  refine lv_ior hx hb dX11_deedOf_9 ?_
  refine lv_topi (fun x4 ex4 => ?_)
  exact ro_iret hx hb hr hlocks hS dX11_deedOf_10 trivial

def wm_X11_deedPart : List Cond := .code yX11_deedPart cX11_deedPart 2 (some .int) :: (([] : List Cond))
set_option maxHeartbeats 4000000 in
set_option maxRecDepth 100000 in
theorem c_X11_deedPart (l : Launch) (D : va_G) (sz : Nat) (v : Int32) (w : Int32) : Met l yX11_deedPart wm_X11_deedPart ({ frames := 0, cells := 0, slots := 0, locals := 0 }) (va_Pc [.int v, .int w] (pA D sz [] [])) (va_Qi (fun (_ : Int32) (_ : Unit) => True) oA (ro sz)) 0 0 (ro sz) := by
  refine Met.ofW (cc := cX11_deedPart) (maxL := 2) (ret := (some .int)) (by decide +kernel) rfl ?_
  intro p e s m args below meth c s₁ B hml hv
  obtain ⟨rfl, hsz, hP, hK⟩ := hv
  have hx := B.exec
  have hb := B.bytes
  have hr := B.returns
  have hts := atoms_spec (ws := wm_X11_deedPart) B.pre
  have hown : s.vm.findClass RX11 = some m.cls := findClass_of_methodNamed B.named
  have hlocks := B.notSynchronized
  subst hsz
  have hA : ∀ q : Nat, s.heap.size ≤ q → ro s.heap.size q := fun _ h => h
  have hS : va_S (ro s.heap.size) s.heap s.heap [] := va_S.rf
  have hP : va_P D vwCl [] s.heap := hP
  have hl := lv_entry ([.int v, .int w]) (n := 2) (Nat.le_of_ble_eq_true rfl)
  rw [lg_entry_eq]
  generalize (lg_sl ([.int v, .int w]) ++ List.replicate (2 - (lg_sl ([.int v, .int w])).length) Slot.unset).toArray = ls at hl ⊢
  have hl : lv_has ls 2 [(0, .int v), (1, .int w)] := hl
  refine lv_iload_n hx hb dX11_deedPart_0 rfl (lv_at hl 1 rfl) ?_
  rcases (show (w.toInt ≠ 0 ∧ w.toInt ≠ 1) ∨ w.toInt = 0 ∨ w.toInt = 1 by omega) with f1 | f1 | f1
  · refine lv_lookup (off := 43) (tgt := 44) hx hb dX11_deedPart_1 (by decide +kernel) (by show (if (0 : Int) = w.toInt then (27 : Int) else (if (1 : Int) = w.toInt then (34 : Int) else 43)) = 43; rw [if_neg (fun e9 => f1.1 e9.symm), if_neg (fun e9 => f1.2 e9.symm)]) (by decide +kernel) ?_
    refine lv_iload_n hx hb dX11_deedPart_44 rfl (lv_at hl 0 rfl) ?_
    refine lv_bipush (v := 31) hx hb dX11_deedPart_45 (by decide +kernel) ?_
    refine lv_iand hx hb dX11_deedPart_47 ?_
    refine lv_topi (fun x2 ex2 => ?_)
    exact ro_iret hx hb hr hlocks hS dX11_deedPart_48 trivial
  · refine lv_lookup (off := 27) (tgt := 28) hx hb dX11_deedPart_1 (by decide +kernel) (by rw [f1]; rfl) (by decide +kernel) ?_
    refine lv_iload_n hx hb dX11_deedPart_28 rfl (lv_at hl 0 rfl) ?_
    refine lv_bipush (v := 10) hx hb dX11_deedPart_29 (by decide +kernel) ?_
    refine lv_ishr hx hb dX11_deedPart_31 ?_
    refine lv_topi (fun x3 ex3 => ?_)
    refine lv_goto (tgt := 48) hx hb dX11_deedPart_32 (by decide +kernel) ?_
    exact ro_iret hx hb hr hlocks hS dX11_deedPart_48 trivial
  · refine lv_lookup (off := 34) (tgt := 35) hx hb dX11_deedPart_1 (by decide +kernel) (by rw [f1]; rfl) (by decide +kernel) ?_
    refine lv_iload_n hx hb dX11_deedPart_35 rfl (lv_at hl 0 rfl) ?_
    refine lv_iconst (v := 5) hx hb dX11_deedPart_36 (by decide +kernel) ?_
    refine lv_ishr hx hb dX11_deedPart_37 ?_
    refine lv_topi (fun x4 ex4 => ?_)
    refine lv_bipush (v := 31) hx hb dX11_deedPart_38 (by decide +kernel) ?_
    refine lv_iand hx hb dX11_deedPart_40 ?_
    refine lv_topi (fun x5 ex5 => ?_)
    refine lv_goto (tgt := 48) hx hb dX11_deedPart_41 (by decide +kernel) ?_
    exact ro_iret hx hb hr hlocks hS dX11_deedPart_48 trivial

def wm_X0_hasX : List Cond := .code yX0_hasX cX0_hasX 1 (some .boolean) :: (([] : List Cond))
set_option maxHeartbeats 4000000 in
set_option maxRecDepth 100000 in
theorem c_X0_hasX (l : Launch) (D : va_G) (sz : Nat) (v : Int32) : Met l yX0_hasX wm_X0_hasX ({ frames := 0, cells := 0, slots := 0, locals := 0 }) (va_Pc [.int v] (pA D sz [] [])) (va_Qi (fun (r : Int32) (_ : Unit) => r = if (v.toInt < 11) then 1 else 0) oA (ro sz)) 0 0 (ro sz) := by
  refine Met.ofW (cc := cX0_hasX) (maxL := 1) (ret := (some .boolean)) (by decide +kernel) rfl ?_
  intro p e s m args below meth c s₁ B hml hv
  obtain ⟨rfl, hsz, hP, hK⟩ := hv
  have hx := B.exec
  have hb := B.bytes
  have hr := B.returns
  have hts := atoms_spec (ws := wm_X0_hasX) B.pre
  have hown : s.vm.findClass RX0 = some m.cls := findClass_of_methodNamed B.named
  have hlocks := B.notSynchronized
  subst hsz
  have hA : ∀ q : Nat, s.heap.size ≤ q → ro s.heap.size q := fun _ h => h
  have hS : va_S (ro s.heap.size) s.heap s.heap [] := va_S.rf
  have hP : va_P D vwCl [] s.heap := hP
  have hl := lv_entry ([.int v]) (n := 1) (Nat.le_of_ble_eq_true rfl)
  rw [lg_entry_eq]
  generalize (lg_sl ([.int v]) ++ List.replicate (1 - (lg_sl ([.int v])).length) Slot.unset).toArray = ls at hl ⊢
  have hl : lv_has ls 1 [(0, .int v)] := hl
  refine lv_iload_n hx hb dX0_hasX_0 rfl (lv_at hl 0 rfl) ?_
  refine lv_bipush (v := 11) hx hb dX0_hasX_1 (by decide +kernel) ?_
  refine lv_icmp_ge (tgt := 10) hx hb dX0_hasX_3 (by decide +kernel) (fun c1 => ?_) (fun c1 => ?_)
  · have f1 := (ti_le (a := 11) (b := v.toInt) (by decide +kernel) rfl).mp c1
    refine lv_iconst (v := 0) hx hb dX0_hasX_10 (by decide +kernel) ?_
    exact ro_zret hx hb hr hlocks hS rfl dX0_hasX_11 (by show _ = _; rw [if_neg (by omega)])
  · have f1 := mt (ti_le (a := 11) (b := v.toInt) (by decide +kernel) rfl).mpr c1
    refine lv_iconst (v := 1) hx hb dX0_hasX_6 (by decide +kernel) ?_
    refine lv_goto (tgt := 11) hx hb dX0_hasX_7 (by decide +kernel) ?_
    exact ro_zret hx hb hr hlocks hS rfl dX0_hasX_11 (by show _ = _; rw [if_pos (by omega)])

def wm_X0_hasY : List Cond := .code yX0_hasY cX0_hasY 1 (some .boolean) :: (([] : List Cond))
set_option maxHeartbeats 4000000 in
set_option maxRecDepth 100000 in
theorem c_X0_hasY (l : Launch) (D : va_G) (sz : Nat) (v : Int32) : Met l yX0_hasY wm_X0_hasY ({ frames := 0, cells := 0, slots := 0, locals := 0 }) (va_Pc [.int v] (pA D sz [] [])) (va_Qi (fun (r : Int32) (_ : Unit) => r = if (v.toInt = 3 ∨ v.toInt = 4 ∨ v.toInt = 7 ∨ v.toInt = 8) then 1 else 0) oA (ro sz)) 0 0 (ro sz) := by
  refine Met.ofW (cc := cX0_hasY) (maxL := 1) (ret := (some .boolean)) (by decide +kernel) rfl ?_
  intro p e s m args below meth c s₁ B hml hv
  obtain ⟨rfl, hsz, hP, hK⟩ := hv
  have hx := B.exec
  have hb := B.bytes
  have hr := B.returns
  have hts := atoms_spec (ws := wm_X0_hasY) B.pre
  have hown : s.vm.findClass RX0 = some m.cls := findClass_of_methodNamed B.named
  have hlocks := B.notSynchronized
  subst hsz
  have hA : ∀ q : Nat, s.heap.size ≤ q → ro s.heap.size q := fun _ h => h
  have hS : va_S (ro s.heap.size) s.heap s.heap [] := va_S.rf
  have hP : va_P D vwCl [] s.heap := hP
  have hl := lv_entry ([.int v]) (n := 1) (Nat.le_of_ble_eq_true rfl)
  rw [lg_entry_eq]
  generalize (lg_sl ([.int v]) ++ List.replicate (1 - (lg_sl ([.int v])).length) Slot.unset).toArray = ls at hl ⊢
  have hl : lv_has ls 1 [(0, .int v)] := hl
  refine lv_iload_n hx hb dX0_hasY_0 rfl (lv_at hl 0 rfl) ?_
  refine lv_iconst (v := 3) hx hb dX0_hasY_1 (by decide +kernel) ?_
  refine lv_icmp_eq (tgt := 22) hx hb dX0_hasY_2 (by decide +kernel) (fun c1 => ?_) (fun c1 => ?_)
  · have f1 := (ti_eq (a := v.toInt) (b := 3) rfl (by decide +kernel)).mp c1
    refine lv_iconst (v := 1) hx hb dX0_hasY_22 (by decide +kernel) ?_
    refine lv_goto (tgt := 27) hx hb dX0_hasY_23 (by decide +kernel) ?_
    exact ro_zret hx hb hr hlocks hS rfl dX0_hasY_27 (by show _ = _; rw [if_pos (by omega)])
  · have f1 := mt (ti_eq (a := v.toInt) (b := 3) rfl (by decide +kernel)).mpr c1
    refine lv_iload_n hx hb dX0_hasY_5 rfl (lv_at hl 0 rfl) ?_
    refine lv_iconst (v := 4) hx hb dX0_hasY_6 (by decide +kernel) ?_
    refine lv_icmp_eq (tgt := 22) hx hb dX0_hasY_7 (by decide +kernel) (fun c2 => ?_) (fun c2 => ?_)
    · have f2 := (ti_eq (a := v.toInt) (b := 4) rfl (by decide +kernel)).mp c2
      refine lv_iconst (v := 1) hx hb dX0_hasY_22 (by decide +kernel) ?_
      refine lv_goto (tgt := 27) hx hb dX0_hasY_23 (by decide +kernel) ?_
      exact ro_zret hx hb hr hlocks hS rfl dX0_hasY_27 (by show _ = _; rw [if_pos (by omega)])
    · have f2 := mt (ti_eq (a := v.toInt) (b := 4) rfl (by decide +kernel)).mpr c2
      refine lv_iload_n hx hb dX0_hasY_10 rfl (lv_at hl 0 rfl) ?_
      refine lv_bipush (v := 7) hx hb dX0_hasY_11 (by decide +kernel) ?_
      refine lv_icmp_eq (tgt := 22) hx hb dX0_hasY_13 (by decide +kernel) (fun c3 => ?_) (fun c3 => ?_)
      · have f3 := (ti_eq (a := v.toInt) (b := 7) rfl (by decide +kernel)).mp c3
        refine lv_iconst (v := 1) hx hb dX0_hasY_22 (by decide +kernel) ?_
        refine lv_goto (tgt := 27) hx hb dX0_hasY_23 (by decide +kernel) ?_
        exact ro_zret hx hb hr hlocks hS rfl dX0_hasY_27 (by show _ = _; rw [if_pos (by omega)])
      · have f3 := mt (ti_eq (a := v.toInt) (b := 7) rfl (by decide +kernel)).mpr c3
        refine lv_iload_n hx hb dX0_hasY_16 rfl (lv_at hl 0 rfl) ?_
        refine lv_bipush (v := 8) hx hb dX0_hasY_17 (by decide +kernel) ?_
        refine lv_icmp_ne (tgt := 26) hx hb dX0_hasY_19 (by decide +kernel) (fun c4 => ?_) (fun c4 => ?_)
        · have f4 := mt (ti_eq (a := v.toInt) (b := 8) rfl (by decide +kernel)).mpr c4
          refine lv_iconst (v := 0) hx hb dX0_hasY_26 (by decide +kernel) ?_
          exact ro_zret hx hb hr hlocks hS rfl dX0_hasY_27 (by show _ = _; rw [if_neg (by omega)])
        · have f4 := (ti_eq (a := v.toInt) (b := 8) rfl (by decide +kernel)).mp c4
          refine lv_iconst (v := 1) hx hb dX0_hasY_22 (by decide +kernel) ?_
          refine lv_goto (tgt := 27) hx hb dX0_hasY_23 (by decide +kernel) ?_
          exact ro_zret hx hb hr hlocks hS rfl dX0_hasY_27 (by show _ = _; rw [if_pos (by omega)])

def wm_X4_floatBits : List Cond := .code yX4_floatBits cX4_floatBits 1 (some .int) :: (([.constant RX4 32 (2147483647), .constant RX4 33 (2139095040), .constant RX4 34 (2143289344)] : List Cond))
set_option maxHeartbeats 4000000 in
set_option maxRecDepth 100000 in
theorem c_X4_floatBits (l : Launch) (D : va_G) (sz : Nat) (v : Int32) : Met l yX4_floatBits wm_X4_floatBits ({ frames := 0, cells := 0, slots := 0, locals := 0 }) (va_Pc [.int v] (pA D sz [] [])) (va_Qi (fun (_ : Int32) (_ : Unit) => True) oA (ro sz)) 0 0 (ro sz) := by
  refine Met.ofW (cc := cX4_floatBits) (maxL := 1) (ret := (some .int)) (by decide +kernel) rfl ?_
  intro p e s m args below meth c s₁ B hml hv
  obtain ⟨rfl, hsz, hP, hK⟩ := hv
  have hx := B.exec
  have hb := B.bytes
  have hr := B.returns
  have hts := atoms_spec (ws := wm_X4_floatBits) B.pre
  have hown : s.vm.findClass RX4 = some m.cls := findClass_of_methodNamed B.named
  have hlocks := B.notSynchronized
  subst hsz
  have hA : ∀ q : Nat, s.heap.size ≤ q → ro s.heap.size q := fun _ h => h
  have hS : va_S (ro s.heap.size) s.heap s.heap [] := va_S.rf
  have hP : va_P D vwCl [] s.heap := hP
  have hl := lv_entry ([.int v]) (n := 1) (Nat.le_of_ble_eq_true rfl)
  rw [lg_entry_eq]
  generalize (lg_sl ([.int v]) ++ List.replicate (1 - (lg_sl ([.int v])).length) Slot.unset).toArray = ls at hl ⊢
  have hl : lv_has ls 1 [(0, .int v)] := hl
  refine lv_iload_n hx hb dX4_floatBits_0 rfl (lv_at hl 0 rfl) ?_
  refine lv_ldc (v := 2147483647) hx hb hown (hts (.constant RX4 32 (2147483647)) (List.mem_cons_of_mem _ (List.mem_of_getElem? (i := 0) rfl))) dX4_floatBits_1 ?_
  refine lv_iand hx hb dX4_floatBits_3 ?_
  refine lv_topi (fun x1 ex1 => ?_)
  refine lv_ldc (v := 2139095040) hx hb hown (hts (.constant RX4 33 (2139095040)) (List.mem_cons_of_mem _ (List.mem_of_getElem? (i := 1) rfl))) dX4_floatBits_4 ?_
  refine lv_icmp_le (tgt := 14) hx hb dX4_floatBits_6 (by decide +kernel) (fun c2 => ?_) (fun c2 => ?_)
  · have f2 := (ti_le (a := x1.toInt) (b := 2139095040) rfl (by decide +kernel)).mp c2
    refine lv_iload_n hx hb dX4_floatBits_14 rfl (lv_at hl 0 rfl) ?_
    exact ro_iret hx hb hr hlocks hS dX4_floatBits_15 trivial
  · have f2 := mt (ti_le (a := x1.toInt) (b := 2139095040) rfl (by decide +kernel)).mpr c2
    refine lv_ldc (v := 2143289344) hx hb hown (hts (.constant RX4 34 (2143289344)) (List.mem_cons_of_mem _ (List.mem_of_getElem? (i := 2) rfl))) dX4_floatBits_9 ?_
    refine lv_goto (tgt := 15) hx hb dX4_floatBits_11 (by decide +kernel) ?_
    exact ro_iret hx hb hr hlocks hS dX4_floatBits_15 trivial

def wm_X0_reasonOfLeaf : List Cond := .code yX0_reasonOfLeaf cX0_reasonOfLeaf 3 (some .int) :: (([] : List Cond))
set_option maxHeartbeats 4000000 in
set_option maxRecDepth 100000 in
theorem c_X0_reasonOfLeaf (l : Launch) (D : va_G) (sz : Nat) (v : Int32) (y : Int32) (z : Int32) : Met l yX0_reasonOfLeaf wm_X0_reasonOfLeaf ({ frames := 0, cells := 0, slots := 0, locals := 0 }) (va_Pc [.int v, .int y, .int z] (pA D sz [] [])) (va_Qi (fun (_ : Int32) (_ : Unit) => True) oA (ro sz)) 0 0 (ro sz) := by
  refine Met.ofW (cc := cX0_reasonOfLeaf) (maxL := 3) (ret := (some .int)) (by decide +kernel) rfl ?_
  intro p e s m args below meth c s₁ B hml hv
  obtain ⟨rfl, hsz, hP, hK⟩ := hv
  have hx := B.exec
  have hb := B.bytes
  have hr := B.returns
  have hts := atoms_spec (ws := wm_X0_reasonOfLeaf) B.pre
  have hown : s.vm.findClass RX0 = some m.cls := findClass_of_methodNamed B.named
  have hlocks := B.notSynchronized
  subst hsz
  have hA : ∀ q : Nat, s.heap.size ≤ q → ro s.heap.size q := fun _ h => h
  have hS : va_S (ro s.heap.size) s.heap s.heap [] := va_S.rf
  have hP : va_P D vwCl [] s.heap := hP
  have hl := lv_entry ([.int v, .int y, .int z]) (n := 3) (Nat.le_of_ble_eq_true rfl)
  rw [lg_entry_eq]
  generalize (lg_sl ([.int v, .int y, .int z]) ++ List.replicate (3 - (lg_sl ([.int v, .int y, .int z])).length) Slot.unset).toArray = ls at hl ⊢
  have hl : lv_has ls 3 [(0, .int v), (1, .int y), (2, .int z)] := hl
  refine lv_iload_n hx hb dX0_reasonOfLeaf_0 rfl (lv_at hl 0 rfl) ?_
  rcases (show (v.toInt < 5 ∨ 7 < v.toInt) ∨ v.toInt = 5 ∨ v.toInt = 6 ∨ v.toInt = 7 by omega) with f1 | f1 | f1 | f1
  · refine lv_tableOut (tgt := 75) hx hb dX0_reasonOfLeaf_1 f1 (by decide +kernel) ?_
    refine lv_iload_n hx hb dX0_reasonOfLeaf_75 rfl (lv_at hl 2 rfl) ?_
    refine lv_if_eq (tgt := 84) hx hb dX0_reasonOfLeaf_76 (by decide +kernel) (fun c2 => ?_) (fun c2 => ?_)
    · have f2 := (ti_eq (a := z.toInt) (b := 0) rfl (by decide +kernel)).mp c2
      refine lv_iload_n hx hb dX0_reasonOfLeaf_84 rfl (lv_at hl 1 rfl) ?_
      refine lv_if_eq (tgt := 93) hx hb dX0_reasonOfLeaf_85 (by decide +kernel) (fun c3 => ?_) (fun c3 => ?_)
      · have f3 := (ti_eq (a := y.toInt) (b := 0) rfl (by decide +kernel)).mp c3
        refine lv_iconst (v := 0) hx hb dX0_reasonOfLeaf_93 (by decide +kernel) ?_
        exact ro_iret hx hb hr hlocks hS dX0_reasonOfLeaf_94 trivial
      · have f3 := mt (ti_eq (a := y.toInt) (b := 0) rfl (by decide +kernel)).mpr c3
        refine lv_bipush (v := 15) hx hb dX0_reasonOfLeaf_88 (by decide +kernel) ?_
        refine lv_goto (tgt := 94) hx hb dX0_reasonOfLeaf_90 (by decide +kernel) ?_
        exact ro_iret hx hb hr hlocks hS dX0_reasonOfLeaf_94 trivial
    · have f2 := mt (ti_eq (a := z.toInt) (b := 0) rfl (by decide +kernel)).mpr c2
      refine lv_bipush (v := 16) hx hb dX0_reasonOfLeaf_79 (by decide +kernel) ?_
      refine lv_goto (tgt := 94) hx hb dX0_reasonOfLeaf_81 (by decide +kernel) ?_
      exact ro_iret hx hb hr hlocks hS dX0_reasonOfLeaf_94 trivial
  · refine lv_tableIn (off := 27) (tgt := 28) hx hb dX0_reasonOfLeaf_1 (by omega) (by omega) (by rw [f1]; rfl) (by decide +kernel) ?_
    refine lv_iload_n hx hb dX0_reasonOfLeaf_28 rfl (lv_at hl 1 rfl) ?_
    refine lv_if_eq (tgt := 37) hx hb dX0_reasonOfLeaf_29 (by decide +kernel) (fun c4 => ?_) (fun c4 => ?_)
    · have f4 := (ti_eq (a := y.toInt) (b := 0) rfl (by decide +kernel)).mp c4
      refine lv_iload_n hx hb dX0_reasonOfLeaf_37 rfl (lv_at hl 2 rfl) ?_
      refine lv_if_eq (tgt := 46) hx hb dX0_reasonOfLeaf_38 (by decide +kernel) (fun c5 => ?_) (fun c5 => ?_)
      · have f5 := (ti_eq (a := z.toInt) (b := 0) rfl (by decide +kernel)).mp c5
        refine lv_iconst (v := 0) hx hb dX0_reasonOfLeaf_46 (by decide +kernel) ?_
        refine lv_goto (tgt := 94) hx hb dX0_reasonOfLeaf_47 (by decide +kernel) ?_
        exact ro_iret hx hb hr hlocks hS dX0_reasonOfLeaf_94 trivial
      · have f5 := mt (ti_eq (a := z.toInt) (b := 0) rfl (by decide +kernel)).mpr c5
        refine lv_bipush (v := 16) hx hb dX0_reasonOfLeaf_41 (by decide +kernel) ?_
        refine lv_goto (tgt := 94) hx hb dX0_reasonOfLeaf_43 (by decide +kernel) ?_
        exact ro_iret hx hb hr hlocks hS dX0_reasonOfLeaf_94 trivial
    · have f4 := mt (ti_eq (a := y.toInt) (b := 0) rfl (by decide +kernel)).mpr c4
      refine lv_bipush (v := 15) hx hb dX0_reasonOfLeaf_32 (by decide +kernel) ?_
      refine lv_goto (tgt := 94) hx hb dX0_reasonOfLeaf_34 (by decide +kernel) ?_
      exact ro_iret hx hb hr hlocks hS dX0_reasonOfLeaf_94 trivial
  · refine lv_tableIn (off := 49) (tgt := 50) hx hb dX0_reasonOfLeaf_1 (by omega) (by omega) (by rw [f1]; rfl) (by decide +kernel) ?_
    refine lv_iload_n hx hb dX0_reasonOfLeaf_50 rfl (lv_at hl 1 rfl) ?_
    refine lv_if_eq (tgt := 58) hx hb dX0_reasonOfLeaf_51 (by decide +kernel) (fun c6 => ?_) (fun c6 => ?_)
    · have f6 := (ti_eq (a := y.toInt) (b := 0) rfl (by decide +kernel)).mp c6
      refine lv_iconst (v := 3) hx hb dX0_reasonOfLeaf_58 (by decide +kernel) ?_
      refine lv_goto (tgt := 94) hx hb dX0_reasonOfLeaf_59 (by decide +kernel) ?_
      exact ro_iret hx hb hr hlocks hS dX0_reasonOfLeaf_94 trivial
    · have f6 := mt (ti_eq (a := y.toInt) (b := 0) rfl (by decide +kernel)).mpr c6
      refine lv_iconst (v := 0) hx hb dX0_reasonOfLeaf_54 (by decide +kernel) ?_
      refine lv_goto (tgt := 94) hx hb dX0_reasonOfLeaf_55 (by decide +kernel) ?_
      exact ro_iret hx hb hr hlocks hS dX0_reasonOfLeaf_94 trivial
  · refine lv_tableIn (off := 61) (tgt := 62) hx hb dX0_reasonOfLeaf_1 (by omega) (by omega) (by rw [f1]; rfl) (by decide +kernel) ?_
    refine lv_iload_n hx hb dX0_reasonOfLeaf_62 rfl (lv_at hl 2 rfl) ?_
    refine lv_if_eq (tgt := 70) hx hb dX0_reasonOfLeaf_63 (by decide +kernel) (fun c7 => ?_) (fun c7 => ?_)
    · have f7 := (ti_eq (a := z.toInt) (b := 0) rfl (by decide +kernel)).mp c7
      refine lv_bipush (v := 17) hx hb dX0_reasonOfLeaf_70 (by decide +kernel) ?_
      refine lv_goto (tgt := 94) hx hb dX0_reasonOfLeaf_72 (by decide +kernel) ?_
      exact ro_iret hx hb hr hlocks hS dX0_reasonOfLeaf_94 trivial
    · have f7 := mt (ti_eq (a := z.toInt) (b := 0) rfl (by decide +kernel)).mpr c7
      refine lv_iconst (v := 0) hx hb dX0_reasonOfLeaf_66 (by decide +kernel) ?_
      refine lv_goto (tgt := 94) hx hb dX0_reasonOfLeaf_67 (by decide +kernel) ?_
      exact ro_iret hx hb hr hlocks hS dX0_reasonOfLeaf_94 trivial

