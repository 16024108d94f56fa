def wm_X12_in : List Cond := .code yX12_in cX12_in 6 (some .boolean) :: (([] : List Cond))
set_option maxHeartbeats 4000000 in
set_option maxRecDepth 100000 in
/-- in(v, lo, hi) -/
theorem c_X12_in (l : Launch) (D : va_G) (sz : Nat) (v : Int64) (lo : Int64) (hi : Int64) (a : Int) (b : Int) (d : Int) (ha : v.toInt = a) (hb_ : lo.toInt = b) (hd_ : hi.toInt = d) : Met l yX12_in wm_X12_in ({ frames := 0, cells := 0, slots := 0, locals := 0 }) (va_Pc [.long v, .long lo, .long hi] (pA D sz [] [])) (va_Qi (fun (r : Int32) (_ : Unit) => r = if (b ≤ a ∧ a ≤ d) then 1 else 0) oA (ro sz)) 0 0 (ro sz) := by
  refine Met.ofW (cc := cX12_in) (maxL := 6) (ret := (some .boolean)) (by decide) rfl ?_
  intro p e s m args below meth c s₁ B hml hv
  obtain ⟨rfl, hsz, hP, hK⟩ := hv
  have hx := B.exec
  have hb := B.bytes
  have hr := B.returns
  have hts := atoms_spec (ws := wm_X12_in) B.pre
  have hown : s.vm.findClass RX12 = some m.cls := findClass_of_methodNamed B.named
  have hlocks := B.notSynchronized
  subst hsz
  have hA : ∀ q : Nat, s.heap.size ≤ q → ro s.heap.size q := fun _ h => h
  have hS : va_S (ro s.heap.size) s.heap s.heap [] := va_S.rf
  have hP : va_P D vwCl [] s.heap := hP
  have hl := lv_entry ([.long v, .long lo, .long hi]) (n := 6) (Nat.le_of_ble_eq_true rfl)
  rw [lg_entry_eq]
  generalize (lg_sl ([.long v, .long lo, .long hi]) ++ List.replicate (6 - (lg_sl ([.long v, .long lo, .long hi])).length) Slot.unset).toArray = ls at hl ⊢
  have hl : lv_has ls 6 [(0, .long v), (2, .long lo), (4, .long hi)] := hl
  refine lv_lload_n hx hb dX12_in_0 rfl (lv_at hl 0 rfl) ?_
  refine lv_lload_n hx hb dX12_in_1 rfl (lv_at hl 1 rfl) ?_
  refine W.lcmp hx hb dX12_in_2 ?_
  refine lv_if_lt (tgt := 17) hx hb dX12_in_3 (by decide) (fun c1 => ?_) (fun c1 => ?_)
  · have f1 := (lc_lt (a := a) (b := b) ha hb_).mp c1
    refine lv_iconst (v := 0) hx hb dX12_in_17 (by decide) ?_
    exact ro_zret hx hb hr hlocks hS rfl dX12_in_18 (by show _ = _; rw [if_neg (by omega)])
  · have f1 := mt (lc_lt (a := a) (b := b) ha hb_).mpr c1
    refine lv_lload_n hx hb dX12_in_6 rfl (lv_at hl 0 rfl) ?_
    refine lv_lload hx hb dX12_in_7 (lv_at hl 2 rfl) ?_
    refine W.lcmp hx hb dX12_in_9 ?_
    refine lv_if_gt (tgt := 17) hx hb dX12_in_10 (by decide) (fun c2 => ?_) (fun c2 => ?_)
    · have f2 := (lc_gt (a := a) (b := d) ha hd_).mp c2
      refine lv_iconst (v := 0) hx hb dX12_in_17 (by decide) ?_
      exact ro_zret hx hb hr hlocks hS rfl dX12_in_18 (by show _ = _; rw [if_neg (by omega)])
    · have f2 := mt (lc_gt (a := a) (b := d) ha hd_).mpr c2
      refine lv_iconst (v := 1) hx hb dX12_in_13 (by decide) ?_
      refine lv_goto (tgt := 18) hx hb dX12_in_14 (by decide) ?_
      exact ro_zret hx hb hr hlocks hS rfl dX12_in_18 (by show _ = _; rw [if_pos (by omega)])

set_option maxHeartbeats 4000000 in
set_option maxRecDepth 100000 in
/-- in(v, lo, hi), where hi lies below lo -/
theorem c_X12_in0 (l : Launch) (D : va_G) (sz : Nat) (v : Int64) (lo : Int64) (hi : Int64) (a : Int) (b : Int) (d : Int) (ha : v.toInt = a) (hb_ : lo.toInt = b) (hd_ : hi.toInt = d) (hn : d < b) : Met l yX12_in wm_X12_in ({ frames := 0, cells := 0, slots := 0, locals := 0 }) (va_Pc [.long v, .long lo, .long hi] (pA D sz [] [])) (va_Qi (fun (r : Int32) (_ : Unit) => r = 0) oA (ro sz)) 0 0 (ro sz) := by
  refine Met.ofW (cc := cX12_in) (maxL := 6) (ret := (some .boolean)) (by decide) rfl ?_
  intro p e s m args below meth c s₁ B hml hv
  obtain ⟨rfl, hsz, hP, hK⟩ := hv
  have hx := B.exec
  have hb := B.bytes
  have hr := B.returns
  have hts := atoms_spec (ws := wm_X12_in) B.pre
  have hown : s.vm.findClass RX12 = some m.cls := findClass_of_methodNamed B.named
  have hlocks := B.notSynchronized
  subst hsz
  have hA : ∀ q : Nat, s.heap.size ≤ q → ro s.heap.size q := fun _ h => h
  have hS : va_S (ro s.heap.size) s.heap s.heap [] := va_S.rf
  have hP : va_P D vwCl [] s.heap := hP
  have hl := lv_entry ([.long v, .long lo, .long hi]) (n := 6) (Nat.le_of_ble_eq_true rfl)
  rw [lg_entry_eq]
  generalize (lg_sl ([.long v, .long lo, .long hi]) ++ List.replicate (6 - (lg_sl ([.long v, .long lo, .long hi])).length) Slot.unset).toArray = ls at hl ⊢
  have hl : lv_has ls 6 [(0, .long v), (2, .long lo), (4, .long hi)] := hl
  refine lv_lload_n hx hb dX12_in_0 rfl (lv_at hl 0 rfl) ?_
  refine lv_lload_n hx hb dX12_in_1 rfl (lv_at hl 1 rfl) ?_
  refine W.lcmp hx hb dX12_in_2 ?_
  refine lv_if_lt (tgt := 17) hx hb dX12_in_3 (by decide) (fun c1 => ?_) (fun c1 => ?_)
  · have f1 := (lc_lt (a := a) (b := b) ha hb_).mp c1
    refine lv_iconst (v := 0) hx hb dX12_in_17 (by decide) ?_
    exact ro_zret hx hb hr hlocks hS rfl dX12_in_18 rfl
  · have f1 := mt (lc_lt (a := a) (b := b) ha hb_).mpr c1
    refine lv_lload_n hx hb dX12_in_6 rfl (lv_at hl 0 rfl) ?_
    refine lv_lload hx hb dX12_in_7 (lv_at hl 2 rfl) ?_
    refine W.lcmp hx hb dX12_in_9 ?_
    refine lv_if_gt (tgt := 17) hx hb dX12_in_10 (by decide) (fun c2 => ?_) (fun c2 => ?_)
    · have f2 := (lc_gt (a := a) (b := d) ha hd_).mp c2
      refine lv_iconst (v := 0) hx hb dX12_in_17 (by decide) ?_
      exact ro_zret hx hb hr hlocks hS rfl dX12_in_18 rfl
    · have f2 := mt (lc_gt (a := a) (b := d) ha hd_).mpr c2
      refine lv_iconst (v := 1) hx hb dX12_in_13 (by decide) ?_
      refine lv_goto (tgt := 18) hx hb dX12_in_14 (by decide) ?_
      exact ro_zret hx hb hr hlocks hS rfl dX12_in_18 (by exfalso; omega)

def wm_X11_isBelow : List Cond := .code yX11_isBelow cX11_isBelow 2 (some .boolean) :: (([] : List Cond))
set_option maxHeartbeats 4000000 in
set_option maxRecDepth 100000 in
/-- isBelow(i, n) -/
theorem c_X11_isBelow (l : Launch) (D : va_G) (sz : Nat) (i : Int32) (n : Int32) (a : Int) (b : Int) (ha : i.toInt = a) (hb_ : n.toInt = b) : Met l yX11_isBelow wm_X11_isBelow ({ frames := 0, cells := 0, slots := 0, locals := 0 }) (va_Pc [.int i, .int n] (pA D sz [] [])) (va_Qi (fun (r : Int32) (_ : Unit) => r = if (0 ≤ a ∧ a < b) then 1 else 0) oA (ro sz)) 0 0 (ro sz) := by
  refine Met.ofW (cc := cX11_isBelow) (maxL := 2) (ret := (some .boolean)) (by decide) rfl ?_
  intro p e s m args below meth c s₁ B hml hv
  obtain ⟨rfl, hsz, hP, hK⟩ := hv
  have hx := B.exec
  have hb := B.bytes
  have hr := B.returns
  have hts := atoms_spec (ws := wm_X11_isBelow) B.pre
  have hown : s.vm.findClass RX11 = some m.cls := findClass_of_methodNamed B.named
  have hlocks := B.notSynchronized
  subst hsz
  have hA : ∀ q : Nat, s.heap.size ≤ q → ro s.heap.size q := fun _ h => h
  have hS : va_S (ro s.heap.size) s.heap s.heap [] := va_S.rf
  have hP : va_P D vwCl [] s.heap := hP
  have hl := lv_entry ([.int i, .int n]) (n := 2) (Nat.le_of_ble_eq_true rfl)
  rw [lg_entry_eq]
  generalize (lg_sl ([.int i, .int n]) ++ List.replicate (2 - (lg_sl ([.int i, .int n])).length) Slot.unset).toArray = ls at hl ⊢
  have hl : lv_has ls 2 [(0, .int i), (1, .int n)] := hl
  refine lv_iload_n hx hb dX11_isBelow_0 rfl (lv_at hl 0 rfl) ?_
  refine lv_if_lt (tgt := 13) hx hb dX11_isBelow_1 (by decide) (fun c1 => ?_) (fun c1 => ?_)
  · have f1 := (ti_lt (a := a) (b := 0) ha (by decide)).mp c1
    refine lv_iconst (v := 0) hx hb dX11_isBelow_13 (by decide) ?_
    exact ro_zret hx hb hr hlocks hS rfl dX11_isBelow_14 (by show _ = _; rw [if_neg (by omega)])
  · have f1 := mt (ti_lt (a := a) (b := 0) ha (by decide)).mpr c1
    refine lv_iload_n hx hb dX11_isBelow_4 rfl (lv_at hl 0 rfl) ?_
    refine lv_iload_n hx hb dX11_isBelow_5 rfl (lv_at hl 1 rfl) ?_
    refine lv_icmp_ge (tgt := 13) hx hb dX11_isBelow_6 (by decide) (fun c2 => ?_) (fun c2 => ?_)
    · have f2 := (ti_le (a := b) (b := a) hb_ ha).mp c2
      refine lv_iconst (v := 0) hx hb dX11_isBelow_13 (by decide) ?_
      exact ro_zret hx hb hr hlocks hS rfl dX11_isBelow_14 (by show _ = _; rw [if_neg (by omega)])
    · have f2 := mt (ti_le (a := b) (b := a) hb_ ha).mpr c2
      refine lv_iconst (v := 1) hx hb dX11_isBelow_9 (by decide) ?_
      refine lv_goto (tgt := 14) hx hb dX11_isBelow_10 (by decide) ?_
      exact ro_zret hx hb hr hlocks hS rfl dX11_isBelow_14 (by show _ = _; rw [if_pos (by omega)])

set_option maxHeartbeats 4000000 in
set_option maxRecDepth 100000 in
/-- isBelow(i, 0) -/
theorem c_X11_isBelow0 (l : Launch) (D : va_G) (sz : Nat) (i : Int32) : Met l yX11_isBelow wm_X11_isBelow ({ frames := 0, cells := 0, slots := 0, locals := 0 }) (va_Pc [.int i, .int 0] (pA D sz [] [])) (va_Qi (fun (r : Int32) (_ : Unit) => r = 0) oA (ro sz)) 0 0 (ro sz) := by
  refine Met.ofW (cc := cX11_isBelow) (maxL := 2) (ret := (some .boolean)) (by decide) rfl ?_
  intro p e s m args below meth c s₁ B hml hv
  obtain ⟨rfl, hsz, hP, hK⟩ := hv
  have hx := B.exec
  have hb := B.bytes
  have hr := B.returns
  have hts := atoms_spec (ws := wm_X11_isBelow) B.pre
  have hown : s.vm.findClass RX11 = some m.cls := findClass_of_methodNamed B.named
  have hlocks := B.notSynchronized
  subst hsz
  have hA : ∀ q : Nat, s.heap.size ≤ q → ro s.heap.size q := fun _ h => h
  have hS : va_S (ro s.heap.size) s.heap s.heap [] := va_S.rf
  have hP : va_P D vwCl [] s.heap := hP
  have hl := lv_entry ([.int i, .int 0]) (n := 2) (Nat.le_of_ble_eq_true rfl)
  rw [lg_entry_eq]
  generalize (lg_sl ([.int i, .int 0]) ++ List.replicate (2 - (lg_sl ([.int i, .int 0])).length) Slot.unset).toArray = ls at hl ⊢
  have hl : lv_has ls 2 [(0, .int i), (1, .int 0)] := hl
  refine lv_iload_n hx hb dX11_isBelow_0 rfl (lv_at hl 0 rfl) ?_
  refine lv_if_lt (tgt := 13) hx hb dX11_isBelow_1 (by decide) (fun c1 => ?_) (fun c1 => ?_)
  · have f1 := (ti_lt (a := i.toInt) (b := 0) rfl (by decide)).mp c1
    refine lv_iconst (v := 0) hx hb dX11_isBelow_13 (by decide) ?_
    exact ro_zret hx hb hr hlocks hS rfl dX11_isBelow_14 rfl
  · have f1 := mt (ti_lt (a := i.toInt) (b := 0) rfl (by decide)).mpr c1
    refine lv_iload_n hx hb dX11_isBelow_4 rfl (lv_at hl 0 rfl) ?_
    refine lv_iload_n hx hb dX11_isBelow_5 rfl (lv_at hl 1 rfl) ?_
    refine lv_icmp_ge (tgt := 13) hx hb dX11_isBelow_6 (by decide) (fun c2 => ?_) (fun c2 => ?_)
    · have f2 := (ti_le (a := 0) (b := i.toInt) (by decide) rfl).mp c2
      refine lv_iconst (v := 0) hx hb dX11_isBelow_13 (by decide) ?_
      exact ro_zret hx hb hr hlocks hS rfl dX11_isBelow_14 rfl
    · have f2 := mt (ti_le (a := 0) (b := i.toInt) (by decide) rfl).mpr c2
      refine lv_iconst (v := 1) hx hb dX11_isBelow_9 (by decide) ?_
      refine lv_goto (tgt := 14) hx hb dX11_isBelow_10 (by decide) ?_
      exact ro_zret hx hb hr hlocks hS rfl dX11_isBelow_14 (by exfalso; omega)

def wm_X10_hasKind : List Cond := .code yX10_hasKind cX10_hasKind 2 (some .boolean) :: (([.fieldLink RX10 33 "TalePlay$World" "kinds" "I"] : List Cond) ++ wsX100)
set_option maxHeartbeats 4000000 in
set_option maxRecDepth 100000 in
/-- World.hasKind, six kinds -/
theorem c_X10_hasKind (l : Launch) (D : va_G) (sz : Nat) (wo : Nat) (wp : Nat) (ws_ : Nat) (wd : Nat) (wk : Nat) (wz : Nat) (k : Int32) : Met l yX10_hasKind wm_X10_hasKind ({ frames := 0, cells := 0, slots := 0, locals := 0 }) (va_Pc [.ref wo, .int k] (pA D sz [(wo, .inr (10, [.ref wp, .ref ws_, .ref wd, .ref wk, .ref wz, .int 6, .int 0]))] [])) (va_Qi (fun (r : Int32) (_ : Unit) => r = if (0 ≤ k.toInt ∧ k.toInt < 6) then 1 else 0) oA (ro sz)) 0 0 (ro sz) := by
  refine Met.ofW (cc := cX10_hasKind) (maxL := 2) (ret := (some .boolean)) (by decide) rfl ?_
  intro p e s m args below meth c s₁ B hml hv
  obtain ⟨rfl, hsz, hP, hK⟩ := hv
  have hx := B.exec
  have hb := B.bytes
  have hr := B.returns
  have hts := atoms_spec (ws := wm_X10_hasKind) B.pre
  have hown : s.vm.findClass RX10 = some m.cls := findClass_of_methodNamed B.named
  have hlocks := B.notSynchronized
  subst hsz
  have hA : ∀ q : Nat, s.heap.size ≤ q → ro s.heap.size q := fun _ h => h
  have hS : va_S (ro s.heap.size) s.heap s.heap [] := va_S.rf
  have hP : va_P D vwCl [(wo, .inr (10, [.ref wp, .ref ws_, .ref wd, .ref wk, .ref wz, .int 6, .int 0]))] s.heap := hP
  have hl := lv_entry ([.ref wo, .int k]) (n := 2) (Nat.le_of_ble_eq_true rfl)
  rw [lg_entry_eq]
  generalize (lg_sl ([.ref wo, .int k]) ++ List.replicate (2 - (lg_sl ([.ref wo, .int k])).length) Slot.unset).toArray = ls at hl ⊢
  have hl : lv_has ls 2 [(0, .ref wo), (1, .int k)] := hl
  refine lv_iload_n hx hb dX10_hasKind_0 rfl (lv_at hl 1 rfl) ?_
  refine lv_if_lt (tgt := 16) hx hb dX10_hasKind_1 (by decide) (fun c1 => ?_) (fun c1 => ?_)
  · have f1 := (ti_lt (a := k.toInt) (b := 0) rfl (by decide)).mp c1
    refine lv_iconst (v := 0) hx hb dX10_hasKind_16 (by decide) ?_
    exact ro_zret hx hb hr hlocks hS rfl dX10_hasKind_17 (by show _ = _; rw [if_neg (by omega)])
  · have f1 := mt (ti_lt (a := k.toInt) (b := 0) rfl (by decide)).mpr c1
    refine lv_iload_n hx hb dX10_hasKind_4 rfl (lv_at hl 1 rfl) ?_
    refine lv_aload_n hx hb dX10_hasKind_5 rfl (lv_at hl 0 rfl) ?_
    refine va_get (D := D) (ci := 10) (v := .int 6) (C := RX10) (T := TX10) (N := 7) hx hb hts (fun _ h => List.mem_cons_of_mem _ (List.mem_append_right _ h)) hown hK hP 0 rfl rfl 5 (by decide) (hts (.fieldLink RX10 33 "TalePlay$World" "kinds" "I") (by decide +kernel)) (fun _ h9 => h9) rfl dX10_hasKind_6 ?_
    refine lv_icmp_ge (tgt := 16) hx hb dX10_hasKind_9 (by decide) (fun c2 => ?_) (fun c2 => ?_)
    · have f2 := (ti_le (a := 6) (b := k.toInt) (by decide) rfl).mp c2
      refine lv_iconst (v := 0) hx hb dX10_hasKind_16 (by decide) ?_
      exact ro_zret hx hb hr hlocks hS rfl dX10_hasKind_17 (by show _ = _; rw [if_neg (by omega)])
    · have f2 := mt (ti_le (a := 6) (b := k.toInt) (by decide) rfl).mpr c2
      refine lv_iconst (v := 1) hx hb dX10_hasKind_12 (by decide) ?_
      refine lv_goto (tgt := 17) hx hb dX10_hasKind_13 (by decide) ?_
      exact ro_zret hx hb hr hlocks hS rfl dX10_hasKind_17 (by show _ = _; rw [if_pos (by omega)])

def wm_X10_hasObject : List Cond := .code yX10_hasObject cX10_hasObject 2 (some .boolean) :: (([.fieldLink RX10 37 "TalePlay$World" "objects" "I"] : List Cond) ++ wsX100)
set_option maxHeartbeats 4000000 in
set_option maxRecDepth 100000 in
/-- World.hasObject, no object -/
theorem c_X10_hasObject (l : Launch) (D : va_G) (sz : Nat) (wo : Nat) (wp : Nat) (ws_ : Nat) (wd : Nat) (wk : Nat) (wz : Nat) (k : Int32) : Met l yX10_hasObject wm_X10_hasObject ({ frames := 0, cells := 0, slots := 0, locals := 0 }) (va_Pc [.ref wo, .int k] (pA D sz [(wo, .inr (10, [.ref wp, .ref ws_, .ref wd, .ref wk, .ref wz, .int 6, .int 0]))] [])) (va_Qi (fun (r : Int32) (_ : Unit) => r = 0) oA (ro sz)) 0 0 (ro sz) := by
  refine Met.ofW (cc := cX10_hasObject) (maxL := 2) (ret := (some .boolean)) (by decide) rfl ?_
  intro p e s m args below meth c s₁ B hml hv
  obtain ⟨rfl, hsz, hP, hK⟩ := hv
  have hx := B.exec
  have hb := B.bytes
  have hr := B.returns
  have hts := atoms_spec (ws := wm_X10_hasObject) B.pre
  have hown : s.vm.findClass RX10 = some m.cls := findClass_of_methodNamed B.named
  have hlocks := B.notSynchronized
  subst hsz
  have hA : ∀ q : Nat, s.heap.size ≤ q → ro s.heap.size q := fun _ h => h
  have hS : va_S (ro s.heap.size) s.heap s.heap [] := va_S.rf
  have hP : va_P D vwCl [(wo, .inr (10, [.ref wp, .ref ws_, .ref wd, .ref wk, .ref wz, .int 6, .int 0]))] s.heap := hP
  have hl := lv_entry ([.ref wo, .int k]) (n := 2) (Nat.le_of_ble_eq_true rfl)
  rw [lg_entry_eq]
  generalize (lg_sl ([.ref wo, .int k]) ++ List.replicate (2 - (lg_sl ([.ref wo, .int k])).length) Slot.unset).toArray = ls at hl ⊢
  have hl : lv_has ls 2 [(0, .ref wo), (1, .int k)] := hl
  refine lv_iload_n hx hb dX10_hasObject_0 rfl (lv_at hl 1 rfl) ?_
  refine lv_if_lt (tgt := 16) hx hb dX10_hasObject_1 (by decide) (fun c1 => ?_) (fun c1 => ?_)
  · have f1 := (ti_lt (a := k.toInt) (b := 0) rfl (by decide)).mp c1
    refine lv_iconst (v := 0) hx hb dX10_hasObject_16 (by decide) ?_
    exact ro_zret hx hb hr hlocks hS rfl dX10_hasObject_17 rfl
  · have f1 := mt (ti_lt (a := k.toInt) (b := 0) rfl (by decide)).mpr c1
    refine lv_iload_n hx hb dX10_hasObject_4 rfl (lv_at hl 1 rfl) ?_
    refine lv_aload_n hx hb dX10_hasObject_5 rfl (lv_at hl 0 rfl) ?_
    refine va_get (D := D) (ci := 10) (v := .int 0) (C := RX10) (T := TX10) (N := 7) hx hb hts (fun _ h => List.mem_cons_of_mem _ (List.mem_append_right _ h)) hown hK hP 0 rfl rfl 6 (by decide) (hts (.fieldLink RX10 37 "TalePlay$World" "objects" "I") (by decide +kernel)) (fun _ h9 => h9) rfl dX10_hasObject_6 ?_
    refine lv_icmp_ge (tgt := 16) hx hb dX10_hasObject_9 (by decide) (fun c2 => ?_) (fun c2 => ?_)
    · have f2 := (ti_le (a := 0) (b := k.toInt) (by decide) rfl).mp c2
      refine lv_iconst (v := 0) hx hb dX10_hasObject_16 (by decide) ?_
      exact ro_zret hx hb hr hlocks hS rfl dX10_hasObject_17 rfl
    · have f2 := mt (ti_le (a := 0) (b := k.toInt) (by decide) rfl).mpr c2
      refine lv_iconst (v := 1) hx hb dX10_hasObject_12 (by decide) ?_
      refine lv_goto (tgt := 17) hx hb dX10_hasObject_13 (by decide) ?_
      exact ro_zret hx hb hr hlocks hS rfl dX10_hasObject_17 (by exfalso; omega)

def wm_X10_addKind : List Cond := .code yX10_addKind cX10_addKind 2 (some .int) :: (([.fieldLink RX10 9 "TalePlay$World" "parents" "[I", .fieldLink RX10 33 "TalePlay$World" "kinds" "I", .fieldLink RX10 15 "TalePlay$World" "sorts" "[I"] : List Cond) ++ wsX100)
set_option maxHeartbeats 4000000 in
set_option maxRecDepth 100000 in
/-- World.addKind on six kinds -/
theorem c_X10_addKind (l : Launch) (D : va_G) (sz : Nat) (wo : Nat) (wp : Nat) (ws_ : Nat) (wd : Nat) (wk : Nat) (wz : Nat) (cP : ClassId) (fp : Nat → Int32) (cS : ClassId) (fs : Nat → Int32) (k : Int32) (hk : 0 ≤ k.toInt ∧ k.toInt < 6) : Met l yX10_addKind wm_X10_addKind ({ frames := 0, cells := 0, slots := 0, locals := 0 }) (va_Pc [.ref wo, .int k] (pB D sz [(wo, .inr (10, [.ref wp, .ref ws_, .ref wd, .ref wk, .ref wz, .int 6, .int 0])), (wp, .inl (cP, 24, .inl fp)), (ws_, .inl (cS, 24, .inl fs))] [(cP, .int), (cS, .int)])) (va_Qi (fun (r : Int32) (_ : Unit) => r = 6) (oC D (va_A [(wo, .inr (10, [.ref wp, .ref ws_, .ref wd, .ref wk, .ref wz, .int 6, .int 0])), (wp, .inl (cP, 24, .inl fp)), (ws_, .inl (cS, 24, .inl fs))] sz) (fun _ => []) (fun _ => [])) (va_A [(wo, .inr (10, [.ref wp, .ref ws_, .ref wd, .ref wk, .ref wz, .int 6, .int 0])), (wp, .inl (cP, 24, .inl fp)), (ws_, .inl (cS, 24, .inl fs))] sz)) 0 0 (va_A [(wo, .inr (10, [.ref wp, .ref ws_, .ref wd, .ref wk, .ref wz, .int 6, .int 0])), (wp, .inl (cP, 24, .inl fp)), (ws_, .inl (cS, 24, .inl fs))] sz) := by
  refine Met.ofW (cc := cX10_addKind) (maxL := 2) (ret := (some .int)) (by decide) rfl ?_
  intro p e s m args below meth c s₁ B hml hv
  obtain ⟨rfl, hsz, hP, hK, hD0⟩ := hv
  have hx := B.exec
  have hb := B.bytes
  have hr := B.returns
  have hts := atoms_spec (ws := wm_X10_addKind) B.pre
  have hown : s.vm.findClass RX10 = some m.cls := findClass_of_methodNamed B.named
  have hlocks := B.notSynchronized
  subst hsz
  have hD := hD0.self (sz := s.heap.size)
  generalize hAe : va_A [(wo, .inr (10, [.ref wp, .ref ws_, .ref wd, .ref wk, .ref wz, .int 6, .int 0])), (wp, .inl (cP, 24, .inl fp)), (ws_, .inl (cS, 24, .inl fs))] s.heap.size = A at hD ⊢
  have hA : ∀ q : Nat, s.heap.size ≤ q → A q := fun q h => by rw [← hAe]; exact Or.inr h
  have hS : va_S A s.heap s.heap [] := va_S.rf
  have hP : va_P D vwCl [(wo, .inr (10, [.ref wp, .ref ws_, .ref wd, .ref wk, .ref wz, .int 6, .int 0])), (wp, .inl (cP, 24, .inl fp)), (ws_, .inl (cS, 24, .inl fs))] s.heap := hP
  have hl := lv_entry ([.ref wo, .int k]) (n := 2) (Nat.le_of_ble_eq_true rfl)
  rw [lg_entry_eq]
  generalize (lg_sl ([.ref wo, .int k]) ++ List.replicate (2 - (lg_sl ([.ref wo, .int k])).length) Slot.unset).toArray = ls at hl ⊢
  have hl : lv_has ls 2 [(0, .ref wo), (1, .int k)] := hl
  refine lv_aload_n hx hb dX10_addKind_0 rfl (lv_at hl 0 rfl) ?_
  refine va_get (D := D) (ci := 10) (v := .ref wp) (C := RX10) (T := TX10) (N := 7) hx hb hts (fun _ h => List.mem_cons_of_mem _ (List.mem_append_right _ h)) hown hK hP 0 rfl rfl 0 (by decide) (hts (.fieldLink RX10 9 "TalePlay$World" "parents" "[I") (by decide +kernel)) (fun _ h9 => h9) rfl dX10_addKind_1 ?_
  refine lv_aload_n hx hb dX10_addKind_4 rfl (lv_at hl 0 rfl) ?_
  refine va_get (D := D) (ci := 10) (v := .int 6) (C := RX10) (T := TX10) (N := 7) hx hb hts (fun _ h => List.mem_cons_of_mem _ (List.mem_append_right _ h)) hown hK hP 0 rfl rfl 5 (by decide) (hts (.fieldLink RX10 33 "TalePlay$World" "kinds" "I") (by decide +kernel)) (fun _ h9 => h9) rfl dX10_addKind_5 ?_
  refine lv_iload_n hx hb dX10_addKind_8 rfl (lv_at hl 1 rfl) ?_
  refine va_iast hx hb hK hP hD hS 1 0 rfl rfl (show vp_in 6 24 from by unfold vp_in; decide) dX10_addKind_9 (fun H locs hP hD hS => ?_)
  have hP : va_P D vwCl [(wo, .inr (10, [.ref wp, .ref ws_, .ref wd, .ref wk, .ref wz, .int 6, .int 0])), (wp, .inl (cP, 24, .inl (upd fp (6 : Int32).toNatClampNeg k))), (ws_, .inl (cS, 24, .inl fs))] H := hP
  have hD : va_D A [(wo, .inr (10, [.ref wp, .ref ws_, .ref wd, .ref wk, .ref wz, .int 6, .int 0])), (wp, .inl (cP, 24, .inl (upd fp (6 : Int32).toNatClampNeg k))), (ws_, .inl (cS, 24, .inl fs))] := hD
  refine lv_aload_n hx hb dX10_addKind_10 rfl (lv_at hl 0 rfl) ?_
  refine va_get (D := D) (ci := 10) (v := .ref ws_) (C := RX10) (T := TX10) (N := 7) hx hb hts (fun _ h => List.mem_cons_of_mem _ (List.mem_append_right _ h)) hown hK hP 0 rfl rfl 1 (by decide) (hts (.fieldLink RX10 15 "TalePlay$World" "sorts" "[I") (by decide +kernel)) (fun _ h9 => h9) rfl dX10_addKind_11 ?_
  refine lv_aload_n hx hb dX10_addKind_14 rfl (lv_at hl 0 rfl) ?_
  refine va_get (D := D) (ci := 10) (v := .int 6) (C := RX10) (T := TX10) (N := 7) hx hb hts (fun _ h => List.mem_cons_of_mem _ (List.mem_append_right _ h)) hown hK hP 0 rfl rfl 5 (by decide) (hts (.fieldLink RX10 33 "TalePlay$World" "kinds" "I") (by decide +kernel)) (fun _ h9 => h9) rfl dX10_addKind_15 ?_
  refine lv_aload_n hx hb dX10_addKind_18 rfl (lv_at hl 0 rfl) ?_
  refine va_get (D := D) (ci := 10) (v := .ref ws_) (C := RX10) (T := TX10) (N := 7) hx hb hts (fun _ h => List.mem_cons_of_mem _ (List.mem_append_right _ h)) hown hK hP 0 rfl rfl 1 (by decide) (hts (.fieldLink RX10 15 "TalePlay$World" "sorts" "[I") (by decide +kernel)) (fun _ h9 => h9) rfl dX10_addKind_19 ?_
  refine lv_iload_n hx hb dX10_addKind_22 rfl (lv_at hl 1 rfl) ?_
  refine va_iald hx hb hK hP 2 1 rfl rfl (vp_in_iff.mpr (by have h9 := (rfl : k.toInt = _); omega)) dX10_addKind_23 ?_
  refine lv_topi (fun x1 ex1 => ?_)
  refine va_iast hx hb hK hP hD hS 2 1 rfl rfl (show vp_in 6 24 from by unfold vp_in; decide) dX10_addKind_24 (fun H locs hP hD hS => ?_)
  have hP : va_P D vwCl [(wo, .inr (10, [.ref wp, .ref ws_, .ref wd, .ref wk, .ref wz, .int 6, .int 0])), (wp, .inl (cP, 24, .inl (upd fp (6 : Int32).toNatClampNeg k))), (ws_, .inl (cS, 24, .inl (upd fs (6 : Int32).toNatClampNeg x1)))] H := hP
  have hD : va_D A [(wo, .inr (10, [.ref wp, .ref ws_, .ref wd, .ref wk, .ref wz, .int 6, .int 0])), (wp, .inl (cP, 24, .inl (upd fp (6 : Int32).toNatClampNeg k))), (ws_, .inl (cS, 24, .inl (upd fs (6 : Int32).toNatClampNeg x1)))] := hD
  refine lv_aload_n hx hb dX10_addKind_25 rfl (lv_at hl 0 rfl) ?_
  refine lv_dup hx hb dX10_addKind_26 rfl ?_
  refine va_get (D := D) (ci := 10) (v := .int 6) (C := RX10) (T := TX10) (N := 7) hx hb hts (fun _ h => List.mem_cons_of_mem _ (List.mem_append_right _ h)) hown hK hP 0 rfl rfl 5 (by decide) (hts (.fieldLink RX10 33 "TalePlay$World" "kinds" "I") (by decide +kernel)) (fun _ h9 => h9) rfl dX10_addKind_27 ?_
  refine lv_dup_x1 hx hb dX10_addKind_30 rfl rfl ?_
  refine lv_iconst (v := 1) hx hb dX10_addKind_31 (by decide) ?_
  refine lv_iadd hx hb dX10_addKind_32 ?_
  refine tp_i (y := 7) (by decide) ?_
  refine va_put (D := D) (ci := 10) (v := .int 7) (ty := .int) (C := RX10) (T := TX10) (N := 7) hx hb hts (fun _ h => List.mem_cons_of_mem _ (List.mem_append_right _ h)) tyX10 tyX10_ok nmX10 hown hK hP hD hS 0 rfl rfl 5 (by decide) (hts (.fieldLink RX10 33 "TalePlay$World" "kinds" "I") (by decide +kernel)) (fun _ h9 => h9) rfl (by decide +kernel) rfl rfl (Nat.le_of_ble_eq_true rfl) dX10_addKind_33 (fun H locs hP hD hS => ?_)
  have hP : va_P D vwCl [(wo, .inr (10, [.ref wp, .ref ws_, .ref wd, .ref wk, .ref wz, .int 7, .int 0])), (wp, .inl (cP, 24, .inl (upd fp (6 : Int32).toNatClampNeg k))), (ws_, .inl (cS, 24, .inl (upd fs (6 : Int32).toNatClampNeg x1)))] H := hP
  have hD : va_D A [(wo, .inr (10, [.ref wp, .ref ws_, .ref wd, .ref wk, .ref wz, .int 7, .int 0])), (wp, .inl (cP, 24, .inl (upd fp (6 : Int32).toNatClampNeg k))), (ws_, .inl (cS, 24, .inl (upd fs (6 : Int32).toNatClampNeg x1)))] := hD
  exact rw_iret () hx hb hr hlocks hS (hK.sub (tys' := []) [] rfl) (hP.sub (ws' := []) [] rfl) (hD.sub (ws' := []) [] (by decide) rfl) dX10_addKind_36 rfl

def wm_X10_addObject : List Cond := .code yX10_addObject cX10_addObject 3 (some .int) :: (([.fieldLink RX10 21 "TalePlay$World" "kindOf" "[I", .fieldLink RX10 37 "TalePlay$World" "objects" "I", .fieldLink RX10 24 "TalePlay$World" "sizeOf" "[I"] : List Cond) ++ wsX100)
set_option maxHeartbeats 4000000 in
set_option maxRecDepth 100000 in
/-- World.addObject on none -/
theorem c_X10_addObject (l : Launch) (D : va_G) (sz : Nat) (wo : Nat) (wp : Nat) (ws_ : Nat) (wd : Nat) (wk : Nat) (wz : Nat) (cK : ClassId) (fk : Nat → Int32) (cZ : ClassId) (fz : Nat → Int32) (k : Int32) (z : Int32) : Met l yX10_addObject wm_X10_addObject ({ frames := 0, cells := 0, slots := 0, locals := 0 }) (va_Pc [.ref wo, .int k, .int z] (pB D sz [(wo, .inr (10, [.ref wp, .ref ws_, .ref wd, .ref wk, .ref wz, .int 6, .int 0])), (wk, .inl (cK, 30, .inl fk)), (wz, .inl (cZ, 30, .inl fz))] [(cK, .int), (cZ, .int)])) (va_Qi (fun (r : Int32) (_ : Unit) => r = 0) (oC D (va_A [(wo, .inr (10, [.ref wp, .ref ws_, .ref wd, .ref wk, .ref wz, .int 6, .int 0])), (wk, .inl (cK, 30, .inl fk)), (wz, .inl (cZ, 30, .inl fz))] sz) (fun _ => []) (fun _ => [])) (va_A [(wo, .inr (10, [.ref wp, .ref ws_, .ref wd, .ref wk, .ref wz, .int 6, .int 0])), (wk, .inl (cK, 30, .inl fk)), (wz, .inl (cZ, 30, .inl fz))] sz)) 0 0 (va_A [(wo, .inr (10, [.ref wp, .ref ws_, .ref wd, .ref wk, .ref wz, .int 6, .int 0])), (wk, .inl (cK, 30, .inl fk)), (wz, .inl (cZ, 30, .inl fz))] sz) := by
  refine Met.ofW (cc := cX10_addObject) (maxL := 3) (ret := (some .int)) (by decide) rfl ?_
  intro p e s m args below meth c s₁ B hml hv
  obtain ⟨rfl, hsz, hP, hK, hD0⟩ := hv
  have hx := B.exec
  have hb := B.bytes
  have hr := B.returns
  have hts := atoms_spec (ws := wm_X10_addObject) B.pre
  have hown : s.vm.findClass RX10 = some m.cls := findClass_of_methodNamed B.named
  have hlocks := B.notSynchronized
  subst hsz
  have hD := hD0.self (sz := s.heap.size)
  generalize hAe : va_A [(wo, .inr (10, [.ref wp, .ref ws_, .ref wd, .ref wk, .ref wz, .int 6, .int 0])), (wk, .inl (cK, 30, .inl fk)), (wz, .inl (cZ, 30, .inl fz))] s.heap.size = A at hD ⊢
  have hA : ∀ q : Nat, s.heap.size ≤ q → A q := fun q h => by rw [← hAe]; exact Or.inr h
  have hS : va_S A s.heap s.heap [] := va_S.rf
  have hP : va_P D vwCl [(wo, .inr (10, [.ref wp, .ref ws_, .ref wd, .ref wk, .ref wz, .int 6, .int 0])), (wk, .inl (cK, 30, .inl fk)), (wz, .inl (cZ, 30, .inl fz))] s.heap := hP
  have hl := lv_entry ([.ref wo, .int k, .int z]) (n := 3) (Nat.le_of_ble_eq_true rfl)
  rw [lg_entry_eq]
  generalize (lg_sl ([.ref wo, .int k, .int z]) ++ List.replicate (3 - (lg_sl ([.ref wo, .int k, .int z])).length) Slot.unset).toArray = ls at hl ⊢
  have hl : lv_has ls 3 [(0, .ref wo), (1, .int k), (2, .int z)] := hl
  refine lv_aload_n hx hb dX10_addObject_0 rfl (lv_at hl 0 rfl) ?_
  refine va_get (D := D) (ci := 10) (v := .ref wk) (C := RX10) (T := TX10) (N := 7) hx hb hts (fun _ h => List.mem_cons_of_mem _ (List.mem_append_right _ h)) hown hK hP 0 rfl rfl 3 (by decide) (hts (.fieldLink RX10 21 "TalePlay$World" "kindOf" "[I") (by decide +kernel)) (fun _ h9 => h9) rfl dX10_addObject_1 ?_
  refine lv_aload_n hx hb dX10_addObject_4 rfl (lv_at hl 0 rfl) ?_
  refine va_get (D := D) (ci := 10) (v := .int 0) (C := RX10) (T := TX10) (N := 7) hx hb hts (fun _ h => List.mem_cons_of_mem _ (List.mem_append_right _ h)) hown hK hP 0 rfl rfl 6 (by decide) (hts (.fieldLink RX10 37 "TalePlay$World" "objects" "I") (by decide +kernel)) (fun _ h9 => h9) rfl dX10_addObject_5 ?_
  refine lv_iload_n hx hb dX10_addObject_8 rfl (lv_at hl 1 rfl) ?_
  refine va_iast hx hb hK hP hD hS 1 0 rfl rfl (show vp_in 0 30 from by unfold vp_in; decide) dX10_addObject_9 (fun H locs hP hD hS => ?_)
  have hP : va_P D vwCl [(wo, .inr (10, [.ref wp, .ref ws_, .ref wd, .ref wk, .ref wz, .int 6, .int 0])), (wk, .inl (cK, 30, .inl (upd fk (0 : Int32).toNatClampNeg k))), (wz, .inl (cZ, 30, .inl fz))] H := hP
  have hD : va_D A [(wo, .inr (10, [.ref wp, .ref ws_, .ref wd, .ref wk, .ref wz, .int 6, .int 0])), (wk, .inl (cK, 30, .inl (upd fk (0 : Int32).toNatClampNeg k))), (wz, .inl (cZ, 30, .inl fz))] := hD
  refine lv_aload_n hx hb dX10_addObject_10 rfl (lv_at hl 0 rfl) ?_
  refine va_get (D := D) (ci := 10) (v := .ref wz) (C := RX10) (T := TX10) (N := 7) hx hb hts (fun _ h => List.mem_cons_of_mem _ (List.mem_append_right _ h)) hown hK hP 0 rfl rfl 4 (by decide) (hts (.fieldLink RX10 24 "TalePlay$World" "sizeOf" "[I") (by decide +kernel)) (fun _ h9 => h9) rfl dX10_addObject_11 ?_
  refine lv_aload_n hx hb dX10_addObject_14 rfl (lv_at hl 0 rfl) ?_
  refine va_get (D := D) (ci := 10) (v := .int 0) (C := RX10) (T := TX10) (N := 7) hx hb hts (fun _ h => List.mem_cons_of_mem _ (List.mem_append_right _ h)) hown hK hP 0 rfl rfl 6 (by decide) (hts (.fieldLink RX10 37 "TalePlay$World" "objects" "I") (by decide +kernel)) (fun _ h9 => h9) rfl dX10_addObject_15 ?_
  refine lv_iload_n hx hb dX10_addObject_18 rfl (lv_at hl 2 rfl) ?_
  refine va_iast hx hb hK hP hD hS 2 1 rfl rfl (show vp_in 0 30 from by unfold vp_in; decide) dX10_addObject_19 (fun H locs hP hD hS => ?_)
  have hP : va_P D vwCl [(wo, .inr (10, [.ref wp, .ref ws_, .ref wd, .ref wk, .ref wz, .int 6, .int 0])), (wk, .inl (cK, 30, .inl (upd fk (0 : Int32).toNatClampNeg k))), (wz, .inl (cZ, 30, .inl (upd fz (0 : Int32).toNatClampNeg z)))] H := hP
  have hD : va_D A [(wo, .inr (10, [.ref wp, .ref ws_, .ref wd, .ref wk, .ref wz, .int 6, .int 0])), (wk, .inl (cK, 30, .inl (upd fk (0 : Int32).toNatClampNeg k))), (wz, .inl (cZ, 30, .inl (upd fz (0 : Int32).toNatClampNeg z)))] := hD
  refine lv_aload_n hx hb dX10_addObject_20 rfl (lv_at hl 0 rfl) ?_
  refine lv_dup hx hb dX10_addObject_21 rfl ?_
  refine va_get (D := D) (ci := 10) (v := .int 0) (C := RX10) (T := TX10) (N := 7) hx hb hts (fun _ h => List.mem_cons_of_mem _ (List.mem_append_right _ h)) hown hK hP 0 rfl rfl 6 (by decide) (hts (.fieldLink RX10 37 "TalePlay$World" "objects" "I") (by decide +kernel)) (fun _ h9 => h9) rfl dX10_addObject_22 ?_
  refine lv_dup_x1 hx hb dX10_addObject_25 rfl rfl ?_
  refine lv_iconst (v := 1) hx hb dX10_addObject_26 (by decide) ?_
  refine lv_iadd hx hb dX10_addObject_27 ?_
  refine tp_i (y := 1) (by decide) ?_
  refine va_put (D := D) (ci := 10) (v := .int 1) (ty := .int) (C := RX10) (T := TX10) (N := 7) hx hb hts (fun _ h => List.mem_cons_of_mem _ (List.mem_append_right _ h)) tyX10 tyX10_ok nmX10 hown hK hP hD hS 0 rfl rfl 6 (by decide) (hts (.fieldLink RX10 37 "TalePlay$World" "objects" "I") (by decide +kernel)) (fun _ h9 => h9) rfl (by decide +kernel) rfl rfl (Nat.le_of_ble_eq_true rfl) dX10_addObject_28 (fun H locs hP hD hS => ?_)
  have hP : va_P D vwCl [(wo, .inr (10, [.ref wp, .ref ws_, .ref wd, .ref wk, .ref wz, .int 6, .int 1])), (wk, .inl (cK, 30, .inl (upd fk (0 : Int32).toNatClampNeg k))), (wz, .inl (cZ, 30, .inl (upd fz (0 : Int32).toNatClampNeg z)))] H := hP
  have hD : va_D A [(wo, .inr (10, [.ref wp, .ref ws_, .ref wd, .ref wk, .ref wz, .int 6, .int 1])), (wk, .inl (cK, 30, .inl (upd fk (0 : Int32).toNatClampNeg k))), (wz, .inl (cZ, 30, .inl (upd fz (0 : Int32).toNatClampNeg z)))] := hD
  exact rw_iret () hx hb hr hlocks hS (hK.sub (tys' := []) [] rfl) (hP.sub (ws' := []) [] rfl) (hD.sub (ws' := []) [] (by decide) rfl) dX10_addObject_31 rfl

def wm_X10_changeStandard : List Cond := .code yX10_changeStandard cX10_changeStandard 5 (some .int) :: (([.fieldLink RX10 18 "TalePlay$World" "standards" "[I"] : List Cond) ++ wsX100)
set_option maxHeartbeats 4000000 in
set_option maxRecDepth 100000 in
/-- World.changeStandard where every standard is NONE -/
theorem c_X10_changeStandard (l : Launch) (D : va_G) (sz : Nat) (wo : Nat) (wp : Nat) (ws_ : Nat) (wd : Nat) (wk : Nat) (wz : Nat) (cD : ClassId) (fd : Nat → Int32) (k : Int32) (f : Int32) (v : Int32) (hk : 0 ≤ k.toInt ∧ k.toInt < 6) (hf : 0 ≤ f.toInt ∧ f.toInt < 6) (hfd : ∀ j, j < 144 → fd j = -9) : Met l yX10_changeStandard wm_X10_changeStandard ({ frames := 0, cells := 0, slots := 0, locals := 0 }) (va_Pc [.ref wo, .int k, .int f, .int v] (pB D sz [(wo, .inr (10, [.ref wp, .ref ws_, .ref wd, .ref wk, .ref wz, .int 6, .int 0])), (wd, .inl (cD, 144, .inl fd))] [(cD, .int)])) (va_Qi (fun (r : Int32) (_ : Unit) => r = (-9)) (oC D (va_A [(wo, .inr (10, [.ref wp, .ref ws_, .ref wd, .ref wk, .ref wz, .int 6, .int 0])), (wd, .inl (cD, 144, .inl fd))] sz) (fun _ => []) (fun _ => [])) (va_A [(wo, .inr (10, [.ref wp, .ref ws_, .ref wd, .ref wk, .ref wz, .int 6, .int 0])), (wd, .inl (cD, 144, .inl fd))] sz)) 0 0 (va_A [(wo, .inr (10, [.ref wp, .ref ws_, .ref wd, .ref wk, .ref wz, .int 6, .int 0])), (wd, .inl (cD, 144, .inl fd))] sz) := by
  refine Met.ofW (cc := cX10_changeStandard) (maxL := 5) (ret := (some .int)) (by decide) rfl ?_
  intro p e s m args below meth c s₁ B hml hv
  obtain ⟨rfl, hsz, hP, hK, hD0⟩ := hv
  have hx := B.exec
  have hb := B.bytes
  have hr := B.returns
  have hts := atoms_spec (ws := wm_X10_changeStandard) B.pre
  have hown : s.vm.findClass RX10 = some m.cls := findClass_of_methodNamed B.named
  have hlocks := B.notSynchronized
  subst hsz
  have hD := hD0.self (sz := s.heap.size)
  generalize hAe : va_A [(wo, .inr (10, [.ref wp, .ref ws_, .ref wd, .ref wk, .ref wz, .int 6, .int 0])), (wd, .inl (cD, 144, .inl fd))] s.heap.size = A at hD ⊢
  have hA : ∀ q : Nat, s.heap.size ≤ q → A q := fun q h => by rw [← hAe]; exact Or.inr h
  have hS : va_S A s.heap s.heap [] := va_S.rf
  have hP : va_P D vwCl [(wo, .inr (10, [.ref wp, .ref ws_, .ref wd, .ref wk, .ref wz, .int 6, .int 0])), (wd, .inl (cD, 144, .inl fd))] s.heap := hP
  have hl := lv_entry ([.ref wo, .int k, .int f, .int v]) (n := 5) (Nat.le_of_ble_eq_true rfl)
  rw [lg_entry_eq]
  generalize (lg_sl ([.ref wo, .int k, .int f, .int v]) ++ List.replicate (5 - (lg_sl ([.ref wo, .int k, .int f, .int v])).length) Slot.unset).toArray = ls at hl ⊢
  have hl : lv_has ls 5 [(0, .ref wo), (1, .int k), (2, .int f), (3, .int v)] := hl
  refine lv_aload_n hx hb dX10_changeStandard_0 rfl (lv_at hl 0 rfl) ?_
  refine va_get (D := D) (ci := 10) (v := .ref wd) (C := RX10) (T := TX10) (N := 7) hx hb hts (fun _ h => List.mem_cons_of_mem _ (List.mem_append_right _ h)) hown hK hP 0 rfl rfl 2 (by decide) (hts (.fieldLink RX10 18 "TalePlay$World" "standards" "[I") (by decide +kernel)) (fun _ h9 => h9) rfl dX10_changeStandard_1 ?_
  refine lv_iload_n hx hb dX10_changeStandard_4 rfl (lv_at hl 1 rfl) ?_
  refine lv_bipush (v := 6) hx hb dX10_changeStandard_5 (by decide) ?_
  refine lv_imul hx hb dX10_changeStandard_7 ?_
  refine lv_topi (fun x1 ex1 => ?_)
  have tx1 := ti_mul (a := k.toInt) (b := 6) ex1 rfl (by decide) (by omega) (by omega)
  refine lv_iload_n hx hb dX10_changeStandard_8 rfl (lv_at hl 2 rfl) ?_
  refine lv_iadd hx hb dX10_changeStandard_9 ?_
  refine lv_topi (fun x2 ex2 => ?_)
  have tx2 := ti_add (a := (k.toInt * 6)) (b := f.toInt) ex2 tx1 rfl (by omega) (by omega)
  refine va_iald hx hb hK hP 1 0 rfl rfl (vp_in_iff.mpr (by have h9 := tx2; omega)) dX10_changeStandard_10 ?_
  refine tp_i (y := (-9)) (hfd _ (lt_cl (n := 144) tx2 (by omega) (by omega))) ?_
  refine lv_istore (lv' := [(4, .int (-9)), (0, .ref wo), (1, .int k), (2, .int f), (3, .int v)]) hx hb dX10_changeStandard_11 hl (by decide) rfl (fun ls hl => ?_)
  refine lv_aload_n hx hb dX10_changeStandard_13 rfl (lv_at hl 1 rfl) ?_
  refine va_get (D := D) (ci := 10) (v := .ref wd) (C := RX10) (T := TX10) (N := 7) hx hb hts (fun _ h => List.mem_cons_of_mem _ (List.mem_append_right _ h)) hown hK hP 0 rfl rfl 2 (by decide) (hts (.fieldLink RX10 18 "TalePlay$World" "standards" "[I") (by decide +kernel)) (fun _ h9 => h9) rfl dX10_changeStandard_14 ?_
  refine lv_iload_n hx hb dX10_changeStandard_17 rfl (lv_at hl 2 rfl) ?_
  refine lv_bipush (v := 6) hx hb dX10_changeStandard_18 (by decide) ?_
  refine lv_imul hx hb dX10_changeStandard_20 ?_
  refine lv_topi (fun x3 ex3 => ?_)
  have tx3 := ti_mul (a := k.toInt) (b := 6) ex3 rfl (by decide) (by omega) (by omega)
  refine lv_iload_n hx hb dX10_changeStandard_21 rfl (lv_at hl 3 rfl) ?_
  refine lv_iadd hx hb dX10_changeStandard_22 ?_
  refine lv_topi (fun x4 ex4 => ?_)
  have tx4 := ti_add (a := (k.toInt * 6)) (b := f.toInt) ex4 tx3 rfl (by omega) (by omega)
  refine lv_iload_n hx hb dX10_changeStandard_23 rfl (lv_at hl 4 rfl) ?_
  refine va_iast hx hb hK hP hD hS 1 0 rfl rfl (vp_in_iff.mpr (by have h9 := tx4; omega)) dX10_changeStandard_24 (fun H locs hP hD hS => ?_)
  have hP : va_P D vwCl [(wo, .inr (10, [.ref wp, .ref ws_, .ref wd, .ref wk, .ref wz, .int 6, .int 0])), (wd, .inl (cD, 144, .inl (upd fd (x4 : Int32).toNatClampNeg v)))] H := hP
  have hD : va_D A [(wo, .inr (10, [.ref wp, .ref ws_, .ref wd, .ref wk, .ref wz, .int 6, .int 0])), (wd, .inl (cD, 144, .inl (upd fd (x4 : Int32).toNatClampNeg v)))] := hD
  refine lv_iload hx hb dX10_changeStandard_25 (lv_at hl 0 rfl) ?_
  exact rw_iret () hx hb hr hlocks hS (hK.sub (tys' := []) [] rfl) (hP.sub (ws' := []) [] rfl) (hD.sub (ws' := []) [] (by decide) rfl) dX10_changeStandard_27 rfl

def wm_X9_end : List Cond := .code yX9_end cX9_end 1 none :: (([.fieldLink RX9 72 "TalePlay$Tale" "there" "Z", .fieldLink RX9 77 "TalePlay$Tale" "turns" "I"] : List Cond) ++ wsX90)
set_option maxHeartbeats 4000000 in
set_option maxRecDepth 100000 in
/-- Tale.end -/
theorem c_X9_end (l : Launch) (D : va_G) (sz : Nat) (ta : Nat) (wo : Nat) (t0 : Nat) (t1 : Nat) (t2 : Nat) (t3 : Nat) (t4 : Nat) (t5 : Nat) (t6 : Nat) : Met l yX9_end wm_X9_end ({ frames := 0, cells := 0, slots := 0, locals := 0 }) (va_Pc [.ref ta] (pB D sz [(ta, .inr (9, [.ref wo, .ref t0, .ref t1, .ref t2, .ref t3, .ref t4, .ref t5, .ref t6, .int 0, .int (-9), .int 0]))] [])) (va_Qv (fun (_ : Unit) => True) (oC D (va_A [(ta, .inr (9, [.ref wo, .ref t0, .ref t1, .ref t2, .ref t3, .ref t4, .ref t5, .ref t6, .int 0, .int (-9), .int 0]))] sz) (fun _ => []) (fun _ => [])) (va_A [(ta, .inr (9, [.ref wo, .ref t0, .ref t1, .ref t2, .ref t3, .ref t4, .ref t5, .ref t6, .int 0, .int (-9), .int 0]))] sz)) 0 0 (va_A [(ta, .inr (9, [.ref wo, .ref t0, .ref t1, .ref t2, .ref t3, .ref t4, .ref t5, .ref t6, .int 0, .int (-9), .int 0]))] sz) := by
  refine Met.ofW (cc := cX9_end) (maxL := 1) (ret := none) (by decide) rfl ?_
  intro p e s m args below meth c s₁ B hml hv
  obtain ⟨rfl, hsz, hP, hK, hD0⟩ := hv
  have hx := B.exec
  have hb := B.bytes
  have hr := B.returns
  have hts := atoms_spec (ws := wm_X9_end) B.pre
  have hown : s.vm.findClass RX9 = some m.cls := findClass_of_methodNamed B.named
  have hlocks := B.notSynchronized
  subst hsz
  have hD := hD0.self (sz := s.heap.size)
  generalize hAe : va_A [(ta, .inr (9, [.ref wo, .ref t0, .ref t1, .ref t2, .ref t3, .ref t4, .ref t5, .ref t6, .int 0, .int (-9), .int 0]))] s.heap.size = A at hD ⊢
  have hA : ∀ q : Nat, s.heap.size ≤ q → A q := fun q h => by rw [← hAe]; exact Or.inr h
  have hS : va_S A s.heap s.heap [] := va_S.rf
  have hP : va_P D vwCl [(ta, .inr (9, [.ref wo, .ref t0, .ref t1, .ref t2, .ref t3, .ref t4, .ref t5, .ref t6, .int 0, .int (-9), .int 0]))] s.heap := hP
  have hl := lv_entry ([.ref ta]) (n := 1) (Nat.le_of_ble_eq_true rfl)
  rw [lg_entry_eq]
  generalize (lg_sl ([.ref ta]) ++ List.replicate (1 - (lg_sl ([.ref ta])).length) Slot.unset).toArray = ls at hl ⊢
  have hl : lv_has ls 1 [(0, .ref ta)] := hl
  refine lv_aload_n hx hb dX9_end_0 rfl (lv_at hl 0 rfl) ?_
  refine lv_iconst (v := 0) hx hb dX9_end_1 (by decide) ?_
  refine va_put (D := D) (ci := 9) (v := .int 0) (ty := .boolean) (C := RX9) (T := TX9) (N := 11) hx hb hts (fun _ h => List.mem_cons_of_mem _ (List.mem_append_right _ h)) tyX9 tyX9_ok nmX9 hown hK hP hD hS 0 rfl rfl 8 (by decide) (hts (.fieldLink RX9 72 "TalePlay$Tale" "there" "Z") (by decide +kernel)) (fun _ h9 => h9) rfl (by decide +kernel) rfl rfl (Nat.le_of_ble_eq_true rfl) dX9_end_2 (fun H locs hP hD hS => ?_)
  have hP : va_P D vwCl [(ta, .inr (9, [.ref wo, .ref t0, .ref t1, .ref t2, .ref t3, .ref t4, .ref t5, .ref t6, .int 0, .int (-9), .int 0]))] H := hP
  have hD : va_D A [(ta, .inr (9, [.ref wo, .ref t0, .ref t1, .ref t2, .ref t3, .ref t4, .ref t5, .ref t6, .int 0, .int (-9), .int 0]))] := hD
  refine lv_aload_n hx hb dX9_end_5 rfl (lv_at hl 0 rfl) ?_
  refine lv_iconst (v := 0) hx hb dX9_end_6 (by decide) ?_
  refine va_put (D := D) (ci := 9) (v := .int 0) (ty := .int) (C := RX9) (T := TX9) (N := 11) hx hb hts (fun _ h => List.mem_cons_of_mem _ (List.mem_append_right _ h)) tyX9 tyX9_ok nmX9 hown hK hP hD hS 0 rfl rfl 10 (by decide) (hts (.fieldLink RX9 77 "TalePlay$Tale" "turns" "I") (by decide +kernel)) (fun _ h9 => h9) rfl (by decide +kernel) rfl rfl (Nat.le_of_ble_eq_true rfl) dX9_end_7 (fun H locs hP hD hS => ?_)
  have hP : va_P D vwCl [(ta, .inr (9, [.ref wo, .ref t0, .ref t1, .ref t2, .ref t3, .ref t4, .ref t5, .ref t6, .int 0, .int (-9), .int 0]))] H := hP
  have hD : va_D A [(ta, .inr (9, [.ref wo, .ref t0, .ref t1, .ref t2, .ref t3, .ref t4, .ref t5, .ref t6, .int 0, .int (-9), .int 0]))] := hD
  exact rw_vret () hx hb hr hlocks hS (hK.sub (tys' := []) [] rfl) (hP.sub (ws' := []) [] rfl) (hD.sub (ws' := []) [] (by decide) rfl) dX9_end_10 trivial

def wm_X0_hasX : List Cond := .code yX0_hasX cX0_hasX 1 (some .boolean) :: (([] : List Cond))
set_option maxHeartbeats 4000000 in
set_option maxRecDepth 100000 in
theorem c_X0_hasX (l : Launch) (D : va_G) (sz : Nat) (v : Int32) : Met l yX0_hasX wm_X0_hasX ({ frames := 0, cells := 0, slots := 0, locals := 0 }) (va_Pc [.int v] (pA D sz [] [])) (va_Qi (fun (r : Int32) (_ : Unit) => r = if (v.toInt < 11) then 1 else 0) oA (ro sz)) 0 0 (ro sz) := by
  refine Met.ofW (cc := cX0_hasX) (maxL := 1) (ret := (some .boolean)) (by decide) rfl ?_
  intro p e s m args below meth c s₁ B hml hv
  obtain ⟨rfl, hsz, hP, hK⟩ := hv
  have hx := B.exec
  have hb := B.bytes
  have hr := B.returns
  have hts := atoms_spec (ws := wm_X0_hasX) B.pre
  have hown : s.vm.findClass RX0 = some m.cls := findClass_of_methodNamed B.named
  have hlocks := B.notSynchronized
  subst hsz
  have hA : ∀ q : Nat, s.heap.size ≤ q → ro s.heap.size q := fun _ h => h
  have hS : va_S (ro s.heap.size) s.heap s.heap [] := va_S.rf
  have hP : va_P D vwCl [] s.heap := hP
  have hl := lv_entry ([.int v]) (n := 1) (Nat.le_of_ble_eq_true rfl)
  rw [lg_entry_eq]
  generalize (lg_sl ([.int v]) ++ List.replicate (1 - (lg_sl ([.int v])).length) Slot.unset).toArray = ls at hl ⊢
  have hl : lv_has ls 1 [(0, .int v)] := hl
  refine lv_iload_n hx hb dX0_hasX_0 rfl (lv_at hl 0 rfl) ?_
  refine lv_bipush (v := 11) hx hb dX0_hasX_1 (by decide) ?_
  refine lv_icmp_ge (tgt := 10) hx hb dX0_hasX_3 (by decide) (fun c1 => ?_) (fun c1 => ?_)
  · have f1 := (ti_le (a := 11) (b := v.toInt) (by decide) rfl).mp c1
    refine lv_iconst (v := 0) hx hb dX0_hasX_10 (by decide) ?_
    exact ro_zret hx hb hr hlocks hS rfl dX0_hasX_11 (by show _ = _; rw [if_neg (by omega)])
  · have f1 := mt (ti_le (a := 11) (b := v.toInt) (by decide) rfl).mpr c1
    refine lv_iconst (v := 1) hx hb dX0_hasX_6 (by decide) ?_
    refine lv_goto (tgt := 11) hx hb dX0_hasX_7 (by decide) ?_
    exact ro_zret hx hb hr hlocks hS rfl dX0_hasX_11 (by show _ = _; rw [if_pos (by omega)])

def wm_X0_hasY : List Cond := .code yX0_hasY cX0_hasY 1 (some .boolean) :: (([] : List Cond))
set_option maxHeartbeats 4000000 in
set_option maxRecDepth 100000 in
theorem c_X0_hasY (l : Launch) (D : va_G) (sz : Nat) (v : Int32) : Met l yX0_hasY wm_X0_hasY ({ frames := 0, cells := 0, slots := 0, locals := 0 }) (va_Pc [.int v] (pA D sz [] [])) (va_Qi (fun (r : Int32) (_ : Unit) => r = if (v.toInt = 3 ∨ v.toInt = 4 ∨ v.toInt = 7 ∨ v.toInt = 8) then 1 else 0) oA (ro sz)) 0 0 (ro sz) := by
  refine Met.ofW (cc := cX0_hasY) (maxL := 1) (ret := (some .boolean)) (by decide) rfl ?_
  intro p e s m args below meth c s₁ B hml hv
  obtain ⟨rfl, hsz, hP, hK⟩ := hv
  have hx := B.exec
  have hb := B.bytes
  have hr := B.returns
  have hts := atoms_spec (ws := wm_X0_hasY) B.pre
  have hown : s.vm.findClass RX0 = some m.cls := findClass_of_methodNamed B.named
  have hlocks := B.notSynchronized
  subst hsz
  have hA : ∀ q : Nat, s.heap.size ≤ q → ro s.heap.size q := fun _ h => h
  have hS : va_S (ro s.heap.size) s.heap s.heap [] := va_S.rf
  have hP : va_P D vwCl [] s.heap := hP
  have hl := lv_entry ([.int v]) (n := 1) (Nat.le_of_ble_eq_true rfl)
  rw [lg_entry_eq]
  generalize (lg_sl ([.int v]) ++ List.replicate (1 - (lg_sl ([.int v])).length) Slot.unset).toArray = ls at hl ⊢
  have hl : lv_has ls 1 [(0, .int v)] := hl
  refine lv_iload_n hx hb dX0_hasY_0 rfl (lv_at hl 0 rfl) ?_
  refine lv_iconst (v := 3) hx hb dX0_hasY_1 (by decide) ?_
  refine lv_icmp_eq (tgt := 22) hx hb dX0_hasY_2 (by decide) (fun c1 => ?_) (fun c1 => ?_)
  · have f1 := (ti_eq (a := v.toInt) (b := 3) rfl (by decide)).mp c1
    refine lv_iconst (v := 1) hx hb dX0_hasY_22 (by decide) ?_
    refine lv_goto (tgt := 27) hx hb dX0_hasY_23 (by decide) ?_
    exact ro_zret hx hb hr hlocks hS rfl dX0_hasY_27 (by show _ = _; rw [if_pos (by omega)])
  · have f1 := mt (ti_eq (a := v.toInt) (b := 3) rfl (by decide)).mpr c1
    refine lv_iload_n hx hb dX0_hasY_5 rfl (lv_at hl 0 rfl) ?_
    refine lv_iconst (v := 4) hx hb dX0_hasY_6 (by decide) ?_
    refine lv_icmp_eq (tgt := 22) hx hb dX0_hasY_7 (by decide) (fun c2 => ?_) (fun c2 => ?_)
    · have f2 := (ti_eq (a := v.toInt) (b := 4) rfl (by decide)).mp c2
      refine lv_iconst (v := 1) hx hb dX0_hasY_22 (by decide) ?_
      refine lv_goto (tgt := 27) hx hb dX0_hasY_23 (by decide) ?_
      exact ro_zret hx hb hr hlocks hS rfl dX0_hasY_27 (by show _ = _; rw [if_pos (by omega)])
    · have f2 := mt (ti_eq (a := v.toInt) (b := 4) rfl (by decide)).mpr c2
      refine lv_iload_n hx hb dX0_hasY_10 rfl (lv_at hl 0 rfl) ?_
      refine lv_bipush (v := 7) hx hb dX0_hasY_11 (by decide) ?_
      refine lv_icmp_eq (tgt := 22) hx hb dX0_hasY_13 (by decide) (fun c3 => ?_) (fun c3 => ?_)
      · have f3 := (ti_eq (a := v.toInt) (b := 7) rfl (by decide)).mp c3
        refine lv_iconst (v := 1) hx hb dX0_hasY_22 (by decide) ?_
        refine lv_goto (tgt := 27) hx hb dX0_hasY_23 (by decide) ?_
        exact ro_zret hx hb hr hlocks hS rfl dX0_hasY_27 (by show _ = _; rw [if_pos (by omega)])
      · have f3 := mt (ti_eq (a := v.toInt) (b := 7) rfl (by decide)).mpr c3
        refine lv_iload_n hx hb dX0_hasY_16 rfl (lv_at hl 0 rfl) ?_
        refine lv_bipush (v := 8) hx hb dX0_hasY_17 (by decide) ?_
        refine lv_icmp_ne (tgt := 26) hx hb dX0_hasY_19 (by decide) (fun c4 => ?_) (fun c4 => ?_)
        · have f4 := mt (ti_eq (a := v.toInt) (b := 8) rfl (by decide)).mpr c4
          refine lv_iconst (v := 0) hx hb dX0_hasY_26 (by decide) ?_
          exact ro_zret hx hb hr hlocks hS rfl dX0_hasY_27 (by show _ = _; rw [if_neg (by omega)])
        · have f4 := (ti_eq (a := v.toInt) (b := 8) rfl (by decide)).mp c4
          refine lv_iconst (v := 1) hx hb dX0_hasY_22 (by decide) ?_
          refine lv_goto (tgt := 27) hx hb dX0_hasY_23 (by decide) ?_
          exact ro_zret hx hb hr hlocks hS rfl dX0_hasY_27 (by show _ = _; rw [if_pos (by omega)])

def wm_X9_isAct : List Cond := .code yX9_isAct cX9_isAct 4 (some .boolean) :: (([.methodLink RX9 104 yX0_hasX, .static yX0_hasX, .initialized RX0, .code yX0_hasX cX0_hasX 1 (some .boolean), .methodLink RX9 111 yX0_hasY, .static yX0_hasY, .code yX0_hasY cX0_hasY 1 (some .boolean), .fieldLink RX9 21 "TalePlay$Tale" "world" "LTalePlay$World;", .methodLink RX9 108 yX10_hasObject, .instanceMethod yX10_hasObject, .selects RX10 yX10_hasObject yX10_hasObject, .initialized RX10, .code yX10_hasObject cX10_hasObject 2 (some .boolean), .fieldLink RX10 37 "TalePlay$World" "objects" "I", .code yX11_isBelow cX11_isBelow 2 (some .boolean), .initialized RX11, .static yX11_isBelow] : List Cond) ++ wsX90 ++ wsX100)
set_option maxRecDepth 20000 in
theorem gm_X9_isAct_X0_hasX : GoodIn wm_X9_isAct (va_wsS RX9 104 yX0_hasX wm_X0_hasX) := goodIn_app (goodIn_of _ (by decide +kernel)) (goodIn_r _ [4] (by decide +kernel) (by decide +kernel))
set_option maxRecDepth 20000 in
theorem gm_X9_isAct_X0_hasY : GoodIn wm_X9_isAct (va_wsS RX9 111 yX0_hasY wm_X0_hasY) := goodIn_app (goodIn_of _ (by decide +kernel)) (goodIn_r _ [7] (by decide +kernel) (by decide +kernel))
set_option maxRecDepth 20000 in
theorem gm_X9_isAct_X10_hasObject : GoodIn wm_X9_isAct (wsV RX9 108 RX10 yX10_hasObject wm_X10_hasObject) := goodIn_app (goodIn_of _ (by decide +kernel)) (goodIn_r _ [13, 14, 29, 30, 31, 32, 33, 34, 35] (by decide +kernel) (by decide +kernel))
set_option maxRecDepth 20000 in
theorem gm_X9_isAct_X11_isBelow : GoodIn wm_X9_isAct wm_X11_isBelow := goodIn_r _ [15] (by decide +kernel) (by decide +kernel)
set_option maxHeartbeats 4000000 in
set_option maxRecDepth 100000 in
theorem c_X9_isAct (l : Launch) (D : va_G) (sz : Nat) (ta : Nat) (wo : Nat) (t0 : Nat) (t1 : Nat) (t2 : Nat) (t3 : Nat) (t4 : Nat) (t5 : Nat) (t6 : Nat) (wp : Nat) (ws_ : Nat) (wd : Nat) (wk : Nat) (wz : Nat) (v : Int32) (x : Int32) (y : Int32) : Met l yX9_isAct wm_X9_isAct ({ frames := 1, cells := 0, slots := 0, locals := 21 }) (va_Pc [.ref ta, .int v, .int x, .int y] (pN D sz [(ta, .inr (9, [.ref wo, .ref t0, .ref t1, .ref t2, .ref t3, .ref t4, .ref t5, .ref t6, .int 0, .int (-9), .int 0])), (wo, .inr (10, [.ref wp, .ref ws_, .ref wd, .ref wk, .ref wz, .int 6, .int 0]))] [] RX9 101 yX11_isBelow "TalePlay")) (va_Qi (fun (r : Int32) (_ : Unit) => r = if ((v.toInt = 0 ∧ 0 ≤ x.toInt ∧ x.toInt < 10) ∨ v.toInt = 11 ∨ v.toInt = 12) then 1 else 0) oA (ro sz)) 0 0 (ro sz) := by
  refine Met.ofW (cc := cX9_isAct) (maxL := 4) (ret := (some .boolean)) (by decide) rfl ?_
  intro p e s m args below meth c s₁ B hml hv
  obtain ⟨rfl, ⟨hsz, hP, hK⟩, hN⟩ := hv
  have hx := B.exec
  have hb := B.bytes
  have hr := B.returns
  have hts := atoms_spec (ws := wm_X9_isAct) B.pre
  have hown : s.vm.findClass RX9 = some m.cls := findClass_of_methodNamed B.named
  have hlocks := B.notSynchronized
  subst hsz
  have hA : ∀ q : Nat, s.heap.size ≤ q → ro s.heap.size q := fun _ h => h
  have hS : va_S (ro s.heap.size) s.heap s.heap [] := va_S.rf
  have hP : va_P D vwCl [(ta, .inr (9, [.ref wo, .ref t0, .ref t1, .ref t2, .ref t3, .ref t4, .ref t5, .ref t6, .int 0, .int (-9), .int 0])), (wo, .inr (10, [.ref wp, .ref ws_, .ref wd, .ref wk, .ref wz, .int 6, .int 0]))] s.heap := hP
  have hl := lv_entry ([.ref ta, .int v, .int x, .int y]) (n := 4) (Nat.le_of_ble_eq_true rfl)
  rw [lg_entry_eq]
  generalize (lg_sl ([.ref ta, .int v, .int x, .int y]) ++ List.replicate (4 - (lg_sl ([.ref ta, .int v, .int x, .int y])).length) Slot.unset).toArray = ls at hl ⊢
  have hl : lv_has ls 4 [(0, .ref ta), (1, .int v), (2, .int x), (3, .int y)] := hl
  refine lv_iload_n hx hb dX9_isAct_0 rfl (lv_at hl 1 rfl) ?_
  refine lv_if_lt (tgt := 10) hx hb dX9_isAct_1 (by decide) (fun c1 => ?_) (fun c1 => ?_)
  · have f1 := (ti_lt (a := v.toInt) (b := 0) rfl (by decide)).mp c1
    refine lv_iconst (v := 0) hx hb dX9_isAct_10 (by decide) ?_
    exact ro_zret hx hb hr hlocks hS rfl dX9_isAct_11 (by show _ = _; rw [if_neg (by omega)])
  · have f1 := mt (ti_lt (a := v.toInt) (b := 0) rfl (by decide)).mpr c1
    refine lv_iload_n hx hb dX9_isAct_4 rfl (lv_at hl 1 rfl) ?_
    refine lv_bipush (v := 12) hx hb dX9_isAct_5 (by decide) ?_
    refine lv_icmp_le (tgt := 12) hx hb dX9_isAct_7 (by decide) (fun c2 => ?_) (fun c2 => ?_)
    · have f2 := (ti_le (a := v.toInt) (b := 12) rfl (by decide)).mp c2
      refine lv_iload_n hx hb dX9_isAct_12 rfl (lv_at hl 1 rfl) ?_
      refine lv_if_ne (tgt := 23) hx hb dX9_isAct_13 (by decide) (fun c3 => ?_) (fun c3 => ?_)
      · have f3 := mt (ti_eq (a := v.toInt) (b := 0) rfl (by decide)).mpr c3
        refine lv_iload_n hx hb dX9_isAct_23 rfl (lv_at hl 1 rfl) ?_
        have hPc := hP.sub (ws' := []) [] rfl
        have hKc := hK.sub (tys' := []) [] rfl
        refine ro_calli (va_runS (As := [.int v]) (rest := []) ⟨hx, hb, hml, hown, hts⟩ (c_X0_hasX l D s.heap.size v) (va_cwS 1 hts gm_X9_isAct_X0_hasX rfl rfl rfl (by decide +kernel) ⟨Nat.le_of_ble_eq_true rfl, Nat.le_of_ble_eq_true rfl⟩) (pA_S hKc hPc) rfl rfl hl.1 rfl (lv_room (Nat.le_of_ble_eq_true rfl)) dX9_isAct_24 ⟨Nat.le_of_ble_eq_true rfl, Nat.le_of_ble_eq_true rfl⟩) hS hA hP (fun r4 u4 H locs hw4 hP hS => ?_)
        have hw4 : r4 = if (v.toInt < 11) then 1 else 0 := hw4
        refine lv_if_eq (tgt := 41) hx hb dX9_isAct_27 (by decide) (fun c5 => ?_) (fun c5 => ?_)
        · have f5 := fl_f hw4 c5
          refine lv_iload_n hx hb dX9_isAct_41 rfl (lv_at hl 1 rfl) ?_
          have hPc := hP.sub (ws' := []) [] rfl
          have hKc := hK.sub (tys' := []) [] rfl
          refine ro_calli (va_runS (As := [.int v]) (rest := []) ⟨hx, hb, hml, hown, hts⟩ (c_X0_hasY l D H.size v) (va_cwS 1 hts gm_X9_isAct_X0_hasY rfl rfl rfl (by decide +kernel) ⟨Nat.le_of_ble_eq_true rfl, Nat.le_of_ble_eq_true rfl⟩) (pA_S hKc hPc) rfl rfl hl.1 rfl (lv_room (Nat.le_of_ble_eq_true rfl)) dX9_isAct_42 ⟨Nat.le_of_ble_eq_true rfl, Nat.le_of_ble_eq_true rfl⟩) hS hA hP (fun r6 u6 H locs hw6 hP hS => ?_)
          have hw6 : r6 = if (v.toInt = 3 ∨ v.toInt = 4 ∨ v.toInt = 7 ∨ v.toInt = 8) then 1 else 0 := hw6
          refine lv_if_eq (tgt := 59) hx hb dX9_isAct_45 (by decide) (fun c7 => ?_) (fun c7 => ?_)
          · have f7 := fl_f hw6 c7
            refine lv_iconst (v := 1) hx hb dX9_isAct_59 (by decide) ?_
            refine lv_goto (tgt := 64) hx hb dX9_isAct_60 (by decide) ?_
            exact ro_zret hx hb hr hlocks hS rfl dX9_isAct_64 (by show _ = _; rw [if_pos (by omega)])
          · have f7 := fl_t hw6 c7
            refine lv_aload_n hx hb dX9_isAct_48 rfl (lv_at hl 0 rfl) ?_
            refine va_get (D := D) (ci := 9) (v := .ref wo) (C := RX9) (T := TX9) (N := 11) hx hb hts (fun _ h => List.mem_cons_of_mem _ (List.mem_append_left _ (List.mem_append_right _ h))) hown hK hP 0 rfl rfl 0 (by decide) (hts (.fieldLink RX9 21 "TalePlay$Tale" "world" "LTalePlay$World;") (by decide +kernel)) (fun _ h9 => h9) rfl dX9_isAct_49 ?_
            refine lv_iload_n hx hb dX9_isAct_52 rfl (lv_at hl 3 rfl) ?_
            have hPc := hP.sub (ws' := [(wo, .inr (10, [.ref wp, .ref ws_, .ref wd, .ref wk, .ref wz, .int 6, .int 0]))]) [1] rfl
            have hKc := hK.sub (tys' := []) [] rfl
            refine ro_calli (va_runV (As := [.int y]) (rest := []) ⟨hx, hb, hml, hown, hts⟩ (c_X10_hasObject l D H.size wo wp ws_ wd wk wz y) (cwV 1 hts gm_X9_isAct_X10_hasObject rfl rfl rfl (by decide +kernel) ⟨Nat.le_of_ble_eq_true rfl, Nat.le_of_ble_eq_true rfl⟩) (pA_V hKc hPc (ci := 10) (q0 := 0) rfl rfl) rfl rfl hl.1 rfl (lv_room (Nat.le_of_ble_eq_true rfl)) dX9_isAct_53 ⟨Nat.le_of_ble_eq_true rfl, Nat.le_of_ble_eq_true rfl⟩) hS hA hP (fun r8 u8 H locs hw8 hP hS => ?_)
            have hw8 : r8 = 0 := hw8
            subst hw8
            refine lv_if_eq (tgt := 63) hx hb dX9_isAct_56 (by decide) (fun _ => ?_) (fun q9 => absurd (by decide) q9)
            refine lv_iconst (v := 0) hx hb dX9_isAct_63 (by decide) ?_
            exact ro_zret hx hb hr hlocks hS rfl dX9_isAct_64 (by show _ = _; rw [if_neg (by omega)])
        · have f5 := fl_t hw4 c5
          refine lv_aload_n hx hb dX9_isAct_30 rfl (lv_at hl 0 rfl) ?_
          refine va_get (D := D) (ci := 9) (v := .ref wo) (C := RX9) (T := TX9) (N := 11) hx hb hts (fun _ h => List.mem_cons_of_mem _ (List.mem_append_left _ (List.mem_append_right _ h))) hown hK hP 0 rfl rfl 0 (by decide) (hts (.fieldLink RX9 21 "TalePlay$Tale" "world" "LTalePlay$World;") (by decide +kernel)) (fun _ h9 => h9) rfl dX9_isAct_31 ?_
          refine lv_iload_n hx hb dX9_isAct_34 rfl (lv_at hl 2 rfl) ?_
          have hPc := hP.sub (ws' := [(wo, .inr (10, [.ref wp, .ref ws_, .ref wd, .ref wk, .ref wz, .int 6, .int 0]))]) [1] rfl
          have hKc := hK.sub (tys' := []) [] rfl
          refine ro_calli (va_runV (As := [.int x]) (rest := []) ⟨hx, hb, hml, hown, hts⟩ (c_X10_hasObject l D H.size wo wp ws_ wd wk wz x) (cwV 1 hts gm_X9_isAct_X10_hasObject rfl rfl rfl (by decide +kernel) ⟨Nat.le_of_ble_eq_true rfl, Nat.le_of_ble_eq_true rfl⟩) (pA_V hKc hPc (ci := 10) (q0 := 0) rfl rfl) rfl rfl hl.1 rfl (lv_room (Nat.le_of_ble_eq_true rfl)) dX9_isAct_35 ⟨Nat.le_of_ble_eq_true rfl, Nat.le_of_ble_eq_true rfl⟩) hS hA hP (fun r9 u9 H locs hw9 hP hS => ?_)
          have hw9 : r9 = 0 := hw9
          subst hw9
          refine lv_if_eq (tgt := 63) hx hb dX9_isAct_38 (by decide) (fun _ => ?_) (fun q9 => absurd (by decide) q9)
          refine lv_iconst (v := 0) hx hb dX9_isAct_63 (by decide) ?_
          exact ro_zret hx hb hr hlocks hS rfl dX9_isAct_64 (by show _ = _; rw [if_neg (by omega)])
      · have f3 := (ti_eq (a := v.toInt) (b := 0) rfl (by decide)).mp c3
        refine lv_iload_n hx hb dX9_isAct_16 rfl (lv_at hl 2 rfl) ?_
        refine lv_bipush (v := 10) hx hb dX9_isAct_17 (by decide) ?_
        have hPc := hP.sub (ws' := []) [] rfl
        have hKc := hK.sub (tys' := []) [] rfl
        refine ro_calli (va_runSN (As := [.int x, .int 10]) (rest := []) ⟨hx, hb, hml, hown, hts⟩ (c_X11_isBelow l D s.heap.size x 10 x.toInt 10 rfl (by decide)) ⟨va_cnB 2 hts gm_X9_isAct_X11_isBelow rfl rfl rfl hN (hts (.initialized RX11) (by decide +kernel)) (by decide +kernel) ⟨Nat.le_of_ble_eq_true rfl, Nat.le_of_ble_eq_true rfl⟩, (hts (.static yX11_isBelow) (by decide +kernel)), trivial⟩ (pA_S hKc hPc) rfl rfl hl.1 rfl (lv_room (Nat.le_of_ble_eq_true rfl)) dX9_isAct_19 ⟨Nat.le_of_ble_eq_true rfl, Nat.le_of_ble_eq_true rfl⟩) hS hA hP (fun r10 u10 H locs hw10 hP hS => ?_)
        have hw10 : r10 = if (0 ≤ x.toInt ∧ x.toInt < 10) then 1 else 0 := hw10
        exact ro_zret hx hb hr hlocks hS (fl_n hw10) dX9_isAct_22 (by show _ = _; rw [hw10]; (repeat' split) <;> first | rfl | (exfalso; omega))
    · have f2 := mt (ti_le (a := v.toInt) (b := 12) rfl (by decide)).mpr c2
      refine lv_iconst (v := 0) hx hb dX9_isAct_10 (by decide) ?_
      exact ro_zret hx hb hr hlocks hS rfl dX9_isAct_11 (by show _ = _; rw [if_neg (by omega)])

def wm_X1_clearClash : List Cond := .code yX1_clearClash cX1_clearClash 1 none :: (([.fieldLink RX1 118 "TalePlay$Book" "clashes" "I"] : List Cond) ++ wsX10)
set_option maxHeartbeats 4000000 in
set_option maxRecDepth 100000 in
theorem c_X1_clearClash (l : Launch) (D : va_G) (sz : Nat) (bo : Nat) (wo : Nat) (b0 : Nat) (b1 : Nat) (b2 : Nat) (b3 : Nat) (b4 : Nat) (b5 : Nat) (b6 : Nat) (b7 : Nat) (b8 : Nat) (b9 : Nat) (b10 : Nat) : Met l yX1_clearClash wm_X1_clearClash ({ frames := 0, cells := 0, slots := 0, locals := 0 }) (va_Pc [.ref bo] (pB D sz [(bo, .inr (1, [.ref wo, .ref b0, .ref b1, .ref b2, .ref b3, .ref b4, .ref b5, .ref b6, .ref b7, .ref b8, .ref b9, .ref b10, .int 0, .int 0, .int 0]))] [])) (va_Qv (fun (_ : Unit) => True) (oC D (va_A [(bo, .inr (1, [.ref wo, .ref b0, .ref b1, .ref b2, .ref b3, .ref b4, .ref b5, .ref b6, .ref b7, .ref b8, .ref b9, .ref b10, .int 0, .int 0, .int 0]))] sz) (fun _ => [(bo, .inr (1, [.ref wo, .ref b0, .ref b1, .ref b2, .ref b3, .ref b4, .ref b5, .ref b6, .ref b7, .ref b8, .ref b9, .ref b10, .int 0, .int 0, .int 0]))]) (fun _ => [])) (va_A [(bo, .inr (1, [.ref wo, .ref b0, .ref b1, .ref b2, .ref b3, .ref b4, .ref b5, .ref b6, .ref b7, .ref b8, .ref b9, .ref b10, .int 0, .int 0, .int 0]))] sz)) 0 0 (va_A [(bo, .inr (1, [.ref wo, .ref b0, .ref b1, .ref b2, .ref b3, .ref b4, .ref b5, .ref b6, .ref b7, .ref b8, .ref b9, .ref b10, .int 0, .int 0, .int 0]))] sz) := by
  refine Met.ofW (cc := cX1_clearClash) (maxL := 1) (ret := none) (by decide) rfl ?_
  intro p e s m args below meth c s₁ B hml hv
  obtain ⟨rfl, hsz, hP, hK, hD0⟩ := hv
  have hx := B.exec
  have hb := B.bytes
  have hr := B.returns
  have hts := atoms_spec (ws := wm_X1_clearClash) B.pre
  have hown : s.vm.findClass RX1 = some m.cls := findClass_of_methodNamed B.named
  have hlocks := B.notSynchronized
  subst hsz
  have hD := hD0.self (sz := s.heap.size)
  generalize hAe : va_A [(bo, .inr (1, [.ref wo, .ref b0, .ref b1, .ref b2, .ref b3, .ref b4, .ref b5, .ref b6, .ref b7, .ref b8, .ref b9, .ref b10, .int 0, .int 0, .int 0]))] s.heap.size = A at hD ⊢
  have hA : ∀ q : Nat, s.heap.size ≤ q → A q := fun q h => by rw [← hAe]; exact Or.inr h
  have hS : va_S A s.heap s.heap [] := va_S.rf
  have hP : va_P D vwCl [(bo, .inr (1, [.ref wo, .ref b0, .ref b1, .ref b2, .ref b3, .ref b4, .ref b5, .ref b6, .ref b7, .ref b8, .ref b9, .ref b10, .int 0, .int 0, .int 0]))] s.heap := hP
  have hl := lv_entry ([.ref bo]) (n := 1) (Nat.le_of_ble_eq_true rfl)
  rw [lg_entry_eq]
  generalize (lg_sl ([.ref bo]) ++ List.replicate (1 - (lg_sl ([.ref bo])).length) Slot.unset).toArray = ls at hl ⊢
  have hl : lv_has ls 1 [(0, .ref bo)] := hl
  refine lv_aload_n hx hb dX1_clearClash_0 rfl (lv_at hl 0 rfl) ?_
  refine lv_iconst (v := 0) hx hb dX1_clearClash_1 (by decide) ?_
  refine va_put (D := D) (ci := 1) (v := .int 0) (ty := .int) (C := RX1) (T := TX1) (N := 15) hx hb hts (fun _ h => List.mem_cons_of_mem _ (List.mem_append_right _ h)) tyX1 tyX1_ok nmX1 hown hK hP hD hS 0 rfl rfl 12 (by decide) (hts (.fieldLink RX1 118 "TalePlay$Book" "clashes" "I") (by decide +kernel)) (fun _ h9 => h9) rfl (by decide +kernel) rfl rfl (Nat.le_of_ble_eq_true rfl) dX1_clearClash_2 (fun H locs hP hD hS => ?_)
  have hP : va_P D vwCl [(bo, .inr (1, [.ref wo, .ref b0, .ref b1, .ref b2, .ref b3, .ref b4, .ref b5, .ref b6, .ref b7, .ref b8, .ref b9, .ref b10, .int 0, .int 0, .int 0]))] H := hP
  have hD : va_D A [(bo, .inr (1, [.ref wo, .ref b0, .ref b1, .ref b2, .ref b3, .ref b4, .ref b5, .ref b6, .ref b7, .ref b8, .ref b9, .ref b10, .int 0, .int 0, .int 0]))] := hD
  exact rw_vret () hx hb hr hlocks hS (hK.sub (tys' := []) [] rfl) (hP.sub (ws' := [(bo, .inr (1, [.ref wo, .ref b0, .ref b1, .ref b2, .ref b3, .ref b4, .ref b5, .ref b6, .ref b7, .ref b8, .ref b9, .ref b10, .int 0, .int 0, .int 0]))]) [0] rfl) (hD.sub (ws' := [(bo, .inr (1, [.ref wo, .ref b0, .ref b1, .ref b2, .ref b3, .ref b4, .ref b5, .ref b6, .ref b7, .ref b8, .ref b9, .ref b10, .int 0, .int 0, .int 0]))]) [0] (by decide) rfl) dX1_clearClash_5 trivial

def wm_X1_isWellFormed : List Cond := .code yX1_isWellFormed cX1_isWellFormed 5 (some .boolean) :: (([.fieldLink RX1 43 "TalePlay$Book" "world" "LTalePlay$World;", .methodLink RX1 62 yX10_hasObject, .instanceMethod yX10_hasObject, .selects RX10 yX10_hasObject yX10_hasObject, .initialized RX10, .code yX10_hasObject cX10_hasObject 2 (some .boolean), .fieldLink RX10 37 "TalePlay$World" "objects" "I"] : List Cond) ++ wsX10 ++ wsX100)
set_option maxRecDepth 20000 in
theorem gm_X1_isWellFormed_X10_hasObject : GoodIn wm_X1_isWellFormed (wsV RX1 62 RX10 yX10_hasObject wm_X10_hasObject) := goodIn_app (goodIn_of _ (by decide +kernel)) (goodIn_r _ [6, 7, 23, 24, 25, 26, 27, 28, 29] (by decide +kernel) (by decide +kernel))
set_option maxHeartbeats 4000000 in
set_option maxRecDepth 100000 in
theorem c_X1_isWellFormed (l : Launch) (D : va_G) (sz : Nat) (bo : Nat) (wo : Nat) (b0 : Nat) (b1 : Nat) (b2 : Nat) (b3 : Nat) (b4 : Nat) (b5 : Nat) (b6 : Nat) (b7 : Nat) (b8 : Nat) (b9 : Nat) (b10 : Nat) (wp : Nat) (ws_ : Nat) (wd : Nat) (wk : Nat) (wz : Nat) (f : Int32) (a : Int32) (b : Int32) (d : Int32) : Met l yX1_isWellFormed wm_X1_isWellFormed ({ frames := 1, cells := 0, slots := 0, locals := 21 }) (va_Pc [.ref bo, .int f, .int a, .int b, .int d] (pA D sz [(bo, .inr (1, [.ref wo, .ref b0, .ref b1, .ref b2, .ref b3, .ref b4, .ref b5, .ref b6, .ref b7, .ref b8, .ref b9, .ref b10, .int 0, .int 0, .int 0])), (wo, .inr (10, [.ref wp, .ref ws_, .ref wd, .ref wk, .ref wz, .int 6, .int 0]))] [])) (va_Qi (fun (r : Int32) (_ : Unit) => r = 0) oA (ro sz)) 0 0 (ro sz) := by
  refine Met.ofW (cc := cX1_isWellFormed) (maxL := 5) (ret := (some .boolean)) (by decide) rfl ?_
  intro p e s m args below meth c s₁ B hml hv
  obtain ⟨rfl, hsz, hP, hK⟩ := hv
  have hx := B.exec
  have hb := B.bytes
  have hr := B.returns
  have hts := atoms_spec (ws := wm_X1_isWellFormed) B.pre
  have hown : s.vm.findClass RX1 = some m.cls := findClass_of_methodNamed B.named
  have hlocks := B.notSynchronized
  subst hsz
  have hA : ∀ q : Nat, s.heap.size ≤ q → ro s.heap.size q := fun _ h => h
  have hS : va_S (ro s.heap.size) s.heap s.heap [] := va_S.rf
  have hP : va_P D vwCl [(bo, .inr (1, [.ref wo, .ref b0, .ref b1, .ref b2, .ref b3, .ref b4, .ref b5, .ref b6, .ref b7, .ref b8, .ref b9, .ref b10, .int 0, .int 0, .int 0])), (wo, .inr (10, [.ref wp, .ref ws_, .ref wd, .ref wk, .ref wz, .int 6, .int 0]))] s.heap := hP
  have hl := lv_entry ([.ref bo, .int f, .int a, .int b, .int d]) (n := 5) (Nat.le_of_ble_eq_true rfl)
  rw [lg_entry_eq]
  generalize (lg_sl ([.ref bo, .int f, .int a, .int b, .int d]) ++ List.replicate (5 - (lg_sl ([.ref bo, .int f, .int a, .int b, .int d])).length) Slot.unset).toArray = ls at hl ⊢
  have hl : lv_has ls 5 [(0, .ref bo), (1, .int f), (2, .int a), (3, .int b), (4, .int d)] := hl
  refine lv_iload_n hx hb dX1_isWellFormed_0 rfl (lv_at hl 1 rfl) ?_
  refine lv_if_lt (tgt := 21) hx hb dX1_isWellFormed_1 (by decide) (fun c1 => ?_) (fun c1 => ?_)
  · have f1 := (ti_lt (a := f.toInt) (b := 0) rfl (by decide)).mp c1
    refine lv_iconst (v := 0) hx hb dX1_isWellFormed_21 (by decide) ?_
    exact ro_zret hx hb hr hlocks hS rfl dX1_isWellFormed_22 rfl
  · have f1 := mt (ti_lt (a := f.toInt) (b := 0) rfl (by decide)).mpr c1
    refine lv_iload_n hx hb dX1_isWellFormed_4 rfl (lv_at hl 1 rfl) ?_
    refine lv_bipush (v := 7) hx hb dX1_isWellFormed_5 (by decide) ?_
    refine lv_icmp_gt (tgt := 21) hx hb dX1_isWellFormed_7 (by decide) (fun c2 => ?_) (fun c2 => ?_)
    · have f2 := (ti_lt (a := 7) (b := f.toInt) (by decide) rfl).mp c2
      refine lv_iconst (v := 0) hx hb dX1_isWellFormed_21 (by decide) ?_
      exact ro_zret hx hb hr hlocks hS rfl dX1_isWellFormed_22 rfl
    · have f2 := mt (ti_lt (a := 7) (b := f.toInt) (by decide) rfl).mpr c2
      refine lv_aload_n hx hb dX1_isWellFormed_10 rfl (lv_at hl 0 rfl) ?_
      refine va_get (D := D) (ci := 1) (v := .ref wo) (C := RX1) (T := TX1) (N := 15) hx hb hts (fun _ h => List.mem_cons_of_mem _ (List.mem_append_left _ (List.mem_append_right _ h))) hown hK hP 0 rfl rfl 0 (by decide) (hts (.fieldLink RX1 43 "TalePlay$Book" "world" "LTalePlay$World;") (by decide +kernel)) (fun _ h9 => h9) rfl dX1_isWellFormed_11 ?_
      refine lv_iload_n hx hb dX1_isWellFormed_14 rfl (lv_at hl 2 rfl) ?_
      have hPc := hP.sub (ws' := [(wo, .inr (10, [.ref wp, .ref ws_, .ref wd, .ref wk, .ref wz, .int 6, .int 0]))]) [1] rfl
      have hKc := hK.sub (tys' := []) [] rfl
      refine ro_calli (va_runV (As := [.int a]) (rest := []) ⟨hx, hb, hml, hown, hts⟩ (c_X10_hasObject l D s.heap.size wo wp ws_ wd wk wz a) (cwV 1 hts gm_X1_isWellFormed_X10_hasObject rfl rfl rfl (by decide +kernel) ⟨Nat.le_of_ble_eq_true rfl, Nat.le_of_ble_eq_true rfl⟩) (pA_V hKc hPc (ci := 10) (q0 := 0) rfl rfl) rfl rfl hl.1 rfl (lv_room (Nat.le_of_ble_eq_true rfl)) dX1_isWellFormed_15 ⟨Nat.le_of_ble_eq_true rfl, Nat.le_of_ble_eq_true rfl⟩) hS hA hP (fun r3 u3 H locs hw3 hP hS => ?_)
      have hw3 : r3 = 0 := hw3
      subst hw3
      refine lv_if_ne (tgt := 23) hx hb dX1_isWellFormed_18 (by decide) (fun q9 => absurd q9 (by decide)) (fun _ => ?_)
      refine lv_iconst (v := 0) hx hb dX1_isWellFormed_21 (by decide) ?_
      exact ro_zret hx hb hr hlocks hS rfl dX1_isWellFormed_22 rfl

def wm_X3_open : List Cond := .code yX3_open cX3_open 3 (some .int) :: (([.fieldLink RX3 9 "TalePlay$Casts" "sorts" "[I", .fieldLink RX3 27 "TalePlay$Casts" "made" "I", .fieldLink RX3 15 "TalePlay$Casts" "lengths" "[I"] : List Cond) ++ wsX30)
set_option maxHeartbeats 4000000 in
set_option maxRecDepth 100000 in
theorem c_X3_open (l : Launch) (D : va_G) (sz : Nat) (ca : Nat) (k0 : Nat) (k1 : Nat) (k2 : Nat) (cC0 : ClassId) (fc0 : Nat → Int32) (cC1 : ClassId) (fc1 : Nat → Int32) (o : Int32) (n : Int32) : Met l yX3_open wm_X3_open ({ frames := 0, cells := 0, slots := 0, locals := 0 }) (va_Pc [.ref ca, .int o, .int n] (pB D sz [(ca, .inr (3, [.ref k0, .ref k1, .ref k2, .int 0])), (k0, .inl (cC0, 10, .inl fc0)), (k1, .inl (cC1, 10, .inl fc1))] [(cC0, .int), (cC1, .int)])) (va_Qi (fun (r : Int32) (_ : Unit) => r = 0) (oC D (va_A [(ca, .inr (3, [.ref k0, .ref k1, .ref k2, .int 0])), (k0, .inl (cC0, 10, .inl fc0)), (k1, .inl (cC1, 10, .inl fc1))] sz) (fun _ => []) (fun _ => [])) (va_A [(ca, .inr (3, [.ref k0, .ref k1, .ref k2, .int 0])), (k0, .inl (cC0, 10, .inl fc0)), (k1, .inl (cC1, 10, .inl fc1))] sz)) 0 0 (va_A [(ca, .inr (3, [.ref k0, .ref k1, .ref k2, .int 0])), (k0, .inl (cC0, 10, .inl fc0)), (k1, .inl (cC1, 10, .inl fc1))] sz) := by
  refine Met.ofW (cc := cX3_open) (maxL := 3) (ret := (some .int)) (by decide) rfl ?_
  intro p e s m args below meth c s₁ B hml hv
  obtain ⟨rfl, hsz, hP, hK, hD0⟩ := hv
  have hx := B.exec
  have hb := B.bytes
  have hr := B.returns
  have hts := atoms_spec (ws := wm_X3_open) B.pre
  have hown : s.vm.findClass RX3 = some m.cls := findClass_of_methodNamed B.named
  have hlocks := B.notSynchronized
  subst hsz
  have hD := hD0.self (sz := s.heap.size)
  generalize hAe : va_A [(ca, .inr (3, [.ref k0, .ref k1, .ref k2, .int 0])), (k0, .inl (cC0, 10, .inl fc0)), (k1, .inl (cC1, 10, .inl fc1))] s.heap.size = A at hD ⊢
  have hA : ∀ q : Nat, s.heap.size ≤ q → A q := fun q h => by rw [← hAe]; exact Or.inr h
  have hS : va_S A s.heap s.heap [] := va_S.rf
  have hP : va_P D vwCl [(ca, .inr (3, [.ref k0, .ref k1, .ref k2, .int 0])), (k0, .inl (cC0, 10, .inl fc0)), (k1, .inl (cC1, 10, .inl fc1))] s.heap := hP
  have hl := lv_entry ([.ref ca, .int o, .int n]) (n := 3) (Nat.le_of_ble_eq_true rfl)
  rw [lg_entry_eq]
  generalize (lg_sl ([.ref ca, .int o, .int n]) ++ List.replicate (3 - (lg_sl ([.ref ca, .int o, .int n])).length) Slot.unset).toArray = ls at hl ⊢
  have hl : lv_has ls 3 [(0, .ref ca), (1, .int o), (2, .int n)] := hl
  refine lv_aload_n hx hb dX3_open_0 rfl (lv_at hl 0 rfl) ?_
  refine va_get (D := D) (ci := 3) (v := .ref k0) (C := RX3) (T := TX3) (N := 4) hx hb hts (fun _ h => List.mem_cons_of_mem _ (List.mem_append_right _ h)) hown hK hP 0 rfl rfl 0 (by decide) (hts (.fieldLink RX3 9 "TalePlay$Casts" "sorts" "[I") (by decide +kernel)) (fun _ h9 => h9) rfl dX3_open_1 ?_
  refine lv_aload_n hx hb dX3_open_4 rfl (lv_at hl 0 rfl) ?_
  refine va_get (D := D) (ci := 3) (v := .int 0) (C := RX3) (T := TX3) (N := 4) hx hb hts (fun _ h => List.mem_cons_of_mem _ (List.mem_append_right _ h)) hown hK hP 0 rfl rfl 3 (by decide) (hts (.fieldLink RX3 27 "TalePlay$Casts" "made" "I") (by decide +kernel)) (fun _ h9 => h9) rfl dX3_open_5 ?_
  refine lv_iload_n hx hb dX3_open_8 rfl (lv_at hl 1 rfl) ?_
  refine va_iast hx hb hK hP hD hS 1 0 rfl rfl (show vp_in 0 10 from by unfold vp_in; decide) dX3_open_9 (fun H locs hP hD hS => ?_)
  have hP : va_P D vwCl [(ca, .inr (3, [.ref k0, .ref k1, .ref k2, .int 0])), (k0, .inl (cC0, 10, .inl (upd fc0 (0 : Int32).toNatClampNeg o))), (k1, .inl (cC1, 10, .inl fc1))] H := hP
  have hD : va_D A [(ca, .inr (3, [.ref k0, .ref k1, .ref k2, .int 0])), (k0, .inl (cC0, 10, .inl (upd fc0 (0 : Int32).toNatClampNeg o))), (k1, .inl (cC1, 10, .inl fc1))] := hD
  refine lv_aload_n hx hb dX3_open_10 rfl (lv_at hl 0 rfl) ?_
  refine va_get (D := D) (ci := 3) (v := .ref k1) (C := RX3) (T := TX3) (N := 4) hx hb hts (fun _ h => List.mem_cons_of_mem _ (List.mem_append_right _ h)) hown hK hP 0 rfl rfl 1 (by decide) (hts (.fieldLink RX3 15 "TalePlay$Casts" "lengths" "[I") (by decide +kernel)) (fun _ h9 => h9) rfl dX3_open_11 ?_
  refine lv_aload_n hx hb dX3_open_14 rfl (lv_at hl 0 rfl) ?_
  refine va_get (D := D) (ci := 3) (v := .int 0) (C := RX3) (T := TX3) (N := 4) hx hb hts (fun _ h => List.mem_cons_of_mem _ (List.mem_append_right _ h)) hown hK hP 0 rfl rfl 3 (by decide) (hts (.fieldLink RX3 27 "TalePlay$Casts" "made" "I") (by decide +kernel)) (fun _ h9 => h9) rfl dX3_open_15 ?_
  refine lv_iload_n hx hb dX3_open_18 rfl (lv_at hl 2 rfl) ?_
  refine va_iast hx hb hK hP hD hS 2 1 rfl rfl (show vp_in 0 10 from by unfold vp_in; decide) dX3_open_19 (fun H locs hP hD hS => ?_)
  have hP : va_P D vwCl [(ca, .inr (3, [.ref k0, .ref k1, .ref k2, .int 0])), (k0, .inl (cC0, 10, .inl (upd fc0 (0 : Int32).toNatClampNeg o))), (k1, .inl (cC1, 10, .inl (upd fc1 (0 : Int32).toNatClampNeg n)))] H := hP
  have hD : va_D A [(ca, .inr (3, [.ref k0, .ref k1, .ref k2, .int 0])), (k0, .inl (cC0, 10, .inl (upd fc0 (0 : Int32).toNatClampNeg o))), (k1, .inl (cC1, 10, .inl (upd fc1 (0 : Int32).toNatClampNeg n)))] := hD
  refine lv_aload_n hx hb dX3_open_20 rfl (lv_at hl 0 rfl) ?_
  refine lv_dup hx hb dX3_open_21 rfl ?_
  refine va_get (D := D) (ci := 3) (v := .int 0) (C := RX3) (T := TX3) (N := 4) hx hb hts (fun _ h => List.mem_cons_of_mem _ (List.mem_append_right _ h)) hown hK hP 0 rfl rfl 3 (by decide) (hts (.fieldLink RX3 27 "TalePlay$Casts" "made" "I") (by decide +kernel)) (fun _ h9 => h9) rfl dX3_open_22 ?_
  refine lv_dup_x1 hx hb dX3_open_25 rfl rfl ?_
  refine lv_iconst (v := 1) hx hb dX3_open_26 (by decide) ?_
  refine lv_iadd hx hb dX3_open_27 ?_
  refine tp_i (y := 1) (by decide) ?_
  refine va_put (D := D) (ci := 3) (v := .int 1) (ty := .int) (C := RX3) (T := TX3) (N := 4) hx hb hts (fun _ h => List.mem_cons_of_mem _ (List.mem_append_right _ h)) tyX3 tyX3_ok nmX3 hown hK hP hD hS 0 rfl rfl 3 (by decide) (hts (.fieldLink RX3 27 "TalePlay$Casts" "made" "I") (by decide +kernel)) (fun _ h9 => h9) rfl (by decide +kernel) rfl rfl (Nat.le_of_ble_eq_true rfl) dX3_open_28 (fun H locs hP hD hS => ?_)
  have hP : va_P D vwCl [(ca, .inr (3, [.ref k0, .ref k1, .ref k2, .int 1])), (k0, .inl (cC0, 10, .inl (upd fc0 (0 : Int32).toNatClampNeg o))), (k1, .inl (cC1, 10, .inl (upd fc1 (0 : Int32).toNatClampNeg n)))] H := hP
  have hD : va_D A [(ca, .inr (3, [.ref k0, .ref k1, .ref k2, .int 1])), (k0, .inl (cC0, 10, .inl (upd fc0 (0 : Int32).toNatClampNeg o))), (k1, .inl (cC1, 10, .inl (upd fc1 (0 : Int32).toNatClampNeg n)))] := hD
  exact rw_iret () hx hb hr hlocks hS (hK.sub (tys' := []) [] rfl) (hP.sub (ws' := []) [] rfl) (hD.sub (ws' := []) [] (by decide) rfl) dX3_open_31 rfl

def wm_X11_answerFinding : List Cond := .code yX11_answerFinding cX11_answerFinding 2 (some .int) :: (([.fieldLink RX11 72 "TalePlay" "latestFinding" "I", .fieldLink RX11 68 "TalePlay" "findingCounts" "[I"] : List Cond) ++ wsX110)
set_option maxHeartbeats 4000000 in
set_option maxRecDepth 100000 in
theorem c_X11_answerFinding (l : Launch) (D : va_G) (sz : Nat) (x0 : Nat) (wo : Nat) (bo : Nat) (ro_ : Nat) (bu : Nat) (ta : Nat) (li : Nat) (ca : Nat) (fc : Nat) (cF : ClassId) : Met l yX11_answerFinding wm_X11_answerFinding ({ frames := 0, cells := 0, slots := 0, locals := 0 }) (va_Pc [.ref x0, .int 5] (pB D sz [(x0, .inr (11, [.ref wo, .ref bo, .ref ro_, .ref bu, .ref ta, .ref li, .ref ca, .null, .ref fc, .int 0, .long 0])), (fc, .inl (cF, 7, .inl (fun _ => 0)))] [(cF, .int)])) (va_Qi (fun (r : Int32) (_ : Unit) => r = (-3)) (oC D (va_A [(x0, .inr (11, [.ref wo, .ref bo, .ref ro_, .ref bu, .ref ta, .ref li, .ref ca, .null, .ref fc, .int 0, .long 0])), (fc, .inl (cF, 7, .inl (fun _ => 0)))] sz) (fun _ => []) (fun _ => [])) (va_A [(x0, .inr (11, [.ref wo, .ref bo, .ref ro_, .ref bu, .ref ta, .ref li, .ref ca, .null, .ref fc, .int 0, .long 0])), (fc, .inl (cF, 7, .inl (fun _ => 0)))] sz)) 0 0 (va_A [(x0, .inr (11, [.ref wo, .ref bo, .ref ro_, .ref bu, .ref ta, .ref li, .ref ca, .null, .ref fc, .int 0, .long 0])), (fc, .inl (cF, 7, .inl (fun _ => 0)))] sz) := by
  refine Met.ofW (cc := cX11_answerFinding) (maxL := 2) (ret := (some .int)) (by decide) rfl ?_
  intro p e s m args below meth c s₁ B hml hv
  obtain ⟨rfl, hsz, hP, hK, hD0⟩ := hv
  have hx := B.exec
  have hb := B.bytes
  have hr := B.returns
  have hts := atoms_spec (ws := wm_X11_answerFinding) B.pre
  have hown : s.vm.findClass RX11 = some m.cls := findClass_of_methodNamed B.named
  have hlocks := B.notSynchronized
  subst hsz
  have hD := hD0.self (sz := s.heap.size)
  generalize hAe : va_A [(x0, .inr (11, [.ref wo, .ref bo, .ref ro_, .ref bu, .ref ta, .ref li, .ref ca, .null, .ref fc, .int 0, .long 0])), (fc, .inl (cF, 7, .inl (fun _ => 0)))] s.heap.size = A at hD ⊢
  have hA : ∀ q : Nat, s.heap.size ≤ q → A q := fun q h => by rw [← hAe]; exact Or.inr h
  have hS : va_S A s.heap s.heap [] := va_S.rf
  have hP : va_P D vwCl [(x0, .inr (11, [.ref wo, .ref bo, .ref ro_, .ref bu, .ref ta, .ref li, .ref ca, .null, .ref fc, .int 0, .long 0])), (fc, .inl (cF, 7, .inl (fun _ => 0)))] s.heap := hP
  have hl := lv_entry ([.ref x0, .int 5]) (n := 2) (Nat.le_of_ble_eq_true rfl)
  rw [lg_entry_eq]
  generalize (lg_sl ([.ref x0, .int 5]) ++ List.replicate (2 - (lg_sl ([.ref x0, .int 5])).length) Slot.unset).toArray = ls at hl ⊢
  have hl : lv_has ls 2 [(0, .ref x0), (1, .int 5)] := hl
  refine lv_aload_n hx hb dX11_answerFinding_0 rfl (lv_at hl 0 rfl) ?_
  refine lv_iload_n hx hb dX11_answerFinding_1 rfl (lv_at hl 1 rfl) ?_
  refine va_put (D := D) (ci := 11) (v := .int 5) (ty := .int) (C := RX11) (T := TX11) (N := 11) hx hb hts (fun _ h => List.mem_cons_of_mem _ (List.mem_append_right _ h)) tyX11 tyX11_ok nmX11 hown hK hP hD hS 0 rfl rfl 9 (by decide) (hts (.fieldLink RX11 72 "TalePlay" "latestFinding" "I") (by decide +kernel)) (fun _ h9 => h9) rfl (by decide +kernel) rfl rfl (Nat.le_of_ble_eq_true rfl) dX11_answerFinding_2 (fun H locs hP hD hS => ?_)
  have hP : va_P D vwCl [(x0, .inr (11, [.ref wo, .ref bo, .ref ro_, .ref bu, .ref ta, .ref li, .ref ca, .null, .ref fc, .int 5, .long 0])), (fc, .inl (cF, 7, .inl (fun _ => 0)))] H := hP
  have hD : va_D A [(x0, .inr (11, [.ref wo, .ref bo, .ref ro_, .ref bu, .ref ta, .ref li, .ref ca, .null, .ref fc, .int 5, .long 0])), (fc, .inl (cF, 7, .inl (fun _ => 0)))] := hD
  refine lv_aload_n hx hb dX11_answerFinding_5 rfl (lv_at hl 0 rfl) ?_
  refine va_get (D := D) (ci := 11) (v := .ref fc) (C := RX11) (T := TX11) (N := 11) hx hb hts (fun _ h => List.mem_cons_of_mem _ (List.mem_append_right _ h)) hown hK hP 0 rfl rfl 8 (by decide) (hts (.fieldLink RX11 68 "TalePlay" "findingCounts" "[I") (by decide +kernel)) (fun _ h9 => h9) rfl dX11_answerFinding_6 ?_
  refine lv_iload_n hx hb dX11_answerFinding_9 rfl (lv_at hl 1 rfl) ?_
  refine lv_dup2_11 hx hb dX11_answerFinding_10 rfl rfl ?_
  refine va_iald hx hb hK hP 1 0 rfl rfl (show vp_in 5 7 from by unfold vp_in; decide) dX11_answerFinding_11 ?_
  refine tp_i (y := 0) rfl ?_
  refine lv_iconst (v := 1) hx hb dX11_answerFinding_12 (by decide) ?_
  refine lv_iadd hx hb dX11_answerFinding_13 ?_
  refine tp_i (y := 1) (by decide) ?_
  refine va_iast hx hb hK hP hD hS 1 0 rfl rfl (show vp_in 5 7 from by unfold vp_in; decide) dX11_answerFinding_14 (fun H locs hP hD hS => ?_)
  have hP : va_P D vwCl [(x0, .inr (11, [.ref wo, .ref bo, .ref ro_, .ref bu, .ref ta, .ref li, .ref ca, .null, .ref fc, .int 5, .long 0])), (fc, .inl (cF, 7, .inl (upd (fun _ => 0) (5 : Int32).toNatClampNeg 1)))] H := hP
  have hD : va_D A [(x0, .inr (11, [.ref wo, .ref bo, .ref ro_, .ref bu, .ref ta, .ref li, .ref ca, .null, .ref fc, .int 5, .long 0])), (fc, .inl (cF, 7, .inl (upd (fun _ => 0) (5 : Int32).toNatClampNeg 1)))] := hD
  refine lv_bipush (v := (-3)) hx hb dX11_answerFinding_15 (by decide) ?_
  exact rw_iret () hx hb hr hlocks hS (hK.sub (tys' := []) [] rfl) (hP.sub (ws' := []) [] rfl) (hD.sub (ws' := []) [] (by decide) rfl) dX11_answerFinding_17 rfl

def wm_X11_refuseRooms : List Cond := .code yX11_refuseRooms cX11_refuseRooms 3 (some .int) :: (([.fieldLink RX11 10 "TalePlay" "world" "LTalePlay$World;", .methodLink RX11 109 yX10_hasObject, .instanceMethod yX10_hasObject, .selects RX10 yX10_hasObject yX10_hasObject, .initialized RX10, .code yX10_hasObject cX10_hasObject 2 (some .boolean), .fieldLink RX10 37 "TalePlay$World" "objects" "I"] : List Cond) ++ wsX110 ++ wsX100)
set_option maxRecDepth 20000 in
theorem gm_X11_refuseRooms_X10_hasObject : GoodIn wm_X11_refuseRooms (wsV RX11 109 RX10 yX10_hasObject wm_X10_hasObject) := goodIn_app (goodIn_of _ (by decide +kernel)) (goodIn_r _ [6, 7, 19, 20, 21, 22, 23, 24, 25] (by decide +kernel) (by decide +kernel))
set_option maxHeartbeats 4000000 in
set_option maxRecDepth 100000 in
theorem c_X11_refuseRooms (l : Launch) (D : va_G) (sz : Nat) (x0 : Nat) (wo : Nat) (bo : Nat) (ro_ : Nat) (bu : Nat) (ta : Nat) (li : Nat) (ca : Nat) (fc : Nat) (wp : Nat) (ws_ : Nat) (wd : Nat) (wk : Nat) (wz : Nat) (a : Int32) (b : Int32) : Met l yX11_refuseRooms wm_X11_refuseRooms ({ frames := 1, cells := 0, slots := 0, locals := 21 }) (va_Pc [.ref x0, .int a, .int b] (pA D sz [(x0, .inr (11, [.ref wo, .ref bo, .ref ro_, .ref bu, .ref ta, .ref li, .ref ca, .null, .ref fc, .int 0, .long 0])), (wo, .inr (10, [.ref wp, .ref ws_, .ref wd, .ref wk, .ref wz, .int 6, .int 0]))] [])) (va_Qi (fun (r : Int32) (_ : Unit) => r = (-1)) oA (ro sz)) 0 0 (ro sz) := by
  refine Met.ofW (cc := cX11_refuseRooms) (maxL := 3) (ret := (some .int)) (by decide) rfl ?_
  intro p e s m args below meth c s₁ B hml hv
  obtain ⟨rfl, hsz, hP, hK⟩ := hv
  have hx := B.exec
  have hb := B.bytes
  have hr := B.returns
  have hts := atoms_spec (ws := wm_X11_refuseRooms) B.pre
  have hown : s.vm.findClass RX11 = some m.cls := findClass_of_methodNamed B.named
  have hlocks := B.notSynchronized
  subst hsz
  have hA : ∀ q : Nat, s.heap.size ≤ q → ro s.heap.size q := fun _ h => h
  have hS : va_S (ro s.heap.size) s.heap s.heap [] := va_S.rf
  have hP : va_P D vwCl [(x0, .inr (11, [.ref wo, .ref bo, .ref ro_, .ref bu, .ref ta, .ref li, .ref ca, .null, .ref fc, .int 0, .long 0])), (wo, .inr (10, [.ref wp, .ref ws_, .ref wd, .ref wk, .ref wz, .int 6, .int 0]))] s.heap := hP
  have hl := lv_entry ([.ref x0, .int a, .int b]) (n := 3) (Nat.le_of_ble_eq_true rfl)
  rw [lg_entry_eq]
  generalize (lg_sl ([.ref x0, .int a, .int b]) ++ List.replicate (3 - (lg_sl ([.ref x0, .int a, .int b])).length) Slot.unset).toArray = ls at hl ⊢
  have hl : lv_has ls 3 [(0, .ref x0), (1, .int a), (2, .int b)] := hl
  refine lv_aload_n hx hb dX11_refuseRooms_0 rfl (lv_at hl 0 rfl) ?_
  refine va_get (D := D) (ci := 11) (v := .ref wo) (C := RX11) (T := TX11) (N := 11) hx hb hts (fun _ h => List.mem_cons_of_mem _ (List.mem_append_left _ (List.mem_append_right _ h))) hown hK hP 0 rfl rfl 0 (by decide) (hts (.fieldLink RX11 10 "TalePlay" "world" "LTalePlay$World;") (by decide +kernel)) (fun _ h9 => h9) rfl dX11_refuseRooms_1 ?_
  refine lv_iload_n hx hb dX11_refuseRooms_4 rfl (lv_at hl 1 rfl) ?_
  have hPc := hP.sub (ws' := [(wo, .inr (10, [.ref wp, .ref ws_, .ref wd, .ref wk, .ref wz, .int 6, .int 0]))]) [1] rfl
  have hKc := hK.sub (tys' := []) [] rfl
  refine ro_calli (va_runV (As := [.int a]) (rest := []) ⟨hx, hb, hml, hown, hts⟩ (c_X10_hasObject l D s.heap.size wo wp ws_ wd wk wz a) (cwV 1 hts gm_X11_refuseRooms_X10_hasObject rfl rfl rfl (by decide +kernel) ⟨Nat.le_of_ble_eq_true rfl, Nat.le_of_ble_eq_true rfl⟩) (pA_V hKc hPc (ci := 10) (q0 := 0) rfl rfl) rfl rfl hl.1 rfl (lv_room (Nat.le_of_ble_eq_true rfl)) dX11_refuseRooms_5 ⟨Nat.le_of_ble_eq_true rfl, Nat.le_of_ble_eq_true rfl⟩) hS hA hP (fun r1 u1 H locs hw1 hP hS => ?_)
  have hw1 : r1 = 0 := hw1
  subst hw1
  refine lv_if_eq (tgt := 22) hx hb dX11_refuseRooms_8 (by decide) (fun _ => ?_) (fun q9 => absurd (by decide) q9)
  refine lv_iconst (v := (-1)) hx hb dX11_refuseRooms_22 (by decide) ?_
  exact ro_iret hx hb hr hlocks hS dX11_refuseRooms_23 rfl

def wm_X11_refuseItem : List Cond := .code yX11_refuseItem cX11_refuseItem 4 (some .int) :: (([.fieldLink RX11 10 "TalePlay" "world" "LTalePlay$World;", .methodLink RX11 109 yX10_hasObject, .instanceMethod yX10_hasObject, .selects RX10 yX10_hasObject yX10_hasObject, .initialized RX10, .code yX10_hasObject cX10_hasObject 2 (some .boolean), .fieldLink RX10 37 "TalePlay$World" "objects" "I"] : List Cond) ++ wsX110 ++ wsX100)
set_option maxRecDepth 20000 in
theorem gm_X11_refuseItem_X10_hasObject : GoodIn wm_X11_refuseItem (wsV RX11 109 RX10 yX10_hasObject wm_X10_hasObject) := goodIn_app (goodIn_of _ (by decide +kernel)) (goodIn_r _ [6, 7, 19, 20, 21, 22, 23, 24, 25] (by decide +kernel) (by decide +kernel))
set_option maxHeartbeats 4000000 in
set_option maxRecDepth 100000 in
theorem c_X11_refuseItem (l : Launch) (D : va_G) (sz : Nat) (x0 : Nat) (wo : Nat) (bo : Nat) (ro_ : Nat) (bu : Nat) (ta : Nat) (li : Nat) (ca : Nat) (fc : Nat) (wp : Nat) (ws_ : Nat) (wd : Nat) (wk : Nat) (wz : Nat) (a : Int32) (b : Int32) (i : Int32) : Met l yX11_refuseItem wm_X11_refuseItem ({ frames := 1, cells := 0, slots := 0, locals := 21 }) (va_Pc [.ref x0, .int a, .int b, .int i] (pA D sz [(x0, .inr (11, [.ref wo, .ref bo, .ref ro_, .ref bu, .ref ta, .ref li, .ref ca, .null, .ref fc, .int 0, .long 0])), (wo, .inr (10, [.ref wp, .ref ws_, .ref wd, .ref wk, .ref wz, .int 6, .int 0]))] [])) (va_Qi (fun (r : Int32) (_ : Unit) => r = (-1)) oA (ro sz)) 0 0 (ro sz) := by
  refine Met.ofW (cc := cX11_refuseItem) (maxL := 4) (ret := (some .int)) (by decide) rfl ?_
  intro p e s m args below meth c s₁ B hml hv
  obtain ⟨rfl, hsz, hP, hK⟩ := hv
  have hx := B.exec
  have hb := B.bytes
  have hr := B.returns
  have hts := atoms_spec (ws := wm_X11_refuseItem) B.pre
  have hown : s.vm.findClass RX11 = some m.cls := findClass_of_methodNamed B.named
  have hlocks := B.notSynchronized
  subst hsz
  have hA : ∀ q : Nat, s.heap.size ≤ q → ro s.heap.size q := fun _ h => h
  have hS : va_S (ro s.heap.size) s.heap s.heap [] := va_S.rf
  have hP : va_P D vwCl [(x0, .inr (11, [.ref wo, .ref bo, .ref ro_, .ref bu, .ref ta, .ref li, .ref ca, .null, .ref fc, .int 0, .long 0])), (wo, .inr (10, [.ref wp, .ref ws_, .ref wd, .ref wk, .ref wz, .int 6, .int 0]))] s.heap := hP
  have hl := lv_entry ([.ref x0, .int a, .int b, .int i]) (n := 4) (Nat.le_of_ble_eq_true rfl)
  rw [lg_entry_eq]
  generalize (lg_sl ([.ref x0, .int a, .int b, .int i]) ++ List.replicate (4 - (lg_sl ([.ref x0, .int a, .int b, .int i])).length) Slot.unset).toArray = ls at hl ⊢
  have hl : lv_has ls 4 [(0, .ref x0), (1, .int a), (2, .int b), (3, .int i)] := hl
  refine lv_aload_n hx hb dX11_refuseItem_0 rfl (lv_at hl 0 rfl) ?_
  refine va_get (D := D) (ci := 11) (v := .ref wo) (C := RX11) (T := TX11) (N := 11) hx hb hts (fun _ h => List.mem_cons_of_mem _ (List.mem_append_left _ (List.mem_append_right _ h))) hown hK hP 0 rfl rfl 0 (by decide) (hts (.fieldLink RX11 10 "TalePlay" "world" "LTalePlay$World;") (by decide +kernel)) (fun _ h9 => h9) rfl dX11_refuseItem_1 ?_
  refine lv_iload_n hx hb dX11_refuseItem_4 rfl (lv_at hl 1 rfl) ?_
  have hPc := hP.sub (ws' := [(wo, .inr (10, [.ref wp, .ref ws_, .ref wd, .ref wk, .ref wz, .int 6, .int 0]))]) [1] rfl
  have hKc := hK.sub (tys' := []) [] rfl
  refine ro_calli (va_runV (As := [.int a]) (rest := []) ⟨hx, hb, hml, hown, hts⟩ (c_X10_hasObject l D s.heap.size wo wp ws_ wd wk wz a) (cwV 1 hts gm_X11_refuseItem_X10_hasObject rfl rfl rfl (by decide +kernel) ⟨Nat.le_of_ble_eq_true rfl, Nat.le_of_ble_eq_true rfl⟩) (pA_V hKc hPc (ci := 10) (q0 := 0) rfl rfl) rfl rfl hl.1 rfl (lv_room (Nat.le_of_ble_eq_true rfl)) dX11_refuseItem_5 ⟨Nat.le_of_ble_eq_true rfl, Nat.le_of_ble_eq_true rfl⟩) hS hA hP (fun r1 u1 H locs hw1 hP hS => ?_)
  have hw1 : r1 = 0 := hw1
  subst hw1
  refine lv_if_eq (tgt := 19) hx hb dX11_refuseItem_8 (by decide) (fun _ => ?_) (fun q9 => absurd (by decide) q9)
  refine lv_iconst (v := (-1)) hx hb dX11_refuseItem_19 (by decide) ?_
  exact ro_iret hx hb hr hlocks hS dX11_refuseItem_20 rfl

