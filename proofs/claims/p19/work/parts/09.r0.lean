def wm_X12_in : List Cond := .code yX12_in cX12_in 6 (some .boolean) :: (([] : List Cond))
set_option maxHeartbeats 4000000 in
set_option maxRecDepth 100000 in
/-- in(v, lo, hi) -/
theorem c_X12_in (l : Launch) (D : va_G) (sz : Nat) (v : Int64) (lo : Int64) (hi : Int64) (a : Int) (b : Int) (d : Int) (ha : v.toInt = a) (hb_ : lo.toInt = b) (hd_ : hi.toInt = d) : Met l yX12_in wm_X12_in ({ frames := 0, cells := 0, slots := 0, locals := 0 }) (va_Pc [.long v, .long lo, .long hi] (pA D sz [] [])) (va_Qi (fun (r : Int32) (_ : Unit) => r = if (b ≤ a ∧ a ≤ d) then 1 else 0) oA (ro sz)) 0 0 (ro sz) := by
  refine Met.ofW (cc := cX12_in) (maxL := 6) (ret := (some .boolean)) (by decide +kernel) rfl ?_
  intro p e s m args below meth c s₁ B hml hv
  obtain ⟨rfl, hsz, hP, hK⟩ := hv
  have hx := B.exec
  have hb := B.bytes
  have hr := B.returns
  have hts := atoms_spec (ws := wm_X12_in) B.pre
  have hown : s.vm.findClass RX12 = some m.cls := findClass_of_methodNamed B.named
  have hlocks := B.notSynchronized
  subst hsz
  have hA : ∀ q : Nat, s.heap.size ≤ q → ro s.heap.size q := fun _ h => h
  have hS : va_S (ro s.heap.size) s.heap s.heap [] := va_S.rf
  have hP : va_P D vwCl [] s.heap := hP
  have hl := lv_entry ([.long v, .long lo, .long hi]) (n := 6) (Nat.le_of_ble_eq_true rfl)
  rw [lg_entry_eq]
  generalize (lg_sl ([.long v, .long lo, .long hi]) ++ List.replicate (6 - (lg_sl ([.long v, .long lo, .long hi])).length) Slot.unset).toArray = ls at hl ⊢
  have hl : lv_has ls 6 [(0, .long v), (2, .long lo), (4, .long hi)] := hl
  refine lv_lload_n hx hb dX12_in_0 rfl (lv_at hl 0 rfl) ?_
  refine lv_lload_n hx hb dX12_in_1 rfl (lv_at hl 1 rfl) ?_
  refine W.lcmp hx hb dX12_in_2 ?_
  refine lv_if_lt (tgt := 17) hx hb dX12_in_3 (by decide +kernel) (fun c1 => ?_) (fun c1 => ?_)
  · have f1 := (lc_lt (a := a) (b := b) ha hb_).mp c1
    refine lv_iconst (v := 0) hx hb dX12_in_17 (by decide +kernel) ?_
    exact ro_zret hx hb hr hlocks hS rfl dX12_in_18 (by show _ = _; rw [if_neg (by omega)])
  · have f1 := mt (lc_lt (a := a) (b := b) ha hb_).mpr c1
    refine lv_lload_n hx hb dX12_in_6 rfl (lv_at hl 0 rfl) ?_
    refine lv_lload hx hb dX12_in_7 (lv_at hl 2 rfl) ?_
    refine W.lcmp hx hb dX12_in_9 ?_
    refine lv_if_gt (tgt := 17) hx hb dX12_in_10 (by decide +kernel) (fun c2 => ?_) (fun c2 => ?_)
    · have f2 := (lc_gt (a := a) (b := d) ha hd_).mp c2
      refine lv_iconst (v := 0) hx hb dX12_in_17 (by decide +kernel) ?_
      exact ro_zret hx hb hr hlocks hS rfl dX12_in_18 (by show _ = _; rw [if_neg (by omega)])
    · have f2 := mt (lc_gt (a := a) (b := d) ha hd_).mpr c2
      refine lv_iconst (v := 1) hx hb dX12_in_13 (by decide +kernel) ?_
      refine lv_goto (tgt := 18) hx hb dX12_in_14 (by decide +kernel) ?_
      exact ro_zret hx hb hr hlocks hS rfl dX12_in_18 (by show _ = _; rw [if_pos (by omega)])

def wm_X12_hasSecond : List Cond := .code yX12_hasSecond cX12_hasSecond 1 (some .boolean) :: (([] : List Cond))
set_option maxHeartbeats 4000000 in
set_option maxRecDepth 100000 in
theorem c_X12_hasSecond (l : Launch) (D : va_G) (sz : Nat) (v : Int32) : Met l yX12_hasSecond wm_X12_hasSecond ({ frames := 0, cells := 0, slots := 0, locals := 0 }) (va_Pc [.int v] (pA D sz [] [])) (va_Qi (fun (r : Int32) (_ : Unit) => r = if (v.toInt = 3 ∨ v.toInt = 4 ∨ v.toInt = 7 ∨ v.toInt = 8) then 1 else 0) oA (ro sz)) 0 0 (ro sz) := by
  refine Met.ofW (cc := cX12_hasSecond) (maxL := 1) (ret := (some .boolean)) (by decide +kernel) rfl ?_
  intro p e s m args below meth c s₁ B hml hv
  obtain ⟨rfl, hsz, hP, hK⟩ := hv
  have hx := B.exec
  have hb := B.bytes
  have hr := B.returns
  have hts := atoms_spec (ws := wm_X12_hasSecond) B.pre
  have hown : s.vm.findClass RX12 = some m.cls := findClass_of_methodNamed B.named
  have hlocks := B.notSynchronized
  subst hsz
  have hA : ∀ q : Nat, s.heap.size ≤ q → ro s.heap.size q := fun _ h => h
  have hS : va_S (ro s.heap.size) s.heap s.heap [] := va_S.rf
  have hP : va_P D vwCl [] s.heap := hP
  have hl := lv_entry ([.int v]) (n := 1) (Nat.le_of_ble_eq_true rfl)
  rw [lg_entry_eq]
  generalize (lg_sl ([.int v]) ++ List.replicate (1 - (lg_sl ([.int v])).length) Slot.unset).toArray = ls at hl ⊢
  have hl : lv_has ls 1 [(0, .int v)] := hl
  refine lv_iload_n hx hb dX12_hasSecond_0 rfl (lv_at hl 0 rfl) ?_
  refine lv_iconst (v := 3) hx hb dX12_hasSecond_1 (by decide +kernel) ?_
  refine lv_icmp_eq (tgt := 22) hx hb dX12_hasSecond_2 (by decide +kernel) (fun c1 => ?_) (fun c1 => ?_)
  · have f1 := (ti_eq (a := v.toInt) (b := 3) rfl (by decide +kernel)).mp c1
    refine lv_iconst (v := 1) hx hb dX12_hasSecond_22 (by decide +kernel) ?_
    refine lv_goto (tgt := 27) hx hb dX12_hasSecond_23 (by decide +kernel) ?_
    exact ro_zret hx hb hr hlocks hS rfl dX12_hasSecond_27 (by show _ = _; rw [if_pos (by omega)])
  · have f1 := mt (ti_eq (a := v.toInt) (b := 3) rfl (by decide +kernel)).mpr c1
    refine lv_iload_n hx hb dX12_hasSecond_5 rfl (lv_at hl 0 rfl) ?_
    refine lv_iconst (v := 4) hx hb dX12_hasSecond_6 (by decide +kernel) ?_
    refine lv_icmp_eq (tgt := 22) hx hb dX12_hasSecond_7 (by decide +kernel) (fun c2 => ?_) (fun c2 => ?_)
    · have f2 := (ti_eq (a := v.toInt) (b := 4) rfl (by decide +kernel)).mp c2
      refine lv_iconst (v := 1) hx hb dX12_hasSecond_22 (by decide +kernel) ?_
      refine lv_goto (tgt := 27) hx hb dX12_hasSecond_23 (by decide +kernel) ?_
      exact ro_zret hx hb hr hlocks hS rfl dX12_hasSecond_27 (by show _ = _; rw [if_pos (by omega)])
    · have f2 := mt (ti_eq (a := v.toInt) (b := 4) rfl (by decide +kernel)).mpr c2
      refine lv_iload_n hx hb dX12_hasSecond_10 rfl (lv_at hl 0 rfl) ?_
      refine lv_bipush (v := 7) hx hb dX12_hasSecond_11 (by decide +kernel) ?_
      refine lv_icmp_eq (tgt := 22) hx hb dX12_hasSecond_13 (by decide +kernel) (fun c3 => ?_) (fun c3 => ?_)
      · have f3 := (ti_eq (a := v.toInt) (b := 7) rfl (by decide +kernel)).mp c3
        refine lv_iconst (v := 1) hx hb dX12_hasSecond_22 (by decide +kernel) ?_
        refine lv_goto (tgt := 27) hx hb dX12_hasSecond_23 (by decide +kernel) ?_
        exact ro_zret hx hb hr hlocks hS rfl dX12_hasSecond_27 (by show _ = _; rw [if_pos (by omega)])
      · have f3 := mt (ti_eq (a := v.toInt) (b := 7) rfl (by decide +kernel)).mpr c3
        refine lv_iload_n hx hb dX12_hasSecond_16 rfl (lv_at hl 0 rfl) ?_
        refine lv_bipush (v := 8) hx hb dX12_hasSecond_17 (by decide +kernel) ?_
        refine lv_icmp_ne (tgt := 26) hx hb dX12_hasSecond_19 (by decide +kernel) (fun c4 => ?_) (fun c4 => ?_)
        · have f4 := mt (ti_eq (a := v.toInt) (b := 8) rfl (by decide +kernel)).mpr c4
          refine lv_iconst (v := 0) hx hb dX12_hasSecond_26 (by decide +kernel) ?_
          exact ro_zret hx hb hr hlocks hS rfl dX12_hasSecond_27 (by show _ = _; rw [if_neg (by omega)])
        · have f4 := (ti_eq (a := v.toInt) (b := 8) rfl (by decide +kernel)).mp c4
          refine lv_iconst (v := 1) hx hb dX12_hasSecond_22 (by decide +kernel) ?_
          refine lv_goto (tgt := 27) hx hb dX12_hasSecond_23 (by decide +kernel) ?_
          exact ro_zret hx hb hr hlocks hS rfl dX12_hasSecond_27 (by show _ = _; rw [if_pos (by omega)])

