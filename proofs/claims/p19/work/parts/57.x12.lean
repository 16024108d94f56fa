def wm_X6_flagged : List Cond := .code yX6_flagged cX6_flagged 4 (some .int) :: (([] : List Cond))
set_option maxHeartbeats 4000000 in
set_option maxRecDepth 100000 in
theorem c_X6_flagged (l : Launch) (D : va_G) (sz : Nat) (c1 : Int32) (f1 : Int32) (z : Int32) (a : Int) (b : Int) (ha : c1.toInt = a) (hb_ : f1.toInt = b) (g0 : 0 ≤ a ∧ a ≤ 16383) (g1 : 0 ≤ b ∧ b ≤ 5) : Met l yX6_flagged wm_X6_flagged ({ frames := 0, cells := 0, slots := 0, locals := 0 }) (va_Pc [.int c1, .int f1, .int z] (pA D sz [] [])) (va_Qi (fun (r : Int32) (_ : Unit) => 0 ≤ r.toInt ∧ r.toInt ≤ 16383 ∧ r.toInt % 256 = a % 256) oA (ro sz)) 0 0 (ro sz) := by
  refine Met.ofW (cc := cX6_flagged) (maxL := 4) (ret := (some .int)) (by decide +kernel) rfl ?_
  intro p e s m args below meth c s₁ B hml hv
  obtain ⟨rfl, hsz, hP, hK⟩ := hv
  have hx := B.exec
  have hb := B.bytes
  have hr := B.returns
  have hts := atoms_spec (ws := wm_X6_flagged) B.pre
  have hown : s.vm.findClass RX6 = some m.cls := findClass_of_methodNamed B.named
  have hlocks := B.notSynchronized
  subst hsz
  have hA : ∀ q : Nat, s.heap.size ≤ q → ro s.heap.size q := fun _ h => h
  have hS : va_S (ro s.heap.size) s.heap s.heap [] := va_S.rf
  have hP : va_P D vwCl [] s.heap := hP
  have hl := lv_entry ([.int c1, .int f1, .int z]) (n := 4) (Nat.le_of_ble_eq_true rfl)
  rw [lg_entry_eq]
  generalize (lg_sl ([.int c1, .int f1, .int z]) ++ List.replicate (4 - (lg_sl ([.int c1, .int f1, .int z])).length) Slot.unset).toArray = ls at hl ⊢
  have hl : lv_has ls 4 [(0, .int c1), (1, .int f1), (2, .int z)] := hl
  refine lv_iconst (v := 1) hx hb dX6_flagged_0 (by decide +kernel) ?_
  refine lv_bipush (v := 8) hx hb dX6_flagged_1 (by decide +kernel) ?_
  refine lv_iload_n hx hb dX6_flagged_3 rfl (lv_at hl 1 rfl) ?_
  refine lv_iadd hx hb dX6_flagged_4 ?_
  refine lv_topi (fun x1 ex1 => ?_)
  have tx1 := ti_add (a := 8) (b := b) ex1 (by decide +kernel) hb_ (by omega) (by omega)
  refine lv_ishl hx hb dX6_flagged_5 ?_
  refine lv_topi (fun x2 ex2 => ?_)
  refine lv_istore_n (lv' := [(3, .int x2), (0, .int c1), (1, .int f1), (2, .int z)]) hx hb dX6_flagged_6 rfl hl (by decide +kernel) rfl (fun ls hl => ?_)
  refine lv_iload_n hx hb dX6_flagged_7 rfl (lv_at hl 3 rfl) ?_
  refine lv_if_eq (tgt := 17) hx hb dX6_flagged_8 (by decide +kernel) (fun c3 => ?_) (fun c3 => ?_)
  · have f3 := (ti_eq (a := z.toInt) (b := 0) rfl (by decide +kernel)).mp c3
    refine lv_iload_n hx hb dX6_flagged_17 rfl (lv_at hl 1 rfl) ?_
    refine lv_iload_n hx hb dX6_flagged_18 rfl (lv_at hl 0 rfl) ?_
    refine lv_iconst (v := (-1)) hx hb dX6_flagged_19 (by decide +kernel) ?_
    refine lv_ixor hx hb dX6_flagged_20 ?_
    refine lv_topi (fun x4 ex4 => ?_)
    refine lv_iand hx hb dX6_flagged_21 ?_
    refine lv_topi (fun x5 ex5 => ?_)
    exact ro_iret hx hb hr hlocks hS dX6_flagged_22 (by have hb9 := flag_b (f := f1) (x := x1) (b := x2) (by rw [hb_]; exact g1) (by rw [hb_]; exact tx1) ex2; have h9 := flag_and (c := c1) _ hb9.2 (by rw [ha]; exact g0) hb9.1 ex4 ex5; rw [ha] at h9; exact h9)
  · have f3 := mt (ti_eq (a := z.toInt) (b := 0) rfl (by decide +kernel)).mpr c3
    refine lv_iload_n hx hb dX6_flagged_11 rfl (lv_at hl 1 rfl) ?_
    refine lv_iload_n hx hb dX6_flagged_12 rfl (lv_at hl 0 rfl) ?_
    refine lv_ior hx hb dX6_flagged_13 ?_
    refine lv_topi (fun x6 ex6 => ?_)
    refine lv_goto (tgt := 22) hx hb dX6_flagged_14 (by decide +kernel) ?_
    exact ro_iret hx hb hr hlocks hS dX6_flagged_22 (by have hb9 := flag_b (f := f1) (x := x1) (b := x2) (by rw [hb_]; exact g1) (by rw [hb_]; exact tx1) ex2; have h9 := flag_or (c := c1) _ hb9.2 (by rw [ha]; exact g0) hb9.1 ex6; rw [ha] at h9; exact h9)
