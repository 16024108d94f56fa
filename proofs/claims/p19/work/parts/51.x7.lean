def wm_X6_placed : List Cond := .code yX6_placed cX6_placed 3 (some .int) :: (([] : List Cond))
set_option maxHeartbeats 4000000 in
set_option maxRecDepth 100000 in
theorem c_X6_placed (l : Launch) (D : va_G) (sz : Nat) (c1 : Int32) (f1 : Int32) (h1 : Int32) (a : Int) (b : Int) (e : Int) (ha : c1.toInt = a) (hb_ : f1.toInt = b) (he : h1.toInt = e) (g0 : 0 ≤ a ∧ a ≤ 16383) (g1 : 0 ≤ e ∧ e ≤ 31) (g2 : 0 ≤ b ∧ b ≤ 7) : Met l yX6_placed wm_X6_placed ({ frames := 0, cells := 0, slots := 0, locals := 0 }) (va_Pc [.int c1, .int f1, .int h1] (pA D sz [] [])) (va_Qi (fun (r : Int32) (_ : Unit) => r.toInt = a / 256 * 256 + e * 8 + b) oA (ro sz)) 0 0 (ro sz) := by
  refine Met.ofW (cc := cX6_placed) (maxL := 3) (ret := (some .int)) (by decide +kernel) rfl ?_
  intro p e s m args below meth c s₁ B hml hv
  obtain ⟨rfl, hsz, hP, hK⟩ := hv
  have hx := B.exec
  have hb := B.bytes
  have hr := B.returns
  have hts := atoms_spec (ws := wm_X6_placed) B.pre
  have hown : s.vm.findClass RX6 = some m.cls := findClass_of_methodNamed B.named
  have hlocks := B.notSynchronized
  subst hsz
  have hA : ∀ q : Nat, s.heap.size ≤ q → ro s.heap.size q := fun _ h => h
  have hS : va_S (ro s.heap.size) s.heap s.heap [] := va_S.rf
  have hP : va_P D vwCl [] s.heap := hP
  have hl := lv_entry ([.int c1, .int f1, .int h1]) (n := 3) (Nat.le_of_ble_eq_true rfl)
  rw [lg_entry_eq]
  generalize (lg_sl ([.int c1, .int f1, .int h1]) ++ List.replicate (3 - (lg_sl ([.int c1, .int f1, .int h1])).length) Slot.unset).toArray = ls at hl ⊢
  have hl : lv_has ls 3 [(0, .int c1), (1, .int f1), (2, .int h1)] := hl
  refine lv_iload_n hx hb dX6_placed_0 rfl (lv_at hl 0 rfl) ?_
  refine lv_sipush (v := (-256)) hx hb dX6_placed_1 (by decide +kernel) ?_
  refine lv_iand hx hb dX6_placed_4 ?_
  refine lv_topi (fun x1 ex1 => ?_)
  refine lv_iload_n hx hb dX6_placed_5 rfl (lv_at hl 2 rfl) ?_
  refine lv_iconst (v := 3) hx hb dX6_placed_6 (by decide +kernel) ?_
  refine lv_ishl hx hb dX6_placed_7 ?_
  refine lv_topi (fun x2 ex2 => ?_)
  refine lv_ior hx hb dX6_placed_8 ?_
  refine lv_topi (fun x3 ex3 => ?_)
  refine lv_iload_n hx hb dX6_placed_9 rfl (lv_at hl 1 rfl) ?_
  refine lv_ior hx hb dX6_placed_10 ?_
  refine lv_topi (fun x4 ex4 => ?_)
  exact ro_iret hx hb hr hlocks hS dX6_placed_11 (by have h9 := put8 (y := 0) (c := c1) (h := h1) (f := f1) (by rw [ha]; exact g0) (by rw [he]; exact g1) (by rw [hb_]; exact g2) ex1 ex2 ex3 ex4; rw [ha, he, hb_] at h9; exact h9)

def wm_X9_end : List Cond := .code yX9_end cX9_end 1 none :: (([.fieldLink RX9 72 "TalePlay$Tale" "there" "Z", .fieldLink RX9 77 "TalePlay$Tale" "turns" "I"] : List Cond) ++ wsX90)
set_option maxHeartbeats 4000000 in
set_option maxRecDepth 100000 in
theorem x_X9_end (l : Launch) (D : va_G) (sz : Nat) (sk : Value) (a : Nat → Nat) (t : Nat → ClassId) (i : Nat → Int32) (q : Int64) (c : Nat → Nat → Int32) (d : Nat → Nat → Int64) (hI : xInv i c) : Met l yX9_end wm_X9_end ({ frames := 0, cells := 0, slots := 0, locals := 0 }) (va_Pc [.ref (a 142)] (yB (a 186) D sz (xwT sk a t i q c d) (xtT t))) (va_Qv (fun (u : MS) => True ∧ xInv u.1 u.2.2.1 ∧ (∀ k, k ∉ ([146, 148] : List Nat) → u.1 k = i k) ∧ (∀ k, k ∉ ([] : List Nat) → u.2.2.1 k = c k) ∧ ((u.1 146).toInt = 0) ∧ ((u.1 148).toInt = 0)) (oC D (va_A (xwT sk a t i q c d) sz) (fun u : MS => xwT sk a t u.1 u.2.1 u.2.2.1 u.2.2.2) (fun _ => [])) (va_A (xwT sk a t i q c d) sz)) 0 0 (va_A (xwT sk a t i q c d) sz) := by
  refine Met.ofW (cc := cX9_end) (maxL := 1) (ret := none) (by decide +kernel) rfl ?_
  intro p e s m args below meth cd s₁ B hml hv
  obtain ⟨rfl, ⟨hsz, hP, hK, hD0⟩, hN, hZ, hBW⟩ := hv
  have hx := B.exec
  have hb := B.bytes
  have hr := B.returns
  have hts := atoms_spec (ws := wm_X9_end) B.pre
  have hown : s.vm.findClass RX9 = some m.cls := findClass_of_methodNamed B.named
  have hlocks := B.notSynchronized
  subst hsz
  have hD := hD0.self (sz := s.heap.size)
  have hZ := xZ_A hZ hP hBW
  generalize hAe : va_A (xwT sk a t i q c d) s.heap.size = A at hD hZ ⊢
  have hA : ∀ q : Nat, s.heap.size ≤ q → A q := fun q h => by rw [← hAe]; exact Or.inr h
  have hS : va_S A s.heap s.heap [] := va_S.rf
  have hfi : ∀ k, k ∉ ([] : List Nat) → i k = i k := fun _ _ => rfl
  have hfc : ∀ k, k ∉ ([] : List Nat) → c k = c k := fun _ _ => rfl
  have hl := lv_entry ([.ref (a 142)]) (n := 1) (Nat.le_of_ble_eq_true rfl)
  rw [lg_entry_eq]
  generalize (lg_sl ([.ref (a 142)]) ++ List.replicate (1 - (lg_sl ([.ref (a 142)])).length) Slot.unset).toArray = ls at hl ⊢
  have hl : lv_has ls 1 [(0, .ref (a 142))] := hl
  refine lv_aload_n hx hb dX9_end_0 rfl (lv_at hl 0 rfl) ?_
  refine lv_iconst (v := 0) hx hb dX9_end_1 (by decide +kernel) ?_
  refine xpT_T_there hx hb hts (fun _ h => List.mem_cons_of_mem _ (List.mem_append_right _ h)) hown hK hP hD hS (hts (.fieldLink RX9 72 "TalePlay$Tale" "there" "Z") (List.mem_cons_of_mem _ (List.mem_append_left _ (List.mem_of_getElem? (i := 0) rfl)))) rfl rfl dX9_end_2 (fun H locs hP hD hS => ?_)
  have hI := xInv_i hI (k := 146) (v := 0) (show 0 ≤ (0 : Int32).toInt ∧ (0 : Int32).toInt ≤ 1 from by decide +kernel)
  have hfi : ∀ k, k ∉ ([146] : List Nat) → (upd i 146 0) k = i k := fr_iz hfi (by decide +kernel) (by decide +kernel)
  refine lv_aload_n hx hb dX9_end_5 rfl (lv_at hl 0 rfl) ?_
  refine lv_iconst (v := 0) hx hb dX9_end_6 (by decide +kernel) ?_
  refine xpT_T_turns hx hb hts (fun _ h => List.mem_cons_of_mem _ (List.mem_append_right _ h)) hown hK hP hD hS (hts (.fieldLink RX9 77 "TalePlay$Tale" "turns" "I") (List.mem_cons_of_mem _ (List.mem_append_left _ (List.mem_of_getElem? (i := 1) rfl)))) rfl rfl dX9_end_7 (fun H locs hP hD hS => ?_)
  have hI := xInv_i hI (k := 148) (v := 0) (show 0 ≤ (0 : Int32).toInt ∧ (0 : Int32).toInt ≤ 100 from by decide +kernel)
  have hfi : ∀ k, k ∉ ([146, 148] : List Nat) → (upd (upd i 146 0) 148 0) k = i k := fr_iz hfi (by decide +kernel) (by decide +kernel)
  exact rw_vret ((upd (upd i 146 0) 148 0), q, c, d) hx hb hr hlocks hS (hK.sub (tys' := []) [] rfl) hP hD dX9_end_10 ⟨trivial, hI, fr_w hfi (by decide +kernel), fr_w hfc (by decide +kernel), (show (0 : Int32).toInt = 0 from by decide +kernel), (show (0 : Int32).toInt = 0 from by decide +kernel)⟩

