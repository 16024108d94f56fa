def wm_X6_placed : List Cond := .code yX6_placed cX6_placed 3 (some .int) :: (([] : List Cond))
set_option maxHeartbeats 4000000 in
set_option maxRecDepth 100000 in
theorem c_X6_placed (l : Launch) (D : va_G) (sz : Nat) (c1 : Int32) (f1 : Int32) (h1 : Int32) (a : Int) (b : Int) (e : Int) (ha : c1.toInt = a) (hb_ : f1.toInt = b) (he : h1.toInt = e) (g0 : 0 ≤ a ∧ a ≤ 16383) (g1 : 0 ≤ e ∧ e ≤ 31) (g2 : 0 ≤ b ∧ b ≤ 7) : Met l yX6_placed wm_X6_placed ({ frames := 0, cells := 0, slots := 0, locals := 0 }) (va_Pc [.int c1, .int f1, .int h1] (pA D sz [] [])) (va_Qi (fun (r : Int32) (_ : Unit) => r.toInt = a / 256 * 256 + e * 8 + b) oA (ro sz)) 0 0 (ro sz) := by
  refine Met.ofW (cc := cX6_placed) (maxL := 3) (ret := (some .int)) (by decide +kernel) rfl ?_
  intro p e s m args below meth c s₁ B hml hv
  obtain ⟨rfl, hsz, hP, hK⟩ := hv
  have hx := B.exec
  have hb := B.bytes
  have hr := B.returns
  have hts := atoms_spec (ws := wm_X6_placed) B.pre
  have hown : s.vm.findClass RX6 = some m.cls := findClass_of_methodNamed B.named
  have hlocks := B.notSynchronized
  subst hsz
  have hA : ∀ q : Nat, s.heap.size ≤ q → ro s.heap.size q := fun _ h => h
  have hS : va_S (ro s.heap.size) s.heap s.heap [] := va_S.rf
  have hP : va_P D vwCl [] s.heap := hP
  have hl := lv_entry ([.int c1, .int f1, .int h1]) (n := 3) (Nat.le_of_ble_eq_true rfl)
  rw [lg_entry_eq]
  generalize (lg_sl ([.int c1, .int f1, .int h1]) ++ List.replicate (3 - (lg_sl ([.int c1, .int f1, .int h1])).length) Slot.unset).toArray = ls at hl ⊢
  have hl : lv_has ls 3 [(0, .int c1), (1, .int f1), (2, .int h1)] := hl
  refine lv_iload_n hx hb dX6_placed_0 rfl (lv_at hl 0 rfl) ?_
  refine lv_sipush (v := (-256)) hx hb dX6_placed_1 (by decide +kernel) ?_
  refine lv_iand hx hb dX6_placed_4 ?_
  refine lv_topi (fun x1 ex1 => ?_)
  refine lv_iload_n hx hb dX6_placed_5 rfl (lv_at hl 2 rfl) ?_
  refine lv_iconst (v := 3) hx hb dX6_placed_6 (by decide +kernel) ?_
  refine lv_ishl hx hb dX6_placed_7 ?_
  refine lv_topi (fun x2 ex2 => ?_)
  refine lv_ior hx hb dX6_placed_8 ?_
  refine lv_topi (fun x3 ex3 => ?_)
  refine lv_iload_n hx hb dX6_placed_9 rfl (lv_at hl 1 rfl) ?_
  refine lv_ior hx hb dX6_placed_10 ?_
  refine lv_topi (fun x4 ex4 => ?_)
  exact ro_iret hx hb hr hlocks hS dX6_placed_11 (by have h9 := put8 (y := 0) (c := c1) (h := h1) (f := f1) (by rw [ha]; exact g0) (by rw [he]; exact g1) (by rw [hb_]; exact g2) ex1 ex2 ex3 ex4; rw [ha, he, hb_] at h9; exact h9)

def wm_X1_point : List Cond := .code yX1_point cX1_point 4 none :: (([.fieldLink RX1 15 "TalePlay$Book" "as" "[I", .fieldLink RX1 9 "TalePlay$Book" "forms" "[I", .fieldLink RX1 28 "TalePlay$Book" "placeBy" "[I", .fieldLink RX1 52 "TalePlay$Book" "places" "LTalePlay$Scene;", .fieldLink RX1 103 "TalePlay$Scene" "cells" "[I", .fieldLink RX1 18 "TalePlay$Book" "bs" "[I", .methodLink RX1 106 yX6_placed, .static yX6_placed, .initialized RX6, .code yX6_placed cX6_placed 3 (some .int), .fieldLink RX1 31 "TalePlay$Book" "exitBy" "[I", .fieldLink RX1 21 "TalePlay$Book" "cs" "[I", .fieldLink RX1 34 "TalePlay$Book" "flagBy" "[I", .fieldLink RX1 37 "TalePlay$Book" "keyBy" "[I"] : List Cond) ++ wsX10 ++ wsX60)
set_option maxRecDepth 20000 in
theorem gm_X1_point_X6_placed_106 : GoodIn wm_X1_point (va_wsS RX1 106 yX6_placed wm_X6_placed) := goodIn_w (List.forall_mem_append.mpr ⟨List.forall_mem_cons.mpr ⟨List.mem_cons_of_mem _ (List.mem_append_left _ (List.mem_append_left _ (List.mem_of_getElem? (i := 6) rfl))), List.forall_mem_cons.mpr ⟨List.mem_cons_of_mem _ (List.mem_append_left _ (List.mem_append_left _ (List.mem_of_getElem? (i := 7) rfl))), List.forall_mem_cons.mpr ⟨List.mem_cons_of_mem _ (List.mem_append_left _ (List.mem_append_left _ (List.mem_of_getElem? (i := 8) rfl))), (fun _ h => absurd h List.not_mem_nil)⟩⟩⟩, List.forall_mem_cons.mpr ⟨List.mem_cons_of_mem _ (List.mem_append_left _ (List.mem_append_left _ (List.mem_of_getElem? (i := 9) rfl))), (fun _ h => absurd h List.not_mem_nil)⟩⟩) (by decide +kernel)
set_option maxHeartbeats 4000000 in
set_option maxRecDepth 100000 in
theorem x_X1_point (l : Launch) (D : va_G) (sz : Nat) (sk : Value) (a : Nat → Nat) (t : Nat → ClassId) (i : Nat → Int32) (q : Int64) (c : Nat → Nat → Int32) (d : Nat → Nat → Int64) (s1 : Int32) (s2 : Int32) (hI : xInv i c) (hs1 : 0 ≤ s1.toInt ∧ s1.toInt ≤ 199) (hs2 : s2.toInt = -9 ∨ (0 ≤ s2.toInt ∧ s2.toInt ≤ 199)) (hs_F : xFl (c 113) (c 115)) : Met l yX1_point wm_X1_point ({ frames := 1, cells := 0, slots := 0, locals := 22 }) (va_Pc [.ref (a 112), .int s1, .int s2] (yB (a 186) D sz (xwT sk a t i q c d) (xtT t))) (va_Qv (fun (u : MS) => True ∧ xInv u.1 u.2.2.1 ∧ (∀ k, k ∉ ([] : List Nat) → u.1 k = i k) ∧ (∀ k, k ∉ ([118, 119, 120, 121, 127] : List Nat) → u.2.2.1 k = c k)) (oC D (va_A (xwT sk a t i q c d) sz) (fun u : MS => xwT sk a t u.1 u.2.1 u.2.2.1 u.2.2.2) (fun _ => [])) (va_A (xwT sk a t i q c d) sz)) 0 0 (va_A (xwT sk a t i q c d) sz) := by
  refine Met.ofW (cc := cX1_point) (maxL := 4) (ret := none) (by decide +kernel) rfl ?_
  intro p e s m args below meth cd s₁ B hml hv
  obtain ⟨rfl, ⟨hsz, hP, hK, hD0⟩, hN, hZ, hBW⟩ := hv
  have hx := B.exec
  have hb := B.bytes
  have hr := B.returns
  have hts := atoms_spec (ws := wm_X1_point) B.pre
  have hown : s.vm.findClass RX1 = some m.cls := findClass_of_methodNamed B.named
  have hlocks := B.notSynchronized
  subst hsz
  have hD := hD0.self (sz := s.heap.size)
  have hZ := xZ_A hZ hP hBW
  generalize hAe : va_A (xwT sk a t i q c d) s.heap.size = A at hD hZ ⊢
  have hA : ∀ q : Nat, s.heap.size ≤ q → A q := fun q h => by rw [← hAe]; exact Or.inr h
  have hS : va_S A s.heap s.heap [] := va_S.rf
  have hfi : ∀ k, k ∉ ([] : List Nat) → i k = i k := fun _ _ => rfl
  have hfc : ∀ k, k ∉ ([] : List Nat) → c k = c k := fun _ _ => rfl
  have hl := lv_entry ([.ref (a 112), .int s1, .int s2]) (n := 4) (Nat.le_of_ble_eq_true rfl)
  rw [lg_entry_eq]
  generalize (lg_sl ([.ref (a 112), .int s1, .int s2]) ++ List.replicate (4 - (lg_sl ([.ref (a 112), .int s1, .int s2])).length) Slot.unset).toArray = ls at hl ⊢
  have hl : lv_has ls 4 [(0, .ref (a 112)), (1, .int s1), (2, .int s2)] := hl
  refine lv_aload_n hx hb dX1_point_0 rfl (lv_at hl 0 rfl) ?_
  refine xgT_B_as hx hb hts (fun _ h => List.mem_cons_of_mem _ (List.mem_append_left _ (List.mem_append_right _ h))) hown hK hP (hts (.fieldLink RX1 15 "TalePlay$Book" "as" "[I") (List.mem_cons_of_mem _ (List.mem_append_left _ (List.mem_append_left _ (List.mem_of_getElem? (i := 0) rfl))))) dX1_point_1 ?_
  refine lv_iload_n hx hb dX1_point_4 rfl (lv_at hl 1 rfl) ?_
  refine xlT_114 hx hb hK hP (vp_in_iff.mpr (by have h9 : s1.toInt = s1.toInt := rfl; omega)) dX1_point_5 (fun x1 ex1 => ?_)
  have rx1 : 0 ≤ x1.toInt ∧ x1.toInt ≤ 29 := by rw [ex1]; exact hI.2 114 _
  refine lv_istore_n (lv' := [(3, .int x1), (0, .ref (a 112)), (1, .int s1), (2, .int s2)]) hx hb dX1_point_6 rfl hl (by decide +kernel) rfl (fun ls hl => ?_)
  refine lv_aload_n hx hb dX1_point_7 rfl (lv_at hl 1 rfl) ?_
  refine xgT_B_forms hx hb hts (fun _ h => List.mem_cons_of_mem _ (List.mem_append_left _ (List.mem_append_right _ h))) hown hK hP (hts (.fieldLink RX1 9 "TalePlay$Book" "forms" "[I") (List.mem_cons_of_mem _ (List.mem_append_left _ (List.mem_append_left _ (List.mem_of_getElem? (i := 1) rfl))))) dX1_point_8 ?_
  refine lv_iload_n hx hb dX1_point_11 rfl (lv_at hl 2 rfl) ?_
  refine xlT_113 hx hb hK hP (vp_in_iff.mpr (by have h9 : s1.toInt = s1.toInt := rfl; omega)) dX1_point_12 (fun x2 ex2 => ?_)
  have rx2 : 0 ≤ x2.toInt ∧ x2.toInt ≤ 7 := by rw [ex2]; exact hI.2 113 _
  have gx2 : (c 113 (s1 : Int32).toNatClampNeg).toInt = x2.toInt := (congrArg Int32.toInt ex2).symm
  rcases (show (x2.toInt < 5 ∨ 7 < x2.toInt) ∨ x2.toInt = 5 ∨ x2.toInt = 6 ∨ x2.toInt = 7 by omega) with f3 | f3 | f3 | f3
  · refine lv_tableOut (tgt := 95) hx hb dX1_point_13 f3 (by decide +kernel) ?_
    refine lv_aload_n hx hb dX1_point_95 rfl (lv_at hl 1 rfl) ?_
    refine xgT_B_placeBy hx hb hts (fun _ h => List.mem_cons_of_mem _ (List.mem_append_left _ (List.mem_append_right _ h))) hown hK hP (hts (.fieldLink RX1 28 "TalePlay$Book" "placeBy" "[I") (List.mem_cons_of_mem _ (List.mem_append_left _ (List.mem_append_left _ (List.mem_of_getElem? (i := 2) rfl))))) dX1_point_96 ?_
    refine lv_iload_n hx hb dX1_point_99 rfl (lv_at hl 0 rfl) ?_
    refine lv_iload_n hx hb dX1_point_100 rfl (lv_at hl 3 rfl) ?_
    refine xsT_118 hx hb hK hP hD hS (vp_in_iff.mpr (by have h9 : x1.toInt = x1.toInt := rfl; omega)) dX1_point_101 (fun H locs hP hD hS => ?_)
    have hI := xInv_c hI (k := 118) (j := (x1 : Int32).toNatClampNeg) (x := s2) (show (s2 : Int32).toInt = -9 ∨ (0 ≤ (s2 : Int32).toInt ∧ (s2 : Int32).toInt ≤ 199) from by omega)
    have hfc : ∀ k, k ∉ ([118] : List Nat) → (updA c 118 (x1 : Int32).toNatClampNeg s2) k = c k := fr_cz hfc (by decide +kernel) (by decide +kernel)
    refine lv_aload_n hx hb dX1_point_102 rfl (lv_at hl 1 rfl) ?_
    refine xgT_B_places hx hb hts (fun _ h => List.mem_cons_of_mem _ (List.mem_append_left _ (List.mem_append_right _ h))) hown hK hP (hts (.fieldLink RX1 52 "TalePlay$Book" "places" "LTalePlay$Scene;") (List.mem_cons_of_mem _ (List.mem_append_left _ (List.mem_append_left _ (List.mem_of_getElem? (i := 3) rfl))))) dX1_point_103 ?_
    refine xgT_BP_cells hx hb hts (fun _ h => List.mem_cons_of_mem _ (List.mem_append_right _ h)) hown hK hP (hts (.fieldLink RX1 103 "TalePlay$Scene" "cells" "[I") (List.mem_cons_of_mem _ (List.mem_append_left _ (List.mem_append_left _ (List.mem_of_getElem? (i := 4) rfl))))) dX1_point_106 ?_
    refine lv_iload_n hx hb dX1_point_109 rfl (lv_at hl 0 rfl) ?_
    refine lv_iload_n hx hb dX1_point_110 rfl (lv_at hl 3 rfl) ?_
    refine lv_bipush (v := (-9)) hx hb dX1_point_111 (by decide +kernel) ?_
    refine lv_icmp_ne (tgt := 122) hx hb dX1_point_113 (by decide +kernel) (fun c4 => ?_) (fun c4 => ?_)
    · have f4 := mt (ti_eq (a := s2.toInt) (b := (-9)) rfl (by decide +kernel)).mpr c4
      refine lv_iconst (v := 0) hx hb dX1_point_122 (by decide +kernel) ?_
      refine lv_aload_n hx hb dX1_point_123 rfl (lv_at hl 1 rfl) ?_
      refine xgT_B_forms hx hb hts (fun _ h => List.mem_cons_of_mem _ (List.mem_append_left _ (List.mem_append_right _ h))) hown hK hP (hts (.fieldLink RX1 9 "TalePlay$Book" "forms" "[I") (List.mem_cons_of_mem _ (List.mem_append_left _ (List.mem_append_left _ (List.mem_of_getElem? (i := 1) rfl))))) dX1_point_124 ?_
      refine lv_iload_n hx hb dX1_point_127 rfl (lv_at hl 2 rfl) ?_
      refine xlT_113 hx hb hK hP (vp_in_iff.mpr (by have h9 : s1.toInt = s1.toInt := rfl; omega)) dX1_point_128 (fun x5 ex5 => ?_)
      have rx5 : 0 ≤ x5.toInt ∧ x5.toInt ≤ 7 := by rw [ex5]; exact hI.2 113 _
      have gx5 : (c 113 (s1 : Int32).toNatClampNeg).toInt = x5.toInt := (congrArg Int32.toInt ex5).symm
      refine lv_aload_n hx hb dX1_point_129 rfl (lv_at hl 1 rfl) ?_
      refine xgT_B_bs hx hb hts (fun _ h => List.mem_cons_of_mem _ (List.mem_append_left _ (List.mem_append_right _ h))) hown hK hP (hts (.fieldLink RX1 18 "TalePlay$Book" "bs" "[I") (List.mem_cons_of_mem _ (List.mem_append_left _ (List.mem_append_left _ (List.mem_of_getElem? (i := 5) rfl))))) dX1_point_130 ?_
      refine lv_iload_n hx hb dX1_point_133 rfl (lv_at hl 2 rfl) ?_
      refine xlT_115 hx hb hK hP (vp_in_iff.mpr (by have h9 : s1.toInt = s1.toInt := rfl; omega)) dX1_point_134 (fun x6 ex6 => ?_)
      have rx6 : 0 ≤ x6.toInt ∧ x6.toInt ≤ 29 := by rw [ex6]; exact hI.2 115 _
      have gx6 : (c 115 (s1 : Int32).toNatClampNeg).toInt = x6.toInt := (congrArg Int32.toInt ex6).symm
      have hPc := hP.sub (ws' := []) [] rfl
      have hKc := hK.sub (tys' := []) [] rfl
      refine ro_calli (va_runS (As := [.int 0, .int x5, .int x6]) (rest := [.int x1, .ref (a 127)]) ⟨hx, hb, hml, hown, hts⟩ (c_X6_placed l D H.size 0 x5 x6 0 x5.toInt x6.toInt (by decide +kernel) rfl rfl (by omega) (by omega) (by omega)) (va_cwS 3 hts gm_X1_point_X6_placed_106 rfl rfl rfl (by decide +kernel) ⟨Nat.le_of_ble_eq_true rfl, Nat.le_of_ble_eq_true rfl⟩) (pA_S hKc hPc) rfl rfl hl.1 rfl (lv_room (Nat.le_of_ble_eq_true rfl)) dX1_point_135 ⟨Nat.le_of_ble_eq_true rfl, Nat.le_of_ble_eq_true rfl⟩) hS hA hP (fun r8 u8 H locs hw8 hP hS => ?_)
      have hw8 : r8.toInt = 0 / 256 * 256 + x6.toInt * 8 + x5.toInt := hw8
      refine xsT_127 hx hb hK hP hD hS (vp_in_iff.mpr (by have h9 : x1.toInt = x1.toInt := rfl; omega)) dX1_point_138 (fun H locs hP hD hS => ?_)
      have hI := xInv_c hI (k := 127) (j := (x1 : Int32).toNatClampNeg) (x := r8) (show 0 ≤ (r8 : Int32).toInt ∧ (r8 : Int32).toInt ≤ 16383 ∧ ((r8 : Int32).toInt % 256 = 255 ∨ ((r8 : Int32).toInt % 8 ≤ 4 ∧ (r8 : Int32).toInt / 8 % 32 ≤ 29)) from by omega)
      have hfc : ∀ k, k ∉ ([118, 127] : List Nat) → (updA (updA c 118 (x1 : Int32).toNatClampNeg s2) 127 (x1 : Int32).toNatClampNeg r8) k = c k := fr_cz hfc (by decide +kernel) (by decide +kernel)
      exact rw_vret (i, q, (updA (updA c 118 (x1 : Int32).toNatClampNeg s2) 127 (x1 : Int32).toNatClampNeg r8), d) hx hb hr hlocks hS (hK.sub (tys' := []) [] rfl) hP hD dX1_point_139 ⟨trivial, hI, fr_w hfi (by decide +kernel), fr_w hfc (by decide +kernel)⟩
    · have f4 := (ti_eq (a := s2.toInt) (b := (-9)) rfl (by decide +kernel)).mp c4
      refine lv_sipush (v := 255) hx hb dX1_point_116 (by decide +kernel) ?_
      refine lv_goto (tgt := 138) hx hb dX1_point_119 (by decide +kernel) ?_
      refine xsT_127 hx hb hK hP hD hS (vp_in_iff.mpr (by have h9 : x1.toInt = x1.toInt := rfl; omega)) dX1_point_138 (fun H locs hP hD hS => ?_)
      have hI := xInv_c hI (k := 127) (j := (x1 : Int32).toNatClampNeg) (x := 255) (show 0 ≤ (255 : Int32).toInt ∧ (255 : Int32).toInt ≤ 16383 ∧ ((255 : Int32).toInt % 256 = 255 ∨ ((255 : Int32).toInt % 8 ≤ 4 ∧ (255 : Int32).toInt / 8 % 32 ≤ 29)) from by have h9 : (255 : Int32).toInt = 255 := (by decide +kernel); omega)
      have hfc : ∀ k, k ∉ ([118, 127] : List Nat) → (updA (updA c 118 (x1 : Int32).toNatClampNeg s2) 127 (x1 : Int32).toNatClampNeg 255) k = c k := fr_cz hfc (by decide +kernel) (by decide +kernel)
      exact rw_vret (i, q, (updA (updA c 118 (x1 : Int32).toNatClampNeg s2) 127 (x1 : Int32).toNatClampNeg 255), d) hx hb hr hlocks hS (hK.sub (tys' := []) [] rfl) hP hD dX1_point_139 ⟨trivial, hI, fr_w hfi (by decide +kernel), fr_w hfc (by decide +kernel)⟩
  · refine lv_tableIn (off := 27) (tgt := 40) hx hb dX1_point_13 (by omega) (by omega) (by rw [f3]; rfl) (by decide +kernel) ?_
    refine lv_aload_n hx hb dX1_point_40 rfl (lv_at hl 1 rfl) ?_
    refine xgT_B_exitBy hx hb hts (fun _ h => List.mem_cons_of_mem _ (List.mem_append_left _ (List.mem_append_right _ h))) hown hK hP (hts (.fieldLink RX1 31 "TalePlay$Book" "exitBy" "[I") (List.mem_cons_of_mem _ (List.mem_append_left _ (List.mem_append_left _ (List.mem_of_getElem? (i := 10) rfl))))) dX1_point_41 ?_
    refine lv_iload_n hx hb dX1_point_44 rfl (lv_at hl 0 rfl) ?_
    refine lv_bipush (v := 10) hx hb dX1_point_45 (by decide +kernel) ?_
    refine lv_imul hx hb dX1_point_47 ?_
    refine lv_topi (fun x9 ex9 => ?_)
    have tx9 := ti_mul (a := x1.toInt) (b := 10) ex9 rfl (by decide +kernel) (by omega) (by omega)
    refine lv_aload_n hx hb dX1_point_48 rfl (lv_at hl 1 rfl) ?_
    refine xgT_B_cs hx hb hts (fun _ h => List.mem_cons_of_mem _ (List.mem_append_left _ (List.mem_append_right _ h))) hown hK hP (hts (.fieldLink RX1 21 "TalePlay$Book" "cs" "[I") (List.mem_cons_of_mem _ (List.mem_append_left _ (List.mem_append_left _ (List.mem_of_getElem? (i := 11) rfl))))) dX1_point_49 ?_
    refine lv_iload_n hx hb dX1_point_52 rfl (lv_at hl 2 rfl) ?_
    refine xlT_116 hx hb hK hP (vp_in_iff.mpr (by have h9 : s1.toInt = s1.toInt := rfl; omega)) dX1_point_53 (fun x10 ex10 => ?_)
    have rx10 : 0 ≤ x10.toInt ∧ x10.toInt ≤ 9 := by rw [ex10]; exact hI.2 116 _
    refine lv_iadd hx hb dX1_point_54 ?_
    refine lv_topi (fun x11 ex11 => ?_)
    have tx11 := ti_add (a := (x1.toInt * 10)) (b := x10.toInt) ex11 tx9 rfl (by omega) (by omega)
    refine lv_iload_n hx hb dX1_point_55 rfl (lv_at hl 3 rfl) ?_
    refine xsT_119 hx hb hK hP hD hS (vp_in_iff.mpr (by have h9 : x11.toInt = ((x1.toInt * 10) + x10.toInt) := tx11; omega)) dX1_point_56 (fun H locs hP hD hS => ?_)
    have hI := xInv_c hI (k := 119) (j := (x11 : Int32).toNatClampNeg) (x := s2) (show (s2 : Int32).toInt = -9 ∨ (0 ≤ (s2 : Int32).toInt ∧ (s2 : Int32).toInt ≤ 199) from by omega)
    have hfc : ∀ k, k ∉ ([119] : List Nat) → (updA c 119 (x11 : Int32).toNatClampNeg s2) k = c k := fr_cz hfc (by decide +kernel) (by decide +kernel)
    refine lv_goto (tgt := 139) hx hb dX1_point_57 (by decide +kernel) ?_
    exact rw_vret (i, q, (updA c 119 (x11 : Int32).toNatClampNeg s2), d) hx hb hr hlocks hS (hK.sub (tys' := []) [] rfl) hP hD dX1_point_139 ⟨trivial, hI, fr_w hfi (by decide +kernel), fr_w hfc (by decide +kernel)⟩
  · refine lv_tableIn (off := 47) (tgt := 60) hx hb dX1_point_13 (by omega) (by omega) (by rw [f3]; rfl) (by decide +kernel) ?_
    refine lv_aload_n hx hb dX1_point_60 rfl (lv_at hl 1 rfl) ?_
    refine xgT_B_flagBy hx hb hts (fun _ h => List.mem_cons_of_mem _ (List.mem_append_left _ (List.mem_append_right _ h))) hown hK hP (hts (.fieldLink RX1 34 "TalePlay$Book" "flagBy" "[I") (List.mem_cons_of_mem _ (List.mem_append_left _ (List.mem_append_left _ (List.mem_of_getElem? (i := 12) rfl))))) dX1_point_61 ?_
    refine lv_iload_n hx hb dX1_point_64 rfl (lv_at hl 0 rfl) ?_
    refine lv_bipush (v := 6) hx hb dX1_point_65 (by decide +kernel) ?_
    refine lv_imul hx hb dX1_point_67 ?_
    refine lv_topi (fun x12 ex12 => ?_)
    have tx12 := ti_mul (a := x1.toInt) (b := 6) ex12 rfl (by decide +kernel) (by omega) (by omega)
    refine lv_aload_n hx hb dX1_point_68 rfl (lv_at hl 1 rfl) ?_
    refine xgT_B_bs hx hb hts (fun _ h => List.mem_cons_of_mem _ (List.mem_append_left _ (List.mem_append_right _ h))) hown hK hP (hts (.fieldLink RX1 18 "TalePlay$Book" "bs" "[I") (List.mem_cons_of_mem _ (List.mem_append_left _ (List.mem_append_left _ (List.mem_of_getElem? (i := 5) rfl))))) dX1_point_69 ?_
    refine lv_iload_n hx hb dX1_point_72 rfl (lv_at hl 2 rfl) ?_
    have hfl9 : (c 115 s1.toNatClampNeg).toInt ≤ 5 := hs_F _ (by omega)
    refine xlT_115 hx hb hK hP (vp_in_iff.mpr (by have h9 : s1.toInt = s1.toInt := rfl; omega)) dX1_point_73 (fun x13 ex13 => ?_)
    have rx13 : 0 ≤ x13.toInt ∧ x13.toInt ≤ 29 := by rw [ex13]; exact hI.2 115 _
    have gx13 : (c 115 (s1 : Int32).toNatClampNeg).toInt = x13.toInt := (congrArg Int32.toInt ex13).symm
    refine lv_iadd hx hb dX1_point_74 ?_
    refine lv_topi (fun x14 ex14 => ?_)
    have tx14 := ti_add (a := (x1.toInt * 6)) (b := x13.toInt) ex14 tx12 rfl (by omega) (by omega)
    refine lv_iload_n hx hb dX1_point_75 rfl (lv_at hl 3 rfl) ?_
    refine xsT_120 hx hb hK hP hD hS (vp_in_iff.mpr (by have h9 : x14.toInt = ((x1.toInt * 6) + x13.toInt) := tx14; omega)) dX1_point_76 (fun H locs hP hD hS => ?_)
    have hI := xInv_c hI (k := 120) (j := (x14 : Int32).toNatClampNeg) (x := s2) (show (s2 : Int32).toInt = -9 ∨ (0 ≤ (s2 : Int32).toInt ∧ (s2 : Int32).toInt ≤ 199) from by omega)
    have hfc : ∀ k, k ∉ ([120] : List Nat) → (updA c 120 (x14 : Int32).toNatClampNeg s2) k = c k := fr_cz hfc (by decide +kernel) (by decide +kernel)
    refine lv_goto (tgt := 139) hx hb dX1_point_77 (by decide +kernel) ?_
    exact rw_vret (i, q, (updA c 120 (x14 : Int32).toNatClampNeg s2), d) hx hb hr hlocks hS (hK.sub (tys' := []) [] rfl) hP hD dX1_point_139 ⟨trivial, hI, fr_w hfi (by decide +kernel), fr_w hfc (by decide +kernel)⟩
  · refine lv_tableIn (off := 67) (tgt := 80) hx hb dX1_point_13 (by omega) (by omega) (by rw [f3]; rfl) (by decide +kernel) ?_
    refine lv_aload_n hx hb dX1_point_80 rfl (lv_at hl 1 rfl) ?_
    refine xgT_B_keyBy hx hb hts (fun _ h => List.mem_cons_of_mem _ (List.mem_append_left _ (List.mem_append_right _ h))) hown hK hP (hts (.fieldLink RX1 37 "TalePlay$Book" "keyBy" "[I") (List.mem_cons_of_mem _ (List.mem_append_left _ (List.mem_append_left _ (List.mem_of_getElem? (i := 13) rfl))))) dX1_point_81 ?_
    refine lv_aload_n hx hb dX1_point_84 rfl (lv_at hl 1 rfl) ?_
    refine xgT_B_bs hx hb hts (fun _ h => List.mem_cons_of_mem _ (List.mem_append_left _ (List.mem_append_right _ h))) hown hK hP (hts (.fieldLink RX1 18 "TalePlay$Book" "bs" "[I") (List.mem_cons_of_mem _ (List.mem_append_left _ (List.mem_append_left _ (List.mem_of_getElem? (i := 5) rfl))))) dX1_point_85 ?_
    refine lv_iload_n hx hb dX1_point_88 rfl (lv_at hl 2 rfl) ?_
    refine xlT_115 hx hb hK hP (vp_in_iff.mpr (by have h9 : s1.toInt = s1.toInt := rfl; omega)) dX1_point_89 (fun x15 ex15 => ?_)
    have rx15 : 0 ≤ x15.toInt ∧ x15.toInt ≤ 29 := by rw [ex15]; exact hI.2 115 _
    have gx15 : (c 115 (s1 : Int32).toNatClampNeg).toInt = x15.toInt := (congrArg Int32.toInt ex15).symm
    refine lv_iload_n hx hb dX1_point_90 rfl (lv_at hl 3 rfl) ?_
    refine xsT_121 hx hb hK hP hD hS (vp_in_iff.mpr (by have h9 : x15.toInt = x15.toInt := rfl; omega)) dX1_point_91 (fun H locs hP hD hS => ?_)
    have hI := xInv_c hI (k := 121) (j := (x15 : Int32).toNatClampNeg) (x := s2) (show (s2 : Int32).toInt = -9 ∨ (0 ≤ (s2 : Int32).toInt ∧ (s2 : Int32).toInt ≤ 199) from by omega)
    have hfc : ∀ k, k ∉ ([121] : List Nat) → (updA c 121 (x15 : Int32).toNatClampNeg s2) k = c k := fr_cz hfc (by decide +kernel) (by decide +kernel)
    refine lv_goto (tgt := 139) hx hb dX1_point_92 (by decide +kernel) ?_
    exact rw_vret (i, q, (updA c 121 (x15 : Int32).toNatClampNeg s2), d) hx hb hr hlocks hS (hK.sub (tys' := []) [] rfl) hP hD dX1_point_139 ⟨trivial, hI, fr_w hfi (by decide +kernel), fr_w hfc (by decide +kernel)⟩

def wm_X1_strike : List Cond := .code yX1_strike cX1_strike 2 none :: ((([.fieldLink RX1 24 "TalePlay$Book" "said" "[Z", .fieldLink RX1 96 "TalePlay$Book" "standing" "I", .methodLink RX1 99 yX1_point, .instanceMethod yX1_point, .selects RX1 yX1_point yX1_point, .initialized RX1, .code yX1_point cX1_point 4 none, .fieldLink RX1 15 "TalePlay$Book" "as" "[I", .fieldLink RX1 9 "TalePlay$Book" "forms" "[I", .fieldLink RX1 28 "TalePlay$Book" "placeBy" "[I", .fieldLink RX1 52 "TalePlay$Book" "places" "LTalePlay$Scene;", .fieldLink RX1 103 "TalePlay$Scene" "cells" "[I", .fieldLink RX1 18 "TalePlay$Book" "bs" "[I", .methodLink RX1 106 yX6_placed, .static yX6_placed, .initialized RX6] : List Cond) ++ ([.code yX6_placed cX6_placed 3 (some .int), .fieldLink RX1 31 "TalePlay$Book" "exitBy" "[I", .fieldLink RX1 21 "TalePlay$Book" "cs" "[I", .fieldLink RX1 34 "TalePlay$Book" "flagBy" "[I", .fieldLink RX1 37 "TalePlay$Book" "keyBy" "[I"] : List Cond)) ++ wsX10 ++ wsX60)
set_option maxRecDepth 20000 in
theorem gm_X1_strike_X1_point_99 : GoodIn wm_X1_strike (wsV RX1 99 RX1 yX1_point wm_X1_point) := goodIn_w (List.forall_mem_append.mpr ⟨List.forall_mem_cons.mpr ⟨List.mem_cons_of_mem _ (List.mem_append_left _ (List.mem_append_left _ (List.mem_append_left _ (List.mem_of_getElem? (i := 2) rfl)))), List.forall_mem_cons.mpr ⟨List.mem_cons_of_mem _ (List.mem_append_left _ (List.mem_append_left _ (List.mem_append_left _ (List.mem_of_getElem? (i := 3) rfl)))), List.forall_mem_cons.mpr ⟨List.mem_cons_of_mem _ (List.mem_append_left _ (List.mem_append_left _ (List.mem_append_left _ (List.mem_of_getElem? (i := 4) rfl)))), List.forall_mem_cons.mpr ⟨List.mem_cons_of_mem _ (List.mem_append_left _ (List.mem_append_left _ (List.mem_append_left _ (List.mem_of_getElem? (i := 5) rfl)))), (fun _ h => absurd h List.not_mem_nil)⟩⟩⟩⟩, List.forall_mem_cons.mpr ⟨List.mem_cons_of_mem _ (List.mem_append_left _ (List.mem_append_left _ (List.mem_append_left _ (List.mem_of_getElem? (i := 6) rfl)))), List.forall_mem_append.mpr ⟨List.forall_mem_append.mpr ⟨List.forall_mem_cons.mpr ⟨List.mem_cons_of_mem _ (List.mem_append_left _ (List.mem_append_left _ (List.mem_append_left _ (List.mem_of_getElem? (i := 7) rfl)))), List.forall_mem_cons.mpr ⟨List.mem_cons_of_mem _ (List.mem_append_left _ (List.mem_append_left _ (List.mem_append_left _ (List.mem_of_getElem? (i := 8) rfl)))), List.forall_mem_cons.mpr ⟨List.mem_cons_of_mem _ (List.mem_append_left _ (List.mem_append_left _ (List.mem_append_left _ (List.mem_of_getElem? (i := 9) rfl)))), List.forall_mem_cons.mpr ⟨List.mem_cons_of_mem _ (List.mem_append_left _ (List.mem_append_left _ (List.mem_append_left _ (List.mem_of_getElem? (i := 10) rfl)))), List.forall_mem_cons.mpr ⟨List.mem_cons_of_mem _ (List.mem_append_left _ (List.mem_append_left _ (List.mem_append_left _ (List.mem_of_getElem? (i := 11) rfl)))), List.forall_mem_cons.mpr ⟨List.mem_cons_of_mem _ (List.mem_append_left _ (List.mem_append_left _ (List.mem_append_left _ (List.mem_of_getElem? (i := 12) rfl)))), List.forall_mem_cons.mpr ⟨List.mem_cons_of_mem _ (List.mem_append_left _ (List.mem_append_left _ (List.mem_append_left _ (List.mem_of_getElem? (i := 13) rfl)))), List.forall_mem_cons.mpr ⟨List.mem_cons_of_mem _ (List.mem_append_left _ (List.mem_append_left _ (List.mem_append_left _ (List.mem_of_getElem? (i := 14) rfl)))), List.forall_mem_cons.mpr ⟨List.mem_cons_of_mem _ (List.mem_append_left _ (List.mem_append_left _ (List.mem_append_left _ (List.mem_of_getElem? (i := 15) rfl)))), List.forall_mem_cons.mpr ⟨List.mem_cons_of_mem _ (List.mem_append_left _ (List.mem_append_left _ (List.mem_append_right _ (List.mem_of_getElem? (i := 0) rfl)))), List.forall_mem_cons.mpr ⟨List.mem_cons_of_mem _ (List.mem_append_left _ (List.mem_append_left _ (List.mem_append_right _ (List.mem_of_getElem? (i := 1) rfl)))), List.forall_mem_cons.mpr ⟨List.mem_cons_of_mem _ (List.mem_append_left _ (List.mem_append_left _ (List.mem_append_right _ (List.mem_of_getElem? (i := 2) rfl)))), List.forall_mem_cons.mpr ⟨List.mem_cons_of_mem _ (List.mem_append_left _ (List.mem_append_left _ (List.mem_append_right _ (List.mem_of_getElem? (i := 3) rfl)))), List.forall_mem_cons.mpr ⟨List.mem_cons_of_mem _ (List.mem_append_left _ (List.mem_append_left _ (List.mem_append_right _ (List.mem_of_getElem? (i := 4) rfl)))), (fun _ h => absurd h List.not_mem_nil)⟩⟩⟩⟩⟩⟩⟩⟩⟩⟩⟩⟩⟩⟩, (fun _ h => List.mem_cons_of_mem _ (List.mem_append_left _ (List.mem_append_right _ h)))⟩, (fun _ h => List.mem_cons_of_mem _ (List.mem_append_right _ h))⟩⟩⟩) (by decide +kernel)
set_option maxHeartbeats 4000000 in
set_option maxRecDepth 100000 in
theorem x_X1_strike (l : Launch) (D : va_G) (sz : Nat) (sk : Value) (a : Nat → Nat) (t : Nat → ClassId) (i : Nat → Int32) (q : Int64) (c : Nat → Nat → Int32) (d : Nat → Nat → Int64) (s1 : Int32) (hI : xInv i c) (hs1 : 0 ≤ s1.toInt ∧ s1.toInt ≤ 199) (hs_F : xFl (c 113) (c 115)) : Met l yX1_strike wm_X1_strike ({ frames := 2, cells := 0, slots := 0, locals := 45 }) (va_Pc [.ref (a 112), .int s1] (yB (a 186) D sz (xwT sk a t i q c d) (xtT t))) (va_Qv (fun (u : MS) => True ∧ xInv u.1 u.2.2.1 ∧ (∀ k, k ∉ ([125] : List Nat) → u.1 k = i k) ∧ (∀ k, k ∉ ([117, 118, 119, 120, 121, 127] : List Nat) → u.2.2.1 k = c k)) (oC D (va_A (xwT sk a t i q c d) sz) (fun u : MS => xwT sk a t u.1 u.2.1 u.2.2.1 u.2.2.2) (fun _ => [])) (va_A (xwT sk a t i q c d) sz)) 0 0 (va_A (xwT sk a t i q c d) sz) := by
  refine Met.ofW (cc := cX1_strike) (maxL := 2) (ret := none) (by decide +kernel) rfl ?_
  intro p e s m args below meth cd s₁ B hml hv
  obtain ⟨rfl, ⟨hsz, hP, hK, hD0⟩, hN, hZ, hBW⟩ := hv
  have hx := B.exec
  have hb := B.bytes
  have hr := B.returns
  have hts := atoms_spec (ws := wm_X1_strike) B.pre
  have hown : s.vm.findClass RX1 = some m.cls := findClass_of_methodNamed B.named
  have hlocks := B.notSynchronized
  subst hsz
  have hD := hD0.self (sz := s.heap.size)
  have hZ := xZ_A hZ hP hBW
  generalize hAe : va_A (xwT sk a t i q c d) s.heap.size = A at hD hZ ⊢
  have hA : ∀ q : Nat, s.heap.size ≤ q → A q := fun q h => by rw [← hAe]; exact Or.inr h
  have hS : va_S A s.heap s.heap [] := va_S.rf
  have hfi : ∀ k, k ∉ ([] : List Nat) → i k = i k := fun _ _ => rfl
  have hfc : ∀ k, k ∉ ([] : List Nat) → c k = c k := fun _ _ => rfl
  have hl := lv_entry ([.ref (a 112), .int s1]) (n := 2) (Nat.le_of_ble_eq_true rfl)
  rw [lg_entry_eq]
  generalize (lg_sl ([.ref (a 112), .int s1]) ++ List.replicate (2 - (lg_sl ([.ref (a 112), .int s1])).length) Slot.unset).toArray = ls at hl ⊢
  have hl : lv_has ls 2 [(0, .ref (a 112)), (1, .int s1)] := hl
  refine lv_aload_n hx hb dX1_strike_0 rfl (lv_at hl 0 rfl) ?_
  refine xgT_B_said hx hb hts (fun _ h => List.mem_cons_of_mem _ (List.mem_append_left _ (List.mem_append_right _ h))) hown hK hP (hts (.fieldLink RX1 24 "TalePlay$Book" "said" "[Z") (List.mem_cons_of_mem _ (List.mem_append_left _ (List.mem_append_left _ (List.mem_append_left _ (List.mem_of_getElem? (i := 0) rfl)))))) dX1_strike_1 ?_
  refine lv_iload_n hx hb dX1_strike_4 rfl (lv_at hl 1 rfl) ?_
  refine lv_iconst (v := 0) hx hb dX1_strike_5 (by decide +kernel) ?_
  refine xsT_117 hx hb hK hP hD hS (vp_in_iff.mpr (by have h9 : s1.toInt = s1.toInt := rfl; omega)) (nb_z (show 0 ≤ (0 : Int32).toInt ∧ (0 : Int32).toInt ≤ 1 from by decide +kernel)) dX1_strike_6 (fun H locs hP hD hS => ?_)
  have hI := xInv_c hI (k := 117) (j := (s1 : Int32).toNatClampNeg) (x := 0) (show 0 ≤ (0 : Int32).toInt ∧ (0 : Int32).toInt ≤ 1 from by decide +kernel)
  have hfc : ∀ k, k ∉ ([117] : List Nat) → (updA c 117 (s1 : Int32).toNatClampNeg 0) k = c k := fr_cz hfc (by decide +kernel) (by decide +kernel)
  refine lv_aload_n hx hb dX1_strike_7 rfl (lv_at hl 0 rfl) ?_
  refine lv_dup hx hb dX1_strike_8 rfl ?_
  refine xgT_B_standing (v := (i 125)) rfl hx hb hts (fun _ h => List.mem_cons_of_mem _ (List.mem_append_left _ (List.mem_append_right _ h))) hown hK hP (hts (.fieldLink RX1 96 "TalePlay$Book" "standing" "I") (List.mem_cons_of_mem _ (List.mem_append_left _ (List.mem_append_left _ (List.mem_append_left _ (List.mem_of_getElem? (i := 1) rfl)))))) dX1_strike_9 ?_
  refine lv_iconst (v := 1) hx hb dX1_strike_12 (by decide +kernel) ?_
  refine lv_isub hx hb dX1_strike_13 ?_
  refine lv_topi (fun x1 ex1 => ?_)
  refine xpT_B_standing hx hb hts (fun _ h => List.mem_cons_of_mem _ (List.mem_append_left _ (List.mem_append_right _ h))) hown hK hP hD hS (hts (.fieldLink RX1 96 "TalePlay$Book" "standing" "I") (List.mem_cons_of_mem _ (List.mem_append_left _ (List.mem_append_left _ (List.mem_append_left _ (List.mem_of_getElem? (i := 1) rfl)))))) rfl rfl dX1_strike_14 (fun H locs hP hD hS => ?_)
  have hI := xInv_i hI (k := 125) (v := x1) (show True from trivial)
  have hfi : ∀ k, k ∉ ([125] : List Nat) → (upd i 125 x1) k = i k := fr_iz hfi (by decide +kernel) (by decide +kernel)
  refine lv_aload_n hx hb dX1_strike_17 rfl (lv_at hl 0 rfl) ?_
  refine lv_iload_n hx hb dX1_strike_18 rfl (lv_at hl 1 rfl) ?_
  refine lv_bipush (v := (-9)) hx hb dX1_strike_19 (by decide +kernel) ?_
  refine al_callv (va_runV (As := [.int s1, .int (-9)]) (rest := []) ⟨hx, hb, hml, hown, hts⟩ (x_X1_point l D H.size sk a t (upd i 125 x1) q (updA c 117 (s1 : Int32).toNatClampNeg 0) d s1 (-9) hI (show 0 ≤ s1.toInt ∧ s1.toInt ≤ 199 from by have h91 : ((-9) : Int32).toInt = -9 := (by decide +kernel); omega) (show (-9) = -9 ∨ (0 ≤ (-9) ∧ (-9) ≤ 199) from by decide +kernel) (by rw [show (updA c 117 (s1 : Int32).toNatClampNeg 0) 113 = c 113 from hfc 113 (by decide +kernel), show (updA c 117 (s1 : Int32).toNatClampNeg 0) 115 = c 115 from hfc 115 (by decide +kernel)]; exact hs_F)) (cwV 2 hts gm_X1_strike_X1_point_99 rfl rfl rfl (by decide +kernel) ⟨Nat.le_of_ble_eq_true rfl, Nat.le_of_ble_eq_true rfl⟩) (yB_V hN (xZ_k hZ hS hA) (xZ_n hZ hD) hK hP hD (ci := 1) (q0 := 8) rfl rfl) rfl rfl hl.1 rfl (lv_room (Nat.le_of_ble_eq_true rfl)) dX1_strike_21 ⟨Nat.le_of_ble_eq_true rfl, Nat.le_of_ble_eq_true rfl⟩) hS hA hP hD (fun u2 H locs hw2 hP hD hS => ?_)
  obtain ⟨i2, q2, c2, d2⟩ := u2
  have hw2 : True ∧ xInv i2 c2 ∧ (∀ k, k ∉ ([] : List Nat) → i2 k = (upd i 125 x1) k) ∧ (∀ k, k ∉ ([118, 119, 120, 121, 127] : List Nat) → c2 k = (updA c 117 (s1 : Int32).toNatClampNeg 0) k) := hw2
  obtain ⟨hw2, hI, hei2, hec2⟩ := hw2
  have hfi : ∀ k, k ∉ ([125] : List Nat) → i2 k = i k := fr_z hfi hei2 (by decide +kernel) (by decide +kernel)
  have hfc : ∀ k, k ∉ ([117, 118, 119, 120, 121, 127] : List Nat) → c2 k = c k := fr_z hfc hec2 (by decide +kernel) (by decide +kernel)
  exact rw_vret (i2, q2, c2, d2) hx hb hr hlocks hS (hK.sub (tys' := []) [] rfl) hP hD dX1_strike_24 ⟨trivial, hI, fr_w hfi (by decide +kernel), fr_w hfc (by decide +kernel)⟩

def wm_X9_end : List Cond := .code yX9_end cX9_end 1 none :: (([.fieldLink RX9 72 "TalePlay$Tale" "there" "Z", .fieldLink RX9 77 "TalePlay$Tale" "turns" "I"] : List Cond) ++ wsX90)
set_option maxHeartbeats 4000000 in
set_option maxRecDepth 100000 in
theorem x_X9_end (l : Launch) (D : va_G) (sz : Nat) (sk : Value) (a : Nat → Nat) (t : Nat → ClassId) (i : Nat → Int32) (q : Int64) (c : Nat → Nat → Int32) (d : Nat → Nat → Int64) (hI : xInv i c) : Met l yX9_end wm_X9_end ({ frames := 0, cells := 0, slots := 0, locals := 0 }) (va_Pc [.ref (a 142)] (yB (a 186) D sz (xwT sk a t i q c d) (xtT t))) (va_Qv (fun (u : MS) => True ∧ xInv u.1 u.2.2.1 ∧ (∀ k, k ∉ ([146, 148] : List Nat) → u.1 k = i k) ∧ (∀ k, k ∉ ([] : List Nat) → u.2.2.1 k = c k) ∧ ((u.1 146).toInt = 0) ∧ ((u.1 148).toInt = 0)) (oC D (va_A (xwT sk a t i q c d) sz) (fun u : MS => xwT sk a t u.1 u.2.1 u.2.2.1 u.2.2.2) (fun _ => [])) (va_A (xwT sk a t i q c d) sz)) 0 0 (va_A (xwT sk a t i q c d) sz) := by
  refine Met.ofW (cc := cX9_end) (maxL := 1) (ret := none) (by decide +kernel) rfl ?_
  intro p e s m args below meth cd s₁ B hml hv
  obtain ⟨rfl, ⟨hsz, hP, hK, hD0⟩, hN, hZ, hBW⟩ := hv
  have hx := B.exec
  have hb := B.bytes
  have hr := B.returns
  have hts := atoms_spec (ws := wm_X9_end) B.pre
  have hown : s.vm.findClass RX9 = some m.cls := findClass_of_methodNamed B.named
  have hlocks := B.notSynchronized
  subst hsz
  have hD := hD0.self (sz := s.heap.size)
  have hZ := xZ_A hZ hP hBW
  generalize hAe : va_A (xwT sk a t i q c d) s.heap.size = A at hD hZ ⊢
  have hA : ∀ q : Nat, s.heap.size ≤ q → A q := fun q h => by rw [← hAe]; exact Or.inr h
  have hS : va_S A s.heap s.heap [] := va_S.rf
  have hfi : ∀ k, k ∉ ([] : List Nat) → i k = i k := fun _ _ => rfl
  have hfc : ∀ k, k ∉ ([] : List Nat) → c k = c k := fun _ _ => rfl
  have hl := lv_entry ([.ref (a 142)]) (n := 1) (Nat.le_of_ble_eq_true rfl)
  rw [lg_entry_eq]
  generalize (lg_sl ([.ref (a 142)]) ++ List.replicate (1 - (lg_sl ([.ref (a 142)])).length) Slot.unset).toArray = ls at hl ⊢
  have hl : lv_has ls 1 [(0, .ref (a 142))] := hl
  refine lv_aload_n hx hb dX9_end_0 rfl (lv_at hl 0 rfl) ?_
  refine lv_iconst (v := 0) hx hb dX9_end_1 (by decide +kernel) ?_
  refine xpT_T_there hx hb hts (fun _ h => List.mem_cons_of_mem _ (List.mem_append_right _ h)) hown hK hP hD hS (hts (.fieldLink RX9 72 "TalePlay$Tale" "there" "Z") (List.mem_cons_of_mem _ (List.mem_append_left _ (List.mem_of_getElem? (i := 0) rfl)))) rfl rfl dX9_end_2 (fun H locs hP hD hS => ?_)
  have hI := xInv_i hI (k := 146) (v := 0) (show 0 ≤ (0 : Int32).toInt ∧ (0 : Int32).toInt ≤ 1 from by decide +kernel)
  have hfi : ∀ k, k ∉ ([146] : List Nat) → (upd i 146 0) k = i k := fr_iz hfi (by decide +kernel) (by decide +kernel)
  refine lv_aload_n hx hb dX9_end_5 rfl (lv_at hl 0 rfl) ?_
  refine lv_iconst (v := 0) hx hb dX9_end_6 (by decide +kernel) ?_
  refine xpT_T_turns hx hb hts (fun _ h => List.mem_cons_of_mem _ (List.mem_append_right _ h)) hown hK hP hD hS (hts (.fieldLink RX9 77 "TalePlay$Tale" "turns" "I") (List.mem_cons_of_mem _ (List.mem_append_left _ (List.mem_of_getElem? (i := 1) rfl)))) rfl rfl dX9_end_7 (fun H locs hP hD hS => ?_)
  have hI := xInv_i hI (k := 148) (v := 0) (show 0 ≤ (0 : Int32).toInt ∧ (0 : Int32).toInt ≤ 100 from by decide +kernel)
  have hfi : ∀ k, k ∉ ([146, 148] : List Nat) → (upd (upd i 146 0) 148 0) k = i k := fr_iz hfi (by decide +kernel) (by decide +kernel)
  exact rw_vret ((upd (upd i 146 0) 148 0), q, c, d) hx hb hr hlocks hS (hK.sub (tys' := []) [] rfl) hP hD dX9_end_10 ⟨trivial, hI, fr_w hfi (by decide +kernel), fr_w hfc (by decide +kernel), (show (0 : Int32).toInt = 0 from by decide +kernel), (show (0 : Int32).toInt = 0 from by decide +kernel)⟩

