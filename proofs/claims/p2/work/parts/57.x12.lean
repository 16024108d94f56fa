def wm_X6_flagged : List Cond := .code yX6_flagged cX6_flagged 4 (some .int) :: (([] : List Cond))
set_option maxHeartbeats 4000000 in
set_option maxRecDepth 100000 in
theorem c_X6_flagged (l : Launch) (D : va_G) (sz : Nat) (c1 : Int32) (f1 : Int32) (z : Int32) (a : Int) (b : Int) (ha : c1.toInt = a) (hb_ : f1.toInt = b) (g0 : 0 ≤ a ∧ a ≤ 16383) (g1 : 0 ≤ b ∧ b ≤ 5) : Met l yX6_flagged wm_X6_flagged ({ frames := 0, cells := 0, slots := 0, locals := 0 }) (va_Pc [.int c1, .int f1, .int z] (pA D sz [] [])) (va_Qi (fun (r : Int32) (_ : Unit) => 0 ≤ r.toInt ∧ r.toInt ≤ 16383 ∧ r.toInt % 256 = a % 256) oA (ro sz)) 0 0 (ro sz) := by
  refine Met.ofW (cc := cX6_flagged) (maxL := 4) (ret := (some .int)) (by decide) rfl ?_
  intro p e s m args below meth c s₁ B hml hv
  obtain ⟨rfl, hsz, hP, hK⟩ := hv
  have hx := B.exec
  have hb := B.bytes
  have hr := B.returns
  have hts := atoms_spec (ws := wm_X6_flagged) B.pre
  have hown : s.vm.findClass RX6 = some m.cls := findClass_of_methodNamed B.named
  have hlocks := B.notSynchronized
  subst hsz
  have hA : ∀ q : Nat, s.heap.size ≤ q → ro s.heap.size q := fun _ h => h
  have hS : va_S (ro s.heap.size) s.heap s.heap [] := va_S.rf
  have hP : va_P D vwCl [] s.heap := hP
  have hl := lv_entry ([.int c1, .int f1, .int z]) (n := 4) (Nat.le_of_ble_eq_true rfl)
  rw [lg_entry_eq]
  generalize (lg_sl ([.int c1, .int f1, .int z]) ++ List.replicate (4 - (lg_sl ([.int c1, .int f1, .int z])).length) Slot.unset).toArray = ls at hl ⊢
  have hl : lv_has ls 4 [(0, .int c1), (1, .int f1), (2, .int z)] := hl
  refine lv_iconst (v := 1) hx hb dX6_flagged_0 (by decide) ?_
  refine lv_bipush (v := 8) hx hb dX6_flagged_1 (by decide) ?_
  refine lv_iload_n hx hb dX6_flagged_3 rfl (lv_at hl 1 rfl) ?_
  refine lv_iadd hx hb dX6_flagged_4 ?_
  refine lv_topi (fun x1 ex1 => ?_)
  have tx1 := ti_add (a := 8) (b := b) ex1 (by decide) hb_ (by omega) (by omega)
  refine lv_ishl hx hb dX6_flagged_5 ?_
  refine lv_topi (fun x2 ex2 => ?_)
  refine lv_istore_n (lv' := [(3, .int x2), (0, .int c1), (1, .int f1), (2, .int z)]) hx hb dX6_flagged_6 rfl hl (by decide) rfl (fun ls hl => ?_)
  refine lv_iload_n hx hb dX6_flagged_7 rfl (lv_at hl 3 rfl) ?_
  refine lv_if_eq (tgt := 17) hx hb dX6_flagged_8 (by decide) (fun c3 => ?_) (fun c3 => ?_)
  · have f3 := (ti_eq (a := z.toInt) (b := 0) rfl (by decide)).mp c3
    refine lv_iload_n hx hb dX6_flagged_17 rfl (lv_at hl 1 rfl) ?_
    refine lv_iload_n hx hb dX6_flagged_18 rfl (lv_at hl 0 rfl) ?_
    refine lv_iconst (v := (-1)) hx hb dX6_flagged_19 (by decide) ?_
    refine lv_ixor hx hb dX6_flagged_20 ?_
    refine lv_topi (fun x4 ex4 => ?_)
    refine lv_iand hx hb dX6_flagged_21 ?_
    refine lv_topi (fun x5 ex5 => ?_)
    exact ro_iret hx hb hr hlocks hS dX6_flagged_22 (by have hb9 := flag_b (f := f1) (x := x1) (b := x2) (by rw [hb_]; exact g1) (by rw [hb_]; exact tx1) ex2; have h9 := flag_and (c := c1) _ hb9.2 (by rw [ha]; exact g0) hb9.1 ex4 ex5; rw [ha] at h9; exact h9)
  · have f3 := mt (ti_eq (a := z.toInt) (b := 0) rfl (by decide)).mpr c3
    refine lv_iload_n hx hb dX6_flagged_11 rfl (lv_at hl 1 rfl) ?_
    refine lv_iload_n hx hb dX6_flagged_12 rfl (lv_at hl 0 rfl) ?_
    refine lv_ior hx hb dX6_flagged_13 ?_
    refine lv_topi (fun x6 ex6 => ?_)
    refine lv_goto (tgt := 22) hx hb dX6_flagged_14 (by decide) ?_
    exact ro_iret hx hb hr hlocks hS dX6_flagged_22 (by have hb9 := flag_b (f := f1) (x := x1) (b := x2) (by rw [hb_]; exact g1) (by rw [hb_]; exact tx1) ex2; have h9 := flag_or (c := c1) _ hb9.2 (by rw [ha]; exact g0) hb9.1 ex6; rw [ha] at h9; exact h9)

def wm_X1_write : List Cond := .code yX1_write cX1_write 6 (some .int) :: (([.fieldLink RX1 92 "TalePlay$Book" "total" "I", .fieldLink RX1 9 "TalePlay$Book" "forms" "[I", .fieldLink RX1 15 "TalePlay$Book" "as" "[I", .fieldLink RX1 18 "TalePlay$Book" "bs" "[I", .fieldLink RX1 21 "TalePlay$Book" "cs" "[I", .fieldLink RX1 24 "TalePlay$Book" "said" "[Z", .fieldLink RX1 96 "TalePlay$Book" "standing" "I", .methodLink RX1 99 yX1_point, .instanceMethod yX1_point, .selects RX1 yX1_point yX1_point, .initialized RX1, .code yX1_point cX1_point 4 none, .fieldLink RX1 28 "TalePlay$Book" "placeBy" "[I", .fieldLink RX1 52 "TalePlay$Book" "places" "LTalePlay$Scene;", .fieldLink RX1 103 "TalePlay$Scene" "cells" "[I", .methodLink RX1 106 yX6_placed, .static yX6_placed, .initialized RX6, .code yX6_placed cX6_placed 3 (some .int), .fieldLink RX1 31 "TalePlay$Book" "exitBy" "[I", .fieldLink RX1 34 "TalePlay$Book" "flagBy" "[I", .fieldLink RX1 37 "TalePlay$Book" "keyBy" "[I"] : List Cond) ++ wsX10 ++ wsX60)
set_option maxRecDepth 20000 in
theorem gm_X1_write_X1_point_99 : GoodIn wm_X1_write (wsV RX1 99 RX1 yX1_point wm_X1_point) := goodIn_app (goodIn_of _ (by decide +kernel)) (goodIn_r _ [12, 3, 2, 13, 14, 15, 4, 16, 17, 18, 19, 20, 5, 21, 22, 23, 24, 25, 26, 27, 28, 29, 30, 31, 32, 33, 34, 35, 36, 37, 38, 39] rfl (by decide +kernel))
set_option maxHeartbeats 4000000 in
set_option maxRecDepth 100000 in
theorem x_X1_write (l : Launch) (D : va_G) (sz : Nat) (sk : Value) (a : Nat → Nat) (t : Nat → ClassId) (i : Nat → Int32) (q : Int64) (c : Nat → Nat → Int32) (d : Nat → Nat → Int64) (f : Int32) (w1 : Int32) (w2 : Int32) (w3 : Int32) (hI : xInv i c) (hf : 0 ≤ f.toInt ∧ f.toInt ≤ 7) (hw1 : 0 ≤ w1.toInt ∧ w1.toInt ≤ 29) (hw2 : 0 ≤ w2.toInt ∧ w2.toInt ≤ 29) (hfl : f.toInt = 6 → w2.toInt ≤ 5) (hw3 : 0 ≤ w3.toInt ∧ w3.toInt ≤ 9) (hto : (i 124).toInt ≤ 199) (hs_F : xFl (c 113) (c 115)) : Met l yX1_write wm_X1_write ({ frames := 2, cells := 0, slots := 0, locals := 45 }) (va_Pc [.ref (a 112), .int f, .int w1, .int w2, .int w3] (yB (a 186) D sz (xwT sk a t i q c d) (xtT t))) (va_Qi (fun (r : Int32) (u : MS) => True ∧ xInv u.1 u.2.2.1 ∧ (∀ k, k ∉ ([124, 125] : List Nat) → u.1 k = i k) ∧ (∀ k, k ∉ ([113, 114, 115, 116, 117, 118, 119, 120, 121, 127] : List Nat) → u.2.2.1 k = c k) ∧ (xFl (u.2.2.1 113) (u.2.2.1 115))) (oC D (va_A (xwT sk a t i q c d) sz) (fun u : MS => xwT sk a t u.1 u.2.1 u.2.2.1 u.2.2.2) (fun _ => [])) (va_A (xwT sk a t i q c d) sz)) 0 0 (va_A (xwT sk a t i q c d) sz) := by
  refine Met.ofW (cc := cX1_write) (maxL := 6) (ret := (some .int)) (by decide) rfl ?_
  intro p e s m args below meth cd s₁ B hml hv
  obtain ⟨rfl, ⟨hsz, hP, hK, hD0⟩, hN, hZ, hBW⟩ := hv
  have hx := B.exec
  have hb := B.bytes
  have hr := B.returns
  have hts := atoms_spec (ws := wm_X1_write) B.pre
  have hown : s.vm.findClass RX1 = some m.cls := findClass_of_methodNamed B.named
  have hlocks := B.notSynchronized
  subst hsz
  have hD := hD0.self (sz := s.heap.size)
  have hZ := xZ_A hZ hP hBW
  generalize hAe : va_A (xwT sk a t i q c d) s.heap.size = A at hD hZ ⊢
  have hA : ∀ q : Nat, s.heap.size ≤ q → A q := fun q h => by rw [← hAe]; exact Or.inr h
  have hS : va_S A s.heap s.heap [] := va_S.rf
  have hfi : ∀ k, k ∉ ([] : List Nat) → i k = i k := fun _ _ => rfl
  have hfc : ∀ k, k ∉ ([] : List Nat) → c k = c k := fun _ _ => rfl
  have hl := lv_entry ([.ref (a 112), .int f, .int w1, .int w2, .int w3]) (n := 6) (Nat.le_of_ble_eq_true rfl)
  rw [lg_entry_eq]
  generalize (lg_sl ([.ref (a 112), .int f, .int w1, .int w2, .int w3]) ++ List.replicate (6 - (lg_sl ([.ref (a 112), .int f, .int w1, .int w2, .int w3])).length) Slot.unset).toArray = ls at hl ⊢
  have hl : lv_has ls 6 [(0, .ref (a 112)), (1, .int f), (2, .int w1), (3, .int w2), (4, .int w3)] := hl
  refine lv_aload_n hx hb dX1_write_0 rfl (lv_at hl 0 rfl) ?_
  refine lv_dup hx hb dX1_write_1 rfl ?_
  refine xgT_B_total (v := (i 124)) rfl hx hb hts (fun _ h => List.mem_cons_of_mem _ (List.mem_append_left _ (List.mem_append_right _ h))) hown hK hP (hts (.fieldLink RX1 92 "TalePlay$Book" "total" "I") (by decide +kernel)) dX1_write_2 ?_
  have rb124_i : 0 ≤ (i 124).toInt ∧ (i 124).toInt ≤ 200 := hI.1 124
  refine lv_dup_x1 hx hb dX1_write_5 rfl rfl ?_
  refine lv_iconst (v := 1) hx hb dX1_write_6 (by decide) ?_
  refine lv_iadd hx hb dX1_write_7 ?_
  refine lv_topi (fun x1 ex1 => ?_)
  have tx1 := ti_add (a := (i 124).toInt) (b := 1) ex1 rfl (by decide) (by omega) (by omega)
  refine xpT_B_total hx hb hts (fun _ h => List.mem_cons_of_mem _ (List.mem_append_left _ (List.mem_append_right _ h))) hown hK hP hD hS (hts (.fieldLink RX1 92 "TalePlay$Book" "total" "I") (by decide +kernel)) rfl rfl dX1_write_8 (fun H locs hP hD hS => ?_)
  have hI := xInv_i hI (k := 124) (v := x1) (show 0 ≤ (x1 : Int32).toInt ∧ (x1 : Int32).toInt ≤ 200 from by have h9 : x1.toInt = ((i 124).toInt + 1) := tx1; omega)
  have hfi : ∀ k, k ∉ ([124] : List Nat) → (upd i 124 x1) k = i k := fr_iz hfi (by decide) (by decide)
  refine lv_istore (lv' := [(5, .int (i 124)), (0, .ref (a 112)), (1, .int f), (2, .int w1), (3, .int w2), (4, .int w3)]) hx hb dX1_write_11 hl (by decide) rfl (fun ls hl => ?_)
  refine lv_aload_n hx hb dX1_write_13 rfl (lv_at hl 1 rfl) ?_
  refine xgT_B_forms hx hb hts (fun _ h => List.mem_cons_of_mem _ (List.mem_append_left _ (List.mem_append_right _ h))) hown hK hP (hts (.fieldLink RX1 9 "TalePlay$Book" "forms" "[I") (by decide +kernel)) dX1_write_14 ?_
  refine lv_iload hx hb dX1_write_17 (lv_at hl 0 rfl) ?_
  refine lv_iload_n hx hb dX1_write_19 rfl (lv_at hl 2 rfl) ?_
  refine xsT_113 hx hb hK hP hD hS (vp_in_iff.mpr (by have h9 : (i 124).toInt = (i 124).toInt := rfl; omega)) dX1_write_20 (fun H locs hP hD hS => ?_)
  have hI := xInv_c hI (k := 113) (j := ((i 124) : Int32).toNatClampNeg) (x := f) (show 0 ≤ (f : Int32).toInt ∧ (f : Int32).toInt ≤ 7 from by omega)
  have hfc : ∀ k, k ∉ ([113] : List Nat) → (updA c 113 ((i 124) : Int32).toNatClampNeg f) k = c k := fr_cz hfc (by decide) (by decide)
  refine lv_aload_n hx hb dX1_write_21 rfl (lv_at hl 1 rfl) ?_
  refine xgT_B_as hx hb hts (fun _ h => List.mem_cons_of_mem _ (List.mem_append_left _ (List.mem_append_right _ h))) hown hK hP (hts (.fieldLink RX1 15 "TalePlay$Book" "as" "[I") (by decide +kernel)) dX1_write_22 ?_
  refine lv_iload hx hb dX1_write_25 (lv_at hl 0 rfl) ?_
  refine lv_iload_n hx hb dX1_write_27 rfl (lv_at hl 3 rfl) ?_
  refine xsT_114 hx hb hK hP hD hS (vp_in_iff.mpr (by have h9 : (i 124).toInt = (i 124).toInt := rfl; omega)) dX1_write_28 (fun H locs hP hD hS => ?_)
  have hI := xInv_c hI (k := 114) (j := ((i 124) : Int32).toNatClampNeg) (x := w1) (show 0 ≤ (w1 : Int32).toInt ∧ (w1 : Int32).toInt ≤ 29 from by omega)
  have hfc : ∀ k, k ∉ ([113, 114] : List Nat) → (updA (updA c 113 ((i 124) : Int32).toNatClampNeg f) 114 ((i 124) : Int32).toNatClampNeg w1) k = c k := fr_cz hfc (by decide) (by decide)
  refine lv_aload_n hx hb dX1_write_29 rfl (lv_at hl 1 rfl) ?_
  refine xgT_B_bs hx hb hts (fun _ h => List.mem_cons_of_mem _ (List.mem_append_left _ (List.mem_append_right _ h))) hown hK hP (hts (.fieldLink RX1 18 "TalePlay$Book" "bs" "[I") (by decide +kernel)) dX1_write_30 ?_
  refine lv_iload hx hb dX1_write_33 (lv_at hl 0 rfl) ?_
  refine lv_iload_n hx hb dX1_write_35 rfl (lv_at hl 4 rfl) ?_
  refine xsT_115 hx hb hK hP hD hS (vp_in_iff.mpr (by have h9 : (i 124).toInt = (i 124).toInt := rfl; omega)) dX1_write_36 (fun H locs hP hD hS => ?_)
  have hI := xInv_c hI (k := 115) (j := ((i 124) : Int32).toNatClampNeg) (x := w2) (show 0 ≤ (w2 : Int32).toInt ∧ (w2 : Int32).toInt ≤ 29 from by omega)
  have hfc : ∀ k, k ∉ ([113, 114, 115] : List Nat) → (updA (updA (updA c 113 ((i 124) : Int32).toNatClampNeg f) 114 ((i 124) : Int32).toNatClampNeg w1) 115 ((i 124) : Int32).toNatClampNeg w2) k = c k := fr_cz hfc (by decide) (by decide)
  refine lv_aload_n hx hb dX1_write_37 rfl (lv_at hl 1 rfl) ?_
  refine xgT_B_cs hx hb hts (fun _ h => List.mem_cons_of_mem _ (List.mem_append_left _ (List.mem_append_right _ h))) hown hK hP (hts (.fieldLink RX1 21 "TalePlay$Book" "cs" "[I") (by decide +kernel)) dX1_write_38 ?_
  refine lv_iload hx hb dX1_write_41 (lv_at hl 0 rfl) ?_
  refine lv_iload hx hb dX1_write_43 (lv_at hl 5 rfl) ?_
  refine xsT_116 hx hb hK hP hD hS (vp_in_iff.mpr (by have h9 : (i 124).toInt = (i 124).toInt := rfl; omega)) dX1_write_45 (fun H locs hP hD hS => ?_)
  have hI := xInv_c hI (k := 116) (j := ((i 124) : Int32).toNatClampNeg) (x := w3) (show 0 ≤ (w3 : Int32).toInt ∧ (w3 : Int32).toInt ≤ 9 from by omega)
  have hfc : ∀ k, k ∉ ([113, 114, 115, 116] : List Nat) → (updA (updA (updA (updA c 113 ((i 124) : Int32).toNatClampNeg f) 114 ((i 124) : Int32).toNatClampNeg w1) 115 ((i 124) : Int32).toNatClampNeg w2) 116 ((i 124) : Int32).toNatClampNeg w3) k = c k := fr_cz hfc (by decide) (by decide)
  refine lv_aload_n hx hb dX1_write_46 rfl (lv_at hl 1 rfl) ?_
  refine xgT_B_said hx hb hts (fun _ h => List.mem_cons_of_mem _ (List.mem_append_left _ (List.mem_append_right _ h))) hown hK hP (hts (.fieldLink RX1 24 "TalePlay$Book" "said" "[Z") (by decide +kernel)) dX1_write_47 ?_
  refine lv_iload hx hb dX1_write_50 (lv_at hl 0 rfl) ?_
  refine lv_iconst (v := 1) hx hb dX1_write_52 (by decide) ?_
  refine xsT_117 hx hb hK hP hD hS (vp_in_iff.mpr (by have h9 : (i 124).toInt = (i 124).toInt := rfl; omega)) (nb_z (show 0 ≤ (1 : Int32).toInt ∧ (1 : Int32).toInt ≤ 1 from by have h9 : (1 : Int32).toInt = 1 := (by decide); omega)) dX1_write_53 (fun H locs hP hD hS => ?_)
  have hI := xInv_c hI (k := 117) (j := ((i 124) : Int32).toNatClampNeg) (x := 1) (show 0 ≤ (1 : Int32).toInt ∧ (1 : Int32).toInt ≤ 1 from by have h9 : (1 : Int32).toInt = 1 := (by decide); omega)
  have hfc : ∀ k, k ∉ ([113, 114, 115, 116, 117] : List Nat) → (updA (updA (updA (updA (updA c 113 ((i 124) : Int32).toNatClampNeg f) 114 ((i 124) : Int32).toNatClampNeg w1) 115 ((i 124) : Int32).toNatClampNeg w2) 116 ((i 124) : Int32).toNatClampNeg w3) 117 ((i 124) : Int32).toNatClampNeg 1) k = c k := fr_cz hfc (by decide) (by decide)
  refine lv_aload_n hx hb dX1_write_54 rfl (lv_at hl 1 rfl) ?_
  refine lv_dup hx hb dX1_write_55 rfl ?_
  refine xgT_B_standing (i := (upd i 124 x1)) (v := (i 125)) rfl hx hb hts (fun _ h => List.mem_cons_of_mem _ (List.mem_append_left _ (List.mem_append_right _ h))) hown hK hP (hts (.fieldLink RX1 96 "TalePlay$Book" "standing" "I") (by decide +kernel)) dX1_write_56 ?_
  refine lv_iconst (v := 1) hx hb dX1_write_59 (by decide) ?_
  refine lv_iadd hx hb dX1_write_60 ?_
  refine lv_topi (fun x2 ex2 => ?_)
  refine xpT_B_standing hx hb hts (fun _ h => List.mem_cons_of_mem _ (List.mem_append_left _ (List.mem_append_right _ h))) hown hK hP hD hS (hts (.fieldLink RX1 96 "TalePlay$Book" "standing" "I") (by decide +kernel)) rfl rfl dX1_write_61 (fun H locs hP hD hS => ?_)
  have hI := xInv_i hI (k := 125) (v := x2) (show True from trivial)
  have hfi : ∀ k, k ∉ ([124, 125] : List Nat) → (upd (upd i 124 x1) 125 x2) k = i k := fr_iz hfi (by decide) (by decide)
  have hs_F : xFl ((updA (updA (updA (updA (updA c 113 ((i 124) : Int32).toNatClampNeg f) 114 ((i 124) : Int32).toNatClampNeg w1) 115 ((i 124) : Int32).toNatClampNeg w2) 116 ((i 124) : Int32).toNatClampNeg w3) 117 ((i 124) : Int32).toNatClampNeg 1) 113) ((updA (updA (updA (updA (updA c 113 ((i 124) : Int32).toNatClampNeg f) 114 ((i 124) : Int32).toNatClampNeg w1) 115 ((i 124) : Int32).toNatClampNeg w2) 116 ((i 124) : Int32).toNatClampNeg w3) 117 ((i 124) : Int32).toNatClampNeg 1) 115) := xFl_w (j := ((i 124) : Int32).toNatClampNeg) (x := f) (y := w2) hs_F (by omega)
  refine lv_aload_n hx hb dX1_write_64 rfl (lv_at hl 1 rfl) ?_
  refine lv_iload hx hb dX1_write_65 (lv_at hl 0 rfl) ?_
  refine lv_iload hx hb dX1_write_67 (lv_at hl 0 rfl) ?_
  refine al_callv (va_runV (As := [.int (i 124), .int (i 124)]) (rest := []) ⟨hx, hb, hml, hown, hts⟩ (x_X1_point l D H.size sk a t (upd (upd i 124 x1) 125 x2) q (updA (updA (updA (updA (updA c 113 ((i 124) : Int32).toNatClampNeg f) 114 ((i 124) : Int32).toNatClampNeg w1) 115 ((i 124) : Int32).toNatClampNeg w2) 116 ((i 124) : Int32).toNatClampNeg w3) 117 ((i 124) : Int32).toNatClampNeg 1) d (i 124) (i 124) hI (show 0 ≤ (i 124).toInt ∧ (i 124).toInt ≤ 199 from by have h60 : x1.toInt = ((i 124).toInt + 1) := tx1; omega) (show (i 124).toInt = -9 ∨ (0 ≤ (i 124).toInt ∧ (i 124).toInt ≤ 199) from by have h60 : x1.toInt = ((i 124).toInt + 1) := tx1; omega) hs_F) (cwV 2 hts gm_X1_write_X1_point_99 rfl rfl rfl (by decide +kernel) ⟨Nat.le_of_ble_eq_true rfl, Nat.le_of_ble_eq_true rfl⟩) (yB_V hN (xZ_k hZ hS hA) (xZ_n hZ hD) hK hP hD (ci := 1) (q0 := 8) rfl rfl) rfl rfl hl.1 rfl (lv_room (Nat.le_of_ble_eq_true rfl)) dX1_write_69 ⟨Nat.le_of_ble_eq_true rfl, Nat.le_of_ble_eq_true rfl⟩) hS hA hP hD (fun u3 H locs hw3 hP hD hS => ?_)
  obtain ⟨i3, q3, c3, d3⟩ := u3
  have hw3 : True ∧ xInv i3 c3 ∧ (∀ k, k ∉ ([] : List Nat) → i3 k = (upd (upd i 124 x1) 125 x2) k) ∧ (∀ k, k ∉ ([118, 119, 120, 121, 127] : List Nat) → c3 k = (updA (updA (updA (updA (updA c 113 ((i 124) : Int32).toNatClampNeg f) 114 ((i 124) : Int32).toNatClampNeg w1) 115 ((i 124) : Int32).toNatClampNeg w2) 116 ((i 124) : Int32).toNatClampNeg w3) 117 ((i 124) : Int32).toNatClampNeg 1) k) := hw3
  obtain ⟨hw3, hI, hei3, hec3⟩ := hw3
  have hfi : ∀ k, k ∉ ([124, 125] : List Nat) → i3 k = i k := fr_z hfi hei3 (by decide) (by decide)
  have hfc : ∀ k, k ∉ ([113, 114, 115, 116, 117, 118, 119, 120, 121, 127] : List Nat) → c3 k = c k := fr_z hfc hec3 (by decide) (by decide)
  refine lv_iload hx hb dX1_write_72 (lv_at hl 0 rfl) ?_
  exact rw_iret (i3, q3, c3, d3) hx hb hr hlocks hS (hK.sub (tys' := []) [] rfl) hP hD dX1_write_74 ⟨trivial, hI, fr_w hfi (by decide), fr_w hfc (by decide), (show xFl (c3 113) (c3 115) from by rw [show c3 113 = (updA (updA (updA (updA (updA c 113 ((i 124) : Int32).toNatClampNeg f) 114 ((i 124) : Int32).toNatClampNeg w1) 115 ((i 124) : Int32).toNatClampNeg w2) 116 ((i 124) : Int32).toNatClampNeg w3) 117 ((i 124) : Int32).toNatClampNeg 1) 113 from hec3 113 (by decide), show c3 115 = (updA (updA (updA (updA (updA c 113 ((i 124) : Int32).toNatClampNeg f) 114 ((i 124) : Int32).toNatClampNeg w1) 115 ((i 124) : Int32).toNatClampNeg w2) 116 ((i 124) : Int32).toNatClampNeg w3) 117 ((i 124) : Int32).toNatClampNeg 1) 115 from hec3 115 (by decide)]; exact hs_F)⟩

def wm_X11_say : List Cond := .code yX11_say cX11_say 8 (some .int) :: (([.fieldLink RX11 21 "TalePlay" "book" "LTalePlay$Book;", .methodLink RX11 153 yX1_clearClash, .instanceMethod yX1_clearClash, .selects RX1 yX1_clearClash yX1_clearClash, .initialized RX1, .code yX1_clearClash cX1_clearClash 1 none, .fieldLink RX1 118 "TalePlay$Book" "clashes" "I", .methodLink RX11 156 yX1_isWellFormed, .instanceMethod yX1_isWellFormed, .selects RX1 yX1_isWellFormed yX1_isWellFormed, .code yX1_isWellFormed cX1_isWellFormed 5 (some .boolean), .fieldLink RX1 43 "TalePlay$Book" "world" "LTalePlay$World;", .methodLink RX1 62 yX10_hasObject, .instanceMethod yX10_hasObject, .selects RX10 yX10_hasObject yX10_hasObject, .initialized RX10, .code yX10_hasObject cX10_hasObject 2 (some .boolean), .fieldLink RX10 37 "TalePlay$World" "objects" "I", .code yX11_isBelow cX11_isBelow 2 (some .boolean), .initialized RX11, .static yX11_isBelow, .methodLink RX11 160 yX1_isFitting, .instanceMethod yX1_isFitting, .selects RX1 yX1_isFitting yX1_isFitting, .code yX1_isFitting cX1_isFitting 5 (some .boolean), .methodLink RX1 72 yX10_sortOf, .instanceMethod yX10_sortOf, .selects RX10 yX10_sortOf yX10_sortOf, .code yX10_sortOf cX10_sortOf 2 (some .int), .fieldLink RX10 15 "TalePlay$World" "sorts" "[I", .fieldLink RX10 21 "TalePlay$World" "kindOf" "[I", .methodLink RX1 79 yX10_isGoods, .instanceMethod yX10_isGoods, .selects RX10 yX10_isGoods yX10_isGoods, .code yX10_isGoods cX10_isGoods 2 (some .boolean), .methodLink RX10 44 yX10_isMovable, .instanceMethod yX10_isMovable, .selects RX10 yX10_isMovable yX10_isMovable, .code yX10_isMovable cX10_isMovable 3 (some .boolean), .methodLink RX10 40 yX10_sortOf, .methodLink RX1 85 yX10_isShutter, .instanceMethod yX10_isShutter, .selects RX10 yX10_isShutter yX10_isShutter, .code yX10_isShutter cX10_isShutter 3 (some .boolean), .methodLink RX1 76 yX10_isMovable, .methodLink RX1 82 yX10_canHave, .instanceMethod yX10_canHave, .selects RX10 yX10_canHave yX10_canHave, .code yX10_canHave cX10_canHave 3 (some .boolean), .methodLink RX10 48 yX10_isShutter, .methodLink RX10 51 yX10_isGoods, .methodLink RX11 164 yX1_findSame, .instanceMethod yX1_findSame, .selects RX1 yX1_findSame yX1_findSame, .code yX1_findSame cX1_findSame 7 (some .int), .methodLink RX1 88 yX1_standingFor, .instanceMethod yX1_standingFor, .selects RX1 yX1_standingFor yX1_standingFor, .code yX1_standingFor cX1_standingFor 5 (some .int), .fieldLink RX1 28 "TalePlay$Book" "placeBy" "[I", .fieldLink RX1 31 "TalePlay$Book" "exitBy" "[I", .fieldLink RX1 34 "TalePlay$Book" "flagBy" "[I", .fieldLink RX1 37 "TalePlay$Book" "keyBy" "[I", .fieldLink RX1 9 "TalePlay$Book" "forms" "[I", .fieldLink RX1 15 "TalePlay$Book" "as" "[I", .fieldLink RX1 18 "TalePlay$Book" "bs" "[I", .fieldLink RX1 21 "TalePlay$Book" "cs" "[I", .fieldLink RX11 168 "TalePlay$Book" "total" "I", .methodLink RX11 171 yX1_isClashing, .instanceMethod yX1_isClashing, .selects RX1 yX1_isClashing yX1_isClashing, .code yX1_isClashing cX1_isClashing 5 (some .boolean), .methodLink RX1 121 yX1_addClash, .instanceMethod yX1_addClash, .selects RX1 yX1_addClash yX1_addClash, .code yX1_addClash cX1_addClash 2 (some .boolean), .fieldLink RX1 40 "TalePlay$Book" "clashRow" "[I", .methodLink RX1 131 yX1_isPlaceClashing, .instanceMethod yX1_isPlaceClashing, .selects RX1 yX1_isPlaceClashing yX1_isPlaceClashing, .code yX1_isPlaceClashing cX1_isPlaceClashing 4 (some .boolean), .fieldLink RX1 52 "TalePlay$Book" "places" "LTalePlay$Scene;", .methodLink RX1 134 yX6_isUp, .instanceMethod yX6_isUp, .selects RX6 yX6_isUp yX6_isUp, .initialized RX6, .code yX6_isUp cX6_isUp 5 (some .boolean), .methodLink RX6 25 yX6_holderOf, .instanceMethod yX6_holderOf, .selects RX6 yX6_holderOf yX6_holderOf, .code yX6_holderOf cX6_holderOf 3 (some .int), .fieldLink RX6 9 "TalePlay$Scene" "cells" "[I", .methodLink RX1 140 yX1_saying, .instanceMethod yX1_saying, .selects RX1 yX1_saying yX1_saying, .code yX1_saying cX1_saying 5 (some .int), .methodLink RX1 137 yX1_addChain, .instanceMethod yX1_addChain, .selects RX1 yX1_addChain yX1_addChain, .code yX1_addChain cX1_addChain 5 none, .methodLink RX1 143 yX6_holderOf, .methodLink RX1 124 yX1_isDoorClashing, .instanceMethod yX1_isDoorClashing, .selects RX1 yX1_isDoorClashing yX1_isDoorClashing, .code yX1_isDoorClashing cX1_isDoorClashing 5 (some .boolean), .fieldLink RX1 92 "TalePlay$Book" "total" "I", .methodLink RX1 146 yX1_clearClash, .fieldLink RX1 24 "TalePlay$Book" "said" "[Z", .methodLink RX1 127 yX1_isFlagClashing, .instanceMethod yX1_isFlagClashing, .selects RX1 yX1_isFlagClashing yX1_isFlagClashing, .code yX1_isFlagClashing cX1_isFlagClashing 4 (some .boolean), .methodLink RX1 149 yX6_formOf, .instanceMethod yX6_formOf, .selects RX6 yX6_formOf yX6_formOf, .code yX6_formOf cX6_formOf 3 (some .int), .fieldLink RX11 46 "TalePlay" "tale" "LTalePlay$Tale;", .methodLink RX11 95 yX9_end, .instanceMethod yX9_end, .selects RX9 yX9_end yX9_end, .initialized RX9, .code yX9_end cX9_end 1 none, .fieldLink RX9 72 "TalePlay$Tale" "there" "Z", .fieldLink RX9 77 "TalePlay$Tale" "turns" "I", .methodLink RX11 174 yX1_write, .instanceMethod yX1_write, .selects RX1 yX1_write yX1_write, .code yX1_write cX1_write 6 (some .int), .fieldLink RX1 96 "TalePlay$Book" "standing" "I", .methodLink RX1 99 yX1_point, .instanceMethod yX1_point, .selects RX1 yX1_point yX1_point, .code yX1_point cX1_point 4 none, .fieldLink RX1 103 "TalePlay$Scene" "cells" "[I", .methodLink RX1 106 yX6_placed, .static yX6_placed, .code yX6_placed cX6_placed 3 (some .int), .fieldLink RX11 30 "TalePlay" "roads" "LTalePlay$Roads;", .methodLink RX11 177 yX5_redrawFor, .instanceMethod yX5_redrawFor, .selects RX5 yX5_redrawFor yX5_redrawFor, .initialized RX5, .code yX5_redrawFor cX5_redrawFor 2 none, .methodLink RX5 47 yX5_wipe, .instanceMethod yX5_wipe, .selects RX5 yX5_wipe yX5_wipe, .code yX5_wipe cX5_wipe 1 none, .fieldLink RX5 9 "TalePlay$Roads" "leads" "[I", .methodLink RX5 50 yJ7_fill_53178, .static yJ7_fill_53178, .initialized RJ7, .code yJ7_fill_53178 cJ7_fill_53178 4 none, .fieldLink RX5 15 "TalePlay$Roads" "doors" "[I", .fieldLink RX5 18 "TalePlay$Roads" "bys" "[I", .fieldLink RX5 21 "TalePlay$Roads" "implied" "[I", .fieldLink RX5 24 "TalePlay$Roads" "firstSides" "[I", .fieldLink RX5 27 "TalePlay$Roads" "secondSides" "[I", .methodLink RX5 56 yX5_drawSaid, .instanceMethod yX5_drawSaid, .selects RX5 yX5_drawSaid yX5_drawSaid, .code yX5_drawSaid cX5_drawSaid 3 none, .fieldLink RX5 43 "TalePlay$Roads" "book" "LTalePlay$Book;", .fieldLink RX5 74 "TalePlay$Book" "total" "I", .methodLink RX5 78 yX5_isDrawn, .instanceMethod yX5_isDrawn, .selects RX5 yX5_isDrawn yX5_isDrawn, .code yX5_isDrawn cX5_isDrawn 2 (some .boolean), .fieldLink RX5 65 "TalePlay$Book" "said" "[Z", .fieldLink RX5 71 "TalePlay$Book" "forms" "[I", .fieldLink RX5 82 "TalePlay$Book" "as" "[I", .fieldLink RX5 85 "TalePlay$Book" "cs" "[I", .fieldLink RX5 88 "TalePlay$Book" "bs" "[I", .methodLink RX5 91 yX5_drawTarget, .instanceMethod yX5_drawTarget, .selects RX5 yX5_drawTarget yX5_drawTarget, .code yX5_drawTarget cX5_drawTarget 4 none, .fieldLink RX5 39 "TalePlay$Roads" "world" "LTalePlay$World;", .methodLink RX5 95 yX10_sortOf, .methodLink RX5 59 yX5_drawImplied, .instanceMethod yX5_drawImplied, .selects RX5 yX5_drawImplied yX5_drawImplied, .code yX5_drawImplied cX5_drawImplied 3 none, .methodLink RX5 62 yX5_drawThroughDoors, .instanceMethod yX5_drawThroughDoors, .selects RX5 yX5_drawThroughDoors yX5_drawThroughDoors, .code yX5_drawThroughDoors cX5_drawThroughDoors 4 none, .methodLink RX11 128 yX11_answerFinding, .instanceMethod yX11_answerFinding, .selects RX11 yX11_answerFinding yX11_answerFinding, .code yX11_answerFinding cX11_answerFinding 2 (some .int), .fieldLink RX11 72 "TalePlay" "latestFinding" "I", .fieldLink RX11 68 "TalePlay" "findingCounts" "[I"] : List Cond) ++ wsX110 ++ wsX10 ++ wsX100 ++ wsX60 ++ wsX90 ++ wsX50)
set_option maxRecDepth 20000 in
theorem gm_X11_say_X1_clearClash_153 : GoodIn wm_X11_say (wsV RX11 153 RX1 yX1_clearClash wm_X1_clearClash) := goodIn_app (goodIn_of _ (by decide +kernel)) (goodIn_r _ [6, 7, 204, 205, 206, 207, 208, 209, 210, 211, 212, 213, 214, 215, 216, 217, 218] rfl (by decide +kernel))
set_option maxRecDepth 20000 in
theorem gm_X11_say_X1_isWellFormed_156 : GoodIn wm_X11_say (wsV RX11 156 RX1 yX1_isWellFormed wm_X1_isWellFormed) := goodIn_app (goodIn_of _ (by decide +kernel)) (goodIn_r _ [11, 12, 13, 14, 15, 16, 17, 18, 19, 20, 21, 204, 205, 206, 207, 208, 209, 210, 211, 212, 213, 214, 215, 216, 217, 218, 219, 220, 221, 222, 223, 224, 225] rfl (by decide +kernel))
set_option maxRecDepth 20000 in
theorem gm_X11_say_X1_isFitting_160 : GoodIn wm_X11_say (wsV RX11 160 RX1 yX1_isFitting wm_X1_isFitting) := goodIn_app (goodIn_of _ (by decide +kernel)) (goodIn_r _ [25, 12, 26, 27, 28, 16, 29, 18, 30, 31, 32, 33, 34, 35, 36, 37, 38, 39, 40, 41, 42, 43, 44, 45, 46, 47, 48, 49, 50, 51, 204, 205, 206, 207, 208, 209, 210, 211, 212, 213, 214, 215, 216, 217, 218, 219, 220, 221, 222, 223, 224, 225] rfl (by decide +kernel))
set_option maxRecDepth 20000 in
theorem gm_X11_say_X1_findSame_164 : GoodIn wm_X11_say (wsV RX11 164 RX1 yX1_findSame wm_X1_findSame) := goodIn_app (goodIn_of _ (by decide +kernel)) (goodIn_r _ [55, 56, 57, 58, 5, 59, 60, 61, 62, 63, 64, 65, 66, 67, 204, 205, 206, 207, 208, 209, 210, 211, 212, 213, 214, 215, 216, 217, 218] rfl (by decide +kernel))
set_option maxRecDepth 20000 in
theorem gm_X11_say_X1_isClashing_171 : GoodIn wm_X11_say (wsV RX11 171 RX1 yX1_isClashing wm_X1_isClashing) := goodIn_app (goodIn_of _ (by decide +kernel)) (goodIn_r _ [72, 56, 57, 58, 5, 59, 60, 61, 62, 63, 73, 74, 75, 76, 7, 77, 78, 79, 80, 81, 82, 83, 84, 85, 86, 87, 88, 89, 90, 91, 92, 93, 94, 95, 96, 67, 97, 98, 99, 100, 101, 12, 26, 27, 28, 16, 29, 18, 30, 31, 102, 103, 104, 105, 106, 107, 3, 4, 6, 108, 64, 66, 109, 110, 111, 112, 113, 114, 115, 116, 204, 205, 206, 207, 208, 209, 210, 211, 212, 213, 214, 215, 216, 217, 218, 226, 227, 219, 220, 221, 222, 223, 224, 225] rfl (by decide +kernel))
set_option maxRecDepth 20000 in
theorem gm_X11_say_X9_end_95 : GoodIn wm_X11_say (wsV RX11 95 RX9 yX9_end wm_X9_end) := goodIn_app (goodIn_of _ (by decide +kernel)) (goodIn_r _ [122, 123, 124, 228, 229, 230, 231, 232, 233, 234, 235, 236, 237, 238] rfl (by decide +kernel))
set_option maxRecDepth 20000 in
theorem gm_X11_say_X1_write_174 : GoodIn wm_X11_say (wsV RX11 174 RX1 yX1_write wm_X1_write) := goodIn_app (goodIn_of _ (by decide +kernel)) (goodIn_r _ [128, 106, 64, 65, 66, 67, 108, 129, 130, 131, 132, 5, 133, 60, 82, 134, 135, 136, 86, 137, 61, 62, 63, 204, 205, 206, 207, 208, 209, 210, 211, 212, 213, 214, 215, 216, 217, 218, 226, 227] rfl (by decide +kernel))
set_option maxRecDepth 20000 in
theorem gm_X11_say_X5_redrawFor_177 : GoodIn wm_X11_say (wsV RX11 177 RX5 yX5_redrawFor wm_X5_redrawFor) := goodIn_app (goodIn_of _ (by decide +kernel)) (goodIn_r _ [143, 144, 145, 146, 142, 147, 148, 149, 150, 151, 152, 153, 154, 155, 156, 157, 158, 159, 160, 161, 162, 163, 164, 165, 166, 167, 168, 169, 170, 171, 172, 173, 174, 175, 176, 177, 178, 27, 28, 16, 29, 18, 30, 31, 179, 180, 181, 182, 183, 184, 185, 186, 239, 240, 241, 242, 243, 244, 245, 246, 247, 248, 249, 204, 205, 206, 207, 208, 209, 210, 211, 212, 213, 214, 215, 216, 217, 218, 219, 220, 221, 222, 223, 224, 225] rfl (by decide +kernel))
set_option maxRecDepth 20000 in
theorem gm_X11_say_X11_answerFinding_128 : GoodIn wm_X11_say (wsV RX11 128 RX11 yX11_answerFinding wm_X11_answerFinding) := goodIn_app (goodIn_of _ (by decide +kernel)) (goodIn_r _ [190, 191, 192, 193, 194, 195, 196, 197, 198, 199, 200, 201, 202, 203] rfl (by decide +kernel))
set_option maxHeartbeats 4000000 in
set_option maxRecDepth 100000 in
theorem x_X11_say (l : Launch) (D : va_G) (sz : Nat) (sk : Value) (a : Nat → Nat) (t : Nat → ClassId) (i : Nat → Int32) (q : Int64) (c : Nat → Nat → Int32) (d : Nat → Nat → Int64) (f : Int32) (w1 : Int32) (w2 : Int32) (w3 : Int32) (hI : xInv i c) (hs_F : xFl (c 113) (c 115)) : Met l yX11_say wm_X11_say ({ frames := 5, cells := 0, slots := 0, locals := 110 }) (va_Pc [.ref (a 100), .int f, .int w1, .int w2, .int w3] (yB (a 186) D sz (xwT sk a t i q c d) (xtT t))) (va_Qi (fun (r : Int32) (u : MS) => True ∧ xInv u.1 u.2.2.1 ∧ (∀ k, k ∉ ([102, 123, 124, 125, 146, 148] : List Nat) → u.1 k = i k) ∧ (∀ k, k ∉ ([101, 113, 114, 115, 116, 117, 118, 119, 120, 121, 122, 127, 129, 130, 131, 132, 133, 134] : List Nat) → u.2.2.1 k = c k) ∧ (xEn (i 146) (i 148) (u.1 146) (u.1 148)) ∧ (xFl (u.2.2.1 113) (u.2.2.1 115))) (oC D (va_A (xwT sk a t i q c d) sz) (fun u : MS => xwT sk a t u.1 u.2.1 u.2.2.1 u.2.2.2) (fun _ => [])) (va_A (xwT sk a t i q c d) sz)) 0 0 (va_A (xwT sk a t i q c d) sz) := by
  refine Met.ofW (cc := cX11_say) (maxL := 8) (ret := (some .int)) (by decide) rfl ?_
  intro p e s m args below meth cd s₁ B hml hv
  obtain ⟨rfl, ⟨hsz, hP, hK, hD0⟩, hN, hZ, hBW⟩ := hv
  have hx := B.exec
  have hb := B.bytes
  have hr := B.returns
  have hts := atoms_spec (ws := wm_X11_say) B.pre
  have hown : s.vm.findClass RX11 = some m.cls := findClass_of_methodNamed B.named
  have hlocks := B.notSynchronized
  subst hsz
  have hD := hD0.self (sz := s.heap.size)
  have hZ := xZ_A hZ hP hBW
  generalize hAe : va_A (xwT sk a t i q c d) s.heap.size = A at hD hZ ⊢
  have hA : ∀ q : Nat, s.heap.size ≤ q → A q := fun q h => by rw [← hAe]; exact Or.inr h
  have hS : va_S A s.heap s.heap [] := va_S.rf
  have hfi : ∀ k, k ∉ ([] : List Nat) → i k = i k := fun _ _ => rfl
  have hfc : ∀ k, k ∉ ([] : List Nat) → c k = c k := fun _ _ => rfl
  have hl := lv_entry ([.ref (a 100), .int f, .int w1, .int w2, .int w3]) (n := 8) (Nat.le_of_ble_eq_true rfl)
  rw [lg_entry_eq]
  generalize (lg_sl ([.ref (a 100), .int f, .int w1, .int w2, .int w3]) ++ List.replicate (8 - (lg_sl ([.ref (a 100), .int f, .int w1, .int w2, .int w3])).length) Slot.unset).toArray = ls at hl ⊢
  have hl : lv_has ls 8 [(0, .ref (a 100)), (1, .int f), (2, .int w1), (3, .int w2), (4, .int w3)] := hl
  refine lv_aload_n hx hb dX11_say_0 rfl (lv_at hl 0 rfl) ?_
  refine xgT_X_book hx hb hts (fun _ h => List.mem_cons_of_mem _ (List.mem_append_left _ (List.mem_append_left _ (List.mem_append_left _ (List.mem_append_left _ (List.mem_append_left _ (List.mem_append_right _ h))))))) hown hK hP (hts (.fieldLink RX11 21 "TalePlay" "book" "LTalePlay$Book;") (by decide +kernel)) dX11_say_1 ?_
  refine al_callv (va_runV (As := []) (rest := []) ⟨hx, hb, hml, hown, hts⟩ (x_X1_clearClash l D s.heap.size sk a t i q c d  hI ) (cwV 0 hts gm_X11_say_X1_clearClash_153 rfl rfl rfl (by decide +kernel) ⟨Nat.le_of_ble_eq_true rfl, Nat.le_of_ble_eq_true rfl⟩) (yB_V hN (xZ_k hZ hS hA) (xZ_n hZ hD) hK hP hD (ci := 1) (q0 := 8) rfl rfl) rfl rfl hl.1 rfl (lv_room (Nat.le_of_ble_eq_true rfl)) dX11_say_4 ⟨Nat.le_of_ble_eq_true rfl, Nat.le_of_ble_eq_true rfl⟩) hS hA hP hD (fun u1 H locs hw1 hP hD hS => ?_)
  obtain ⟨i1, q1, c1, d1⟩ := u1
  have hw1 : True ∧ xInv i1 c1 ∧ (∀ k, k ∉ ([123] : List Nat) → i1 k = i k) ∧ (∀ k, k ∉ ([] : List Nat) → c1 k = c k) := hw1
  obtain ⟨hw1, hI, hei1, hec1⟩ := hw1
  have hfi : ∀ k, k ∉ ([123] : List Nat) → i1 k = i k := fr_z hfi hei1 (by decide) (by decide)
  have hfc : ∀ k, k ∉ ([] : List Nat) → c1 k = c k := fr_z hfc hec1 (by decide) (by decide)
  refine lv_aload_n hx hb dX11_say_7 rfl (lv_at hl 0 rfl) ?_
  refine xgT_X_book hx hb hts (fun _ h => List.mem_cons_of_mem _ (List.mem_append_left _ (List.mem_append_left _ (List.mem_append_left _ (List.mem_append_left _ (List.mem_append_left _ (List.mem_append_right _ h))))))) hown hK hP (hts (.fieldLink RX11 21 "TalePlay" "book" "LTalePlay$Book;") (by decide +kernel)) dX11_say_8 ?_
  refine lv_iload_n hx hb dX11_say_11 rfl (lv_at hl 1 rfl) ?_
  refine lv_iload_n hx hb dX11_say_12 rfl (lv_at hl 2 rfl) ?_
  refine lv_iload_n hx hb dX11_say_13 rfl (lv_at hl 3 rfl) ?_
  refine lv_iload hx hb dX11_say_14 (lv_at hl 4 rfl) ?_
  have rb111_i1 : 0 ≤ (i1 111).toInt ∧ (i1 111).toInt ≤ 30 := hI.1 111
  have re111_i1 : (i1 111).toInt = (i 111).toInt := congrArg Int32.toInt (hfi 111 (by decide))
  refine ro_calli (va_runV (As := [.int f, .int w1, .int w2, .int w3]) (rest := []) ⟨hx, hb, hml, hown, hts⟩ (x_X1_isWellFormed l D H.size .null a t i1 q1 c1 d1 f w1 w2 w3 hI ) (cwV 4 hts gm_X11_say_X1_isWellFormed_156 rfl rfl rfl (by decide +kernel) ⟨Nat.le_of_ble_eq_true rfl, Nat.le_of_ble_eq_true rfl⟩) (yA_V hN (xZ_k hZ hS hA) (xkT_B hK) (xuT_B (sk := sk) hP) (ci := 1) (q0 := 6) rfl rfl) rfl rfl hl.1 rfl (lv_room (Nat.le_of_ble_eq_true rfl)) dX11_say_16 ⟨Nat.le_of_ble_eq_true rfl, Nat.le_of_ble_eq_true rfl⟩) hS hA hP (fun r2 u2 H locs hw2 hP hS => ?_)
  have hw2 : ((0 ≤ r2.toInt ∧ r2.toInt ≤ 1) ∧ (Im (r2.toInt = 1) (0 ≤ f.toInt ∧ f.toInt ≤ 7 ∧ 0 ≤ w1.toInt ∧ w1.toInt < (i1 111).toInt ∧ (f.toInt = 6 → 0 ≤ w2.toInt ∧ w2.toInt ≤ 5 ∧ 0 ≤ w3.toInt ∧ w3.toInt ≤ 1) ∧ (¬ f.toInt = 6 → 0 ≤ w2.toInt ∧ w2.toInt < (i1 111).toInt) ∧ (f.toInt = 5 → 0 ≤ w3.toInt ∧ w3.toInt ≤ 9)))) := hw2
  obtain ⟨hw2, hr2_0⟩ := hw2
  have hr2_0 : Im (r2.toInt = 1) (0 ≤ f.toInt ∧ f.toInt ≤ 7 ∧ 0 ≤ w1.toInt ∧ w1.toInt < (i 111).toInt ∧ (f.toInt = 6 → 0 ≤ w2.toInt ∧ w2.toInt ≤ 5 ∧ 0 ≤ w3.toInt ∧ w3.toInt ≤ 1) ∧ (¬ f.toInt = 6 → 0 ≤ w2.toInt ∧ w2.toInt < (i 111).toInt) ∧ (f.toInt = 5 → 0 ≤ w3.toInt ∧ w3.toInt ≤ 9)) := by have h9 := hr2_0; rw [show i1 111 = i 111 from hfi 111 (by decide)] at h9; exact h9
  refine lv_if_ne (tgt := 24) hx hb dX11_say_19 (by decide) (fun c3 => ?_) (fun c3 => ?_)
  · have f3 := mt (ti_eq (a := r2.toInt) (b := 0) rfl (by decide)).mpr c3
    obtain ⟨hwf1, hwf2, hwf3, hwf4, hwf5, hwf6⟩ := hr2_0 (by omega)
    refine lv_iload_n hx hb dX11_say_24 rfl (lv_at hl 1 rfl) ?_
    refine lv_iconst (v := 5) hx hb dX11_say_25 (by decide) ?_
    have jn4 : ∀ (z4_0 : Int32), (0 ≤ z4_0.toInt ∧ z4_0.toInt ≤ 9) → ∀ (H : Heap) (locs : List Loc) (ls : Array Slot), va_P D vwCl (xwT sk a t i1 q1 c1 d1) H → va_D A (xwT sk a t i1 q1 c1 d1) → va_S A s.heap H locs → lv_has ls 8 [(0, .ref (a 100)), (1, .int f), (2, .int w1), (3, .int w2), (4, .int w3)] → W p l e (headSpec wm_X11_say ({ frames := 5, cells := 0, slots := 0, locals := 110 })).room s m ([.ref (a 100), .int f, .int w1, .int w2, .int w3] : List Value).toArray below meth cd H locs 0 0 (MQ below (va_Qi (fun (r : Int32) (u : MS) => True ∧ xInv u.1 u.2.2.1 ∧ (∀ k, k ∉ ([102, 123, 124, 125, 146, 148] : List Nat) → u.1 k = i k) ∧ (∀ k, k ∉ ([101, 113, 114, 115, 116, 117, 118, 119, 120, 121, 122, 127, 129, 130, 131, 132, 133, 134] : List Nat) → u.2.2.1 k = c k) ∧ (xEn (i 146) (i 148) (u.1 146) (u.1 148)) ∧ (xFl (u.2.2.1 113) (u.2.2.1 115))) (oC D A (fun u : MS => xwT sk a t u.1 u.2.1 u.2.2.1 u.2.2.2) (fun _ => [])) A) ([.ref (a 100), .int f, .int w1, .int w2, .int w3] : List Value).toArray s 0 0 A) (F0 m 41 ls [.int z4_0]) := by
      intro z4_0 hs4_0 H locs ls hP hD hS hl
      refine lv_istore (lv' := [(5, .int z4_0), (0, .ref (a 100)), (1, .int f), (2, .int w1), (3, .int w2), (4, .int w3)]) hx hb dX11_say_41 hl (by decide) rfl (fun ls hl => ?_)
      refine lv_aload_n hx hb dX11_say_43 rfl (lv_at hl 1 rfl) ?_
      refine xgT_X_book hx hb hts (fun _ h => List.mem_cons_of_mem _ (List.mem_append_left _ (List.mem_append_left _ (List.mem_append_left _ (List.mem_append_left _ (List.mem_append_left _ (List.mem_append_right _ h))))))) hown hK hP (hts (.fieldLink RX11 21 "TalePlay" "book" "LTalePlay$Book;") (by decide +kernel)) dX11_say_44 ?_
      refine lv_iload_n hx hb dX11_say_47 rfl (lv_at hl 2 rfl) ?_
      refine lv_iload_n hx hb dX11_say_48 rfl (lv_at hl 3 rfl) ?_
      refine lv_iload_n hx hb dX11_say_49 rfl (lv_at hl 4 rfl) ?_
      refine ro_calli (va_runV (As := [.int f, .int w1, .int w2]) (rest := []) ⟨hx, hb, hml, hown, hts⟩ (x_X1_isFitting l D H.size .null a t i1 q1 c1 d1 f w1 w2 hI ) (cwV 3 hts gm_X11_say_X1_isFitting_160 rfl rfl rfl (by decide +kernel) ⟨Nat.le_of_ble_eq_true rfl, Nat.le_of_ble_eq_true rfl⟩) (yA_V hN (xZ_k hZ hS hA) (xkT_B hK) (xuT_B (sk := sk) hP) (ci := 1) (q0 := 6) rfl rfl) rfl rfl hl.1 rfl (lv_room (Nat.le_of_ble_eq_true rfl)) dX11_say_50 ⟨Nat.le_of_ble_eq_true rfl, Nat.le_of_ble_eq_true rfl⟩) hS hA hP (fun r5 u5 H locs hw5 hP hS => ?_)
      have hw5 : (0 ≤ r5.toInt ∧ r5.toInt ≤ 1) := hw5
      refine lv_if_ne (tgt := 62) hx hb dX11_say_53 (by decide) (fun c6 => ?_) (fun c6 => ?_)
      · have f6 := mt (ti_eq (a := r5.toInt) (b := 0) rfl (by decide)).mpr c6
        refine lv_aload_n hx hb dX11_say_62 rfl (lv_at hl 1 rfl) ?_
        refine xgT_X_book hx hb hts (fun _ h => List.mem_cons_of_mem _ (List.mem_append_left _ (List.mem_append_left _ (List.mem_append_left _ (List.mem_append_left _ (List.mem_append_left _ (List.mem_append_right _ h))))))) hown hK hP (hts (.fieldLink RX11 21 "TalePlay" "book" "LTalePlay$Book;") (by decide +kernel)) dX11_say_63 ?_
        refine lv_iload_n hx hb dX11_say_66 rfl (lv_at hl 2 rfl) ?_
        refine lv_iload_n hx hb dX11_say_67 rfl (lv_at hl 3 rfl) ?_
        refine lv_iload_n hx hb dX11_say_68 rfl (lv_at hl 4 rfl) ?_
        refine lv_iload hx hb dX11_say_69 (lv_at hl 0 rfl) ?_
        refine ro_calli (va_runV (As := [.int f, .int w1, .int w2, .int z4_0]) (rest := []) ⟨hx, hb, hml, hown, hts⟩ (x_X1_findSame l D H.size .null a t i1 q1 c1 d1 f w1 w2 z4_0 hI (show 0 ≤ w1.toInt ∧ w1.toInt ≤ 29 from by omega) (show f.toInt = 6 → 0 ≤ w2.toInt ∧ w2.toInt ≤ 5 from by omega) (show f.toInt = 5 → 0 ≤ z4_0.toInt ∧ z4_0.toInt ≤ 9 from by omega) (show f.toInt = 7 → 0 ≤ w2.toInt ∧ w2.toInt ≤ 29 from by omega)) (cwV 4 hts gm_X11_say_X1_findSame_164 rfl rfl rfl (by decide +kernel) ⟨Nat.le_of_ble_eq_true rfl, Nat.le_of_ble_eq_true rfl⟩) (yA_V hN (xZ_k hZ hS hA) (xkT_B hK) (xuT_B (sk := sk) hP) (ci := 1) (q0 := 6) rfl rfl) rfl rfl hl.1 rfl (lv_room (Nat.le_of_ble_eq_true rfl)) dX11_say_71 ⟨Nat.le_of_ble_eq_true rfl, Nat.le_of_ble_eq_true rfl⟩) hS hA hP (fun r7 u7 H locs hw7 hP hS => ?_)
        have hw7 : (r7.toInt = -9 ∨ (0 ≤ r7.toInt ∧ r7.toInt ≤ 199)) := hw7
        refine lv_istore (lv' := [(6, .int r7), (5, .int z4_0), (0, .ref (a 100)), (1, .int f), (2, .int w1), (3, .int w2), (4, .int w3)]) hx hb dX11_say_74 hl (by decide) rfl (fun ls hl => ?_)
        refine lv_iload hx hb dX11_say_76 (lv_at hl 0 rfl) ?_
        refine lv_bipush (v := (-9)) hx hb dX11_say_78 (by decide) ?_
        refine lv_icmp_eq (tgt := 86) hx hb dX11_say_80 (by decide) (fun c8 => ?_) (fun c8 => ?_)
        · have f8 := (ti_eq (a := r7.toInt) (b := (-9)) rfl (by decide)).mp c8
          refine lv_aload_n hx hb dX11_say_86 rfl (lv_at hl 2 rfl) ?_
          refine xgT_X_book hx hb hts (fun _ h => List.mem_cons_of_mem _ (List.mem_append_left _ (List.mem_append_left _ (List.mem_append_left _ (List.mem_append_left _ (List.mem_append_left _ (List.mem_append_right _ h))))))) hown hK hP (hts (.fieldLink RX11 21 "TalePlay" "book" "LTalePlay$Book;") (by decide +kernel)) dX11_say_87 ?_
          refine xgT_B_total (v := (i1 124)) rfl hx hb hts (fun _ h => List.mem_cons_of_mem _ (List.mem_append_left _ (List.mem_append_left _ (List.mem_append_left _ (List.mem_append_left _ (List.mem_append_right _ h)))))) hown hK hP (hts (.fieldLink RX11 168 "TalePlay$Book" "total" "I") (by decide +kernel)) dX11_say_90 ?_
          have rb124_i1 : 0 ≤ (i1 124).toInt ∧ (i1 124).toInt ≤ 200 := hI.1 124
          have re124_i1 : (i1 124).toInt = (i 124).toInt := congrArg Int32.toInt (hfi 124 (by decide))
          refine lv_sipush (v := 200) hx hb dX11_say_93 (by decide) ?_
          refine lv_icmp_lt (tgt := 102) hx hb dX11_say_96 (by decide) (fun c9 => ?_) (fun c9 => ?_)
          · have f9 := (ti_lt (a := (i1 124).toInt) (b := 200) rfl (by decide)).mp c9
            refine lv_aload_n hx hb dX11_say_102 rfl (lv_at hl 2 rfl) ?_
            refine xgT_X_book hx hb hts (fun _ h => List.mem_cons_of_mem _ (List.mem_append_left _ (List.mem_append_left _ (List.mem_append_left _ (List.mem_append_left _ (List.mem_append_left _ (List.mem_append_right _ h))))))) hown hK hP (hts (.fieldLink RX11 21 "TalePlay" "book" "LTalePlay$Book;") (by decide +kernel)) dX11_say_103 ?_
            refine lv_iload_n hx hb dX11_say_106 rfl (lv_at hl 3 rfl) ?_
            refine lv_iload_n hx hb dX11_say_107 rfl (lv_at hl 4 rfl) ?_
            refine lv_iload_n hx hb dX11_say_108 rfl (lv_at hl 5 rfl) ?_
            refine lv_iload hx hb dX11_say_109 (lv_at hl 1 rfl) ?_
            refine al_calli (va_runV (As := [.int f, .int w1, .int w2, .int z4_0]) (rest := []) ⟨hx, hb, hml, hown, hts⟩ (x_X1_isClashing l D H.size sk a t i1 q1 c1 d1 f w1 w2 z4_0 hI (show 0 ≤ w1.toInt ∧ w1.toInt ≤ 29 from by omega) (show f.toInt = 6 → 0 ≤ w2.toInt ∧ w2.toInt ≤ 5 from by omega) (show f.toInt = 5 → 0 ≤ z4_0.toInt ∧ z4_0.toInt ≤ 9 from by omega) (show f.toInt = 7 → 0 ≤ w2.toInt ∧ w2.toInt ≤ 29 from by omega) (show 0 ≤ w2.toInt ∧ w2.toInt ≤ 29 from by omega)) (cwV 4 hts gm_X11_say_X1_isClashing_171 rfl rfl rfl (by decide +kernel) ⟨Nat.le_of_ble_eq_true rfl, Nat.le_of_ble_eq_true rfl⟩) (yB_V hN (xZ_k hZ hS hA) (xZ_n hZ hD) hK hP hD (ci := 1) (q0 := 8) rfl rfl) rfl rfl hl.1 rfl (lv_room (Nat.le_of_ble_eq_true rfl)) dX11_say_111 ⟨Nat.le_of_ble_eq_true rfl, Nat.le_of_ble_eq_true rfl⟩) hS hA hP hD (fun r10 u10 H locs hw10 hP hD hS => ?_)
            obtain ⟨i10, q10, c10, d10⟩ := u10
            have hw10 : (0 ≤ r10.toInt ∧ r10.toInt ≤ 1) ∧ xInv i10 c10 ∧ (∀ k, k ∉ ([123] : List Nat) → i10 k = i1 k) ∧ (∀ k, k ∉ ([122] : List Nat) → c10 k = c1 k) := hw10
            obtain ⟨hw10, hI, hei10, hec10⟩ := hw10
            have hfi : ∀ k, k ∉ ([123] : List Nat) → i10 k = i k := fr_z hfi hei10 (by decide) (by decide)
            have hfc : ∀ k, k ∉ ([122] : List Nat) → c10 k = c k := fr_z hfc hec10 (by decide) (by decide)
            refine lv_if_eq (tgt := 120) hx hb dX11_say_114 (by decide) (fun c11 => ?_) (fun c11 => ?_)
            · have f11 := (ti_eq (a := r10.toInt) (b := 0) rfl (by decide)).mp c11
              refine lv_aload_n hx hb dX11_say_120 rfl (lv_at hl 2 rfl) ?_
              refine xgT_X_tale hx hb hts (fun _ h => List.mem_cons_of_mem _ (List.mem_append_left _ (List.mem_append_left _ (List.mem_append_left _ (List.mem_append_left _ (List.mem_append_left _ (List.mem_append_right _ h))))))) hown hK hP (hts (.fieldLink RX11 46 "TalePlay" "tale" "LTalePlay$Tale;") (by decide +kernel)) dX11_say_121 ?_
              refine al_callv (va_runV (As := []) (rest := []) ⟨hx, hb, hml, hown, hts⟩ (x_X9_end l D H.size sk a t i10 q10 c10 d10  hI ) (cwV 0 hts gm_X11_say_X9_end_95 rfl rfl rfl (by decide +kernel) ⟨Nat.le_of_ble_eq_true rfl, Nat.le_of_ble_eq_true rfl⟩) (yB_V hN (xZ_k hZ hS hA) (xZ_n hZ hD) hK hP hD (ci := 9) (q0 := 33) rfl rfl) rfl rfl hl.1 rfl (lv_room (Nat.le_of_ble_eq_true rfl)) dX11_say_124 ⟨Nat.le_of_ble_eq_true rfl, Nat.le_of_ble_eq_true rfl⟩) hS hA hP hD (fun u12 H locs hw12 hP hD hS => ?_)
              obtain ⟨i12, q12, c12, d12⟩ := u12
              have hw12 : True ∧ xInv i12 c12 ∧ (∀ k, k ∉ ([146, 148] : List Nat) → i12 k = i10 k) ∧ (∀ k, k ∉ ([] : List Nat) → c12 k = c10 k) ∧ ((i12 146).toInt = 0) ∧ ((i12 148).toInt = 0) := hw12
              obtain ⟨hw12, hI, hei12, hec12, hxp12_0, hxp12_1⟩ := hw12
              have hxp12_0 : (i12 146).toInt = 0 := hxp12_0
              have hxp12_1 : (i12 148).toInt = 0 := hxp12_1
              have hfi : ∀ k, k ∉ ([123, 146, 148] : List Nat) → i12 k = i k := fr_z hfi hei12 (by decide) (by decide)
              have hfc : ∀ k, k ∉ ([122] : List Nat) → c12 k = c k := fr_z hfc hec12 (by decide) (by decide)
              have hen : (i12 146).toInt = 0 := hxp12_0
              refine lv_aload_n hx hb dX11_say_127 rfl (lv_at hl 2 rfl) ?_
              refine xgT_X_book hx hb hts (fun _ h => List.mem_cons_of_mem _ (List.mem_append_left _ (List.mem_append_left _ (List.mem_append_left _ (List.mem_append_left _ (List.mem_append_left _ (List.mem_append_right _ h))))))) hown hK hP (hts (.fieldLink RX11 21 "TalePlay" "book" "LTalePlay$Book;") (by decide +kernel)) dX11_say_128 ?_
              refine lv_iload_n hx hb dX11_say_131 rfl (lv_at hl 3 rfl) ?_
              refine lv_iload_n hx hb dX11_say_132 rfl (lv_at hl 4 rfl) ?_
              refine lv_iload_n hx hb dX11_say_133 rfl (lv_at hl 5 rfl) ?_
              refine lv_iload hx hb dX11_say_134 (lv_at hl 1 rfl) ?_
              have rb124_i12 : 0 ≤ (i12 124).toInt ∧ (i12 124).toInt ≤ 200 := hI.1 124
              have re124_i12 : (i12 124).toInt = (i 124).toInt := congrArg Int32.toInt (hfi 124 (by decide))
              refine al_calli (va_runV (As := [.int f, .int w1, .int w2, .int z4_0]) (rest := []) ⟨hx, hb, hml, hown, hts⟩ (x_X1_write l D H.size sk a t i12 q12 c12 d12 f w1 w2 z4_0 hI (show 0 ≤ f.toInt ∧ f.toInt ≤ 7 from by omega) (show 0 ≤ w1.toInt ∧ w1.toInt ≤ 29 from by omega) (show 0 ≤ w2.toInt ∧ w2.toInt ≤ 29 from by omega) (show f.toInt = 6 → w2.toInt ≤ 5 from by omega) (show 0 ≤ z4_0.toInt ∧ z4_0.toInt ≤ 9 from by omega) (show ((i12 124) : Int32).toInt ≤ 199 from by omega) (by rw [show c12 113 = c 113 from hfc 113 (by decide), show c12 115 = c 115 from hfc 115 (by decide)]; exact hs_F)) (cwV 4 hts gm_X11_say_X1_write_174 rfl rfl rfl (by decide +kernel) ⟨Nat.le_of_ble_eq_true rfl, Nat.le_of_ble_eq_true rfl⟩) (yB_V hN (xZ_k hZ hS hA) (xZ_n hZ hD) hK hP hD (ci := 1) (q0 := 8) rfl rfl) rfl rfl hl.1 rfl (lv_room (Nat.le_of_ble_eq_true rfl)) dX11_say_136 ⟨Nat.le_of_ble_eq_true rfl, Nat.le_of_ble_eq_true rfl⟩) hS hA hP hD (fun r13 u13 H locs hw13 hP hD hS => ?_)
              obtain ⟨i13, q13, c13, d13⟩ := u13
              have hw13 : True ∧ xInv i13 c13 ∧ (∀ k, k ∉ ([124, 125] : List Nat) → i13 k = i12 k) ∧ (∀ k, k ∉ ([113, 114, 115, 116, 117, 118, 119, 120, 121, 127] : List Nat) → c13 k = c12 k) ∧ (xFl (c13 113) (c13 115)) := hw13
              obtain ⟨hw13, hI, hei13, hec13, hxp13_0⟩ := hw13
              have hxp13_0 : xFl (c13 113) (c13 115) := hxp13_0
              have hfi : ∀ k, k ∉ ([123, 124, 125, 146, 148] : List Nat) → i13 k = i k := fr_z hfi hei13 (by decide) (by decide)
              have hfc : ∀ k, k ∉ ([113, 114, 115, 116, 117, 118, 119, 120, 121, 122, 127] : List Nat) → c13 k = c k := fr_z hfc hec13 (by decide) (by decide)
              have hen : ((i13 146) : Int32).toInt = 0 := by rw [show i13 146 = i12 146 from hei13 146 (by decide)]; exact hen
              have hs_F2 : xFl (c13 113) (c13 115) := hxp13_0
              refine lv_istore (lv' := [(7, .int r13), (6, .int r7), (5, .int z4_0), (0, .ref (a 100)), (1, .int f), (2, .int w1), (3, .int w2), (4, .int w3)]) hx hb dX11_say_139 hl (by decide) rfl (fun ls hl => ?_)
              refine lv_aload_n hx hb dX11_say_141 rfl (lv_at hl 3 rfl) ?_
              refine xgT_X_roads hx hb hts (fun _ h => List.mem_cons_of_mem _ (List.mem_append_left _ (List.mem_append_left _ (List.mem_append_left _ (List.mem_append_left _ (List.mem_append_left _ (List.mem_append_right _ h))))))) hown hK hP (hts (.fieldLink RX11 30 "TalePlay" "roads" "LTalePlay$Roads;") (by decide +kernel)) dX11_say_142 ?_
              refine lv_iload_n hx hb dX11_say_145 rfl (lv_at hl 4 rfl) ?_
              refine al_callv (va_runV (As := [.int f]) (rest := []) ⟨hx, hb, hml, hown, hts⟩ (x_X5_redrawFor l D H.size sk a t i13 q13 c13 d13 f hI ) (cwV 1 hts gm_X11_say_X5_redrawFor_177 rfl rfl rfl (by decide +kernel) ⟨Nat.le_of_ble_eq_true rfl, Nat.le_of_ble_eq_true rfl⟩) (yB_V hN (xZ_k hZ hS hA) (xZ_n hZ hD) hK hP hD (ci := 5) (q0 := 21) rfl rfl) rfl rfl hl.1 rfl (lv_room (Nat.le_of_ble_eq_true rfl)) dX11_say_146 ⟨Nat.le_of_ble_eq_true rfl, Nat.le_of_ble_eq_true rfl⟩) hS hA hP hD (fun u14 H locs hw14 hP hD hS => ?_)
              obtain ⟨i14, q14, c14, d14⟩ := u14
              have hw14 : True ∧ xInv i14 c14 ∧ (∀ k, k ∉ ([] : List Nat) → i14 k = i13 k) ∧ (∀ k, k ∉ ([129, 130, 131, 132, 133, 134] : List Nat) → c14 k = c13 k) := hw14
              obtain ⟨hw14, hI, hei14, hec14⟩ := hw14
              have hfi : ∀ k, k ∉ ([123, 124, 125, 146, 148] : List Nat) → i14 k = i k := fr_z hfi hei14 (by decide) (by decide)
              have hfc : ∀ k, k ∉ ([113, 114, 115, 116, 117, 118, 119, 120, 121, 122, 127, 129, 130, 131, 132, 133, 134] : List Nat) → c14 k = c k := fr_z hfc hec14 (by decide) (by decide)
              have hen : ((i14 146) : Int32).toInt = 0 := by rw [show i14 146 = i13 146 from hei14 146 (by decide)]; exact hen
              have hs_F2 : xFl (c14 113) (c14 115) := by rw [show c14 113 = c13 113 from hec14 113 (by decide), show c14 115 = c13 115 from hec14 115 (by decide)]; exact hs_F2
              refine lv_iload hx hb dX11_say_149 (lv_at hl 0 rfl) ?_
              exact rw_iret (i14, q14, c14, d14) hx hb hr hlocks hS (hK.sub (tys' := []) [] rfl) hP hD dX11_say_151 ⟨trivial, hI, fr_w hfi (by decide), fr_w hfc (by decide), (show xEn (i 146) (i 148) ((i14 146) : Int32) ((i14 148) : Int32) from Or.inl hen), (show xFl (c14 113) (c14 115) from hs_F2)⟩
            · have f11 := mt (ti_eq (a := r10.toInt) (b := 0) rfl (by decide)).mpr c11
              refine lv_bipush (v := (-4)) hx hb dX11_say_117 (by decide) ?_
              exact rw_iret (i10, q10, c10, d10) hx hb hr hlocks hS (hK.sub (tys' := []) [] rfl) hP hD dX11_say_119 ⟨trivial, hI, fr_w hfi (by decide), fr_w hfc (by decide), (show xEn (i 146) (i 148) ((i10 146) : Int32) ((i10 148) : Int32) from Or.inr ⟨hfi 146 (by decide), hfi 148 (by decide)⟩), (show xFl (c10 113) (c10 115) from by rw [show c10 113 = c 113 from hfc 113 (by decide), show c10 115 = c 115 from hfc 115 (by decide)]; exact hs_F)⟩
          · have f9 := mt (ti_lt (a := (i1 124).toInt) (b := 200) rfl (by decide)).mpr c9
            refine lv_bipush (v := (-2)) hx hb dX11_say_99 (by decide) ?_
            exact rw_iret (i1, q1, c1, d1) hx hb hr hlocks hS (hK.sub (tys' := []) [] rfl) hP hD dX11_say_101 ⟨trivial, hI, fr_w hfi (by decide), fr_w hfc (by decide), (show xEn (i 146) (i 148) ((i1 146) : Int32) ((i1 148) : Int32) from Or.inr ⟨hfi 146 (by decide), hfi 148 (by decide)⟩), (show xFl (c1 113) (c1 115) from by rw [show c1 113 = c 113 from hfc 113 (by decide), show c1 115 = c 115 from hfc 115 (by decide)]; exact hs_F)⟩
        · have f8 := mt (ti_eq (a := r7.toInt) (b := (-9)) rfl (by decide)).mpr c8
          refine lv_iload hx hb dX11_say_83 (lv_at hl 0 rfl) ?_
          exact rw_iret (i1, q1, c1, d1) hx hb hr hlocks hS (hK.sub (tys' := []) [] rfl) hP hD dX11_say_85 ⟨trivial, hI, fr_w hfi (by decide), fr_w hfc (by decide), (show xEn (i 146) (i 148) ((i1 146) : Int32) ((i1 148) : Int32) from Or.inr ⟨hfi 146 (by decide), hfi 148 (by decide)⟩), (show xFl (c1 113) (c1 115) from by rw [show c1 113 = c 113 from hfc 113 (by decide), show c1 115 = c 115 from hfc 115 (by decide)]; exact hs_F)⟩
      · have f6 := (ti_eq (a := r5.toInt) (b := 0) rfl (by decide)).mp c6
        refine lv_aload_n hx hb dX11_say_56 rfl (lv_at hl 1 rfl) ?_
        refine lv_iconst (v := 3) hx hb dX11_say_57 (by decide) ?_
        refine al_calli (va_runV (As := [.int 3]) (rest := []) ⟨hx, hb, hml, hown, hts⟩ (x_X11_answerFinding l D H.size sk a t i1 q1 c1 d1 3 hI (show 1 ≤ 3 ∧ 3 ≤ 6 from by have h90 : (3 : Int32).toInt = 3 := (by decide); omega)) (cwV 1 hts gm_X11_say_X11_answerFinding_128 rfl rfl rfl (by decide +kernel) ⟨Nat.le_of_ble_eq_true rfl, Nat.le_of_ble_eq_true rfl⟩) (yB_V hN (xZ_k hZ hS hA) (xZ_n hZ hD) hK hP hD (ci := 11) (q0 := 0) rfl rfl) rfl rfl hl.1 rfl (lv_room (Nat.le_of_ble_eq_true rfl)) dX11_say_58 ⟨Nat.le_of_ble_eq_true rfl, Nat.le_of_ble_eq_true rfl⟩) hS hA hP hD (fun r15 u15 H locs hw15 hP hD hS => ?_)
        obtain ⟨i15, q15, c15, d15⟩ := u15
        have hw15 : r15 = (-3) ∧ xInv i15 c15 ∧ (∀ k, k ∉ ([102] : List Nat) → i15 k = i1 k) ∧ (∀ k, k ∉ ([101] : List Nat) → c15 k = c1 k) := hw15
        obtain ⟨hw15, hI, hei15, hec15⟩ := hw15
        have hfi : ∀ k, k ∉ ([102, 123] : List Nat) → i15 k = i k := fr_z hfi hei15 (by decide) (by decide)
        have hfc : ∀ k, k ∉ ([101] : List Nat) → c15 k = c k := fr_z hfc hec15 (by decide) (by decide)
        have hw15 : r15 = (-3) := hw15
        subst hw15
        exact rw_iret (i15, q15, c15, d15) hx hb hr hlocks hS (hK.sub (tys' := []) [] rfl) hP hD dX11_say_61 ⟨trivial, hI, fr_w hfi (by decide), fr_w hfc (by decide), (show xEn (i 146) (i 148) ((i15 146) : Int32) ((i15 148) : Int32) from Or.inr ⟨hfi 146 (by decide), hfi 148 (by decide)⟩), (show xFl (c15 113) (c15 115) from by rw [show c15 113 = c 113 from hfc 113 (by decide), show c15 115 = c 115 from hfc 115 (by decide)]; exact hs_F)⟩
    refine lv_icmp_eq (tgt := 35) hx hb dX11_say_26 (by decide) (fun c16 => ?_) (fun c16 => ?_)
    · have f16 := (ti_eq (a := f.toInt) (b := 5) rfl (by decide)).mp c16
      refine lv_iload hx hb dX11_say_35 (lv_at hl 4 rfl) ?_
      refine lv_goto (tgt := 41) hx hb dX11_say_37 (by decide) ?_
      exact jn4  w3 (show 0 ≤ w3.toInt ∧ w3.toInt ≤ 9 from by omega) _ _ _ hP hD hS (lv_sub hl [0, 1, 2, 3, 4] rfl)
    · have f16 := mt (ti_eq (a := f.toInt) (b := 5) rfl (by decide)).mpr c16
      refine lv_iload_n hx hb dX11_say_29 rfl (lv_at hl 1 rfl) ?_
      refine lv_bipush (v := 6) hx hb dX11_say_30 (by decide) ?_
      refine lv_icmp_ne (tgt := 40) hx hb dX11_say_32 (by decide) (fun c17 => ?_) (fun c17 => ?_)
      · have f17 := mt (ti_eq (a := f.toInt) (b := 6) rfl (by decide)).mpr c17
        refine lv_iconst (v := 0) hx hb dX11_say_40 (by decide) ?_
        exact jn4  (0 : Int32) (show 0 ≤ (0 : Int32).toInt ∧ (0 : Int32).toInt ≤ 9 from by have h55 : (0 : Int32).toInt = 0 := (by decide); omega) _ _ _ hP hD hS (lv_sub hl [0, 1, 2, 3, 4] rfl)
      · have f17 := (ti_eq (a := f.toInt) (b := 6) rfl (by decide)).mp c17
        refine lv_iload hx hb dX11_say_35 (lv_at hl 4 rfl) ?_
        refine lv_goto (tgt := 41) hx hb dX11_say_37 (by decide) ?_
        exact jn4  w3 (show 0 ≤ w3.toInt ∧ w3.toInt ≤ 9 from by omega) _ _ _ hP hD hS (lv_sub hl [0, 1, 2, 3, 4] rfl)
  · have f3 := (ti_eq (a := r2.toInt) (b := 0) rfl (by decide)).mp c3
    refine lv_iconst (v := (-1)) hx hb dX11_say_22 (by decide) ?_
    exact rw_iret (i1, q1, c1, d1) hx hb hr hlocks hS (hK.sub (tys' := []) [] rfl) hP hD dX11_say_23 ⟨trivial, hI, fr_w hfi (by decide), fr_w hfc (by decide), (show xEn (i 146) (i 148) ((i1 146) : Int32) ((i1 148) : Int32) from Or.inr ⟨hfi 146 (by decide), hfi 148 (by decide)⟩), (show xFl (c1 113) (c1 115) from by rw [show c1 113 = c 113 from hfc 113 (by decide), show c1 115 = c 115 from hfc 115 (by decide)]; exact hs_F)⟩

