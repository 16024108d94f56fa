def wm_X5_wipe : List Cond := .code yX5_wipe cX5_wipe 1 none :: (([.fieldLink RX5 9 "TalePlay$Roads" "leads" "[I", .methodLink RX5 50 yJ7_fill_53178, .static yJ7_fill_53178, .initialized RJ7, .code yJ7_fill_53178 cJ7_fill_53178 4 none, .fieldLink RX5 15 "TalePlay$Roads" "doors" "[I", .fieldLink RX5 18 "TalePlay$Roads" "bys" "[I", .fieldLink RX5 21 "TalePlay$Roads" "implied" "[I", .fieldLink RX5 24 "TalePlay$Roads" "firstSides" "[I", .fieldLink RX5 27 "TalePlay$Roads" "secondSides" "[I"] : List Cond) ++ wsX50)
set_option maxRecDepth 20000 in
theorem gm_X5_wipe_J7_fill_53178_50 : GoodIn wm_X5_wipe (va_wsS RX5 50 yJ7_fill_53178 wm_J7_fill_53178) := goodIn_app (goodIn_of _ (by decide +kernel)) (goodIn_r _ [5] rfl (by decide +kernel))
set_option maxHeartbeats 4000000 in
set_option maxRecDepth 100000 in
theorem x_X5_wipe (l : Launch) (D : va_G) (sz : Nat) (sk : Value) (a : Nat → Nat) (t : Nat → ClassId) (i : Nat → Int32) (q : Int64) (c : Nat → Nat → Int32) (d : Nat → Nat → Int64) (hI : xInv i c) : Met l yX5_wipe wm_X5_wipe ({ frames := 1, cells := 0, slots := 0, locals := 23 }) (va_Pc [.ref (a 128)] (yB (a 186) D sz (xwT sk a t i q c d) (xtT t))) (va_Qv (fun (u : MS) => True ∧ xInv u.1 u.2.2.1 ∧ (∀ k, k ∉ ([] : List Nat) → u.1 k = i k) ∧ (∀ k, k ∉ ([129, 130, 131, 132, 133, 134] : List Nat) → u.2.2.1 k = c k)) (oC D (va_A (xwT sk a t i q c d) sz) (fun u : MS => xwT sk a t u.1 u.2.1 u.2.2.1 u.2.2.2) (fun _ => [])) (va_A (xwT sk a t i q c d) sz)) 0 0 (va_A (xwT sk a t i q c d) sz) := by
  refine Met.ofW (cc := cX5_wipe) (maxL := 1) (ret := none) (by decide) rfl ?_
  intro p e s m args below meth cd s₁ B hml hv
  obtain ⟨rfl, ⟨hsz, hP, hK, hD0⟩, hN, hZ, hBW⟩ := hv
  have hx := B.exec
  have hb := B.bytes
  have hr := B.returns
  have hts := atoms_spec (ws := wm_X5_wipe) B.pre
  have hown : s.vm.findClass RX5 = some m.cls := findClass_of_methodNamed B.named
  have hlocks := B.notSynchronized
  subst hsz
  have hD := hD0.self (sz := s.heap.size)
  have hZ := xZ_A hZ hP hBW
  generalize hAe : va_A (xwT sk a t i q c d) s.heap.size = A at hD hZ ⊢
  have hA : ∀ q : Nat, s.heap.size ≤ q → A q := fun q h => by rw [← hAe]; exact Or.inr h
  have hS : va_S A s.heap s.heap [] := va_S.rf
  have hfi : ∀ k, k ∉ ([] : List Nat) → i k = i k := fun _ _ => rfl
  have hfc : ∀ k, k ∉ ([] : List Nat) → c k = c k := fun _ _ => rfl
  have hl := lv_entry ([.ref (a 128)]) (n := 1) (Nat.le_of_ble_eq_true rfl)
  rw [lg_entry_eq]
  generalize (lg_sl ([.ref (a 128)]) ++ List.replicate (1 - (lg_sl ([.ref (a 128)])).length) Slot.unset).toArray = ls at hl ⊢
  have hl : lv_has ls 1 [(0, .ref (a 128))] := hl
  refine lv_aload_n hx hb dX5_wipe_0 rfl (lv_at hl 0 rfl) ?_
  refine xgT_R_leads hx hb hts (fun _ h => List.mem_cons_of_mem _ (List.mem_append_right _ h)) hown hK hP (hts (.fieldLink RX5 9 "TalePlay$Roads" "leads" "[I") (by decide +kernel)) dX5_wipe_1 ?_
  refine lv_bipush (v := (-9)) hx hb dX5_wipe_4 (by decide) ?_
  have hPc := hP.sub (ws' := [(a 129, .inl (t 129, 300, .inl (c 129)))]) [22] rfl
  have hKc := hK.sub (tys' := [(t 129, .int)]) [17] rfl
  have hDc := hD.sub (ws' := [(a 129, .inl (t 129, 300, .inl (c 129)))]) [22] (by decide) rfl
  refine rw_callv (wr := ((xwT sk a t i q c d)).eraseIdx 22) (va_runS (As := [.ref (a 129), .int (-9)]) (rest := []) ⟨hx, hb, hml, hown, hts⟩ (c_fill2 l D s.heap.size (a 129) (t 129) 300 (c 129) ((-9) : Int32) (by decide)) (va_cwS 2 hts gm_X5_wipe_J7_fill_53178_50 rfl rfl rfl (by decide +kernel) ⟨Nat.le_of_ble_eq_true rfl, Nat.le_of_ble_eq_true rfl⟩) (pB_S hKc hPc hDc) rfl rfl hl.1 rfl (lv_room (Nat.le_of_ble_eq_true rfl)) dX5_wipe_6 ⟨Nat.le_of_ble_eq_true rfl, Nat.le_of_ble_eq_true rfl⟩) hS hA hK hP hD [22] [0, 1, 2, 3, 4, 5, 6, 7, 8, 9, 10, 11, 12, 13, 14, 15, 16, 17, 18, 19, 20, 21, 23, 24, 25, 26, 27, 28, 29, 30, 31, 32, 33, 34, 35, 36, 37, 38, 39, 40, 41, 42, 43, 44, 45, 46, 47, 48, 49, 50] rfl rfl (by decide) (by decide) (fun u1 H locs hw1 hK2 hP hD hS => ?_)
  have hP : va_P D vwCl (xwT sk a t i q (updF c 129 (fun _ => ((-9) : Int32))) d) H := hP.sub [0, 1, 2, 3, 4, 5, 6, 7, 8, 9, 10, 11, 12, 13, 14, 15, 16, 17, 18, 19, 20, 21, 50, 22, 23, 24, 25, 26, 27, 28, 29, 30, 31, 32, 33, 34, 35, 36, 37, 38, 39, 40, 41, 42, 43, 44, 45, 46, 47, 48, 49] rfl
  have hD : va_D A (xwT sk a t i q (updF c 129 (fun _ => ((-9) : Int32))) d) := hD.sub [0, 1, 2, 3, 4, 5, 6, 7, 8, 9, 10, 11, 12, 13, 14, 15, 16, 17, 18, 19, 20, 21, 50, 22, 23, 24, 25, 26, 27, 28, 29, 30, 31, 32, 33, 34, 35, 36, 37, 38, 39, 40, 41, 42, 43, 44, 45, 46, 47, 48, 49] (by decide) rfl
  have hI := xInv_f hI (k := 129) (f := (fun _ => ((-9) : Int32))) (fun j => show ((-9) : Int32).toInt = -9 ∨ (0 ≤ ((-9) : Int32).toInt ∧ ((-9) : Int32).toInt ≤ 29) from by have h9 : ((-9) : Int32).toInt = -9 := (by decide); omega)
  have hfc : ∀ k, k ∉ ([129] : List Nat) → (updF c 129 (fun _ => ((-9) : Int32))) k = c k := fr_f hfc (by decide) (by decide)
  refine lv_aload_n hx hb dX5_wipe_9 rfl (lv_at hl 0 rfl) ?_
  refine xgT_R_doors hx hb hts (fun _ h => List.mem_cons_of_mem _ (List.mem_append_right _ h)) hown hK hP (hts (.fieldLink RX5 15 "TalePlay$Roads" "doors" "[I") (by decide +kernel)) dX5_wipe_10 ?_
  refine lv_bipush (v := (-9)) hx hb dX5_wipe_13 (by decide) ?_
  have hPc := hP.sub (ws' := [(a 130, .inl (t 130, 300, .inl ((updF c 129 (fun _ => ((-9) : Int32))) 130)))]) [23] rfl
  have hKc := hK.sub (tys' := [(t 130, .int)]) [18] rfl
  have hDc := hD.sub (ws' := [(a 130, .inl (t 130, 300, .inl ((updF c 129 (fun _ => ((-9) : Int32))) 130)))]) [23] (by decide) rfl
  refine rw_callv (wr := ((xwT sk a t i q (updF c 129 (fun _ => ((-9) : Int32))) d)).eraseIdx 23) (va_runS (As := [.ref (a 130), .int (-9)]) (rest := []) ⟨hx, hb, hml, hown, hts⟩ (c_fill2 l D H.size (a 130) (t 130) 300 ((updF c 129 (fun _ => ((-9) : Int32))) 130) ((-9) : Int32) (by decide)) (va_cwS 2 hts gm_X5_wipe_J7_fill_53178_50 rfl rfl rfl (by decide +kernel) ⟨Nat.le_of_ble_eq_true rfl, Nat.le_of_ble_eq_true rfl⟩) (pB_S hKc hPc hDc) rfl rfl hl.1 rfl (lv_room (Nat.le_of_ble_eq_true rfl)) dX5_wipe_15 ⟨Nat.le_of_ble_eq_true rfl, Nat.le_of_ble_eq_true rfl⟩) hS hA hK hP hD [23] [0, 1, 2, 3, 4, 5, 6, 7, 8, 9, 10, 11, 12, 13, 14, 15, 16, 17, 18, 19, 20, 21, 22, 24, 25, 26, 27, 28, 29, 30, 31, 32, 33, 34, 35, 36, 37, 38, 39, 40, 41, 42, 43, 44, 45, 46, 47, 48, 49, 50] rfl rfl (by decide) (by decide) (fun u2 H locs hw2 hK2 hP hD hS => ?_)
  have hP : va_P D vwCl (xwT sk a t i q (updF (updF c 129 (fun _ => ((-9) : Int32))) 130 (fun _ => ((-9) : Int32))) d) H := hP.sub [0, 1, 2, 3, 4, 5, 6, 7, 8, 9, 10, 11, 12, 13, 14, 15, 16, 17, 18, 19, 20, 21, 22, 50, 23, 24, 25, 26, 27, 28, 29, 30, 31, 32, 33, 34, 35, 36, 37, 38, 39, 40, 41, 42, 43, 44, 45, 46, 47, 48, 49] rfl
  have hD : va_D A (xwT sk a t i q (updF (updF c 129 (fun _ => ((-9) : Int32))) 130 (fun _ => ((-9) : Int32))) d) := hD.sub [0, 1, 2, 3, 4, 5, 6, 7, 8, 9, 10, 11, 12, 13, 14, 15, 16, 17, 18, 19, 20, 21, 22, 50, 23, 24, 25, 26, 27, 28, 29, 30, 31, 32, 33, 34, 35, 36, 37, 38, 39, 40, 41, 42, 43, 44, 45, 46, 47, 48, 49] (by decide) rfl
  have hI := xInv_f hI (k := 130) (f := (fun _ => ((-9) : Int32))) (fun j => show ((-9) : Int32).toInt = -9 ∨ (0 ≤ ((-9) : Int32).toInt ∧ ((-9) : Int32).toInt ≤ 29) from by have h9 : ((-9) : Int32).toInt = -9 := (by decide); omega)
  have hfc : ∀ k, k ∉ ([129, 130] : List Nat) → (updF (updF c 129 (fun _ => ((-9) : Int32))) 130 (fun _ => ((-9) : Int32))) k = c k := fr_f hfc (by decide) (by decide)
  refine lv_aload_n hx hb dX5_wipe_18 rfl (lv_at hl 0 rfl) ?_
  refine xgT_R_bys hx hb hts (fun _ h => List.mem_cons_of_mem _ (List.mem_append_right _ h)) hown hK hP (hts (.fieldLink RX5 18 "TalePlay$Roads" "bys" "[I") (by decide +kernel)) dX5_wipe_19 ?_
  refine lv_bipush (v := (-9)) hx hb dX5_wipe_22 (by decide) ?_
  have hPc := hP.sub (ws' := [(a 131, .inl (t 131, 300, .inl ((updF (updF c 129 (fun _ => ((-9) : Int32))) 130 (fun _ => ((-9) : Int32))) 131)))]) [24] rfl
  have hKc := hK.sub (tys' := [(t 131, .int)]) [19] rfl
  have hDc := hD.sub (ws' := [(a 131, .inl (t 131, 300, .inl ((updF (updF c 129 (fun _ => ((-9) : Int32))) 130 (fun _ => ((-9) : Int32))) 131)))]) [24] (by decide) rfl
  refine rw_callv (wr := ((xwT sk a t i q (updF (updF c 129 (fun _ => ((-9) : Int32))) 130 (fun _ => ((-9) : Int32))) d)).eraseIdx 24) (va_runS (As := [.ref (a 131), .int (-9)]) (rest := []) ⟨hx, hb, hml, hown, hts⟩ (c_fill2 l D H.size (a 131) (t 131) 300 ((updF (updF c 129 (fun _ => ((-9) : Int32))) 130 (fun _ => ((-9) : Int32))) 131) ((-9) : Int32) (by decide)) (va_cwS 2 hts gm_X5_wipe_J7_fill_53178_50 rfl rfl rfl (by decide +kernel) ⟨Nat.le_of_ble_eq_true rfl, Nat.le_of_ble_eq_true rfl⟩) (pB_S hKc hPc hDc) rfl rfl hl.1 rfl (lv_room (Nat.le_of_ble_eq_true rfl)) dX5_wipe_24 ⟨Nat.le_of_ble_eq_true rfl, Nat.le_of_ble_eq_true rfl⟩) hS hA hK hP hD [24] [0, 1, 2, 3, 4, 5, 6, 7, 8, 9, 10, 11, 12, 13, 14, 15, 16, 17, 18, 19, 20, 21, 22, 23, 25, 26, 27, 28, 29, 30, 31, 32, 33, 34, 35, 36, 37, 38, 39, 40, 41, 42, 43, 44, 45, 46, 47, 48, 49, 50] rfl rfl (by decide) (by decide) (fun u3 H locs hw3 hK2 hP hD hS => ?_)
  have hP : va_P D vwCl (xwT sk a t i q (updF (updF (updF c 129 (fun _ => ((-9) : Int32))) 130 (fun _ => ((-9) : Int32))) 131 (fun _ => ((-9) : Int32))) d) H := hP.sub [0, 1, 2, 3, 4, 5, 6, 7, 8, 9, 10, 11, 12, 13, 14, 15, 16, 17, 18, 19, 20, 21, 22, 23, 50, 24, 25, 26, 27, 28, 29, 30, 31, 32, 33, 34, 35, 36, 37, 38, 39, 40, 41, 42, 43, 44, 45, 46, 47, 48, 49] rfl
  have hD : va_D A (xwT sk a t i q (updF (updF (updF c 129 (fun _ => ((-9) : Int32))) 130 (fun _ => ((-9) : Int32))) 131 (fun _ => ((-9) : Int32))) d) := hD.sub [0, 1, 2, 3, 4, 5, 6, 7, 8, 9, 10, 11, 12, 13, 14, 15, 16, 17, 18, 19, 20, 21, 22, 23, 50, 24, 25, 26, 27, 28, 29, 30, 31, 32, 33, 34, 35, 36, 37, 38, 39, 40, 41, 42, 43, 44, 45, 46, 47, 48, 49] (by decide) rfl
  have hI := xInv_f hI (k := 131) (f := (fun _ => ((-9) : Int32))) (fun j => show ((-9) : Int32).toInt = -9 ∨ (0 ≤ ((-9) : Int32).toInt ∧ ((-9) : Int32).toInt ≤ 199) from by have h9 : ((-9) : Int32).toInt = -9 := (by decide); omega)
  have hfc : ∀ k, k ∉ ([129, 130, 131] : List Nat) → (updF (updF (updF c 129 (fun _ => ((-9) : Int32))) 130 (fun _ => ((-9) : Int32))) 131 (fun _ => ((-9) : Int32))) k = c k := fr_f hfc (by decide) (by decide)
  refine lv_aload_n hx hb dX5_wipe_27 rfl (lv_at hl 0 rfl) ?_
  refine xgT_R_implied hx hb hts (fun _ h => List.mem_cons_of_mem _ (List.mem_append_right _ h)) hown hK hP (hts (.fieldLink RX5 21 "TalePlay$Roads" "implied" "[I") (by decide +kernel)) dX5_wipe_28 ?_
  refine lv_iconst (v := 0) hx hb dX5_wipe_31 (by decide) ?_
  have hPc := hP.sub (ws' := [(a 132, .inl (t 132, 300, .inl ((updF (updF (updF c 129 (fun _ => ((-9) : Int32))) 130 (fun _ => ((-9) : Int32))) 131 (fun _ => ((-9) : Int32))) 132)))]) [25] rfl
  have hKc := hK.sub (tys' := [(t 132, .int)]) [20] rfl
  have hDc := hD.sub (ws' := [(a 132, .inl (t 132, 300, .inl ((updF (updF (updF c 129 (fun _ => ((-9) : Int32))) 130 (fun _ => ((-9) : Int32))) 131 (fun _ => ((-9) : Int32))) 132)))]) [25] (by decide) rfl
  refine rw_callv (wr := ((xwT sk a t i q (updF (updF (updF c 129 (fun _ => ((-9) : Int32))) 130 (fun _ => ((-9) : Int32))) 131 (fun _ => ((-9) : Int32))) d)).eraseIdx 25) (va_runS (As := [.ref (a 132), .int 0]) (rest := []) ⟨hx, hb, hml, hown, hts⟩ (c_fill2 l D H.size (a 132) (t 132) 300 ((updF (updF (updF c 129 (fun _ => ((-9) : Int32))) 130 (fun _ => ((-9) : Int32))) 131 (fun _ => ((-9) : Int32))) 132) (0 : Int32) (by decide)) (va_cwS 2 hts gm_X5_wipe_J7_fill_53178_50 rfl rfl rfl (by decide +kernel) ⟨Nat.le_of_ble_eq_true rfl, Nat.le_of_ble_eq_true rfl⟩) (pB_S hKc hPc hDc) rfl rfl hl.1 rfl (lv_room (Nat.le_of_ble_eq_true rfl)) dX5_wipe_32 ⟨Nat.le_of_ble_eq_true rfl, Nat.le_of_ble_eq_true rfl⟩) hS hA hK hP hD [25] [0, 1, 2, 3, 4, 5, 6, 7, 8, 9, 10, 11, 12, 13, 14, 15, 16, 17, 18, 19, 20, 21, 22, 23, 24, 26, 27, 28, 29, 30, 31, 32, 33, 34, 35, 36, 37, 38, 39, 40, 41, 42, 43, 44, 45, 46, 47, 48, 49, 50] rfl rfl (by decide) (by decide) (fun u4 H locs hw4 hK2 hP hD hS => ?_)
  have hP : va_P D vwCl (xwT sk a t i q (updF (updF (updF (updF c 129 (fun _ => ((-9) : Int32))) 130 (fun _ => ((-9) : Int32))) 131 (fun _ => ((-9) : Int32))) 132 (fun _ => (0 : Int32))) d) H := hP.sub [0, 1, 2, 3, 4, 5, 6, 7, 8, 9, 10, 11, 12, 13, 14, 15, 16, 17, 18, 19, 20, 21, 22, 23, 24, 50, 25, 26, 27, 28, 29, 30, 31, 32, 33, 34, 35, 36, 37, 38, 39, 40, 41, 42, 43, 44, 45, 46, 47, 48, 49] rfl
  have hD : va_D A (xwT sk a t i q (updF (updF (updF (updF c 129 (fun _ => ((-9) : Int32))) 130 (fun _ => ((-9) : Int32))) 131 (fun _ => ((-9) : Int32))) 132 (fun _ => (0 : Int32))) d) := hD.sub [0, 1, 2, 3, 4, 5, 6, 7, 8, 9, 10, 11, 12, 13, 14, 15, 16, 17, 18, 19, 20, 21, 22, 23, 24, 50, 25, 26, 27, 28, 29, 30, 31, 32, 33, 34, 35, 36, 37, 38, 39, 40, 41, 42, 43, 44, 45, 46, 47, 48, 49] (by decide) rfl
  have hI := xInv_f hI (k := 132) (f := (fun _ => (0 : Int32))) (fun j => show 0 ≤ (0 : Int32).toInt ∧ (0 : Int32).toInt ≤ 1 from by have h9 : (0 : Int32).toInt = 0 := (by decide); omega)
  have hfc : ∀ k, k ∉ ([129, 130, 131, 132] : List Nat) → (updF (updF (updF (updF c 129 (fun _ => ((-9) : Int32))) 130 (fun _ => ((-9) : Int32))) 131 (fun _ => ((-9) : Int32))) 132 (fun _ => (0 : Int32))) k = c k := fr_f hfc (by decide) (by decide)
  refine lv_aload_n hx hb dX5_wipe_35 rfl (lv_at hl 0 rfl) ?_
  refine xgT_R_firstSides hx hb hts (fun _ h => List.mem_cons_of_mem _ (List.mem_append_right _ h)) hown hK hP (hts (.fieldLink RX5 24 "TalePlay$Roads" "firstSides" "[I") (by decide +kernel)) dX5_wipe_36 ?_
  refine lv_bipush (v := (-9)) hx hb dX5_wipe_39 (by decide) ?_
  have hPc := hP.sub (ws' := [(a 133, .inl (t 133, 30, .inl ((updF (updF (updF (updF c 129 (fun _ => ((-9) : Int32))) 130 (fun _ => ((-9) : Int32))) 131 (fun _ => ((-9) : Int32))) 132 (fun _ => (0 : Int32))) 133)))]) [26] rfl
  have hKc := hK.sub (tys' := [(t 133, .int)]) [21] rfl
  have hDc := hD.sub (ws' := [(a 133, .inl (t 133, 30, .inl ((updF (updF (updF (updF c 129 (fun _ => ((-9) : Int32))) 130 (fun _ => ((-9) : Int32))) 131 (fun _ => ((-9) : Int32))) 132 (fun _ => (0 : Int32))) 133)))]) [26] (by decide) rfl
  refine rw_callv (wr := ((xwT sk a t i q (updF (updF (updF (updF c 129 (fun _ => ((-9) : Int32))) 130 (fun _ => ((-9) : Int32))) 131 (fun _ => ((-9) : Int32))) 132 (fun _ => (0 : Int32))) d)).eraseIdx 26) (va_runS (As := [.ref (a 133), .int (-9)]) (rest := []) ⟨hx, hb, hml, hown, hts⟩ (c_fill2 l D H.size (a 133) (t 133) 30 ((updF (updF (updF (updF c 129 (fun _ => ((-9) : Int32))) 130 (fun _ => ((-9) : Int32))) 131 (fun _ => ((-9) : Int32))) 132 (fun _ => (0 : Int32))) 133) ((-9) : Int32) (by decide)) (va_cwS 2 hts gm_X5_wipe_J7_fill_53178_50 rfl rfl rfl (by decide +kernel) ⟨Nat.le_of_ble_eq_true rfl, Nat.le_of_ble_eq_true rfl⟩) (pB_S hKc hPc hDc) rfl rfl hl.1 rfl (lv_room (Nat.le_of_ble_eq_true rfl)) dX5_wipe_41 ⟨Nat.le_of_ble_eq_true rfl, Nat.le_of_ble_eq_true rfl⟩) hS hA hK hP hD [26] [0, 1, 2, 3, 4, 5, 6, 7, 8, 9, 10, 11, 12, 13, 14, 15, 16, 17, 18, 19, 20, 21, 22, 23, 24, 25, 27, 28, 29, 30, 31, 32, 33, 34, 35, 36, 37, 38, 39, 40, 41, 42, 43, 44, 45, 46, 47, 48, 49, 50] rfl rfl (by decide) (by decide) (fun u5 H locs hw5 hK2 hP hD hS => ?_)
  have hP : va_P D vwCl (xwT sk a t i q (updF (updF (updF (updF (updF c 129 (fun _ => ((-9) : Int32))) 130 (fun _ => ((-9) : Int32))) 131 (fun _ => ((-9) : Int32))) 132 (fun _ => (0 : Int32))) 133 (fun _ => ((-9) : Int32))) d) H := hP.sub [0, 1, 2, 3, 4, 5, 6, 7, 8, 9, 10, 11, 12, 13, 14, 15, 16, 17, 18, 19, 20, 21, 22, 23, 24, 25, 50, 26, 27, 28, 29, 30, 31, 32, 33, 34, 35, 36, 37, 38, 39, 40, 41, 42, 43, 44, 45, 46, 47, 48, 49] rfl
  have hD : va_D A (xwT sk a t i q (updF (updF (updF (updF (updF c 129 (fun _ => ((-9) : Int32))) 130 (fun _ => ((-9) : Int32))) 131 (fun _ => ((-9) : Int32))) 132 (fun _ => (0 : Int32))) 133 (fun _ => ((-9) : Int32))) d) := hD.sub [0, 1, 2, 3, 4, 5, 6, 7, 8, 9, 10, 11, 12, 13, 14, 15, 16, 17, 18, 19, 20, 21, 22, 23, 24, 25, 50, 26, 27, 28, 29, 30, 31, 32, 33, 34, 35, 36, 37, 38, 39, 40, 41, 42, 43, 44, 45, 46, 47, 48, 49] (by decide) rfl
  have hI := xInv_f hI (k := 133) (f := (fun _ => ((-9) : Int32))) (fun j => show ((-9) : Int32).toInt = -9 ∨ (0 ≤ ((-9) : Int32).toInt ∧ ((-9) : Int32).toInt ≤ 29) from by have h9 : ((-9) : Int32).toInt = -9 := (by decide); omega)
  have hfc : ∀ k, k ∉ ([129, 130, 131, 132, 133] : List Nat) → (updF (updF (updF (updF (updF c 129 (fun _ => ((-9) : Int32))) 130 (fun _ => ((-9) : Int32))) 131 (fun _ => ((-9) : Int32))) 132 (fun _ => (0 : Int32))) 133 (fun _ => ((-9) : Int32))) k = c k := fr_f hfc (by decide) (by decide)
  refine lv_aload_n hx hb dX5_wipe_44 rfl (lv_at hl 0 rfl) ?_
  refine xgT_R_secondSides hx hb hts (fun _ h => List.mem_cons_of_mem _ (List.mem_append_right _ h)) hown hK hP (hts (.fieldLink RX5 27 "TalePlay$Roads" "secondSides" "[I") (by decide +kernel)) dX5_wipe_45 ?_
  refine lv_bipush (v := (-9)) hx hb dX5_wipe_48 (by decide) ?_
  have hPc := hP.sub (ws' := [(a 134, .inl (t 134, 30, .inl ((updF (updF (updF (updF (updF c 129 (fun _ => ((-9) : Int32))) 130 (fun _ => ((-9) : Int32))) 131 (fun _ => ((-9) : Int32))) 132 (fun _ => (0 : Int32))) 133 (fun _ => ((-9) : Int32))) 134)))]) [27] rfl
  have hKc := hK.sub (tys' := [(t 134, .int)]) [22] rfl
  have hDc := hD.sub (ws' := [(a 134, .inl (t 134, 30, .inl ((updF (updF (updF (updF (updF c 129 (fun _ => ((-9) : Int32))) 130 (fun _ => ((-9) : Int32))) 131 (fun _ => ((-9) : Int32))) 132 (fun _ => (0 : Int32))) 133 (fun _ => ((-9) : Int32))) 134)))]) [27] (by decide) rfl
  refine rw_callv (wr := ((xwT sk a t i q (updF (updF (updF (updF (updF c 129 (fun _ => ((-9) : Int32))) 130 (fun _ => ((-9) : Int32))) 131 (fun _ => ((-9) : Int32))) 132 (fun _ => (0 : Int32))) 133 (fun _ => ((-9) : Int32))) d)).eraseIdx 27) (va_runS (As := [.ref (a 134), .int (-9)]) (rest := []) ⟨hx, hb, hml, hown, hts⟩ (c_fill2 l D H.size (a 134) (t 134) 30 ((updF (updF (updF (updF (updF c 129 (fun _ => ((-9) : Int32))) 130 (fun _ => ((-9) : Int32))) 131 (fun _ => ((-9) : Int32))) 132 (fun _ => (0 : Int32))) 133 (fun _ => ((-9) : Int32))) 134) ((-9) : Int32) (by decide)) (va_cwS 2 hts gm_X5_wipe_J7_fill_53178_50 rfl rfl rfl (by decide +kernel) ⟨Nat.le_of_ble_eq_true rfl, Nat.le_of_ble_eq_true rfl⟩) (pB_S hKc hPc hDc) rfl rfl hl.1 rfl (lv_room (Nat.le_of_ble_eq_true rfl)) dX5_wipe_50 ⟨Nat.le_of_ble_eq_true rfl, Nat.le_of_ble_eq_true rfl⟩) hS hA hK hP hD [27] [0, 1, 2, 3, 4, 5, 6, 7, 8, 9, 10, 11, 12, 13, 14, 15, 16, 17, 18, 19, 20, 21, 22, 23, 24, 25, 26, 28, 29, 30, 31, 32, 33, 34, 35, 36, 37, 38, 39, 40, 41, 42, 43, 44, 45, 46, 47, 48, 49, 50] rfl rfl (by decide) (by decide) (fun u6 H locs hw6 hK2 hP hD hS => ?_)
  have hP : va_P D vwCl (xwT sk a t i q (updF (updF (updF (updF (updF (updF c 129 (fun _ => ((-9) : Int32))) 130 (fun _ => ((-9) : Int32))) 131 (fun _ => ((-9) : Int32))) 132 (fun _ => (0 : Int32))) 133 (fun _ => ((-9) : Int32))) 134 (fun _ => ((-9) : Int32))) d) H := hP.sub [0, 1, 2, 3, 4, 5, 6, 7, 8, 9, 10, 11, 12, 13, 14, 15, 16, 17, 18, 19, 20, 21, 22, 23, 24, 25, 26, 50, 27, 28, 29, 30, 31, 32, 33, 34, 35, 36, 37, 38, 39, 40, 41, 42, 43, 44, 45, 46, 47, 48, 49] rfl
  have hD : va_D A (xwT sk a t i q (updF (updF (updF (updF (updF (updF c 129 (fun _ => ((-9) : Int32))) 130 (fun _ => ((-9) : Int32))) 131 (fun _ => ((-9) : Int32))) 132 (fun _ => (0 : Int32))) 133 (fun _ => ((-9) : Int32))) 134 (fun _ => ((-9) : Int32))) d) := hD.sub [0, 1, 2, 3, 4, 5, 6, 7, 8, 9, 10, 11, 12, 13, 14, 15, 16, 17, 18, 19, 20, 21, 22, 23, 24, 25, 26, 50, 27, 28, 29, 30, 31, 32, 33, 34, 35, 36, 37, 38, 39, 40, 41, 42, 43, 44, 45, 46, 47, 48, 49] (by decide) rfl
  have hI := xInv_f hI (k := 134) (f := (fun _ => ((-9) : Int32))) (fun j => show ((-9) : Int32).toInt = -9 ∨ (0 ≤ ((-9) : Int32).toInt ∧ ((-9) : Int32).toInt ≤ 29) from by have h9 : ((-9) : Int32).toInt = -9 := (by decide); omega)
  have hfc : ∀ k, k ∉ ([129, 130, 131, 132, 133, 134] : List Nat) → (updF (updF (updF (updF (updF (updF c 129 (fun _ => ((-9) : Int32))) 130 (fun _ => ((-9) : Int32))) 131 (fun _ => ((-9) : Int32))) 132 (fun _ => (0 : Int32))) 133 (fun _ => ((-9) : Int32))) 134 (fun _ => ((-9) : Int32))) k = c k := fr_f hfc (by decide) (by decide)
  exact rw_vret (i, q, (updF (updF (updF (updF (updF (updF c 129 (fun _ => ((-9) : Int32))) 130 (fun _ => ((-9) : Int32))) 131 (fun _ => ((-9) : Int32))) 132 (fun _ => (0 : Int32))) 133 (fun _ => ((-9) : Int32))) 134 (fun _ => ((-9) : Int32))), d) hx hb hr hlocks hS (hK.sub (tys' := []) [] rfl) hP hD dX5_wipe_53 ⟨trivial, hI, fr_w hfi (by decide), fr_w hfc (by decide)⟩

def wm_X5_redrawFor : List Cond := .code yX5_redrawFor cX5_redrawFor 2 none :: (([.methodLink RX5 47 yX5_wipe, .instanceMethod yX5_wipe, .selects RX5 yX5_wipe yX5_wipe, .initialized RX5, .code yX5_wipe cX5_wipe 1 none, .fieldLink RX5 9 "TalePlay$Roads" "leads" "[I", .methodLink RX5 50 yJ7_fill_53178, .static yJ7_fill_53178, .initialized RJ7, .code yJ7_fill_53178 cJ7_fill_53178 4 none, .fieldLink RX5 15 "TalePlay$Roads" "doors" "[I", .fieldLink RX5 18 "TalePlay$Roads" "bys" "[I", .fieldLink RX5 21 "TalePlay$Roads" "implied" "[I", .fieldLink RX5 24 "TalePlay$Roads" "firstSides" "[I", .fieldLink RX5 27 "TalePlay$Roads" "secondSides" "[I", .methodLink RX5 56 yX5_drawSaid, .instanceMethod yX5_drawSaid, .selects RX5 yX5_drawSaid yX5_drawSaid, .code yX5_drawSaid cX5_drawSaid 3 none, .fieldLink RX5 43 "TalePlay$Roads" "book" "LTalePlay$Book;", .fieldLink RX5 74 "TalePlay$Book" "total" "I", .methodLink RX5 78 yX5_isDrawn, .instanceMethod yX5_isDrawn, .selects RX5 yX5_isDrawn yX5_isDrawn, .code yX5_isDrawn cX5_isDrawn 2 (some .boolean), .fieldLink RX5 65 "TalePlay$Book" "said" "[Z", .fieldLink RX5 71 "TalePlay$Book" "forms" "[I", .fieldLink RX5 82 "TalePlay$Book" "as" "[I", .fieldLink RX5 85 "TalePlay$Book" "cs" "[I", .fieldLink RX5 88 "TalePlay$Book" "bs" "[I", .methodLink RX5 91 yX5_drawTarget, .instanceMethod yX5_drawTarget, .selects RX5 yX5_drawTarget yX5_drawTarget, .code yX5_drawTarget cX5_drawTarget 4 none, .fieldLink RX5 39 "TalePlay$Roads" "world" "LTalePlay$World;", .methodLink RX5 95 yX10_sortOf, .instanceMethod yX10_sortOf, .selects RX10 yX10_sortOf yX10_sortOf, .initialized RX10, .code yX10_sortOf cX10_sortOf 2 (some .int), .fieldLink RX10 37 "TalePlay$World" "objects" "I", .fieldLink RX10 15 "TalePlay$World" "sorts" "[I", .fieldLink RX10 21 "TalePlay$World" "kindOf" "[I", .methodLink RX5 59 yX5_drawImplied, .instanceMethod yX5_drawImplied, .selects RX5 yX5_drawImplied yX5_drawImplied, .code yX5_drawImplied cX5_drawImplied 3 none, .methodLink RX5 62 yX5_drawThroughDoors, .instanceMethod yX5_drawThroughDoors, .selects RX5 yX5_drawThroughDoors yX5_drawThroughDoors, .code yX5_drawThroughDoors cX5_drawThroughDoors 4 none] : List Cond) ++ wsX50 ++ wsX10 ++ wsX100)
set_option maxRecDepth 20000 in
theorem gm_X5_redrawFor_X5_wipe_47 : GoodIn wm_X5_redrawFor (wsV RX5 47 RX5 yX5_wipe wm_X5_wipe) := goodIn_app (goodIn_of _ (by decide +kernel)) (goodIn_r _ [5, 6, 7, 8, 9, 10, 11, 12, 13, 14, 15, 52, 53, 54, 55, 56, 57, 58, 59, 60, 61, 62] rfl (by decide +kernel))
set_option maxRecDepth 20000 in
theorem gm_X5_redrawFor_X5_drawSaid_56 : GoodIn wm_X5_redrawFor (wsV RX5 56 RX5 yX5_drawSaid wm_X5_drawSaid) := goodIn_app (goodIn_of _ (by decide +kernel)) (goodIn_r _ [19, 20, 21, 22, 23, 24, 4, 25, 26, 27, 28, 29, 12, 30, 31, 32, 33, 34, 35, 36, 37, 38, 39, 40, 41, 42, 43, 11, 14, 15, 6, 52, 53, 54, 55, 56, 57, 58, 59, 60, 61, 62, 63, 64, 65, 66, 67, 68, 69, 70, 71, 72, 73, 74, 75, 76, 77, 78, 79, 80, 81, 82, 83, 84] rfl (by decide +kernel))
set_option maxRecDepth 20000 in
theorem gm_X5_redrawFor_X5_drawImplied_59 : GoodIn wm_X5_redrawFor (wsV RX5 59 RX5 yX5_drawImplied wm_X5_drawImplied) := goodIn_app (goodIn_of _ (by decide +kernel)) (goodIn_r _ [47, 20, 21, 22, 23, 24, 4, 25, 26, 27, 35, 30, 36, 37, 38, 39, 40, 41, 42, 43, 29, 12, 6, 28, 13, 52, 53, 54, 55, 56, 57, 58, 59, 60, 61, 62, 63, 64, 65, 66, 67, 68, 69, 70, 71, 72, 73, 74, 75, 76, 77, 78, 79, 80, 81, 82, 83, 84] rfl (by decide +kernel))
set_option maxRecDepth 20000 in
theorem gm_X5_redrawFor_X5_drawThroughDoors_62 : GoodIn wm_X5_redrawFor (wsV RX5 62 RX5 yX5_drawThroughDoors wm_X5_drawThroughDoors) := goodIn_app (goodIn_of _ (by decide +kernel)) (goodIn_r _ [51, 11, 14, 6, 15, 52, 53, 54, 55, 56, 57, 58, 59, 60, 61, 62] rfl (by decide +kernel))
set_option maxHeartbeats 4000000 in
set_option maxRecDepth 100000 in
theorem x_X5_redrawFor (l : Launch) (D : va_G) (sz : Nat) (sk : Value) (a : Nat → Nat) (t : Nat → ClassId) (i : Nat → Int32) (q : Int64) (c : Nat → Nat → Int32) (d : Nat → Nat → Int64) (f : Int32) (hI : xInv i c) : Met l yX5_redrawFor wm_X5_redrawFor ({ frames := 3, cells := 0, slots := 0, locals := 66 }) (va_Pc [.ref (a 128), .int f] (yB (a 186) D sz (xwT sk a t i q c d) (xtT t))) (va_Qv (fun (u : MS) => True ∧ xInv u.1 u.2.2.1 ∧ (∀ k, k ∉ ([] : List Nat) → u.1 k = i k) ∧ (∀ k, k ∉ ([129, 130, 131, 132, 133, 134] : List Nat) → u.2.2.1 k = c k)) (oC D (va_A (xwT sk a t i q c d) sz) (fun u : MS => xwT sk a t u.1 u.2.1 u.2.2.1 u.2.2.2) (fun _ => [])) (va_A (xwT sk a t i q c d) sz)) 0 0 (va_A (xwT sk a t i q c d) sz) := by
  refine Met.ofW (cc := cX5_redrawFor) (maxL := 2) (ret := none) (by decide) rfl ?_
  intro p e s m args below meth cd s₁ B hml hv
  obtain ⟨rfl, ⟨hsz, hP, hK, hD0⟩, hN, hZ, hBW⟩ := hv
  have hx := B.exec
  have hb := B.bytes
  have hr := B.returns
  have hts := atoms_spec (ws := wm_X5_redrawFor) B.pre
  have hown : s.vm.findClass RX5 = some m.cls := findClass_of_methodNamed B.named
  have hlocks := B.notSynchronized
  subst hsz
  have hD := hD0.self (sz := s.heap.size)
  have hZ := xZ_A hZ hP hBW
  generalize hAe : va_A (xwT sk a t i q c d) s.heap.size = A at hD hZ ⊢
  have hA : ∀ q : Nat, s.heap.size ≤ q → A q := fun q h => by rw [← hAe]; exact Or.inr h
  have hS : va_S A s.heap s.heap [] := va_S.rf
  have hfi : ∀ k, k ∉ ([] : List Nat) → i k = i k := fun _ _ => rfl
  have hfc : ∀ k, k ∉ ([] : List Nat) → c k = c k := fun _ _ => rfl
  have hl := lv_entry ([.ref (a 128), .int f]) (n := 2) (Nat.le_of_ble_eq_true rfl)
  rw [lg_entry_eq]
  generalize (lg_sl ([.ref (a 128), .int f]) ++ List.replicate (2 - (lg_sl ([.ref (a 128), .int f])).length) Slot.unset).toArray = ls at hl ⊢
  have hl : lv_has ls 2 [(0, .ref (a 128)), (1, .int f)] := hl
  refine lv_iload_n hx hb dX5_redrawFor_0 rfl (lv_at hl 1 rfl) ?_
  refine lv_iconst (v := 5) hx hb dX5_redrawFor_1 (by decide) ?_
  refine lv_icmp_eq (tgt := 6) hx hb dX5_redrawFor_2 (by decide) (fun c1 => ?_) (fun c1 => ?_)
  · have f1 := (ti_eq (a := f.toInt) (b := 5) rfl (by decide)).mp c1
    refine lv_aload_n hx hb dX5_redrawFor_6 rfl (lv_at hl 0 rfl) ?_
    refine al_callv (va_runV (As := []) (rest := []) ⟨hx, hb, hml, hown, hts⟩ (x_X5_wipe l D s.heap.size sk a t i q c d  hI ) (cwV 0 hts gm_X5_redrawFor_X5_wipe_47 rfl rfl rfl (by decide +kernel) ⟨Nat.le_of_ble_eq_true rfl, Nat.le_of_ble_eq_true rfl⟩) (yB_V hN (xZ_k hZ hS hA) (xZ_n hZ hD) hK hP hD (ci := 5) (q0 := 21) rfl rfl) rfl rfl hl.1 rfl (lv_room (Nat.le_of_ble_eq_true rfl)) dX5_redrawFor_7 ⟨Nat.le_of_ble_eq_true rfl, Nat.le_of_ble_eq_true rfl⟩) hS hA hP hD (fun u2 H locs hw2 hP hD hS => ?_)
    obtain ⟨i2, q2, c2, d2⟩ := u2
    have hw2 : True ∧ xInv i2 c2 ∧ (∀ k, k ∉ ([] : List Nat) → i2 k = i k) ∧ (∀ k, k ∉ ([129, 130, 131, 132, 133, 134] : List Nat) → c2 k = c k) := hw2
    obtain ⟨hw2, hI, hei2, hec2⟩ := hw2
    have hfi : ∀ k, k ∉ ([] : List Nat) → i2 k = i k := fr_z hfi hei2 (by decide) (by decide)
    have hfc : ∀ k, k ∉ ([129, 130, 131, 132, 133, 134] : List Nat) → c2 k = c k := fr_z hfc hec2 (by decide) (by decide)
    refine lv_aload_n hx hb dX5_redrawFor_10 rfl (lv_at hl 0 rfl) ?_
    refine al_callv (va_runV (As := []) (rest := []) ⟨hx, hb, hml, hown, hts⟩ (x_X5_drawSaid l D H.size sk a t i2 q2 c2 d2  hI ) (cwV 0 hts gm_X5_redrawFor_X5_drawSaid_56 rfl rfl rfl (by decide +kernel) ⟨Nat.le_of_ble_eq_true rfl, Nat.le_of_ble_eq_true rfl⟩) (yB_V hN (xZ_k hZ hS hA) (xZ_n hZ hD) hK hP hD (ci := 5) (q0 := 21) rfl rfl) rfl rfl hl.1 rfl (lv_room (Nat.le_of_ble_eq_true rfl)) dX5_redrawFor_11 ⟨Nat.le_of_ble_eq_true rfl, Nat.le_of_ble_eq_true rfl⟩) hS hA hP hD (fun u3 H locs hw3 hP hD hS => ?_)
    obtain ⟨i3, q3, c3, d3⟩ := u3
    have hw3 : True ∧ xInv i3 c3 ∧ (∀ k, k ∉ ([] : List Nat) → i3 k = i2 k) ∧ (∀ k, k ∉ ([129, 130, 131, 133, 134] : List Nat) → c3 k = c2 k) := hw3
    obtain ⟨hw3, hI, hei3, hec3⟩ := hw3
    have hfi : ∀ k, k ∉ ([] : List Nat) → i3 k = i k := fr_z hfi hei3 (by decide) (by decide)
    have hfc : ∀ k, k ∉ ([129, 130, 131, 132, 133, 134] : List Nat) → c3 k = c k := fr_z hfc hec3 (by decide) (by decide)
    refine lv_aload_n hx hb dX5_redrawFor_14 rfl (lv_at hl 0 rfl) ?_
    refine al_callv (va_runV (As := []) (rest := []) ⟨hx, hb, hml, hown, hts⟩ (x_X5_drawImplied l D H.size sk a t i3 q3 c3 d3  hI ) (cwV 0 hts gm_X5_redrawFor_X5_drawImplied_59 rfl rfl rfl (by decide +kernel) ⟨Nat.le_of_ble_eq_true rfl, Nat.le_of_ble_eq_true rfl⟩) (yB_V hN (xZ_k hZ hS hA) (xZ_n hZ hD) hK hP hD (ci := 5) (q0 := 21) rfl rfl) rfl rfl hl.1 rfl (lv_room (Nat.le_of_ble_eq_true rfl)) dX5_redrawFor_15 ⟨Nat.le_of_ble_eq_true rfl, Nat.le_of_ble_eq_true rfl⟩) hS hA hP hD (fun u4 H locs hw4 hP hD hS => ?_)
    obtain ⟨i4, q4, c4, d4⟩ := u4
    have hw4 : True ∧ xInv i4 c4 ∧ (∀ k, k ∉ ([] : List Nat) → i4 k = i3 k) ∧ (∀ k, k ∉ ([129, 131, 132] : List Nat) → c4 k = c3 k) := hw4
    obtain ⟨hw4, hI, hei4, hec4⟩ := hw4
    have hfi : ∀ k, k ∉ ([] : List Nat) → i4 k = i k := fr_z hfi hei4 (by decide) (by decide)
    have hfc : ∀ k, k ∉ ([129, 130, 131, 132, 133, 134] : List Nat) → c4 k = c k := fr_z hfc hec4 (by decide) (by decide)
    refine lv_aload_n hx hb dX5_redrawFor_18 rfl (lv_at hl 0 rfl) ?_
    refine al_callv (va_runV (As := []) (rest := []) ⟨hx, hb, hml, hown, hts⟩ (x_X5_drawThroughDoors l D H.size sk a t i4 q4 c4 d4  hI ) (cwV 0 hts gm_X5_redrawFor_X5_drawThroughDoors_62 rfl rfl rfl (by decide +kernel) ⟨Nat.le_of_ble_eq_true rfl, Nat.le_of_ble_eq_true rfl⟩) (yB_V hN (xZ_k hZ hS hA) (xZ_n hZ hD) hK hP hD (ci := 5) (q0 := 21) rfl rfl) rfl rfl hl.1 rfl (lv_room (Nat.le_of_ble_eq_true rfl)) dX5_redrawFor_19 ⟨Nat.le_of_ble_eq_true rfl, Nat.le_of_ble_eq_true rfl⟩) hS hA hP hD (fun u5 H locs hw5 hP hD hS => ?_)
    obtain ⟨i5, q5, c5, d5⟩ := u5
    have hw5 : True ∧ xInv i5 c5 ∧ (∀ k, k ∉ ([] : List Nat) → i5 k = i4 k) ∧ (∀ k, k ∉ ([129] : List Nat) → c5 k = c4 k) := hw5
    obtain ⟨hw5, hI, hei5, hec5⟩ := hw5
    have hfi : ∀ k, k ∉ ([] : List Nat) → i5 k = i k := fr_z hfi hei5 (by decide) (by decide)
    have hfc : ∀ k, k ∉ ([129, 130, 131, 132, 133, 134] : List Nat) → c5 k = c k := fr_z hfc hec5 (by decide) (by decide)
    exact rw_vret (i5, q5, c5, d5) hx hb hr hlocks hS (hK.sub (tys' := []) [] rfl) hP hD dX5_redrawFor_22 ⟨trivial, hI, fr_w hfi (by decide), fr_w hfc (by decide)⟩
  · have f1 := mt (ti_eq (a := f.toInt) (b := 5) rfl (by decide)).mpr c1
    exact rw_vret (i, q, c, d) hx hb hr hlocks hS (hK.sub (tys' := []) [] rfl) hP hD dX5_redrawFor_5 ⟨trivial, hI, fr_w hfi (by decide), fr_w hfc (by decide)⟩

