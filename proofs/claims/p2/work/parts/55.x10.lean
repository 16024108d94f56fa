def wm_X5_walkFrom : List Cond := .code yX5_walkFrom cX5_walkFrom 8 none :: (([.fieldLink RX5 30 "TalePlay$Roads" "steps" "[I", .methodLink RX5 50 yJ7_fill_53178, .static yJ7_fill_53178, .initialized RJ7, .code yJ7_fill_53178 cJ7_fill_53178 4 none, .fieldLink RX5 33 "TalePlay$Roads" "firsts" "[I", .fieldLink RX5 36 "TalePlay$Roads" "queue" "[I", .fieldLink RX5 9 "TalePlay$Roads" "leads" "[I", .methodLink RX5 101 yX5_isPassable, .instanceMethod yX5_isPassable, .selects RX5 yX5_isPassable yX5_isPassable, .initialized RX5, .code yX5_isPassable cX5_isPassable 3 (some .boolean), .fieldLink RX5 15 "TalePlay$Roads" "doors" "[I", .fieldLink RX5 43 "TalePlay$Roads" "book" "LTalePlay$Book;", .methodLink RX5 105 yX1_saidFlag, .instanceMethod yX1_saidFlag, .selects RX1 yX1_saidFlag yX1_saidFlag, .initialized RX1, .code yX1_saidFlag cX1_saidFlag 4 (some .int), .fieldLink RX1 34 "TalePlay$Book" "flagBy" "[I", .fieldLink RX1 21 "TalePlay$Book" "cs" "[I", .fieldLink RX1 43 "TalePlay$Book" "world" "LTalePlay$World;", .methodLink RX1 114 yX10_standardFor, .instanceMethod yX10_standardFor, .selects RX10 yX10_standardFor yX10_standardFor, .initialized RX10, .code yX10_standardFor cX10_standardFor 6 (some .int), .fieldLink RX10 21 "TalePlay$World" "kindOf" "[I", .methodLink RX10 40 yX10_sortOf, .instanceMethod yX10_sortOf, .selects RX10 yX10_sortOf yX10_sortOf, .code yX10_sortOf cX10_sortOf 2 (some .int), .fieldLink RX10 37 "TalePlay$World" "objects" "I", .fieldLink RX10 15 "TalePlay$World" "sorts" "[I", .fieldLink RX10 18 "TalePlay$World" "standards" "[I", .fieldLink RX10 9 "TalePlay$World" "parents" "[I"] : List Cond) ++ wsX50 ++ wsX10 ++ wsX100)
set_option maxRecDepth 20000 in
theorem gm_X5_walkFrom_J7_fill_53178_50 : GoodIn wm_X5_walkFrom (va_wsS RX5 50 yJ7_fill_53178 wm_J7_fill_53178) := goodIn_app (goodIn_of _ (by decide +kernel)) (goodIn_r _ [5] rfl (by decide +kernel))
set_option maxRecDepth 20000 in
theorem gm_X5_walkFrom_X5_isPassable_101 : GoodIn wm_X5_walkFrom (wsV RX5 101 RX5 yX5_isPassable wm_X5_isPassable) := goodIn_app (goodIn_of _ (by decide +kernel)) (goodIn_r _ [13, 14, 15, 16, 17, 18, 19, 20, 21, 22, 23, 24, 25, 26, 27, 28, 29, 30, 31, 32, 33, 34, 35, 36, 37, 38, 39, 40, 41, 42, 43, 44, 45, 46, 47, 48, 49, 50, 51, 52, 53, 54, 55, 56, 57, 58, 59, 60, 61, 62, 63, 64, 65, 66, 67, 68, 69, 70] rfl (by decide +kernel))
set_option maxHeartbeats 4000000 in
set_option maxRecDepth 100000 in
theorem x_X5_walkFrom (l : Launch) (D : va_G) (sz : Nat) (sk : Value) (a : Nat → Nat) (t : Nat → ClassId) (i : Nat → Int32) (q : Int64) (c : Nat → Nat → Int32) (d : Nat → Nat → Int64) (w : Int32) (b1 : Int32) (hI : xInv i c) (hw : 0 ≤ w.toInt ∧ w.toInt ≤ 29) : Met l yX5_walkFrom wm_X5_walkFrom ({ frames := 4, cells := 0, slots := 0, locals := 91 }) (va_Pc [.ref (a 128), .int w, .int b1] (yB (a 186) D sz (xwT sk a t i q c d) (xtT t))) (va_Qv (fun (u : MS) => True ∧ xInv u.1 u.2.2.1 ∧ (∀ k, k ∉ ([] : List Nat) → u.1 k = i k) ∧ (∀ k, k ∉ ([135, 136, 137] : List Nat) → u.2.2.1 k = c k)) (oC D (va_A (xwT sk a t i q c d) sz) (fun u : MS => xwT sk a t u.1 u.2.1 u.2.2.1 u.2.2.2) (fun _ => [])) (va_A (xwT sk a t i q c d) sz)) 0 0 (va_A (xwT sk a t i q c d) sz) := by
  refine Met.ofW (cc := cX5_walkFrom) (maxL := 8) (ret := none) (by decide) rfl ?_
  intro p e s m args below meth cd s₁ B hml hv
  obtain ⟨rfl, ⟨hsz, hP, hK, hD0⟩, hN, hZ, hBW⟩ := hv
  have hx := B.exec
  have hb := B.bytes
  have hr := B.returns
  have hts := atoms_spec (ws := wm_X5_walkFrom) B.pre
  have hown : s.vm.findClass RX5 = some m.cls := findClass_of_methodNamed B.named
  have hlocks := B.notSynchronized
  subst hsz
  have hD := hD0.self (sz := s.heap.size)
  have hZ := xZ_A hZ hP hBW
  generalize hAe : va_A (xwT sk a t i q c d) s.heap.size = A at hD hZ ⊢
  have hA : ∀ q : Nat, s.heap.size ≤ q → A q := fun q h => by rw [← hAe]; exact Or.inr h
  have hS : va_S A s.heap s.heap [] := va_S.rf
  have hfi : ∀ k, k ∉ ([] : List Nat) → i k = i k := fun _ _ => rfl
  have hfc : ∀ k, k ∉ ([] : List Nat) → c k = c k := fun _ _ => rfl
  have hl := lv_entry ([.ref (a 128), .int w, .int b1]) (n := 8) (Nat.le_of_ble_eq_true rfl)
  rw [lg_entry_eq]
  generalize (lg_sl ([.ref (a 128), .int w, .int b1]) ++ List.replicate (8 - (lg_sl ([.ref (a 128), .int w, .int b1])).length) Slot.unset).toArray = ls at hl ⊢
  have hl : lv_has ls 8 [(0, .ref (a 128)), (1, .int w), (2, .int b1)] := hl
  refine lv_aload_n hx hb dX5_walkFrom_0 rfl (lv_at hl 0 rfl) ?_
  refine xgT_R_steps hx hb hts (fun _ h => List.mem_cons_of_mem _ (List.mem_append_left _ (List.mem_append_left _ (List.mem_append_right _ h)))) hown hK hP (hts (.fieldLink RX5 30 "TalePlay$Roads" "steps" "[I") (by decide +kernel)) dX5_walkFrom_1 ?_
  refine lv_bipush (v := (-9)) hx hb dX5_walkFrom_4 (by decide) ?_
  have hPc := hP.sub (ws' := [(a 135, .inl (t 135, 30, .inl (c 135)))]) [28] rfl
  have hKc := hK.sub (tys' := [(t 135, .int)]) [23] rfl
  have hDc := hD.sub (ws' := [(a 135, .inl (t 135, 30, .inl (c 135)))]) [28] (by decide) rfl
  refine rw_callv (wr := ((xwT sk a t i q c d)).eraseIdx 28) (va_runS (As := [.ref (a 135), .int (-9)]) (rest := []) ⟨hx, hb, hml, hown, hts⟩ (c_fill2 l D s.heap.size (a 135) (t 135) 30 (c 135) ((-9) : Int32) (by decide)) (va_cwS 2 hts gm_X5_walkFrom_J7_fill_53178_50 rfl rfl rfl (by decide +kernel) ⟨Nat.le_of_ble_eq_true rfl, Nat.le_of_ble_eq_true rfl⟩) (pB_S hKc hPc hDc) rfl rfl hl.1 rfl (lv_room (Nat.le_of_ble_eq_true rfl)) dX5_walkFrom_6 ⟨Nat.le_of_ble_eq_true rfl, Nat.le_of_ble_eq_true rfl⟩) hS hA hK hP hD [28] [0, 1, 2, 3, 4, 5, 6, 7, 8, 9, 10, 11, 12, 13, 14, 15, 16, 17, 18, 19, 20, 21, 22, 23, 24, 25, 26, 27, 29, 30, 31, 32, 33, 34, 35, 36, 37, 38, 39, 40, 41, 42, 43, 44, 45, 46, 47, 48, 49, 50] rfl rfl (by decide) (by decide) (fun u1 H locs hw1 hK2 hP hD hS => ?_)
  have hP : va_P D vwCl (xwT sk a t i q (updF c 135 (fun _ => ((-9) : Int32))) d) H := hP.sub [0, 1, 2, 3, 4, 5, 6, 7, 8, 9, 10, 11, 12, 13, 14, 15, 16, 17, 18, 19, 20, 21, 22, 23, 24, 25, 26, 27, 50, 28, 29, 30, 31, 32, 33, 34, 35, 36, 37, 38, 39, 40, 41, 42, 43, 44, 45, 46, 47, 48, 49] rfl
  have hD : va_D A (xwT sk a t i q (updF c 135 (fun _ => ((-9) : Int32))) d) := hD.sub [0, 1, 2, 3, 4, 5, 6, 7, 8, 9, 10, 11, 12, 13, 14, 15, 16, 17, 18, 19, 20, 21, 22, 23, 24, 25, 26, 27, 50, 28, 29, 30, 31, 32, 33, 34, 35, 36, 37, 38, 39, 40, 41, 42, 43, 44, 45, 46, 47, 48, 49] (by decide) rfl
  have hI := xInv_f hI (k := 135) (f := (fun _ => ((-9) : Int32))) (fun j => show ((-9) : Int32).toInt = -9 ∨ (0 ≤ ((-9) : Int32).toInt ∧ ((-9) : Int32).toInt ≤ 29) from by have h9 : ((-9) : Int32).toInt = -9 := (by decide); omega)
  have hfc : ∀ k, k ∉ ([135] : List Nat) → (updF c 135 (fun _ => ((-9) : Int32))) k = c k := fr_f hfc (by decide) (by decide)
  refine lv_aload_n hx hb dX5_walkFrom_9 rfl (lv_at hl 0 rfl) ?_
  refine xgT_R_firsts hx hb hts (fun _ h => List.mem_cons_of_mem _ (List.mem_append_left _ (List.mem_append_left _ (List.mem_append_right _ h)))) hown hK hP (hts (.fieldLink RX5 33 "TalePlay$Roads" "firsts" "[I") (by decide +kernel)) dX5_walkFrom_10 ?_
  refine lv_bipush (v := (-9)) hx hb dX5_walkFrom_13 (by decide) ?_
  have hPc := hP.sub (ws' := [(a 136, .inl (t 136, 30, .inl ((updF c 135 (fun _ => ((-9) : Int32))) 136)))]) [29] rfl
  have hKc := hK.sub (tys' := [(t 136, .int)]) [24] rfl
  have hDc := hD.sub (ws' := [(a 136, .inl (t 136, 30, .inl ((updF c 135 (fun _ => ((-9) : Int32))) 136)))]) [29] (by decide) rfl
  refine rw_callv (wr := ((xwT sk a t i q (updF c 135 (fun _ => ((-9) : Int32))) d)).eraseIdx 29) (va_runS (As := [.ref (a 136), .int (-9)]) (rest := []) ⟨hx, hb, hml, hown, hts⟩ (c_fill2 l D H.size (a 136) (t 136) 30 ((updF c 135 (fun _ => ((-9) : Int32))) 136) ((-9) : Int32) (by decide)) (va_cwS 2 hts gm_X5_walkFrom_J7_fill_53178_50 rfl rfl rfl (by decide +kernel) ⟨Nat.le_of_ble_eq_true rfl, Nat.le_of_ble_eq_true rfl⟩) (pB_S hKc hPc hDc) rfl rfl hl.1 rfl (lv_room (Nat.le_of_ble_eq_true rfl)) dX5_walkFrom_15 ⟨Nat.le_of_ble_eq_true rfl, Nat.le_of_ble_eq_true rfl⟩) hS hA hK hP hD [29] [0, 1, 2, 3, 4, 5, 6, 7, 8, 9, 10, 11, 12, 13, 14, 15, 16, 17, 18, 19, 20, 21, 22, 23, 24, 25, 26, 27, 28, 30, 31, 32, 33, 34, 35, 36, 37, 38, 39, 40, 41, 42, 43, 44, 45, 46, 47, 48, 49, 50] rfl rfl (by decide) (by decide) (fun u2 H locs hw2 hK2 hP hD hS => ?_)
  have hP : va_P D vwCl (xwT sk a t i q (updF (updF c 135 (fun _ => ((-9) : Int32))) 136 (fun _ => ((-9) : Int32))) d) H := hP.sub [0, 1, 2, 3, 4, 5, 6, 7, 8, 9, 10, 11, 12, 13, 14, 15, 16, 17, 18, 19, 20, 21, 22, 23, 24, 25, 26, 27, 28, 50, 29, 30, 31, 32, 33, 34, 35, 36, 37, 38, 39, 40, 41, 42, 43, 44, 45, 46, 47, 48, 49] rfl
  have hD : va_D A (xwT sk a t i q (updF (updF c 135 (fun _ => ((-9) : Int32))) 136 (fun _ => ((-9) : Int32))) d) := hD.sub [0, 1, 2, 3, 4, 5, 6, 7, 8, 9, 10, 11, 12, 13, 14, 15, 16, 17, 18, 19, 20, 21, 22, 23, 24, 25, 26, 27, 28, 50, 29, 30, 31, 32, 33, 34, 35, 36, 37, 38, 39, 40, 41, 42, 43, 44, 45, 46, 47, 48, 49] (by decide) rfl
  have hI := xInv_f hI (k := 136) (f := (fun _ => ((-9) : Int32))) (fun j => show True from trivial)
  have hfc : ∀ k, k ∉ ([135, 136] : List Nat) → (updF (updF c 135 (fun _ => ((-9) : Int32))) 136 (fun _ => ((-9) : Int32))) k = c k := fr_f hfc (by decide) (by decide)
  refine lv_aload_n hx hb dX5_walkFrom_18 rfl (lv_at hl 0 rfl) ?_
  refine xgT_R_steps hx hb hts (fun _ h => List.mem_cons_of_mem _ (List.mem_append_left _ (List.mem_append_left _ (List.mem_append_right _ h)))) hown hK hP (hts (.fieldLink RX5 30 "TalePlay$Roads" "steps" "[I") (by decide +kernel)) dX5_walkFrom_19 ?_
  refine lv_iload_n hx hb dX5_walkFrom_22 rfl (lv_at hl 1 rfl) ?_
  refine lv_iconst (v := 0) hx hb dX5_walkFrom_23 (by decide) ?_
  refine xsT_135 hx hb hK hP hD hS (vp_in_iff.mpr (by have h9 : w.toInt = w.toInt := rfl; omega)) dX5_walkFrom_24 (fun H locs hP hD hS => ?_)
  have hI := xInv_c hI (k := 135) (j := (w : Int32).toNatClampNeg) (x := 0) (show (0 : Int32).toInt = -9 ∨ (0 ≤ (0 : Int32).toInt ∧ (0 : Int32).toInt ≤ 29) from by have h9 : (0 : Int32).toInt = 0 := (by decide); omega)
  have hfc := fr_c hfc (k := 135) (j := (w : Int32).toNatClampNeg) (x := 0) (by decide)
  refine lv_aload_n hx hb dX5_walkFrom_25 rfl (lv_at hl 0 rfl) ?_
  refine xgT_R_queue hx hb hts (fun _ h => List.mem_cons_of_mem _ (List.mem_append_left _ (List.mem_append_left _ (List.mem_append_right _ h)))) hown hK hP (hts (.fieldLink RX5 36 "TalePlay$Roads" "queue" "[I") (by decide +kernel)) dX5_walkFrom_26 ?_
  refine lv_iconst (v := 0) hx hb dX5_walkFrom_29 (by decide) ?_
  refine lv_iload_n hx hb dX5_walkFrom_30 rfl (lv_at hl 1 rfl) ?_
  refine xsT_137 hx hb hK hP hD hS (show vp_in 0 30 from by unfold vp_in; decide) dX5_walkFrom_31 (fun H locs hP hD hS => ?_)
  have hI := xInv_c hI (k := 137) (j := (0 : Int32).toNatClampNeg) (x := w) (show 0 ≤ (w : Int32).toInt ∧ (w : Int32).toInt ≤ 29 from by omega)
  have hfc : ∀ k, k ∉ ([135, 136, 137] : List Nat) → (updA (updA (updF (updF c 135 (fun _ => ((-9) : Int32))) 136 (fun _ => ((-9) : Int32))) 135 (w : Int32).toNatClampNeg 0) 137 (0 : Int32).toNatClampNeg w) k = c k := fr_cz hfc (by decide) (by decide)
  refine lv_iconst (v := 1) hx hb dX5_walkFrom_32 (by decide) ?_
  refine lv_istore_n (lv' := [(3, .int 1), (0, .ref (a 128)), (1, .int w), (2, .int b1)]) hx hb dX5_walkFrom_33 rfl hl (by decide) rfl (fun ls hl => ?_)
  refine lv_iconst (v := 0) hx hb dX5_walkFrom_34 (by decide) ?_
  refine lv_istore (lv' := [(4, .int 0), (3, .int 1), (0, .ref (a 128)), (1, .int w), (2, .int b1)]) hx hb dX5_walkFrom_35 hl (by decide) rfl (fun ls hl => ?_)
  have lp3 : ∀ (fu : Nat) (i3 : Nat → Int32) (q3 : Int64) (c3 : Nat → Nat → Int32) (d3 : Nat → Nat → Int64) (y3_4 : Int32) (y3_3 : Int32), xInv i3 c3 → (∀ k, k ∉ ([] : List Nat) → i3 k = i k) → (∀ k, k ∉ ([135, 136, 137] : List Nat) → c3 k = c k) → (0 ≤ y3_4.toInt ∧ y3_4.toInt ≤ 30) → (1 ≤ y3_3.toInt ∧ y3_3.toInt ≤ 30) → (WQ (c3 135) (c3 137) y3_3.toInt) → (30 - y3_4.toInt).toNat < fu → ∀ (H : Heap) (locs : List Loc) (ls : Array Slot), va_P D vwCl (xwT sk a t i3 q3 c3 d3) H → va_D A (xwT sk a t i3 q3 c3 d3) → va_S A s.heap H locs → lv_has ls 8 [(4, .int y3_4), (3, .int y3_3), (0, .ref (a 128)), (1, .int w), (2, .int b1)] → W p l e (headSpec wm_X5_walkFrom ({ frames := 4, cells := 0, slots := 0, locals := 91 })).room s m ([.ref (a 128), .int w, .int b1] : List Value).toArray below meth cd H locs 0 0 (MQ below (va_Qv (fun (u : MS) => True ∧ xInv u.1 u.2.2.1 ∧ (∀ k, k ∉ ([] : List Nat) → u.1 k = i k) ∧ (∀ k, k ∉ ([135, 136, 137] : List Nat) → u.2.2.1 k = c k)) (oC D A (fun u : MS => xwT sk a t u.1 u.2.1 u.2.2.1 u.2.2.2) (fun _ => [])) A) ([.ref (a 128), .int w, .int b1] : List Value).toArray s 0 0 A) (F0 m 37 ls []) := by
    intro fu
    induction fu with
    | zero => intro i3 q3 c3 d3 y3_4 y3_3 hI hfi hfc hy3_4 hy3_3 hz3_0 hm; exact absurd hm (Nat.not_lt_zero _)
    | succ fu ih =>
      intro i3 q3 c3 d3 y3_4 y3_3 hI hfi hfc hy3_4 hy3_3 hz3_0 hm H locs ls hP hD hS hl
      have ih3 := ih
      refine lv_iload hx hb dX5_walkFrom_37 (lv_at hl 0 rfl) ?_
      refine lv_iload_n hx hb dX5_walkFrom_39 rfl (lv_at hl 1 rfl) ?_
      refine lv_icmp_ge (tgt := 183) hx hb dX5_walkFrom_40 (by decide) (fun c4 => ?_) (fun c4 => ?_)
      · have f4 := (ti_le (a := y3_3.toInt) (b := y3_4.toInt) rfl rfl).mp c4
        exact rw_vret (i3, q3, c3, d3) hx hb hr hlocks hS (hK.sub (tys' := []) [] rfl) hP hD dX5_walkFrom_183 ⟨trivial, hI, fr_w hfi (by decide), fr_w hfc (by decide)⟩
      · have f4 := mt (ti_le (a := y3_3.toInt) (b := y3_4.toInt) rfl rfl).mpr c4
        refine lv_iload hx hb dX5_walkFrom_43 (lv_at hl 0 rfl) ?_
        refine lv_bipush (v := 30) hx hb dX5_walkFrom_45 (by decide) ?_
        refine lv_icmp_ge (tgt := 183) hx hb dX5_walkFrom_47 (by decide) (fun c5 => ?_) (fun c5 => ?_)
        · have f5 := (ti_le (a := 30) (b := y3_4.toInt) (by decide) rfl).mp c5
          exact rw_vret (i3, q3, c3, d3) hx hb hr hlocks hS (hK.sub (tys' := []) [] rfl) hP hD dX5_walkFrom_183 ⟨trivial, hI, fr_w hfi (by decide), fr_w hfc (by decide)⟩
        · have f5 := mt (ti_le (a := 30) (b := y3_4.toInt) (by decide) rfl).mpr c5
          refine lv_aload_n hx hb dX5_walkFrom_50 rfl (lv_at hl 2 rfl) ?_
          refine xgT_R_queue hx hb hts (fun _ h => List.mem_cons_of_mem _ (List.mem_append_left _ (List.mem_append_left _ (List.mem_append_right _ h)))) hown hK hP (hts (.fieldLink RX5 36 "TalePlay$Roads" "queue" "[I") (by decide +kernel)) dX5_walkFrom_51 ?_
          refine lv_iload hx hb dX5_walkFrom_54 (lv_at hl 0 rfl) ?_
          refine xlT_137 hx hb hK hP (vp_in_iff.mpr (by have h9 : y3_4.toInt = y3_4.toInt := rfl; omega)) dX5_walkFrom_56 (fun x6 ex6 => ?_)
          have rx6 : 0 ≤ x6.toInt ∧ x6.toInt ≤ 29 := by rw [ex6]; exact hI.2 137 _
          refine lv_istore (lv' := [(5, .int x6), (4, .int y3_4), (3, .int y3_3), (0, .ref (a 128)), (1, .int w), (2, .int b1)]) hx hb dX5_walkFrom_57 hl (by decide) rfl (fun ls hl => ?_)
          refine lv_iconst (v := 0) hx hb dX5_walkFrom_59 (by decide) ?_
          refine lv_istore (lv' := [(6, .int 0), (5, .int x6), (4, .int y3_4), (3, .int y3_3), (0, .ref (a 128)), (1, .int w), (2, .int b1)]) hx hb dX5_walkFrom_60 hl (by decide) rfl (fun ls hl => ?_)
          have lp7 : ∀ (fu : Nat) (i7 : Nat → Int32) (q7 : Int64) (c7 : Nat → Nat → Int32) (d7 : Nat → Nat → Int64) (y7_6 : Int32) (y7_3 : Int32), xInv i7 c7 → (∀ k, k ∉ ([] : List Nat) → i7 k = i k) → (∀ k, k ∉ ([135, 136, 137] : List Nat) → c7 k = c k) → (0 ≤ y7_6.toInt ∧ y7_6.toInt ≤ 10) → (1 ≤ y7_3.toInt ∧ y7_3.toInt ≤ 30) → (WQ (c7 135) (c7 137) y7_3.toInt) → (y3_4.toInt < y7_3.toInt) → (x6 = c7 137 y3_4.toNatClampNeg) → (10 - y7_6.toInt).toNat < fu → ∀ (H : Heap) (locs : List Loc) (ls : Array Slot), va_P D vwCl (xwT sk a t i7 q7 c7 d7) H → va_D A (xwT sk a t i7 q7 c7 d7) → va_S A s.heap H locs → lv_has ls 8 [(6, .int y7_6), (5, .int x6), (4, .int y3_4), (3, .int y7_3), (0, .ref (a 128)), (1, .int w), (2, .int b1)] → W p l e (headSpec wm_X5_walkFrom ({ frames := 4, cells := 0, slots := 0, locals := 91 })).room s m ([.ref (a 128), .int w, .int b1] : List Value).toArray below meth cd H locs 0 0 (MQ below (va_Qv (fun (u : MS) => True ∧ xInv u.1 u.2.2.1 ∧ (∀ k, k ∉ ([] : List Nat) → u.1 k = i k) ∧ (∀ k, k ∉ ([135, 136, 137] : List Nat) → u.2.2.1 k = c k)) (oC D A (fun u : MS => xwT sk a t u.1 u.2.1 u.2.2.1 u.2.2.2) (fun _ => [])) A) ([.ref (a 128), .int w, .int b1] : List Value).toArray s 0 0 A) (F0 m 62 ls []) := by
            intro fu
            induction fu with
            | zero => intro i7 q7 c7 d7 y7_6 y7_3 hI hfi hfc hy7_6 hy7_3 hz7_0 hz7_1 hz7_2 hm; exact absurd hm (Nat.not_lt_zero _)
            | succ fu ih =>
              intro i7 q7 c7 d7 y7_6 y7_3 hI hfi hfc hy7_6 hy7_3 hz7_0 hz7_1 hz7_2 hm H locs ls hP hD hS hl
              have ih7 := ih
              refine lv_iload hx hb dX5_walkFrom_62 (lv_at hl 0 rfl) ?_
              refine lv_bipush (v := 10) hx hb dX5_walkFrom_64 (by decide) ?_
              refine lv_icmp_ge (tgt := 177) hx hb dX5_walkFrom_66 (by decide) (fun c8 => ?_) (fun c8 => ?_)
              · have f8 := (ti_le (a := 10) (b := y7_6.toInt) (by decide) rfl).mp c8
                obtain ⟨x9, ex9⟩ : ∃ y : Int32, y = y3_4 + 1 := ⟨_, rfl⟩
                have tx9 := ti_add (a := y3_4.toInt) (b := 1) ex9 rfl (by decide) (by omega) (by omega)
                refine lv_iinc (v := x9) (lv' := [(4, .int x9), (6, .int y7_6), (5, .int x6), (3, .int y7_3), (0, .ref (a 128)), (1, .int w), (2, .int b1)]) hx hb dX5_walkFrom_177 hl (k := 2) rfl (by rw [ex9]; rfl) (by decide) rfl (fun ls hl => ?_)
                refine lv_goto (tgt := 37) hx hb dX5_walkFrom_180 (by decide) ?_
                exact ih3 i7 q7 c7 d7 x9 y7_3 hI (fr_w hfi (by decide)) (fr_w hfc (by decide)) (show 0 ≤ x9.toInt ∧ x9.toInt ≤ 30 from by have h50 : x9.toInt = (y3_4.toInt + 1) := tx9; omega) (show 1 ≤ y7_3.toInt ∧ y7_3.toInt ≤ 30 from by have h50 : x9.toInt = (y3_4.toInt + 1) := tx9; omega) (show WQ (c7 135) (c7 137) y7_3.toInt from hz7_0) (by have h50 : x9.toInt = (y3_4.toInt + 1) := tx9; omega) _ _ _ hP hD hS (lv_sub hl [0, 3, 4, 5, 6] rfl)
              · have f8 := mt (ti_le (a := 10) (b := y7_6.toInt) (by decide) rfl).mpr c8
                refine lv_aload_n hx hb dX5_walkFrom_69 rfl (lv_at hl 4 rfl) ?_
                refine xgT_R_leads hx hb hts (fun _ h => List.mem_cons_of_mem _ (List.mem_append_left _ (List.mem_append_left _ (List.mem_append_right _ h)))) hown hK hP (hts (.fieldLink RX5 9 "TalePlay$Roads" "leads" "[I") (by decide +kernel)) dX5_walkFrom_70 ?_
                refine lv_iload hx hb dX5_walkFrom_73 (lv_at hl 1 rfl) ?_
                refine lv_bipush (v := 10) hx hb dX5_walkFrom_75 (by decide) ?_
                refine lv_imul hx hb dX5_walkFrom_77 ?_
                refine lv_topi (fun x10 ex10 => ?_)
                have tx10 := ti_mul (a := x6.toInt) (b := 10) ex10 rfl (by decide) (by omega) (by omega)
                refine lv_iload hx hb dX5_walkFrom_78 (lv_at hl 0 rfl) ?_
                refine lv_iadd hx hb dX5_walkFrom_80 ?_
                refine lv_topi (fun x11 ex11 => ?_)
                have tx11 := ti_add (a := (x6.toInt * 10)) (b := y7_6.toInt) ex11 tx10 rfl (by omega) (by omega)
                refine xlT_129 hx hb hK hP (vp_in_iff.mpr (by have h9 : x11.toInt = ((x6.toInt * 10) + y7_6.toInt) := tx11; omega)) dX5_walkFrom_81 (fun x12 ex12 => ?_)
                have rx12 : x12.toInt = -9 ∨ (0 ≤ x12.toInt ∧ x12.toInt ≤ 29) := by rw [ex12]; exact hI.2 129 _
                refine lv_istore (lv' := [(7, .int x12), (6, .int y7_6), (5, .int x6), (4, .int y3_4), (3, .int y7_3), (0, .ref (a 128)), (1, .int w), (2, .int b1)]) hx hb dX5_walkFrom_82 hl (by decide) rfl (fun ls hl => ?_)
                refine lv_iload hx hb dX5_walkFrom_84 (lv_at hl 0 rfl) ?_
                refine lv_bipush (v := (-9)) hx hb dX5_walkFrom_86 (by decide) ?_
                have jn13 : ∀ (i13 : Nat → Int32) (q13 : Int64) (c13 : Nat → Nat → Int32) (d13 : Nat → Nat → Int64) (y13_3 : Int32), xInv i13 c13 → (∀ k, k ∉ ([] : List Nat) → i13 k = i k) → (∀ k, k ∉ ([135, 136, 137] : List Nat) → c13 k = c k) → (1 ≤ y13_3.toInt ∧ y13_3.toInt ≤ 30) → (WQ (c13 135) (c13 137) y13_3.toInt) → (y3_4.toInt < y13_3.toInt) → (x6 = c13 137 y3_4.toNatClampNeg) → ∀ (H : Heap) (locs : List Loc) (ls : Array Slot), va_P D vwCl (xwT sk a t i13 q13 c13 d13) H → va_D A (xwT sk a t i13 q13 c13 d13) → va_S A s.heap H locs → lv_has ls 8 [(7, .int x12), (6, .int y7_6), (5, .int x6), (4, .int y3_4), (0, .ref (a 128)), (1, .int w), (2, .int b1), (3, .int y13_3)] → W p l e (headSpec wm_X5_walkFrom ({ frames := 4, cells := 0, slots := 0, locals := 91 })).room s m ([.ref (a 128), .int w, .int b1] : List Value).toArray below meth cd H locs 0 0 (MQ below (va_Qv (fun (u : MS) => True ∧ xInv u.1 u.2.2.1 ∧ (∀ k, k ∉ ([] : List Nat) → u.1 k = i k) ∧ (∀ k, k ∉ ([135, 136, 137] : List Nat) → u.2.2.1 k = c k)) (oC D A (fun u : MS => xwT sk a t u.1 u.2.1 u.2.2.1 u.2.2.2) (fun _ => [])) A) ([.ref (a 128), .int w, .int b1] : List Value).toArray s 0 0 A) (F0 m 171 ls []) := by
                  intro i13 q13 c13 d13 y13_3 hI hfi hfc hy13_3 hz13_0 hz13_1 hz13_2 H locs ls hP hD hS hl
                  obtain ⟨x14, ex14⟩ : ∃ y : Int32, y = y7_6 + 1 := ⟨_, rfl⟩
                  have tx14 := ti_add (a := y7_6.toInt) (b := 1) ex14 rfl (by decide) (by omega) (by omega)
                  refine lv_iinc (v := x14) (lv' := [(6, .int x14), (7, .int x12), (5, .int x6), (4, .int y3_4), (0, .ref (a 128)), (1, .int w), (2, .int b1), (3, .int y13_3)]) hx hb dX5_walkFrom_171 hl (k := 1) rfl (by rw [ex14]; rfl) (by decide) rfl (fun ls hl => ?_)
                  refine lv_goto (tgt := 62) hx hb dX5_walkFrom_174 (by decide) ?_
                  exact ih7 i13 q13 c13 d13 x14 y13_3 hI (fr_w hfi (by decide)) (fr_w hfc (by decide)) (show 0 ≤ x14.toInt ∧ x14.toInt ≤ 10 from by have h50 : x14.toInt = (y7_6.toInt + 1) := tx14; omega) (show 1 ≤ y13_3.toInt ∧ y13_3.toInt ≤ 30 from by have h50 : x14.toInt = (y7_6.toInt + 1) := tx14; omega) (show WQ (c13 135) (c13 137) y13_3.toInt from hz13_0) (show y3_4.toInt < y13_3.toInt from by have h50 : x14.toInt = (y7_6.toInt + 1) := tx14; omega) (show x6 = c13 137 y3_4.toNatClampNeg from hz13_2) (by have h50 : x14.toInt = (y7_6.toInt + 1) := tx14; omega) _ _ _ hP hD hS (lv_sub hl [0, 2, 3, 7, 4, 5, 6] rfl)
                refine lv_icmp_eq (tgt := 171) hx hb dX5_walkFrom_88 (by decide) (fun c15 => ?_) (fun c15 => ?_)
                · have f15 := (ti_eq (a := x12.toInt) (b := (-9)) rfl (by decide)).mp c15
                  exact jn13 i7 q7 c7 d7 y7_3  hI (fr_w hfi (by decide)) (fr_w hfc (by decide)) (show 1 ≤ y7_3.toInt ∧ y7_3.toInt ≤ 30 from by omega) (show WQ (c7 135) (c7 137) y7_3.toInt from hz7_0) (show y3_4.toInt < y7_3.toInt from by omega) (show x6 = c7 137 y3_4.toNatClampNeg from hz7_2) _ _ _ hP hD hS (lv_sub hl [0, 1, 2, 3, 5, 6, 7, 4] rfl)
                · have f15 := mt (ti_eq (a := x12.toInt) (b := (-9)) rfl (by decide)).mpr c15
                  refine lv_aload_n hx hb dX5_walkFrom_91 rfl (lv_at hl 5 rfl) ?_
                  refine xgT_R_steps hx hb hts (fun _ h => List.mem_cons_of_mem _ (List.mem_append_left _ (List.mem_append_left _ (List.mem_append_right _ h)))) hown hK hP (hts (.fieldLink RX5 30 "TalePlay$Roads" "steps" "[I") (by decide +kernel)) dX5_walkFrom_92 ?_
                  refine lv_iload hx hb dX5_walkFrom_95 (lv_at hl 0 rfl) ?_
                  refine xlT_135 hx hb hK hP (vp_in_iff.mpr (by have h9 : x12.toInt = x12.toInt := rfl; omega)) dX5_walkFrom_97 (fun x16 ex16 => ?_)
                  have rx16 : x16.toInt = -9 ∨ (0 ≤ x16.toInt ∧ x16.toInt ≤ 29) := by rw [ex16]; exact hI.2 135 _
                  refine lv_bipush (v := (-9)) hx hb dX5_walkFrom_98 (by decide) ?_
                  refine lv_icmp_ne (tgt := 171) hx hb dX5_walkFrom_100 (by decide) (fun c17 => ?_) (fun c17 => ?_)
                  · have f17 := mt (ti_eq (a := x16.toInt) (b := (-9)) rfl (by decide)).mpr c17
                    exact jn13 i7 q7 c7 d7 y7_3  hI (fr_w hfi (by decide)) (fr_w hfc (by decide)) (show 1 ≤ y7_3.toInt ∧ y7_3.toInt ≤ 30 from by omega) (show WQ (c7 135) (c7 137) y7_3.toInt from hz7_0) (show y3_4.toInt < y7_3.toInt from by omega) (show x6 = c7 137 y3_4.toNatClampNeg from hz7_2) _ _ _ hP hD hS (lv_sub hl [0, 1, 2, 3, 5, 6, 7, 4] rfl)
                  · have f17 := (ti_eq (a := x16.toInt) (b := (-9)) rfl (by decide)).mp c17
                    refine lv_aload_n hx hb dX5_walkFrom_103 rfl (lv_at hl 5 rfl) ?_
                    refine lv_iload hx hb dX5_walkFrom_104 (lv_at hl 2 rfl) ?_
                    refine lv_bipush (v := 10) hx hb dX5_walkFrom_106 (by decide) ?_
                    refine lv_imul hx hb dX5_walkFrom_108 ?_
                    refine lv_topi (fun x18 ex18 => ?_)
                    have tx18 := ti_mul (a := x6.toInt) (b := 10) ex18 rfl (by decide) (by omega) (by omega)
                    refine lv_iload hx hb dX5_walkFrom_109 (lv_at hl 1 rfl) ?_
                    refine lv_iadd hx hb dX5_walkFrom_111 ?_
                    refine lv_topi (fun x19 ex19 => ?_)
                    have tx19 := ti_add (a := (x6.toInt * 10)) (b := y7_6.toInt) ex19 tx18 rfl (by omega) (by omega)
                    refine lv_iload_n hx hb dX5_walkFrom_112 rfl (lv_at hl 7 rfl) ?_
                    refine ro_calli (va_runV (As := [.int x19, .int b1]) (rest := []) ⟨hx, hb, hml, hown, hts⟩ (x_X5_isPassable l D H.size .null a t i7 q7 c7 d7 x19 b1 hI (show 0 ≤ x19.toInt ∧ x19.toInt ≤ 299 from by have h90 : x19.toInt = ((x6.toInt * 10) + y7_6.toInt) := tx19; omega)) (cwV 2 hts gm_X5_walkFrom_X5_isPassable_101 rfl rfl rfl (by decide +kernel) ⟨Nat.le_of_ble_eq_true rfl, Nat.le_of_ble_eq_true rfl⟩) (yA_V hN (xZ_k hZ hS hA) (xkT_B hK) (xuT_B (sk := sk) hP) (ci := 5) (q0 := 19) rfl rfl) rfl rfl hl.1 rfl (lv_room (Nat.le_of_ble_eq_true rfl)) dX5_walkFrom_113 ⟨Nat.le_of_ble_eq_true rfl, Nat.le_of_ble_eq_true rfl⟩) hS hA hP (fun r20 u20 H locs hw20 hP hS => ?_)
                    have hw20 : (0 ≤ r20.toInt ∧ r20.toInt ≤ 1) := hw20
                    refine lv_if_eq (tgt := 171) hx hb dX5_walkFrom_116 (by decide) (fun c21 => ?_) (fun c21 => ?_)
                    · have f21 := (ti_eq (a := r20.toInt) (b := 0) rfl (by decide)).mp c21
                      exact jn13 i7 q7 c7 d7 y7_3  hI (fr_w hfi (by decide)) (fr_w hfc (by decide)) (show 1 ≤ y7_3.toInt ∧ y7_3.toInt ≤ 30 from by omega) (show WQ (c7 135) (c7 137) y7_3.toInt from hz7_0) (show y3_4.toInt < y7_3.toInt from by omega) (show x6 = c7 137 y3_4.toNatClampNeg from hz7_2) _ _ _ hP hD hS (lv_sub hl [0, 1, 2, 3, 5, 6, 7, 4] rfl)
                    · have f21 := mt (ti_eq (a := r20.toInt) (b := 0) rfl (by decide)).mpr c21
                      refine lv_aload_n hx hb dX5_walkFrom_119 rfl (lv_at hl 5 rfl) ?_
                      refine xgT_R_steps hx hb hts (fun _ h => List.mem_cons_of_mem _ (List.mem_append_left _ (List.mem_append_left _ (List.mem_append_right _ h)))) hown hK hP (hts (.fieldLink RX5 30 "TalePlay$Roads" "steps" "[I") (by decide +kernel)) dX5_walkFrom_120 ?_
                      refine lv_iload hx hb dX5_walkFrom_123 (lv_at hl 0 rfl) ?_
                      refine lv_aload_n hx hb dX5_walkFrom_125 rfl (lv_at hl 5 rfl) ?_
                      refine xgT_R_steps hx hb hts (fun _ h => List.mem_cons_of_mem _ (List.mem_append_left _ (List.mem_append_left _ (List.mem_append_right _ h)))) hown hK hP (hts (.fieldLink RX5 30 "TalePlay$Roads" "steps" "[I") (by decide +kernel)) dX5_walkFrom_126 ?_
                      refine lv_iload hx hb dX5_walkFrom_129 (lv_at hl 2 rfl) ?_
                      refine xlT_135 hx hb hK hP (vp_in_iff.mpr (by have h9 : x6.toInt = x6.toInt := rfl; omega)) dX5_walkFrom_131 (fun x22 ex22 => ?_)
                      have rx22 : x22.toInt = -9 ∨ (0 ≤ x22.toInt ∧ x22.toInt ≤ 29) := by rw [ex22]; exact hI.2 135 _
                      have hq1 : ¬ x22.toInt = -9 ∧ x22.toInt ≤ y3_4.toInt := WQ_k (far := c7 135) (ln := c7 137) hz7_0 (by omega) (by omega) hz7_2 ex22
                      have hq2 : y7_3.toInt ≤ 29 := WQ_n (far := c7 135) (ln := c7 137) hz7_0 (by omega) ex16 (by omega)
                      refine lv_iconst (v := 1) hx hb dX5_walkFrom_132 (by decide) ?_
                      refine lv_iadd hx hb dX5_walkFrom_133 ?_
                      refine lv_topi (fun x23 ex23 => ?_)
                      have tx23 := ti_add (a := x22.toInt) (b := 1) ex23 rfl (by decide) (by omega) (by omega)
                      refine xsT_135 hx hb hK hP hD hS (vp_in_iff.mpr (by have h9 : x12.toInt = x12.toInt := rfl; omega)) dX5_walkFrom_134 (fun H locs hP hD hS => ?_)
                      have hI := xInv_c hI (k := 135) (j := (x12 : Int32).toNatClampNeg) (x := x23) (show (x23 : Int32).toInt = -9 ∨ (0 ≤ (x23 : Int32).toInt ∧ (x23 : Int32).toInt ≤ 29) from by have h9 : x23.toInt = (x22.toInt + 1) := tx23; omega)
                      have hfc := fr_c hfc (k := 135) (j := (x12 : Int32).toNatClampNeg) (x := x23) (by decide)
                      refine lv_aload_n hx hb dX5_walkFrom_135 rfl (lv_at hl 5 rfl) ?_
                      refine xgT_R_firsts hx hb hts (fun _ h => List.mem_cons_of_mem _ (List.mem_append_left _ (List.mem_append_left _ (List.mem_append_right _ h)))) hown hK hP (hts (.fieldLink RX5 33 "TalePlay$Roads" "firsts" "[I") (by decide +kernel)) dX5_walkFrom_136 ?_
                      refine lv_iload hx hb dX5_walkFrom_139 (lv_at hl 0 rfl) ?_
                      refine lv_iload hx hb dX5_walkFrom_141 (lv_at hl 2 rfl) ?_
                      refine lv_iload_n hx hb dX5_walkFrom_143 rfl (lv_at hl 6 rfl) ?_
                      have jn24 : ∀ (z24_0 : Int32), ∀ (H : Heap) (locs : List Loc) (ls : Array Slot), va_P D vwCl (xwT sk a t i7 q7 (updA c7 135 (x12 : Int32).toNatClampNeg x23) d7) H → va_D A (xwT sk a t i7 q7 (updA c7 135 (x12 : Int32).toNatClampNeg x23) d7) → va_S A s.heap H locs → lv_has ls 8 [(7, .int x12), (6, .int y7_6), (5, .int x6), (4, .int y3_4), (3, .int y7_3), (0, .ref (a 128)), (1, .int w), (2, .int b1)] → W p l e (headSpec wm_X5_walkFrom ({ frames := 4, cells := 0, slots := 0, locals := 91 })).room s m ([.ref (a 128), .int w, .int b1] : List Value).toArray below meth cd H locs 0 0 (MQ below (va_Qv (fun (u : MS) => True ∧ xInv u.1 u.2.2.1 ∧ (∀ k, k ∉ ([] : List Nat) → u.1 k = i k) ∧ (∀ k, k ∉ ([135, 136, 137] : List Nat) → u.2.2.1 k = c k)) (oC D A (fun u : MS => xwT sk a t u.1 u.2.1 u.2.2.1 u.2.2.2) (fun _ => [])) A) ([.ref (a 128), .int w, .int b1] : List Value).toArray s 0 0 A) (F0 m 159 ls [.int z24_0, .int x12, .ref (a 136)]) := by
                        intro z24_0 H locs ls hP hD hS hl
                        refine xsT_136 hx hb hK hP hD hS (vp_in_iff.mpr (by have h9 : x12.toInt = x12.toInt := rfl; omega)) dX5_walkFrom_159 (fun H locs hP hD hS => ?_)
                        have hI := xInv_c hI (k := 136) (j := (x12 : Int32).toNatClampNeg) (x := z24_0) (show True from trivial)
                        have hfc := fr_c hfc (k := 136) (j := (x12 : Int32).toNatClampNeg) (x := z24_0) (by decide)
                        refine lv_aload_n hx hb dX5_walkFrom_160 rfl (lv_at hl 5 rfl) ?_
                        refine xgT_R_queue hx hb hts (fun _ h => List.mem_cons_of_mem _ (List.mem_append_left _ (List.mem_append_left _ (List.mem_append_right _ h)))) hown hK hP (hts (.fieldLink RX5 36 "TalePlay$Roads" "queue" "[I") (by decide +kernel)) dX5_walkFrom_161 ?_
                        refine lv_iload_n hx hb dX5_walkFrom_164 rfl (lv_at hl 4 rfl) ?_
                        obtain ⟨x25, ex25⟩ : ∃ y : Int32, y = y7_3 + 1 := ⟨_, rfl⟩
                        have tx25 := ti_add (a := y7_3.toInt) (b := 1) ex25 rfl (by decide) (by omega) (by omega)
                        refine lv_iinc (v := x25) (lv' := [(3, .int x25), (7, .int x12), (6, .int y7_6), (5, .int x6), (4, .int y3_4), (0, .ref (a 128)), (1, .int w), (2, .int b1)]) hx hb dX5_walkFrom_165 hl (k := 4) rfl (by rw [ex25]; rfl) (by decide) rfl (fun ls hl => ?_)
                        refine lv_iload hx hb dX5_walkFrom_168 (lv_at hl 1 rfl) ?_
                        refine xsT_137 hx hb hK hP hD hS (vp_in_iff.mpr (by have h9 : y7_3.toInt = y7_3.toInt := rfl; omega)) dX5_walkFrom_170 (fun H locs hP hD hS => ?_)
                        have hI := xInv_c hI (k := 137) (j := (y7_3 : Int32).toNatClampNeg) (x := x12) (show 0 ≤ (x12 : Int32).toInt ∧ (x12 : Int32).toInt ≤ 29 from by omega)
                        have hfc := fr_c hfc (k := 137) (j := (y7_3 : Int32).toNatClampNeg) (x := x12) (by decide)
                        exact jn13 i7 q7 (updA (updA (updA c7 135 (x12 : Int32).toNatClampNeg x23) 136 (x12 : Int32).toNatClampNeg z24_0) 137 (y7_3 : Int32).toNatClampNeg x12) d7 x25  hI (fr_w hfi (by decide)) (fr_w hfc (by decide)) (show 1 ≤ x25.toInt ∧ x25.toInt ≤ 30 from by have h50 : x25.toInt = (y7_3.toInt + 1) := tx25; omega) (show WQ ((updA (updA (updA c7 135 (x12 : Int32).toNatClampNeg x23) 136 (x12 : Int32).toNatClampNeg z24_0) 137 (y7_3 : Int32).toNatClampNeg x12) 135) ((updA (updA (updA c7 135 (x12 : Int32).toNatClampNeg x23) 136 (x12 : Int32).toNatClampNeg z24_0) 137 (y7_3 : Int32).toNatClampNeg x12) 137) x25.toInt from by rw [tx25]; exact WQ_a (xa := x16) hz7_0 (by omega) (by omega) ex16 (by omega) (by have h9 := tx23; omega)) (show y3_4.toInt < x25.toInt from by have h50 : x25.toInt = (y7_3.toInt + 1) := tx25; omega) (show x6 = (updA (updA (updA c7 135 (x12 : Int32).toNatClampNeg x23) 136 (x12 : Int32).toNatClampNeg z24_0) 137 (y7_3 : Int32).toNatClampNeg x12) 137 y3_4.toNatClampNeg from by show x6 = (upd (c7 137) y7_3.toNatClampNeg x12) y3_4.toNatClampNeg; rw [pk_un (fun e9 => by have h1 := cl_nn (x := y3_4) (by omega); have h2 := cl_nn (x := y7_3) (by omega); omega)]; exact hz7_2) _ _ _ hP hD hS (lv_sub hl [1, 2, 3, 4, 5, 6, 7, 0] rfl)
                      refine lv_icmp_ne (tgt := 152) hx hb dX5_walkFrom_144 (by decide) (fun c26 => ?_) (fun c26 => ?_)
                      · have f26 := mt (ti_eq (a := x6.toInt) (b := w.toInt) rfl rfl).mpr c26
                        refine lv_aload_n hx hb dX5_walkFrom_152 rfl (lv_at hl 5 rfl) ?_
                        refine xgT_R_firsts hx hb hts (fun _ h => List.mem_cons_of_mem _ (List.mem_append_left _ (List.mem_append_left _ (List.mem_append_right _ h)))) hown hK hP (hts (.fieldLink RX5 33 "TalePlay$Roads" "firsts" "[I") (by decide +kernel)) dX5_walkFrom_153 ?_
                        refine lv_iload hx hb dX5_walkFrom_156 (lv_at hl 2 rfl) ?_
                        refine xlT_136 hx hb hK hP (vp_in_iff.mpr (by have h9 : x6.toInt = x6.toInt := rfl; omega)) dX5_walkFrom_158 (fun x27 ex27 => ?_)
                        exact jn24  x27  _ _ _ hP hD hS (lv_sub hl [0, 1, 2, 3, 4, 5, 6, 7] rfl)
                      · have f26 := (ti_eq (a := x6.toInt) (b := w.toInt) rfl rfl).mp c26
                        refine lv_iload hx hb dX5_walkFrom_147 (lv_at hl 1 rfl) ?_
                        refine lv_goto (tgt := 159) hx hb dX5_walkFrom_149 (by decide) ?_
                        exact jn24  y7_6  _ _ _ hP hD hS (lv_sub hl [0, 1, 2, 3, 4, 5, 6, 7] rfl)
          exact lp7 _ i3 q3 c3 d3 (0 : Int32) y3_3 hI (fr_w hfi (by decide)) (fr_w hfc (by decide)) (show 0 ≤ (0 : Int32).toInt ∧ (0 : Int32).toInt ≤ 10 from by have h50 : (0 : Int32).toInt = 0 := (by decide); omega) (show 1 ≤ y3_3.toInt ∧ y3_3.toInt ≤ 30 from by have h50 : (0 : Int32).toInt = 0 := (by decide); omega) (show WQ (c3 135) (c3 137) y3_3.toInt from hz3_0) (show y3_4.toInt < y3_3.toInt from by have h50 : (0 : Int32).toInt = 0 := (by decide); omega) (show x6 = c3 137 y3_4.toNatClampNeg from ex6) (Nat.lt_succ_self _) _ _ _ hP hD hS (lv_sub hl [0, 1, 2, 3, 4, 5, 6] rfl)
  exact lp3 _ i q (updA (updA (updF (updF c 135 (fun _ => ((-9) : Int32))) 136 (fun _ => ((-9) : Int32))) 135 (w : Int32).toNatClampNeg 0) 137 (0 : Int32).toNatClampNeg w) d (0 : Int32) (1 : Int32) hI (fr_w hfi (by decide)) (fr_w hfc (by decide)) (show 0 ≤ (0 : Int32).toInt ∧ (0 : Int32).toInt ≤ 30 from by have h50 : (0 : Int32).toInt = 0 := (by decide); have h51 : (1 : Int32).toInt = 1 := (by decide); omega) (show 1 ≤ (1 : Int32).toInt ∧ (1 : Int32).toInt ≤ 30 from by have h50 : (0 : Int32).toInt = 0 := (by decide); have h51 : (1 : Int32).toInt = 1 := (by decide); omega) (show WQ ((updA (updA (updF (updF c 135 (fun _ => ((-9) : Int32))) 136 (fun _ => ((-9) : Int32))) 135 (w : Int32).toNatClampNeg 0) 137 (0 : Int32).toNatClampNeg w) 135) ((updA (updA (updF (updF c 135 (fun _ => ((-9) : Int32))) 136 (fun _ => ((-9) : Int32))) 135 (w : Int32).toNatClampNeg 0) 137 (0 : Int32).toNatClampNeg w) 137) (1 : Int32).toInt from WQ_0 (by omega)) (Nat.lt_succ_self _) _ _ _ hP hD hS (lv_sub hl [0, 1, 2, 3, 4] rfl)

