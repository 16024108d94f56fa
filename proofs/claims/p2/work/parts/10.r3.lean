def wm_X12_finding : List Cond := .code yX12_finding cX12_finding 1 (some .int) :: (([.fieldLink RX12 161 "TalePlayModel" "latest" "I"] : List Cond) ++ wsX120)
set_option maxHeartbeats 4000000 in
set_option maxRecDepth 100000 in
theorem s_X12_finding (l : Launch) (D : va_G) (sz : Nat) (o : Nat) (a : Nat → Nat) (t : Nat → ClassId) (i : Nat → Int32) (q : Int64) (c : Nat → Nat → Int32) (d : Nat → Nat → Int64) (hI : mInv i c) : Met l yX12_finding wm_X12_finding ({ frames := 0, cells := 0, slots := 0, locals := 0 }) (va_Pc [.ref o] (pA D sz (mW o a t i q c d) (mT t))) (va_Qi (fun (r : Int32) (_ : Unit) => True) oA (ro sz)) 0 0 (ro sz) := by
  refine Met.ofW (cc := cX12_finding) (maxL := 1) (ret := (some .int)) (by decide) rfl ?_
  intro p e s m args below meth cd s₁ B hml hv
  obtain ⟨rfl, hsz, hP, hK⟩ := hv
  have hx := B.exec
  have hb := B.bytes
  have hr := B.returns
  have hts := atoms_spec (ws := wm_X12_finding) B.pre
  have hown : s.vm.findClass RX12 = some m.cls := findClass_of_methodNamed B.named
  have hlocks := B.notSynchronized
  subst hsz
  have hA : ∀ q : Nat, s.heap.size ≤ q → ro s.heap.size q := fun _ h => h
  have hS : va_S (ro s.heap.size) s.heap s.heap [] := va_S.rf
  have hl := lv_entry ([.ref o]) (n := 1) (Nat.le_of_ble_eq_true rfl)
  rw [lg_entry_eq]
  generalize (lg_sl ([.ref o]) ++ List.replicate (1 - (lg_sl ([.ref o])).length) Slot.unset).toArray = ls at hl ⊢
  have hl : lv_has ls 1 [(0, .ref o)] := hl
  refine lv_aload_n hx hb dX12_finding_0 rfl (lv_at hl 0 rfl) ?_
  refine mget_0 (v := (i 0)) rfl hx hb hts (fun _ h => List.mem_cons_of_mem _ (List.mem_append_right _ h)) hown hK hP (hts (.fieldLink RX12 161 "TalePlayModel" "latest" "I") (by decide +kernel)) dX12_finding_1 ?_
  have rb0_i : 0 ≤ (i 0).toInt ∧ (i 0).toInt ≤ 6 := hI.1 0
  exact ro_iret hx hb hr hlocks hS dX12_finding_4 trivial

def wm_X12_findings : List Cond := .code yX12_findings cX12_findings 2 (some .int) :: (([.constantLong RX12 164 (6), .methodLink RX12 166 yX12_in, .static yX12_in, .initialized RX12, .code yX12_in cX12_in 6 (some .boolean), .fieldLink RX12 7 "TalePlayModel" "came" "[I"] : List Cond) ++ wsX120)
set_option maxRecDepth 20000 in
theorem gm_X12_findings_X12_in : GoodIn wm_X12_findings (va_wsS RX12 166 yX12_in wm_X12_in) := goodIn_app (goodIn_of _ (by decide +kernel)) (goodIn_r _ [5] (by decide +kernel) (by decide +kernel))
set_option maxHeartbeats 4000000 in
set_option maxRecDepth 100000 in
theorem s_X12_findings (l : Launch) (D : va_G) (sz : Nat) (o : Nat) (a : Nat → Nat) (t : Nat → ClassId) (i : Nat → Int32) (q : Int64) (c : Nat → Nat → Int32) (d : Nat → Nat → Int64) (f : Int32) (hI : mInv i c) : Met l yX12_findings wm_X12_findings ({ frames := 1, cells := 0, slots := 0, locals := 25 }) (va_Pc [.ref o, .int f] (pA D sz (mW o a t i q c d) (mT t))) (va_Qi (fun (r : Int32) (_ : Unit) => True) oA (ro sz)) 0 0 (ro sz) := by
  refine Met.ofW (cc := cX12_findings) (maxL := 2) (ret := (some .int)) (by decide) rfl ?_
  intro p e s m args below meth cd s₁ B hml hv
  obtain ⟨rfl, hsz, hP, hK⟩ := hv
  have hx := B.exec
  have hb := B.bytes
  have hr := B.returns
  have hts := atoms_spec (ws := wm_X12_findings) B.pre
  have hown : s.vm.findClass RX12 = some m.cls := findClass_of_methodNamed B.named
  have hlocks := B.notSynchronized
  subst hsz
  have hA : ∀ q : Nat, s.heap.size ≤ q → ro s.heap.size q := fun _ h => h
  have hS : va_S (ro s.heap.size) s.heap s.heap [] := va_S.rf
  have hl := lv_entry ([.ref o, .int f]) (n := 2) (Nat.le_of_ble_eq_true rfl)
  rw [lg_entry_eq]
  generalize (lg_sl ([.ref o, .int f]) ++ List.replicate (2 - (lg_sl ([.ref o, .int f])).length) Slot.unset).toArray = ls at hl ⊢
  have hl : lv_has ls 2 [(0, .ref o), (1, .int f)] := hl
  refine lv_iload_n hx hb dX12_findings_0 rfl (lv_at hl 1 rfl) ?_
  refine lv_i2l (v := f.toInt64) hx hb dX12_findings_1 rfl ?_
  refine lv_lconst (v := 1) hx hb dX12_findings_2 (by decide) ?_
  refine lv_ldc2 (v := 6) hx hb hown (hts (.constantLong RX12 164 (6)) (by decide +kernel)) dX12_findings_3 ?_
  have hPc := hP.sub (ws' := []) [] rfl
  have hKc := hK.sub (tys' := []) [] rfl
  refine ro_calli (va_runS (As := [.long f.toInt64, .long 1, .long 6]) (rest := []) ⟨hx, hb, hml, hown, hts⟩ (c_X12_in l D s.heap.size f.toInt64 1 6 f.toInt 1 6 ((Int32.toInt_toInt64 f).trans rfl) (by decide) (by decide)) (va_cwS 3 hts gm_X12_findings_X12_in rfl rfl rfl (by decide +kernel) ⟨Nat.le_of_ble_eq_true rfl, Nat.le_of_ble_eq_true rfl⟩) (pA_S hKc hPc) rfl rfl hl.1 rfl (lv_room (Nat.le_of_ble_eq_true rfl)) dX12_findings_6 ⟨Nat.le_of_ble_eq_true rfl, Nat.le_of_ble_eq_true rfl⟩) hS hA hP (fun r1 u1 H locs hw1 hP hS => ?_)
  have hw1 : r1 = if (1 ≤ f.toInt ∧ f.toInt ≤ 6) then 1 else 0 := hw1
  refine lv_if_eq (tgt := 21) hx hb dX12_findings_9 (by decide) (fun c2 => ?_) (fun c2 => ?_)
  · have f2 := fl_f hw1 c2
    refine lv_iconst (v := (-1)) hx hb dX12_findings_21 (by decide) ?_
    exact ro_iret hx hb hr hlocks hS dX12_findings_22 trivial
  · have f2 := fl_t hw1 c2
    refine lv_aload_n hx hb dX12_findings_12 rfl (lv_at hl 0 rfl) ?_
    refine mget_1 hx hb hts (fun _ h => List.mem_cons_of_mem _ (List.mem_append_right _ h)) hown hK hP (hts (.fieldLink RX12 7 "TalePlayModel" "came" "[I") (by decide +kernel)) dX12_findings_13 ?_
    refine lv_iload_n hx hb dX12_findings_16 rfl (lv_at hl 1 rfl) ?_
    refine mld_1 hx hb hK hP (vp_in_iff.mpr (by have h9 : f.toInt = f.toInt := rfl; omega)) dX12_findings_17 (fun x3 ex3 => ?_)
    refine lv_goto (tgt := 22) hx hb dX12_findings_18 (by decide) ?_
    exact ro_iret hx hb hr hlocks hS dX12_findings_22 trivial

def wm_X12_kind : List Cond := .code yX12_kind cX12_kind 2 (some .int) :: (([.fieldLink RX12 151 "TalePlayModel" "kinds" "I", .methodLink RX12 166 yX12_in, .static yX12_in, .initialized RX12, .code yX12_in cX12_in 6 (some .boolean), .fieldLink RX12 13 "TalePlayModel" "parentOf" "[I"] : List Cond) ++ wsX120)
set_option maxRecDepth 20000 in
theorem gm_X12_kind_X12_in : GoodIn wm_X12_kind (va_wsS RX12 166 yX12_in wm_X12_in) := goodIn_app (goodIn_of _ (by decide +kernel)) (goodIn_r _ [5] (by decide +kernel) (by decide +kernel))
set_option maxHeartbeats 4000000 in
set_option maxRecDepth 100000 in
theorem s_X12_kind (l : Launch) (D : va_G) (sz : Nat) (o : Nat) (a : Nat → Nat) (t : Nat → ClassId) (i : Nat → Int32) (q : Int64) (c : Nat → Nat → Int32) (d : Nat → Nat → Int64) (p1 : Int32) (hI : mInv i c) : Met l yX12_kind wm_X12_kind ({ frames := 1, cells := 0, slots := 0, locals := 25 }) (va_Pc [.ref o, .int p1] (pB D sz (mW o a t i q c d) (mT t))) (va_Qi (fun (r : Int32) (u : MS) => True ∧ mInv u.1 u.2.2.1 ∧ (∀ k, k ∉ ([2] : List Nat) → u.1 k = i k) ∧ (∀ k, k ∉ ([3] : List Nat) → u.2.2.1 k = c k)) (oC D (va_A (mW o a t i q c d) sz) (fun u : MS => mW o a t u.1 u.2.1 u.2.2.1 u.2.2.2) (fun _ => [])) (va_A (mW o a t i q c d) sz)) 0 0 (va_A (mW o a t i q c d) sz) := by
  refine Met.ofW (cc := cX12_kind) (maxL := 2) (ret := (some .int)) (by decide) rfl ?_
  intro p e s m args below meth cd s₁ B hml hv
  obtain ⟨rfl, hsz, hP, hK, hD0⟩ := hv
  have hx := B.exec
  have hb := B.bytes
  have hr := B.returns
  have hts := atoms_spec (ws := wm_X12_kind) B.pre
  have hown : s.vm.findClass RX12 = some m.cls := findClass_of_methodNamed B.named
  have hlocks := B.notSynchronized
  subst hsz
  have hD := hD0.self (sz := s.heap.size)
  generalize hAe : va_A (mW o a t i q c d) s.heap.size = A at hD ⊢
  have hA : ∀ q : Nat, s.heap.size ≤ q → A q := fun q h => by rw [← hAe]; exact Or.inr h
  have hS : va_S A s.heap s.heap [] := va_S.rf
  have hfi : ∀ k, k ∉ ([2] : List Nat) → i k = i k := fun _ _ => rfl
  have hfc : ∀ k, k ∉ ([3] : List Nat) → c k = c k := fun _ _ => rfl
  have hl := lv_entry ([.ref o, .int p1]) (n := 2) (Nat.le_of_ble_eq_true rfl)
  rw [lg_entry_eq]
  generalize (lg_sl ([.ref o, .int p1]) ++ List.replicate (2 - (lg_sl ([.ref o, .int p1])).length) Slot.unset).toArray = ls at hl ⊢
  have hl : lv_has ls 2 [(0, .ref o), (1, .int p1)] := hl
  refine lv_iload_n hx hb dX12_kind_0 rfl (lv_at hl 1 rfl) ?_
  refine lv_i2l (v := p1.toInt64) hx hb dX12_kind_1 rfl ?_
  refine lv_lconst (v := 0) hx hb dX12_kind_2 (by decide) ?_
  refine lv_aload_n hx hb dX12_kind_3 rfl (lv_at hl 0 rfl) ?_
  refine mget_2 (v := (i 2)) rfl hx hb hts (fun _ h => List.mem_cons_of_mem _ (List.mem_append_right _ h)) hown hK hP (hts (.fieldLink RX12 151 "TalePlayModel" "kinds" "I") (by decide +kernel)) dX12_kind_4 ?_
  have rb2_i : 6 ≤ (i 2).toInt ∧ (i 2).toInt ≤ 24 := hI.1 2
  refine lv_iconst (v := 1) hx hb dX12_kind_7 (by decide) ?_
  refine lv_isub hx hb dX12_kind_8 ?_
  refine lv_topi (fun x1 ex1 => ?_)
  have tx1 := ti_sub (a := (i 2).toInt) (b := 1) ex1 rfl (by decide) (by omega) (by omega)
  refine lv_i2l (v := x1.toInt64) hx hb dX12_kind_9 rfl ?_
  have hPc := hP.sub (ws' := []) [] rfl
  have hKc := hK.sub (tys' := []) [] rfl
  refine ro_calli (va_runS (As := [.long p1.toInt64, .long 0, .long x1.toInt64]) (rest := []) ⟨hx, hb, hml, hown, hts⟩ (c_X12_in l D s.heap.size p1.toInt64 0 x1.toInt64 p1.toInt 0 ((i 2).toInt - 1) ((Int32.toInt_toInt64 p1).trans rfl) (by decide) ((Int32.toInt_toInt64 x1).trans tx1)) (va_cwS 3 hts gm_X12_kind_X12_in rfl rfl rfl (by decide +kernel) ⟨Nat.le_of_ble_eq_true rfl, Nat.le_of_ble_eq_true rfl⟩) (pA_S hKc hPc) rfl rfl hl.1 rfl (lv_room (Nat.le_of_ble_eq_true rfl)) dX12_kind_10 ⟨Nat.le_of_ble_eq_true rfl, Nat.le_of_ble_eq_true rfl⟩) hS hA hP (fun r2 u2 H locs hw2 hP hS => ?_)
  have hw2 : r2 = if (0 ≤ p1.toInt ∧ p1.toInt ≤ ((i 2).toInt - 1)) then 1 else 0 := hw2
  refine lv_if_ne (tgt := 18) hx hb dX12_kind_13 (by decide) (fun c3 => ?_) (fun c3 => ?_)
  · have f3 := fl_t hw2 c3
    refine lv_aload_n hx hb dX12_kind_18 rfl (lv_at hl 0 rfl) ?_
    refine mget_2 (v := (i 2)) rfl hx hb hts (fun _ h => List.mem_cons_of_mem _ (List.mem_append_right _ h)) hown hK hP (hts (.fieldLink RX12 151 "TalePlayModel" "kinds" "I") (by decide +kernel)) dX12_kind_19 ?_
    refine lv_bipush (v := 24) hx hb dX12_kind_22 (by decide) ?_
    refine lv_icmp_ne (tgt := 30) hx hb dX12_kind_24 (by decide) (fun c4 => ?_) (fun c4 => ?_)
    · have f4 := mt (ti_eq (a := (i 2).toInt) (b := 24) rfl (by decide)).mpr c4
      refine lv_aload_n hx hb dX12_kind_30 rfl (lv_at hl 0 rfl) ?_
      refine mget_3 hx hb hts (fun _ h => List.mem_cons_of_mem _ (List.mem_append_right _ h)) hown hK hP (hts (.fieldLink RX12 13 "TalePlayModel" "parentOf" "[I") (by decide +kernel)) dX12_kind_31 ?_
      refine lv_aload_n hx hb dX12_kind_34 rfl (lv_at hl 0 rfl) ?_
      refine mget_2 (v := (i 2)) rfl hx hb hts (fun _ h => List.mem_cons_of_mem _ (List.mem_append_right _ h)) hown hK hP (hts (.fieldLink RX12 151 "TalePlayModel" "kinds" "I") (by decide +kernel)) dX12_kind_35 ?_
      refine lv_iload_n hx hb dX12_kind_38 rfl (lv_at hl 1 rfl) ?_
      have rc5 : ((((i 2) : Int32).toNatClampNeg : Nat) : Int) = ((i 2) : Int32).toInt := cl_nn (by have h9 : (i 2).toInt = (i 2).toInt := rfl; omega)
      refine mst_3 hx hb hK hP hD hS (vp_in_iff.mpr (by have h9 : (i 2).toInt = (i 2).toInt := rfl; omega)) dX12_kind_39 (fun H locs hP hD hS => ?_)
      have hI := mInv_c hI (k := 3) (j := ((i 2) : Int32).toNatClampNeg) (x := p1) (show (p1 : Int32).toInt = -9 ∨ (0 ≤ (p1 : Int32).toInt ∧ (p1 : Int32).toInt ≤ 23 ∧ (p1 : Int32).toInt < ((((i 2) : Int32).toNatClampNeg : Nat) : Int) ∧ ((((i 2) : Int32).toNatClampNeg : Nat) : Int) ≠ 1) from by omega)
      have hfc := fr_c hfc (k := 3) (j := ((i 2) : Int32).toNatClampNeg) (x := p1) (by decide)
      refine lv_aload_n hx hb dX12_kind_40 rfl (lv_at hl 0 rfl) ?_
      refine lv_dup hx hb dX12_kind_41 rfl ?_
      refine mget_2 (v := (i 2)) rfl hx hb hts (fun _ h => List.mem_cons_of_mem _ (List.mem_append_right _ h)) hown hK hP (hts (.fieldLink RX12 151 "TalePlayModel" "kinds" "I") (by decide +kernel)) dX12_kind_42 ?_
      refine lv_iconst (v := 1) hx hb dX12_kind_45 (by decide) ?_
      refine lv_iadd hx hb dX12_kind_46 ?_
      refine lv_topi (fun x6 ex6 => ?_)
      have tx6 := ti_add (a := (i 2).toInt) (b := 1) ex6 rfl (by decide) (by omega) (by omega)
      refine mput_2 hx hb hts (fun _ h => List.mem_cons_of_mem _ (List.mem_append_right _ h)) hown hK hP hD hS (hts (.fieldLink RX12 151 "TalePlayModel" "kinds" "I") (by decide +kernel)) rfl rfl dX12_kind_47 (fun H locs hP hD hS => ?_)
      have hI := mInv_i hI (k := 2) (v := x6) (show 6 ≤ (x6 : Int32).toInt ∧ (x6 : Int32).toInt ≤ 24 from by have h9 : x6.toInt = ((i 2).toInt + 1) := tx6; omega)
      have hfi := fr_i hfi (k := 2) (v := x6) (by decide)
      refine lv_aload_n hx hb dX12_kind_50 rfl (lv_at hl 0 rfl) ?_
      refine mget_2 (v := x6) rfl hx hb hts (fun _ h => List.mem_cons_of_mem _ (List.mem_append_right _ h)) hown hK hP (hts (.fieldLink RX12 151 "TalePlayModel" "kinds" "I") (by decide +kernel)) dX12_kind_51 ?_
      refine lv_iconst (v := 1) hx hb dX12_kind_54 (by decide) ?_
      refine lv_isub hx hb dX12_kind_55 ?_
      refine lv_topi (fun x7 ex7 => ?_)
      have tx7 := ti_sub (a := ((i 2).toInt + 1)) (b := 1) ex7 tx6 (by decide) (by omega) (by omega)
      exact rw_iret ((upd i 2 x6), q, (updA c 3 ((i 2) : Int32).toNatClampNeg p1), d) hx hb hr hlocks hS (hK.sub (tys' := []) [] rfl) hP hD dX12_kind_56 ⟨trivial, hI, hfi, hfc⟩
    · have f4 := (ti_eq (a := (i 2).toInt) (b := 24) rfl (by decide)).mp c4
      refine lv_bipush (v := (-2)) hx hb dX12_kind_27 (by decide) ?_
      exact rw_iret (i, q, c, d) hx hb hr hlocks hS (hK.sub (tys' := []) [] rfl) hP hD dX12_kind_29 ⟨trivial, hI, hfi, hfc⟩
  · have f3 := fl_f hw2 c3
    refine lv_iconst (v := (-1)) hx hb dX12_kind_16 (by decide) ?_
    exact rw_iret (i, q, c, d) hx hb hr hlocks hS (hK.sub (tys' := []) [] rfl) hP hD dX12_kind_17 ⟨trivial, hI, hfi, hfc⟩

def wm_X12_standard : List Cond := .code yX12_standard cX12_standard 5 (some .int) :: (([.fieldLink RX12 151 "TalePlayModel" "kinds" "I", .methodLink RX12 166 yX12_in, .static yX12_in, .initialized RX12, .code yX12_in cX12_in 6 (some .boolean), .constantLong RX12 170 (5), .fieldLink RX12 16 "TalePlayModel" "defaults" "[I", .methodLink RX12 172 yX12_endTale, .instanceMethod yX12_endTale, .selects RX12 yX12_endTale yX12_endTale, .code yX12_endTale cX12_endTale 1 none, .fieldLink RX12 155 "TalePlayModel" "player" "I", .fieldLink RX12 291 "TalePlayModel" "turns" "I"] : List Cond) ++ wsX120)
set_option maxRecDepth 20000 in
theorem gm_X12_standard_X12_in : GoodIn wm_X12_standard (va_wsS RX12 166 yX12_in wm_X12_in) := goodIn_app (goodIn_of _ (by decide +kernel)) (goodIn_r _ [5] (by decide +kernel) (by decide +kernel))
set_option maxRecDepth 20000 in
theorem gm_X12_standard_X12_endTale : GoodIn wm_X12_standard (wsV RX12 172 RX12 yX12_endTale wm_X12_endTale) := goodIn_app (goodIn_of _ (by decide +kernel)) (goodIn_r _ [11, 12, 13, 14, 15, 16, 17, 18, 19, 20, 21, 22, 23, 24, 25, 26, 27, 28, 29, 30, 31, 32, 33, 34, 35, 36, 37, 38, 39, 40, 41, 42, 43, 44, 45, 46, 47, 48, 49, 50, 51, 52, 53, 54, 55, 56, 57, 58, 59, 60, 61, 62, 63, 64, 65, 66, 67, 68, 69, 70, 71, 72, 73, 74, 75, 76, 77, 78, 79, 80, 81, 82] (by decide +kernel) (by decide +kernel))
set_option maxHeartbeats 4000000 in
set_option maxRecDepth 100000 in
theorem s_X12_standard (l : Launch) (D : va_G) (sz : Nat) (o : Nat) (a : Nat → Nat) (t : Nat → ClassId) (i : Nat → Int32) (q : Int64) (c : Nat → Nat → Int32) (d : Nat → Nat → Int64) (k1 : Int32) (f1 : Int32) (v1 : Int32) (hI : mInv i c) : Met l yX12_standard wm_X12_standard ({ frames := 1, cells := 0, slots := 0, locals := 25 }) (va_Pc [.ref o, .int k1, .int f1, .int v1] (pB D sz (mW o a t i q c d) (mT t))) (va_Qi (fun (r : Int32) (u : MS) => True ∧ mInv u.1 u.2.2.1 ∧ (∀ k, k ∉ ([22, 27] : List Nat) → u.1 k = i k) ∧ (∀ k, k ∉ ([4] : List Nat) → u.2.2.1 k = c k)) (oC D (va_A (mW o a t i q c d) sz) (fun u : MS => mW o a t u.1 u.2.1 u.2.2.1 u.2.2.2) (fun _ => [])) (va_A (mW o a t i q c d) sz)) 0 0 (va_A (mW o a t i q c d) sz) := by
  refine Met.ofW (cc := cX12_standard) (maxL := 5) (ret := (some .int)) (by decide) rfl ?_
  intro p e s m args below meth cd s₁ B hml hv
  obtain ⟨rfl, hsz, hP, hK, hD0⟩ := hv
  have hx := B.exec
  have hb := B.bytes
  have hr := B.returns
  have hts := atoms_spec (ws := wm_X12_standard) B.pre
  have hown : s.vm.findClass RX12 = some m.cls := findClass_of_methodNamed B.named
  have hlocks := B.notSynchronized
  subst hsz
  have hD := hD0.self (sz := s.heap.size)
  generalize hAe : va_A (mW o a t i q c d) s.heap.size = A at hD ⊢
  have hA : ∀ q : Nat, s.heap.size ≤ q → A q := fun q h => by rw [← hAe]; exact Or.inr h
  have hS : va_S A s.heap s.heap [] := va_S.rf
  have hfi : ∀ k, k ∉ ([22, 27] : List Nat) → i k = i k := fun _ _ => rfl
  have hfc : ∀ k, k ∉ ([4] : List Nat) → c k = c k := fun _ _ => rfl
  have hl := lv_entry ([.ref o, .int k1, .int f1, .int v1]) (n := 5) (Nat.le_of_ble_eq_true rfl)
  rw [lg_entry_eq]
  generalize (lg_sl ([.ref o, .int k1, .int f1, .int v1]) ++ List.replicate (5 - (lg_sl ([.ref o, .int k1, .int f1, .int v1])).length) Slot.unset).toArray = ls at hl ⊢
  have hl : lv_has ls 5 [(0, .ref o), (1, .int k1), (2, .int f1), (3, .int v1)] := hl
  refine lv_iload_n hx hb dX12_standard_0 rfl (lv_at hl 1 rfl) ?_
  refine lv_i2l (v := k1.toInt64) hx hb dX12_standard_1 rfl ?_
  refine lv_lconst (v := 0) hx hb dX12_standard_2 (by decide) ?_
  refine lv_aload_n hx hb dX12_standard_3 rfl (lv_at hl 0 rfl) ?_
  refine mget_2 (v := (i 2)) rfl hx hb hts (fun _ h => List.mem_cons_of_mem _ (List.mem_append_right _ h)) hown hK hP (hts (.fieldLink RX12 151 "TalePlayModel" "kinds" "I") (by decide +kernel)) dX12_standard_4 ?_
  have rb2_i : 6 ≤ (i 2).toInt ∧ (i 2).toInt ≤ 24 := hI.1 2
  refine lv_iconst (v := 1) hx hb dX12_standard_7 (by decide) ?_
  refine lv_isub hx hb dX12_standard_8 ?_
  refine lv_topi (fun x1 ex1 => ?_)
  have tx1 := ti_sub (a := (i 2).toInt) (b := 1) ex1 rfl (by decide) (by omega) (by omega)
  refine lv_i2l (v := x1.toInt64) hx hb dX12_standard_9 rfl ?_
  have hPc := hP.sub (ws' := []) [] rfl
  have hKc := hK.sub (tys' := []) [] rfl
  refine ro_calli (va_runS (As := [.long k1.toInt64, .long 0, .long x1.toInt64]) (rest := []) ⟨hx, hb, hml, hown, hts⟩ (c_X12_in l D s.heap.size k1.toInt64 0 x1.toInt64 k1.toInt 0 ((i 2).toInt - 1) ((Int32.toInt_toInt64 k1).trans rfl) (by decide) ((Int32.toInt_toInt64 x1).trans tx1)) (va_cwS 3 hts gm_X12_standard_X12_in rfl rfl rfl (by decide +kernel) ⟨Nat.le_of_ble_eq_true rfl, Nat.le_of_ble_eq_true rfl⟩) (pA_S hKc hPc) rfl rfl hl.1 rfl (lv_room (Nat.le_of_ble_eq_true rfl)) dX12_standard_10 ⟨Nat.le_of_ble_eq_true rfl, Nat.le_of_ble_eq_true rfl⟩) hS hA hP (fun r2 u2 H locs hw2 hP hS => ?_)
  have hw2 : r2 = if (0 ≤ k1.toInt ∧ k1.toInt ≤ ((i 2).toInt - 1)) then 1 else 0 := hw2
  refine lv_if_eq (tgt := 44) hx hb dX12_standard_13 (by decide) (fun c3 => ?_) (fun c3 => ?_)
  · have f3 := fl_f hw2 c3
    refine lv_iconst (v := (-1)) hx hb dX12_standard_44 (by decide) ?_
    exact rw_iret (i, q, c, d) hx hb hr hlocks hS (hK.sub (tys' := []) [] rfl) hP hD dX12_standard_45 ⟨trivial, hI, hfi, hfc⟩
  · have f3 := fl_t hw2 c3
    refine lv_iload_n hx hb dX12_standard_16 rfl (lv_at hl 2 rfl) ?_
    refine lv_i2l (v := f1.toInt64) hx hb dX12_standard_17 rfl ?_
    refine lv_lconst (v := 0) hx hb dX12_standard_18 (by decide) ?_
    refine lv_ldc2 (v := 5) hx hb hown (hts (.constantLong RX12 170 (5)) (by decide +kernel)) dX12_standard_19 ?_
    have hPc := hP.sub (ws' := []) [] rfl
    have hKc := hK.sub (tys' := []) [] rfl
    refine ro_calli (va_runS (As := [.long f1.toInt64, .long 0, .long 5]) (rest := []) ⟨hx, hb, hml, hown, hts⟩ (c_X12_in l D H.size f1.toInt64 0 5 f1.toInt 0 5 ((Int32.toInt_toInt64 f1).trans rfl) (by decide) (by decide)) (va_cwS 3 hts gm_X12_standard_X12_in rfl rfl rfl (by decide +kernel) ⟨Nat.le_of_ble_eq_true rfl, Nat.le_of_ble_eq_true rfl⟩) (pA_S hKc hPc) rfl rfl hl.1 rfl (lv_room (Nat.le_of_ble_eq_true rfl)) dX12_standard_22 ⟨Nat.le_of_ble_eq_true rfl, Nat.le_of_ble_eq_true rfl⟩) hS hA hP (fun r4 u4 H locs hw4 hP hS => ?_)
    have hw4 : r4 = if (0 ≤ f1.toInt ∧ f1.toInt ≤ 5) then 1 else 0 := hw4
    refine lv_if_eq (tgt := 44) hx hb dX12_standard_25 (by decide) (fun c5 => ?_) (fun c5 => ?_)
    · have f5 := fl_f hw4 c5
      refine lv_iconst (v := (-1)) hx hb dX12_standard_44 (by decide) ?_
      exact rw_iret (i, q, c, d) hx hb hr hlocks hS (hK.sub (tys' := []) [] rfl) hP hD dX12_standard_45 ⟨trivial, hI, hfi, hfc⟩
    · have f5 := fl_t hw4 c5
      refine lv_iload_n hx hb dX12_standard_28 rfl (lv_at hl 3 rfl) ?_
      refine lv_i2l (v := v1.toInt64) hx hb dX12_standard_29 rfl ?_
      refine lv_lconst (v := 0) hx hb dX12_standard_30 (by decide) ?_
      refine lv_lconst (v := 1) hx hb dX12_standard_31 (by decide) ?_
      have hPc := hP.sub (ws' := []) [] rfl
      have hKc := hK.sub (tys' := []) [] rfl
      refine ro_calli (va_runS (As := [.long v1.toInt64, .long 0, .long 1]) (rest := []) ⟨hx, hb, hml, hown, hts⟩ (c_X12_in l D H.size v1.toInt64 0 1 v1.toInt 0 1 ((Int32.toInt_toInt64 v1).trans rfl) (by decide) (by decide)) (va_cwS 3 hts gm_X12_standard_X12_in rfl rfl rfl (by decide +kernel) ⟨Nat.le_of_ble_eq_true rfl, Nat.le_of_ble_eq_true rfl⟩) (pA_S hKc hPc) rfl rfl hl.1 rfl (lv_room (Nat.le_of_ble_eq_true rfl)) dX12_standard_32 ⟨Nat.le_of_ble_eq_true rfl, Nat.le_of_ble_eq_true rfl⟩) hS hA hP (fun r6 u6 H locs hw6 hP hS => ?_)
      have hw6 : r6 = if (0 ≤ v1.toInt ∧ v1.toInt ≤ 1) then 1 else 0 := hw6
      have jn7 : (v1.toInt = -9 ∨ (0 ≤ v1.toInt ∧ v1.toInt ≤ 1)) → ∀ (H : Heap) (locs : List Loc) (ls : Array Slot), va_P D vwCl (mW o a t i q c d) H → va_D A (mW o a t i q c d) → va_S A s.heap H locs → lv_has ls 5 [(0, .ref o), (1, .int k1), (2, .int f1), (3, .int v1)] → W p l e (headSpec wm_X12_standard ({ frames := 1, cells := 0, slots := 0, locals := 25 })).room s m ([.ref o, .int k1, .int f1, .int v1] : List Value).toArray below meth cd H locs 0 0 (MQ below (va_Qi (fun (r : Int32) (u : MS) => True ∧ mInv u.1 u.2.2.1 ∧ (∀ k, k ∉ ([22, 27] : List Nat) → u.1 k = i k) ∧ (∀ k, k ∉ ([4] : List Nat) → u.2.2.1 k = c k)) (oC D A (fun u : MS => mW o a t u.1 u.2.1 u.2.2.1 u.2.2.2) (fun _ => [])) A) ([.ref o, .int k1, .int f1, .int v1] : List Value).toArray s 0 0 A) (F0 m 46 ls []) := by
        intro hz7_0 H locs ls hP hD hS hl
        refine lv_aload_n hx hb dX12_standard_46 rfl (lv_at hl 0 rfl) ?_
        refine mget_4 hx hb hts (fun _ h => List.mem_cons_of_mem _ (List.mem_append_right _ h)) hown hK hP (hts (.fieldLink RX12 16 "TalePlayModel" "defaults" "[I") (by decide +kernel)) dX12_standard_47 ?_
        refine lv_bipush (v := 6) hx hb dX12_standard_50 (by decide) ?_
        refine lv_iload_n hx hb dX12_standard_52 rfl (lv_at hl 1 rfl) ?_
        refine lv_imul hx hb dX12_standard_53 ?_
        refine lv_topi (fun x8 ex8 => ?_)
        have tx8 := ti_mul (a := 6) (b := k1.toInt) ex8 (by decide) rfl (by omega) (by omega)
        refine lv_iload_n hx hb dX12_standard_54 rfl (lv_at hl 2 rfl) ?_
        refine lv_iadd hx hb dX12_standard_55 ?_
        refine lv_topi (fun x9 ex9 => ?_)
        have tx9 := ti_add (a := (6 * k1.toInt)) (b := f1.toInt) ex9 tx8 rfl (by omega) (by omega)
        refine mld_4 hx hb hK hP (vp_in_iff.mpr (by have h9 : x9.toInt = ((6 * k1.toInt) + f1.toInt) := tx9; omega)) dX12_standard_56 (fun x10 ex10 => ?_)
        have rx10 : x10.toInt = -9 ∨ (0 ≤ x10.toInt ∧ x10.toInt ≤ 1) := by rw [ex10]; exact hI.2 4 _
        refine lv_istore (lv' := [(4, .int x10), (0, .ref o), (1, .int k1), (2, .int f1), (3, .int v1)]) hx hb dX12_standard_57 hl (by decide) rfl (fun ls hl => ?_)
        refine lv_aload_n hx hb dX12_standard_59 rfl (lv_at hl 1 rfl) ?_
        refine mget_4 hx hb hts (fun _ h => List.mem_cons_of_mem _ (List.mem_append_right _ h)) hown hK hP (hts (.fieldLink RX12 16 "TalePlayModel" "defaults" "[I") (by decide +kernel)) dX12_standard_60 ?_
        refine lv_bipush (v := 6) hx hb dX12_standard_63 (by decide) ?_
        refine lv_iload_n hx hb dX12_standard_65 rfl (lv_at hl 2 rfl) ?_
        refine lv_imul hx hb dX12_standard_66 ?_
        refine lv_topi (fun x11 ex11 => ?_)
        have tx11 := ti_mul (a := 6) (b := k1.toInt) ex11 (by decide) rfl (by omega) (by omega)
        refine lv_iload_n hx hb dX12_standard_67 rfl (lv_at hl 3 rfl) ?_
        refine lv_iadd hx hb dX12_standard_68 ?_
        refine lv_topi (fun x12 ex12 => ?_)
        have tx12 := ti_add (a := (6 * k1.toInt)) (b := f1.toInt) ex12 tx11 rfl (by omega) (by omega)
        refine lv_iload_n hx hb dX12_standard_69 rfl (lv_at hl 4 rfl) ?_
        refine mst_4 hx hb hK hP hD hS (vp_in_iff.mpr (by have h9 : x12.toInt = ((6 * k1.toInt) + f1.toInt) := tx12; omega)) dX12_standard_70 (fun H locs hP hD hS => ?_)
        have hI := mInv_c hI (k := 4) (j := (x12 : Int32).toNatClampNeg) (x := v1) (show (v1 : Int32).toInt = -9 ∨ (0 ≤ (v1 : Int32).toInt ∧ (v1 : Int32).toInt ≤ 1) from by omega)
        have hfc := fr_c hfc (k := 4) (j := (x12 : Int32).toNatClampNeg) (x := v1) (by decide)
        refine lv_aload_n hx hb dX12_standard_71 rfl (lv_at hl 1 rfl) ?_
        refine al_callv (va_runV (As := []) (rest := []) ⟨hx, hb, hml, hown, hts⟩ (s_X12_endTale l D H.size o a t i q (updA c 4 (x12 : Int32).toNatClampNeg v1) d  hI ) (cwV 0 hts gm_X12_standard_X12_endTale rfl rfl rfl (by decide +kernel) ⟨Nat.le_of_ble_eq_true rfl, Nat.le_of_ble_eq_true rfl⟩) (pB_V hK hP hD (ci := 12) (q0 := 0) rfl rfl) rfl rfl hl.1 rfl (lv_room (Nat.le_of_ble_eq_true rfl)) dX12_standard_72 ⟨Nat.le_of_ble_eq_true rfl, Nat.le_of_ble_eq_true rfl⟩) hS hA hP hD (fun u13 H locs hw13 hP hD hS => ?_)
        obtain ⟨i13, q13, c13, d13⟩ := u13
        have hw13 : True ∧ mInv i13 c13 ∧ (∀ k, k ∉ ([22, 27] : List Nat) → i13 k = i k) ∧ (∀ k, k ∉ ([] : List Nat) → c13 k = (updA c 4 (x12 : Int32).toNatClampNeg v1) k) := hw13
        obtain ⟨hw13, hI, hei13, hec13⟩ := hw13
        have hfi := fr_t hfi hei13 (by decide)
        have hfc := fr_t hfc hec13 (by decide)
        have hP : va_P D vwCl (mW o a t i13 q13 c13 d13) H := hP
        have hD : va_D A (mW o a t i13 q13 c13 d13) := hD
        refine lv_iload hx hb dX12_standard_75 (lv_at hl 0 rfl) ?_
        exact rw_iret (i13, q13, c13, d13) hx hb hr hlocks hS (hK.sub (tys' := []) [] rfl) hP hD dX12_standard_77 ⟨trivial, hI, hfi, hfc⟩
      refine lv_if_ne (tgt := 46) hx hb dX12_standard_35 (by decide) (fun c14 => ?_) (fun c14 => ?_)
      · have f14 := fl_t hw6 c14
        exact jn7   (show v1.toInt = -9 ∨ (0 ≤ v1.toInt ∧ v1.toInt ≤ 1) from by omega) _ _ _ hP hD hS (lv_sub hl [0, 1, 2, 3] rfl)
      · have f14 := fl_f hw6 c14
        refine lv_iload_n hx hb dX12_standard_38 rfl (lv_at hl 3 rfl) ?_
        refine lv_bipush (v := (-9)) hx hb dX12_standard_39 (by decide) ?_
        refine lv_icmp_eq (tgt := 46) hx hb dX12_standard_41 (by decide) (fun c15 => ?_) (fun c15 => ?_)
        · have f15 := (ti_eq (a := v1.toInt) (b := (-9)) rfl (by decide)).mp c15
          exact jn7   (show v1.toInt = -9 ∨ (0 ≤ v1.toInt ∧ v1.toInt ≤ 1) from by omega) _ _ _ hP hD hS (lv_sub hl [0, 1, 2, 3] rfl)
        · have f15 := mt (ti_eq (a := v1.toInt) (b := (-9)) rfl (by decide)).mpr c15
          refine lv_iconst (v := (-1)) hx hb dX12_standard_44 (by decide) ?_
          exact rw_iret (i, q, c, d) hx hb hr hlocks hS (hK.sub (tys' := []) [] rfl) hP hD dX12_standard_45 ⟨trivial, hI, hfi, hfc⟩

def wm_X12_make : List Cond := .code yX12_make cX12_make 3 (some .int) :: (([.fieldLink RX12 151 "TalePlayModel" "kinds" "I", .methodLink RX12 166 yX12_in, .static yX12_in, .initialized RX12, .code yX12_in cX12_in 6 (some .boolean), .constantLong RX12 175 (99), .fieldLink RX12 177 "TalePlayModel" "objects" "I", .fieldLink RX12 19 "TalePlayModel" "kindOf" "[I", .fieldLink RX12 22 "TalePlayModel" "sizeOf" "[I", .methodLink RX12 172 yX12_endTale, .instanceMethod yX12_endTale, .selects RX12 yX12_endTale yX12_endTale, .code yX12_endTale cX12_endTale 1 none, .fieldLink RX12 155 "TalePlayModel" "player" "I", .fieldLink RX12 291 "TalePlayModel" "turns" "I"] : List Cond) ++ wsX120)
set_option maxRecDepth 20000 in
theorem gm_X12_make_X12_in : GoodIn wm_X12_make (va_wsS RX12 166 yX12_in wm_X12_in) := goodIn_app (goodIn_of _ (by decide +kernel)) (goodIn_r _ [5] (by decide +kernel) (by decide +kernel))
set_option maxRecDepth 20000 in
theorem gm_X12_make_X12_endTale : GoodIn wm_X12_make (wsV RX12 172 RX12 yX12_endTale wm_X12_endTale) := goodIn_app (goodIn_of _ (by decide +kernel)) (goodIn_r _ [13, 14, 15, 16, 17, 18, 19, 20, 21, 22, 23, 24, 25, 26, 27, 28, 29, 30, 31, 32, 33, 34, 35, 36, 37, 38, 39, 40, 41, 42, 43, 44, 45, 46, 47, 48, 49, 50, 51, 52, 53, 54, 55, 56, 57, 58, 59, 60, 61, 62, 63, 64, 65, 66, 67, 68, 69, 70, 71, 72, 73, 74, 75, 76, 77, 78, 79, 80, 81, 82, 83, 84] (by decide +kernel) (by decide +kernel))
set_option maxHeartbeats 4000000 in
set_option maxRecDepth 100000 in
theorem s_X12_make (l : Launch) (D : va_G) (sz : Nat) (o : Nat) (a : Nat → Nat) (t : Nat → ClassId) (i : Nat → Int32) (q : Int64) (c : Nat → Nat → Int32) (d : Nat → Nat → Int64) (k1 : Int32) (s1 : Int32) (hI : mInv i c) : Met l yX12_make wm_X12_make ({ frames := 1, cells := 0, slots := 0, locals := 25 }) (va_Pc [.ref o, .int k1, .int s1] (pB D sz (mW o a t i q c d) (mT t))) (va_Qi (fun (r : Int32) (u : MS) => True ∧ mInv u.1 u.2.2.1 ∧ (∀ k, k ∉ ([5, 22, 27] : List Nat) → u.1 k = i k) ∧ (∀ k, k ∉ ([6, 7] : List Nat) → u.2.2.1 k = c k)) (oC D (va_A (mW o a t i q c d) sz) (fun u : MS => mW o a t u.1 u.2.1 u.2.2.1 u.2.2.2) (fun _ => [])) (va_A (mW o a t i q c d) sz)) 0 0 (va_A (mW o a t i q c d) sz) := by
  refine Met.ofW (cc := cX12_make) (maxL := 3) (ret := (some .int)) (by decide) rfl ?_
  intro p e s m args below meth cd s₁ B hml hv
  obtain ⟨rfl, hsz, hP, hK, hD0⟩ := hv
  have hx := B.exec
  have hb := B.bytes
  have hr := B.returns
  have hts := atoms_spec (ws := wm_X12_make) B.pre
  have hown : s.vm.findClass RX12 = some m.cls := findClass_of_methodNamed B.named
  have hlocks := B.notSynchronized
  subst hsz
  have hD := hD0.self (sz := s.heap.size)
  generalize hAe : va_A (mW o a t i q c d) s.heap.size = A at hD ⊢
  have hA : ∀ q : Nat, s.heap.size ≤ q → A q := fun q h => by rw [← hAe]; exact Or.inr h
  have hS : va_S A s.heap s.heap [] := va_S.rf
  have hfi : ∀ k, k ∉ ([5, 22, 27] : List Nat) → i k = i k := fun _ _ => rfl
  have hfc : ∀ k, k ∉ ([6, 7] : List Nat) → c k = c k := fun _ _ => rfl
  have hl := lv_entry ([.ref o, .int k1, .int s1]) (n := 3) (Nat.le_of_ble_eq_true rfl)
  rw [lg_entry_eq]
  generalize (lg_sl ([.ref o, .int k1, .int s1]) ++ List.replicate (3 - (lg_sl ([.ref o, .int k1, .int s1])).length) Slot.unset).toArray = ls at hl ⊢
  have hl : lv_has ls 3 [(0, .ref o), (1, .int k1), (2, .int s1)] := hl
  refine lv_iload_n hx hb dX12_make_0 rfl (lv_at hl 1 rfl) ?_
  refine lv_i2l (v := k1.toInt64) hx hb dX12_make_1 rfl ?_
  refine lv_lconst (v := 0) hx hb dX12_make_2 (by decide) ?_
  refine lv_aload_n hx hb dX12_make_3 rfl (lv_at hl 0 rfl) ?_
  refine mget_2 (v := (i 2)) rfl hx hb hts (fun _ h => List.mem_cons_of_mem _ (List.mem_append_right _ h)) hown hK hP (hts (.fieldLink RX12 151 "TalePlayModel" "kinds" "I") (by decide +kernel)) dX12_make_4 ?_
  have rb2_i : 6 ≤ (i 2).toInt ∧ (i 2).toInt ≤ 24 := hI.1 2
  refine lv_iconst (v := 1) hx hb dX12_make_7 (by decide) ?_
  refine lv_isub hx hb dX12_make_8 ?_
  refine lv_topi (fun x1 ex1 => ?_)
  have tx1 := ti_sub (a := (i 2).toInt) (b := 1) ex1 rfl (by decide) (by omega) (by omega)
  refine lv_i2l (v := x1.toInt64) hx hb dX12_make_9 rfl ?_
  have hPc := hP.sub (ws' := []) [] rfl
  have hKc := hK.sub (tys' := []) [] rfl
  refine ro_calli (va_runS (As := [.long k1.toInt64, .long 0, .long x1.toInt64]) (rest := []) ⟨hx, hb, hml, hown, hts⟩ (c_X12_in l D s.heap.size k1.toInt64 0 x1.toInt64 k1.toInt 0 ((i 2).toInt - 1) ((Int32.toInt_toInt64 k1).trans rfl) (by decide) ((Int32.toInt_toInt64 x1).trans tx1)) (va_cwS 3 hts gm_X12_make_X12_in rfl rfl rfl (by decide +kernel) ⟨Nat.le_of_ble_eq_true rfl, Nat.le_of_ble_eq_true rfl⟩) (pA_S hKc hPc) rfl rfl hl.1 rfl (lv_room (Nat.le_of_ble_eq_true rfl)) dX12_make_10 ⟨Nat.le_of_ble_eq_true rfl, Nat.le_of_ble_eq_true rfl⟩) hS hA hP (fun r2 u2 H locs hw2 hP hS => ?_)
  have hw2 : r2 = if (0 ≤ k1.toInt ∧ k1.toInt ≤ ((i 2).toInt - 1)) then 1 else 0 := hw2
  refine lv_if_eq (tgt := 28) hx hb dX12_make_13 (by decide) (fun c3 => ?_) (fun c3 => ?_)
  · have f3 := fl_f hw2 c3
    refine lv_iconst (v := (-1)) hx hb dX12_make_28 (by decide) ?_
    exact rw_iret (i, q, c, d) hx hb hr hlocks hS (hK.sub (tys' := []) [] rfl) hP hD dX12_make_29 ⟨trivial, hI, hfi, hfc⟩
  · have f3 := fl_t hw2 c3
    refine lv_iload_n hx hb dX12_make_16 rfl (lv_at hl 2 rfl) ?_
    refine lv_i2l (v := s1.toInt64) hx hb dX12_make_17 rfl ?_
    refine lv_lconst (v := 0) hx hb dX12_make_18 (by decide) ?_
    refine lv_ldc2 (v := 99) hx hb hown (hts (.constantLong RX12 175 (99)) (by decide +kernel)) dX12_make_19 ?_
    have hPc := hP.sub (ws' := []) [] rfl
    have hKc := hK.sub (tys' := []) [] rfl
    refine ro_calli (va_runS (As := [.long s1.toInt64, .long 0, .long 99]) (rest := []) ⟨hx, hb, hml, hown, hts⟩ (c_X12_in l D H.size s1.toInt64 0 99 s1.toInt 0 99 ((Int32.toInt_toInt64 s1).trans rfl) (by decide) (by decide)) (va_cwS 3 hts gm_X12_make_X12_in rfl rfl rfl (by decide +kernel) ⟨Nat.le_of_ble_eq_true rfl, Nat.le_of_ble_eq_true rfl⟩) (pA_S hKc hPc) rfl rfl hl.1 rfl (lv_room (Nat.le_of_ble_eq_true rfl)) dX12_make_22 ⟨Nat.le_of_ble_eq_true rfl, Nat.le_of_ble_eq_true rfl⟩) hS hA hP (fun r4 u4 H locs hw4 hP hS => ?_)
    have hw4 : r4 = if (0 ≤ s1.toInt ∧ s1.toInt ≤ 99) then 1 else 0 := hw4
    refine lv_if_ne (tgt := 30) hx hb dX12_make_25 (by decide) (fun c5 => ?_) (fun c5 => ?_)
    · have f5 := fl_t hw4 c5
      refine lv_aload_n hx hb dX12_make_30 rfl (lv_at hl 0 rfl) ?_
      refine mget_5 (v := (i 5)) rfl hx hb hts (fun _ h => List.mem_cons_of_mem _ (List.mem_append_right _ h)) hown hK hP (hts (.fieldLink RX12 177 "TalePlayModel" "objects" "I") (by decide +kernel)) dX12_make_31 ?_
      have rb5_i : 0 ≤ (i 5).toInt ∧ (i 5).toInt ≤ 30 := hI.1 5
      refine lv_bipush (v := 30) hx hb dX12_make_34 (by decide) ?_
      refine lv_icmp_ne (tgt := 42) hx hb dX12_make_36 (by decide) (fun c6 => ?_) (fun c6 => ?_)
      · have f6 := mt (ti_eq (a := (i 5).toInt) (b := 30) rfl (by decide)).mpr c6
        refine lv_aload_n hx hb dX12_make_42 rfl (lv_at hl 0 rfl) ?_
        refine mget_6 hx hb hts (fun _ h => List.mem_cons_of_mem _ (List.mem_append_right _ h)) hown hK hP (hts (.fieldLink RX12 19 "TalePlayModel" "kindOf" "[I") (by decide +kernel)) dX12_make_43 ?_
        refine lv_aload_n hx hb dX12_make_46 rfl (lv_at hl 0 rfl) ?_
        refine mget_5 (v := (i 5)) rfl hx hb hts (fun _ h => List.mem_cons_of_mem _ (List.mem_append_right _ h)) hown hK hP (hts (.fieldLink RX12 177 "TalePlayModel" "objects" "I") (by decide +kernel)) dX12_make_47 ?_
        refine lv_iload_n hx hb dX12_make_50 rfl (lv_at hl 1 rfl) ?_
        refine mst_6 hx hb hK hP hD hS (vp_in_iff.mpr (by have h9 : (i 5).toInt = (i 5).toInt := rfl; omega)) dX12_make_51 (fun H locs hP hD hS => ?_)
        have hI := mInv_c hI (k := 6) (j := ((i 5) : Int32).toNatClampNeg) (x := k1) (show 0 ≤ (k1 : Int32).toInt ∧ (k1 : Int32).toInt ≤ 23 from by omega)
        have hfc := fr_c hfc (k := 6) (j := ((i 5) : Int32).toNatClampNeg) (x := k1) (by decide)
        refine lv_aload_n hx hb dX12_make_52 rfl (lv_at hl 0 rfl) ?_
        refine mget_7 hx hb hts (fun _ h => List.mem_cons_of_mem _ (List.mem_append_right _ h)) hown hK hP (hts (.fieldLink RX12 22 "TalePlayModel" "sizeOf" "[I") (by decide +kernel)) dX12_make_53 ?_
        refine lv_aload_n hx hb dX12_make_56 rfl (lv_at hl 0 rfl) ?_
        refine mget_5 (v := (i 5)) rfl hx hb hts (fun _ h => List.mem_cons_of_mem _ (List.mem_append_right _ h)) hown hK hP (hts (.fieldLink RX12 177 "TalePlayModel" "objects" "I") (by decide +kernel)) dX12_make_57 ?_
        refine lv_iload_n hx hb dX12_make_60 rfl (lv_at hl 2 rfl) ?_
        refine mst_7 hx hb hK hP hD hS (vp_in_iff.mpr (by have h9 : (i 5).toInt = (i 5).toInt := rfl; omega)) dX12_make_61 (fun H locs hP hD hS => ?_)
        have hI := mInv_c hI (k := 7) (j := ((i 5) : Int32).toNatClampNeg) (x := s1) (show 0 ≤ (s1 : Int32).toInt ∧ (s1 : Int32).toInt ≤ 99 from by omega)
        have hfc := fr_c hfc (k := 7) (j := ((i 5) : Int32).toNatClampNeg) (x := s1) (by decide)
        refine lv_aload_n hx hb dX12_make_62 rfl (lv_at hl 0 rfl) ?_
        refine lv_dup hx hb dX12_make_63 rfl ?_
        refine mget_5 (v := (i 5)) rfl hx hb hts (fun _ h => List.mem_cons_of_mem _ (List.mem_append_right _ h)) hown hK hP (hts (.fieldLink RX12 177 "TalePlayModel" "objects" "I") (by decide +kernel)) dX12_make_64 ?_
        refine lv_iconst (v := 1) hx hb dX12_make_67 (by decide) ?_
        refine lv_iadd hx hb dX12_make_68 ?_
        refine lv_topi (fun x7 ex7 => ?_)
        have tx7 := ti_add (a := (i 5).toInt) (b := 1) ex7 rfl (by decide) (by omega) (by omega)
        refine mput_5 hx hb hts (fun _ h => List.mem_cons_of_mem _ (List.mem_append_right _ h)) hown hK hP hD hS (hts (.fieldLink RX12 177 "TalePlayModel" "objects" "I") (by decide +kernel)) rfl rfl dX12_make_69 (fun H locs hP hD hS => ?_)
        have hI := mInv_i hI (k := 5) (v := x7) (show 0 ≤ (x7 : Int32).toInt ∧ (x7 : Int32).toInt ≤ 30 from by have h9 : x7.toInt = ((i 5).toInt + 1) := tx7; omega)
        have hfi := fr_i hfi (k := 5) (v := x7) (by decide)
        refine lv_aload_n hx hb dX12_make_72 rfl (lv_at hl 0 rfl) ?_
        refine al_callv (va_runV (As := []) (rest := []) ⟨hx, hb, hml, hown, hts⟩ (s_X12_endTale l D H.size o a t (upd i 5 x7) q (updA (updA c 6 ((i 5) : Int32).toNatClampNeg k1) 7 ((i 5) : Int32).toNatClampNeg s1) d  hI ) (cwV 0 hts gm_X12_make_X12_endTale rfl rfl rfl (by decide +kernel) ⟨Nat.le_of_ble_eq_true rfl, Nat.le_of_ble_eq_true rfl⟩) (pB_V hK hP hD (ci := 12) (q0 := 0) rfl rfl) rfl rfl hl.1 rfl (lv_room (Nat.le_of_ble_eq_true rfl)) dX12_make_73 ⟨Nat.le_of_ble_eq_true rfl, Nat.le_of_ble_eq_true rfl⟩) hS hA hP hD (fun u8 H locs hw8 hP hD hS => ?_)
        obtain ⟨i8, q8, c8, d8⟩ := u8
        have hw8 : True ∧ mInv i8 c8 ∧ (∀ k, k ∉ ([22, 27] : List Nat) → i8 k = (upd i 5 x7) k) ∧ (∀ k, k ∉ ([] : List Nat) → c8 k = (updA (updA c 6 ((i 5) : Int32).toNatClampNeg k1) 7 ((i 5) : Int32).toNatClampNeg s1) k) := hw8
        obtain ⟨hw8, hI, hei8, hec8⟩ := hw8
        have hfi := fr_t hfi hei8 (by decide)
        have hfc := fr_t hfc hec8 (by decide)
        have hP : va_P D vwCl (mW o a t i8 q8 c8 d8) H := hP
        have hD : va_D A (mW o a t i8 q8 c8 d8) := hD
        refine lv_aload_n hx hb dX12_make_76 rfl (lv_at hl 0 rfl) ?_
        refine mget_5 (v := (i8 5)) rfl hx hb hts (fun _ h => List.mem_cons_of_mem _ (List.mem_append_right _ h)) hown hK hP (hts (.fieldLink RX12 177 "TalePlayModel" "objects" "I") (by decide +kernel)) dX12_make_77 ?_
        have rb5_i8 : 0 ≤ (i8 5).toInt ∧ (i8 5).toInt ≤ 30 := hI.1 5
        refine lv_iconst (v := 1) hx hb dX12_make_80 (by decide) ?_
        refine lv_isub hx hb dX12_make_81 ?_
        refine lv_topi (fun x9 ex9 => ?_)
        have tx9 := ti_sub (a := (i8 5).toInt) (b := 1) ex9 rfl (by decide) (by omega) (by omega)
        exact rw_iret (i8, q8, c8, d8) hx hb hr hlocks hS (hK.sub (tys' := []) [] rfl) hP hD dX12_make_82 ⟨trivial, hI, hfi, hfc⟩
      · have f6 := (ti_eq (a := (i 5).toInt) (b := 30) rfl (by decide)).mp c6
        refine lv_bipush (v := (-2)) hx hb dX12_make_39 (by decide) ?_
        exact rw_iret (i, q, c, d) hx hb hr hlocks hS (hK.sub (tys' := []) [] rfl) hP hD dX12_make_41 ⟨trivial, hI, hfi, hfc⟩
    · have f5 := fl_f hw4 c5
      refine lv_iconst (v := (-1)) hx hb dX12_make_28 (by decide) ?_
      exact rw_iret (i, q, c, d) hx hb hr hlocks hS (hK.sub (tys' := []) [] rfl) hP hD dX12_make_29 ⟨trivial, hI, hfi, hfc⟩

def wm_X12_is : List Cond := .code yX12_is cX12_is 3 (some .int) :: (([.methodLink RX12 180 yX12_isObject, .instanceMethod yX12_isObject, .selects RX12 yX12_isObject yX12_isObject, .initialized RX12, .code yX12_isObject cX12_isObject 2 (some .boolean), .fieldLink RX12 177 "TalePlayModel" "objects" "I", .methodLink RX12 166 yX12_in, .static yX12_in, .code yX12_in cX12_in 6 (some .boolean), .fieldLink RX12 151 "TalePlayModel" "kinds" "I", .methodLink RX12 184 yX12_isOf, .instanceMethod yX12_isOf, .selects RX12 yX12_isOf yX12_isOf, .code yX12_isOf cX12_isOf 4 (some .boolean), .fieldLink RX12 19 "TalePlayModel" "kindOf" "[I", .fieldLink RX12 13 "TalePlayModel" "parentOf" "[I"] : List Cond) ++ wsX120)
set_option maxRecDepth 20000 in
theorem gm_X12_is_X12_isObject : GoodIn wm_X12_is (wsV RX12 180 RX12 yX12_isObject wm_X12_isObject) := goodIn_app (goodIn_of _ (by decide +kernel)) (goodIn_r _ [5, 6, 7, 8, 4, 9, 17, 18, 19, 20, 21, 22, 23, 24, 25, 26, 27, 28, 29, 30, 31, 32, 33, 34, 35, 36, 37, 38, 39, 40, 41, 42, 43, 44, 45, 46, 47, 48, 49, 50, 51, 52, 53, 54, 55, 56, 57, 58, 59, 60, 61, 62, 63, 64, 65, 66, 67, 68, 69, 70, 71, 72, 73, 74, 75, 76, 77, 78, 79, 80, 81, 82, 83, 84, 85] (by decide +kernel) (by decide +kernel))
set_option maxRecDepth 20000 in
theorem gm_X12_is_X12_in : GoodIn wm_X12_is (va_wsS RX12 166 yX12_in wm_X12_in) := goodIn_app (goodIn_of _ (by decide +kernel)) (goodIn_r _ [9] (by decide +kernel) (by decide +kernel))
set_option maxRecDepth 20000 in
theorem gm_X12_is_X12_isOf : GoodIn wm_X12_is (wsV RX12 184 RX12 yX12_isOf wm_X12_isOf) := goodIn_app (goodIn_of _ (by decide +kernel)) (goodIn_r _ [14, 15, 16, 17, 18, 19, 20, 21, 22, 23, 24, 25, 26, 27, 28, 29, 30, 31, 32, 33, 34, 35, 36, 37, 38, 39, 40, 41, 42, 43, 44, 45, 46, 47, 48, 49, 50, 51, 52, 53, 54, 55, 56, 57, 58, 59, 60, 61, 62, 63, 64, 65, 66, 67, 68, 69, 70, 71, 72, 73, 74, 75, 76, 77, 78, 79, 80, 81, 82, 83, 84, 85] (by decide +kernel) (by decide +kernel))
set_option maxHeartbeats 4000000 in
set_option maxRecDepth 100000 in
theorem s_X12_is (l : Launch) (D : va_G) (sz : Nat) (o : Nat) (a : Nat → Nat) (t : Nat → ClassId) (i : Nat → Int32) (q : Int64) (c : Nat → Nat → Int32) (d : Nat → Nat → Int64) (w : Int32) (k1 : Int32) (hI : mInv i c) : Met l yX12_is wm_X12_is ({ frames := 2, cells := 0, slots := 0, locals := 46 }) (va_Pc [.ref o, .int w, .int k1] (pA D sz (mW o a t i q c d) (mT t))) (va_Qi (fun (r : Int32) (_ : Unit) => True) oA (ro sz)) 0 0 (ro sz) := by
  refine Met.ofW (cc := cX12_is) (maxL := 3) (ret := (some .int)) (by decide) rfl ?_
  intro p e s m args below meth cd s₁ B hml hv
  obtain ⟨rfl, hsz, hP, hK⟩ := hv
  have hx := B.exec
  have hb := B.bytes
  have hr := B.returns
  have hts := atoms_spec (ws := wm_X12_is) B.pre
  have hown : s.vm.findClass RX12 = some m.cls := findClass_of_methodNamed B.named
  have hlocks := B.notSynchronized
  subst hsz
  have hA : ∀ q : Nat, s.heap.size ≤ q → ro s.heap.size q := fun _ h => h
  have hS : va_S (ro s.heap.size) s.heap s.heap [] := va_S.rf
  have hl := lv_entry ([.ref o, .int w, .int k1]) (n := 3) (Nat.le_of_ble_eq_true rfl)
  rw [lg_entry_eq]
  generalize (lg_sl ([.ref o, .int w, .int k1]) ++ List.replicate (3 - (lg_sl ([.ref o, .int w, .int k1])).length) Slot.unset).toArray = ls at hl ⊢
  have hl : lv_has ls 3 [(0, .ref o), (1, .int w), (2, .int k1)] := hl
  refine lv_aload_n hx hb dX12_is_0 rfl (lv_at hl 0 rfl) ?_
  refine lv_iload_n hx hb dX12_is_1 rfl (lv_at hl 1 rfl) ?_
  have rb5_i : 0 ≤ (i 5).toInt ∧ (i 5).toInt ≤ 30 := hI.1 5
  refine ro_calli (va_runV (As := [.int w]) (rest := []) ⟨hx, hb, hml, hown, hts⟩ (s_X12_isObject l D s.heap.size o a t i q c d w hI ) (cwV 1 hts gm_X12_is_X12_isObject rfl rfl rfl (by decide +kernel) ⟨Nat.le_of_ble_eq_true rfl, Nat.le_of_ble_eq_true rfl⟩) (pA_V hK hP (ci := 12) (q0 := 0) rfl rfl) rfl rfl hl.1 rfl (lv_room (Nat.le_of_ble_eq_true rfl)) dX12_is_2 ⟨Nat.le_of_ble_eq_true rfl, Nat.le_of_ble_eq_true rfl⟩) hS hA hP (fun r1 u1 H locs hw1 hP hS => ?_)
  have hw1 : r1 = if (0 ≤ w.toInt ∧ w.toInt ≤ (i 5).toInt - 1) then 1 else 0 := hw1
  refine lv_if_eq (tgt := 24) hx hb dX12_is_5 (by decide) (fun c2 => ?_) (fun c2 => ?_)
  · have f2 := fl_f hw1 c2
    refine lv_iconst (v := (-1)) hx hb dX12_is_24 (by decide) ?_
    refine lv_goto (tgt := 42) hx hb dX12_is_25 (by decide) ?_
    exact ro_iret hx hb hr hlocks hS dX12_is_42 trivial
  · have f2 := fl_t hw1 c2
    refine lv_iload_n hx hb dX12_is_8 rfl (lv_at hl 2 rfl) ?_
    refine lv_i2l (v := k1.toInt64) hx hb dX12_is_9 rfl ?_
    refine lv_lconst (v := 0) hx hb dX12_is_10 (by decide) ?_
    refine lv_aload_n hx hb dX12_is_11 rfl (lv_at hl 0 rfl) ?_
    refine mget_2 (v := (i 2)) rfl hx hb hts (fun _ h => List.mem_cons_of_mem _ (List.mem_append_right _ h)) hown hK hP (hts (.fieldLink RX12 151 "TalePlayModel" "kinds" "I") (by decide +kernel)) dX12_is_12 ?_
    have rb2_i : 6 ≤ (i 2).toInt ∧ (i 2).toInt ≤ 24 := hI.1 2
    refine lv_iconst (v := 1) hx hb dX12_is_15 (by decide) ?_
    refine lv_isub hx hb dX12_is_16 ?_
    refine lv_topi (fun x3 ex3 => ?_)
    have tx3 := ti_sub (a := (i 2).toInt) (b := 1) ex3 rfl (by decide) (by omega) (by omega)
    refine lv_i2l (v := x3.toInt64) hx hb dX12_is_17 rfl ?_
    have hPc := hP.sub (ws' := []) [] rfl
    have hKc := hK.sub (tys' := []) [] rfl
    refine ro_calli (va_runS (As := [.long k1.toInt64, .long 0, .long x3.toInt64]) (rest := []) ⟨hx, hb, hml, hown, hts⟩ (c_X12_in l D H.size k1.toInt64 0 x3.toInt64 k1.toInt 0 ((i 2).toInt - 1) ((Int32.toInt_toInt64 k1).trans rfl) (by decide) ((Int32.toInt_toInt64 x3).trans tx3)) (va_cwS 3 hts gm_X12_is_X12_in rfl rfl rfl (by decide +kernel) ⟨Nat.le_of_ble_eq_true rfl, Nat.le_of_ble_eq_true rfl⟩) (pA_S hKc hPc) rfl rfl hl.1 rfl (lv_room (Nat.le_of_ble_eq_true rfl)) dX12_is_18 ⟨Nat.le_of_ble_eq_true rfl, Nat.le_of_ble_eq_true rfl⟩) hS hA hP (fun r4 u4 H locs hw4 hP hS => ?_)
    have hw4 : r4 = if (0 ≤ k1.toInt ∧ k1.toInt ≤ ((i 2).toInt - 1)) then 1 else 0 := hw4
    refine lv_if_ne (tgt := 28) hx hb dX12_is_21 (by decide) (fun c5 => ?_) (fun c5 => ?_)
    · have f5 := fl_t hw4 c5
      refine lv_aload_n hx hb dX12_is_28 rfl (lv_at hl 0 rfl) ?_
      refine lv_iload_n hx hb dX12_is_29 rfl (lv_at hl 1 rfl) ?_
      refine lv_iload_n hx hb dX12_is_30 rfl (lv_at hl 2 rfl) ?_
      refine ro_calli (va_runV (As := [.int w, .int k1]) (rest := []) ⟨hx, hb, hml, hown, hts⟩ (s_X12_isOf l D H.size o a t i q c d w k1 hI (by omega)) (cwV 2 hts gm_X12_is_X12_isOf rfl rfl rfl (by decide +kernel) ⟨Nat.le_of_ble_eq_true rfl, Nat.le_of_ble_eq_true rfl⟩) (pA_V hK hP (ci := 12) (q0 := 0) rfl rfl) rfl rfl hl.1 rfl (lv_room (Nat.le_of_ble_eq_true rfl)) dX12_is_31 ⟨Nat.le_of_ble_eq_true rfl, Nat.le_of_ble_eq_true rfl⟩) hS hA hP (fun r6 u6 H locs hw6 hP hS => ?_)
      have hw6 : 0 ≤ r6.toInt ∧ r6.toInt ≤ 1 := hw6
      refine lv_if_eq (tgt := 41) hx hb dX12_is_34 (by decide) (fun c7 => ?_) (fun c7 => ?_)
      · have f7 := (ti_eq (a := r6.toInt) (b := 0) rfl (by decide)).mp c7
        refine lv_iconst (v := 0) hx hb dX12_is_41 (by decide) ?_
        exact ro_iret hx hb hr hlocks hS dX12_is_42 trivial
      · have f7 := mt (ti_eq (a := r6.toInt) (b := 0) rfl (by decide)).mpr c7
        refine lv_iconst (v := 1) hx hb dX12_is_37 (by decide) ?_
        refine lv_goto (tgt := 42) hx hb dX12_is_38 (by decide) ?_
        exact ro_iret hx hb hr hlocks hS dX12_is_42 trivial
    · have f5 := fl_f hw4 c5
      refine lv_iconst (v := (-1)) hx hb dX12_is_24 (by decide) ?_
      refine lv_goto (tgt := 42) hx hb dX12_is_25 (by decide) ?_
      exact ro_iret hx hb hr hlocks hS dX12_is_42 trivial

def wm_X12_unsay : List Cond := .code yX12_unsay cX12_unsay 2 (some .int) :: (([.fieldLink RX12 202 "TalePlayModel" "sentences" "I", .methodLink RX12 166 yX12_in, .static yX12_in, .initialized RX12, .code yX12_in cX12_in 6 (some .boolean), .fieldLink RX12 37 "TalePlayModel" "isSaid" "[Z", .methodLink RX12 172 yX12_endTale, .instanceMethod yX12_endTale, .selects RX12 yX12_endTale yX12_endTale, .code yX12_endTale cX12_endTale 1 none, .fieldLink RX12 155 "TalePlayModel" "player" "I", .fieldLink RX12 291 "TalePlayModel" "turns" "I", .methodLink RX12 248 yX12_saidMany, .instanceMethod yX12_saidMany, .selects RX12 yX12_saidMany yX12_saidMany, .code yX12_saidMany cX12_saidMany 3 (some .int)] : List Cond) ++ wsX120)
set_option maxRecDepth 20000 in
theorem gm_X12_unsay_X12_in : GoodIn wm_X12_unsay (va_wsS RX12 166 yX12_in wm_X12_in) := goodIn_app (goodIn_of _ (by decide +kernel)) (goodIn_r _ [5] (by decide +kernel) (by decide +kernel))
set_option maxRecDepth 20000 in
theorem gm_X12_unsay_X12_endTale : GoodIn wm_X12_unsay (wsV RX12 172 RX12 yX12_endTale wm_X12_endTale) := goodIn_app (goodIn_of _ (by decide +kernel)) (goodIn_r _ [10, 11, 12, 17, 18, 19, 20, 21, 22, 23, 24, 25, 26, 27, 28, 29, 30, 31, 32, 33, 34, 35, 36, 37, 38, 39, 40, 41, 42, 43, 44, 45, 46, 47, 48, 49, 50, 51, 52, 53, 54, 55, 56, 57, 58, 59, 60, 61, 62, 63, 64, 65, 66, 67, 68, 69, 70, 71, 72, 73, 74, 75, 76, 77, 78, 79, 80, 81, 82, 83, 84, 85] (by decide +kernel) (by decide +kernel))
set_option maxRecDepth 20000 in
theorem gm_X12_unsay_X12_saidMany : GoodIn wm_X12_unsay (wsV RX12 248 RX12 yX12_saidMany wm_X12_saidMany) := goodIn_app (goodIn_of _ (by decide +kernel)) (goodIn_r _ [16, 1, 6, 17, 18, 19, 20, 21, 22, 23, 24, 25, 26, 27, 28, 29, 30, 31, 32, 33, 34, 35, 36, 37, 38, 39, 40, 41, 42, 43, 44, 45, 46, 47, 48, 49, 50, 51, 52, 53, 54, 55, 56, 57, 58, 59, 60, 61, 62, 63, 64, 65, 66, 67, 68, 69, 70, 71, 72, 73, 74, 75, 76, 77, 78, 79, 80, 81, 82, 83, 84, 85] (by decide +kernel) (by decide +kernel))
set_option maxHeartbeats 4000000 in
set_option maxRecDepth 100000 in
theorem s_X12_unsay (l : Launch) (D : va_G) (sz : Nat) (o : Nat) (a : Nat → Nat) (t : Nat → ClassId) (i : Nat → Int32) (q : Int64) (c : Nat → Nat → Int32) (d : Nat → Nat → Int64) (s1 : Int32) (hI : mInv i c) : Met l yX12_unsay wm_X12_unsay ({ frames := 1, cells := 0, slots := 0, locals := 25 }) (va_Pc [.ref o, .int s1] (pB D sz (mW o a t i q c d) (mT t))) (va_Qi (fun (r : Int32) (u : MS) => True ∧ mInv u.1 u.2.2.1 ∧ (∀ k, k ∉ ([22, 27] : List Nat) → u.1 k = i k) ∧ (∀ k, k ∉ ([13] : List Nat) → u.2.2.1 k = c k)) (oC D (va_A (mW o a t i q c d) sz) (fun u : MS => mW o a t u.1 u.2.1 u.2.2.1 u.2.2.2) (fun _ => [])) (va_A (mW o a t i q c d) sz)) 0 0 (va_A (mW o a t i q c d) sz) := by
  refine Met.ofW (cc := cX12_unsay) (maxL := 2) (ret := (some .int)) (by decide) rfl ?_
  intro p e s m args below meth cd s₁ B hml hv
  obtain ⟨rfl, hsz, hP, hK, hD0⟩ := hv
  have hx := B.exec
  have hb := B.bytes
  have hr := B.returns
  have hts := atoms_spec (ws := wm_X12_unsay) B.pre
  have hown : s.vm.findClass RX12 = some m.cls := findClass_of_methodNamed B.named
  have hlocks := B.notSynchronized
  subst hsz
  have hD := hD0.self (sz := s.heap.size)
  generalize hAe : va_A (mW o a t i q c d) s.heap.size = A at hD ⊢
  have hA : ∀ q : Nat, s.heap.size ≤ q → A q := fun q h => by rw [← hAe]; exact Or.inr h
  have hS : va_S A s.heap s.heap [] := va_S.rf
  have hfi : ∀ k, k ∉ ([22, 27] : List Nat) → i k = i k := fun _ _ => rfl
  have hfc : ∀ k, k ∉ ([13] : List Nat) → c k = c k := fun _ _ => rfl
  have hl := lv_entry ([.ref o, .int s1]) (n := 2) (Nat.le_of_ble_eq_true rfl)
  rw [lg_entry_eq]
  generalize (lg_sl ([.ref o, .int s1]) ++ List.replicate (2 - (lg_sl ([.ref o, .int s1])).length) Slot.unset).toArray = ls at hl ⊢
  have hl : lv_has ls 2 [(0, .ref o), (1, .int s1)] := hl
  refine lv_iload_n hx hb dX12_unsay_0 rfl (lv_at hl 1 rfl) ?_
  refine lv_i2l (v := s1.toInt64) hx hb dX12_unsay_1 rfl ?_
  refine lv_lconst (v := 0) hx hb dX12_unsay_2 (by decide) ?_
  refine lv_aload_n hx hb dX12_unsay_3 rfl (lv_at hl 0 rfl) ?_
  refine mget_8 (v := (i 8)) rfl hx hb hts (fun _ h => List.mem_cons_of_mem _ (List.mem_append_right _ h)) hown hK hP (hts (.fieldLink RX12 202 "TalePlayModel" "sentences" "I") (by decide +kernel)) dX12_unsay_4 ?_
  have rb8_i : 0 ≤ (i 8).toInt ∧ (i 8).toInt ≤ 200 := hI.1 8
  refine lv_iconst (v := 1) hx hb dX12_unsay_7 (by decide) ?_
  refine lv_isub hx hb dX12_unsay_8 ?_
  refine lv_topi (fun x1 ex1 => ?_)
  have tx1 := ti_sub (a := (i 8).toInt) (b := 1) ex1 rfl (by decide) (by omega) (by omega)
  refine lv_i2l (v := x1.toInt64) hx hb dX12_unsay_9 rfl ?_
  have hPc := hP.sub (ws' := []) [] rfl
  have hKc := hK.sub (tys' := []) [] rfl
  refine ro_calli (va_runS (As := [.long s1.toInt64, .long 0, .long x1.toInt64]) (rest := []) ⟨hx, hb, hml, hown, hts⟩ (c_X12_in l D s.heap.size s1.toInt64 0 x1.toInt64 s1.toInt 0 ((i 8).toInt - 1) ((Int32.toInt_toInt64 s1).trans rfl) (by decide) ((Int32.toInt_toInt64 x1).trans tx1)) (va_cwS 3 hts gm_X12_unsay_X12_in rfl rfl rfl (by decide +kernel) ⟨Nat.le_of_ble_eq_true rfl, Nat.le_of_ble_eq_true rfl⟩) (pA_S hKc hPc) rfl rfl hl.1 rfl (lv_room (Nat.le_of_ble_eq_true rfl)) dX12_unsay_10 ⟨Nat.le_of_ble_eq_true rfl, Nat.le_of_ble_eq_true rfl⟩) hS hA hP (fun r2 u2 H locs hw2 hP hS => ?_)
  have hw2 : r2 = if (0 ≤ s1.toInt ∧ s1.toInt ≤ ((i 8).toInt - 1)) then 1 else 0 := hw2
  refine lv_if_eq (tgt := 25) hx hb dX12_unsay_13 (by decide) (fun c3 => ?_) (fun c3 => ?_)
  · have f3 := fl_f hw2 c3
    refine lv_iconst (v := (-1)) hx hb dX12_unsay_25 (by decide) ?_
    exact rw_iret (i, q, c, d) hx hb hr hlocks hS (hK.sub (tys' := []) [] rfl) hP hD dX12_unsay_26 ⟨trivial, hI, hfi, hfc⟩
  · have f3 := fl_t hw2 c3
    refine lv_aload_n hx hb dX12_unsay_16 rfl (lv_at hl 0 rfl) ?_
    refine mget_13 hx hb hts (fun _ h => List.mem_cons_of_mem _ (List.mem_append_right _ h)) hown hK hP (hts (.fieldLink RX12 37 "TalePlayModel" "isSaid" "[Z") (by decide +kernel)) dX12_unsay_17 ?_
    refine lv_iload_n hx hb dX12_unsay_20 rfl (lv_at hl 1 rfl) ?_
    refine mld_13 hx hb hK hP (vp_in_iff.mpr (by have h9 : s1.toInt = s1.toInt := rfl; omega)) dX12_unsay_21 (fun x4 ex4 => ?_)
    have rx4 : 0 ≤ x4.toInt ∧ x4.toInt ≤ 1 := by rw [ex4]; exact hI.2 13 _
    refine lv_if_ne (tgt := 27) hx hb dX12_unsay_22 (by decide) (fun c5 => ?_) (fun c5 => ?_)
    · have f5 := mt (ti_eq (a := x4.toInt) (b := 0) rfl (by decide)).mpr c5
      refine lv_aload_n hx hb dX12_unsay_27 rfl (lv_at hl 0 rfl) ?_
      refine mget_13 hx hb hts (fun _ h => List.mem_cons_of_mem _ (List.mem_append_right _ h)) hown hK hP (hts (.fieldLink RX12 37 "TalePlayModel" "isSaid" "[Z") (by decide +kernel)) dX12_unsay_28 ?_
      refine lv_iload_n hx hb dX12_unsay_31 rfl (lv_at hl 1 rfl) ?_
      refine lv_iconst (v := 0) hx hb dX12_unsay_32 (by decide) ?_
      refine mst_13 hx hb hK hP hD hS (vp_in_iff.mpr (by have h9 : s1.toInt = s1.toInt := rfl; omega)) (nb_z (show 0 ≤ (0 : Int32).toInt ∧ (0 : Int32).toInt ≤ 1 from by have h9 : (0 : Int32).toInt = 0 := (by decide); omega)) dX12_unsay_33 (fun H locs hP hD hS => ?_)
      have hI := mInv_c hI (k := 13) (j := (s1 : Int32).toNatClampNeg) (x := 0) (show 0 ≤ (0 : Int32).toInt ∧ (0 : Int32).toInt ≤ 1 from by have h9 : (0 : Int32).toInt = 0 := (by decide); omega)
      have hfc := fr_c hfc (k := 13) (j := (s1 : Int32).toNatClampNeg) (x := 0) (by decide)
      refine lv_aload_n hx hb dX12_unsay_34 rfl (lv_at hl 0 rfl) ?_
      refine al_callv (va_runV (As := []) (rest := []) ⟨hx, hb, hml, hown, hts⟩ (s_X12_endTale l D H.size o a t i q (updA c 13 (s1 : Int32).toNatClampNeg 0) d  hI ) (cwV 0 hts gm_X12_unsay_X12_endTale rfl rfl rfl (by decide +kernel) ⟨Nat.le_of_ble_eq_true rfl, Nat.le_of_ble_eq_true rfl⟩) (pB_V hK hP hD (ci := 12) (q0 := 0) rfl rfl) rfl rfl hl.1 rfl (lv_room (Nat.le_of_ble_eq_true rfl)) dX12_unsay_35 ⟨Nat.le_of_ble_eq_true rfl, Nat.le_of_ble_eq_true rfl⟩) hS hA hP hD (fun u6 H locs hw6 hP hD hS => ?_)
      obtain ⟨i6, q6, c6, d6⟩ := u6
      have hw6 : True ∧ mInv i6 c6 ∧ (∀ k, k ∉ ([22, 27] : List Nat) → i6 k = i k) ∧ (∀ k, k ∉ ([] : List Nat) → c6 k = (updA c 13 (s1 : Int32).toNatClampNeg 0) k) := hw6
      obtain ⟨hw6, hI, hei6, hec6⟩ := hw6
      have hfi := fr_t hfi hei6 (by decide)
      have hfc := fr_t hfc hec6 (by decide)
      have hP : va_P D vwCl (mW o a t i6 q6 c6 d6) H := hP
      have hD : va_D A (mW o a t i6 q6 c6 d6) := hD
      refine lv_aload_n hx hb dX12_unsay_38 rfl (lv_at hl 0 rfl) ?_
      refine ro_calli (va_runV (As := []) (rest := []) ⟨hx, hb, hml, hown, hts⟩ (s_X12_saidMany l D H.size o a t i6 q6 c6 d6  hI ) (cwV 0 hts gm_X12_unsay_X12_saidMany rfl rfl rfl (by decide +kernel) ⟨Nat.le_of_ble_eq_true rfl, Nat.le_of_ble_eq_true rfl⟩) (pA_V hK hP (ci := 12) (q0 := 0) rfl rfl) rfl rfl hl.1 rfl (lv_room (Nat.le_of_ble_eq_true rfl)) dX12_unsay_39 ⟨Nat.le_of_ble_eq_true rfl, Nat.le_of_ble_eq_true rfl⟩) hS hA hP (fun r7 u7 H locs hw7 hP hS => ?_)
      have hw7 : 0 ≤ r7.toInt ∧ r7.toInt ≤ 200 := hw7
      exact rw_iret (i6, q6, c6, d6) hx hb hr hlocks hS (hK.sub (tys' := []) [] rfl) hP hD dX12_unsay_42 ⟨trivial, hI, hfi, hfc⟩
    · have f5 := (ti_eq (a := x4.toInt) (b := 0) rfl (by decide)).mp c5
      refine lv_iconst (v := (-1)) hx hb dX12_unsay_25 (by decide) ?_
      exact rw_iret (i, q, c, d) hx hb hr hlocks hS (hK.sub (tys' := []) [] rfl) hP hD dX12_unsay_26 ⟨trivial, hI, hfi, hfc⟩

def wm_X12_clash : List Cond := .code yX12_clash cX12_clash 2 (some .int) :: (([.fieldLink RX12 205 "TalePlayModel" "rowMany" "I", .methodLink RX12 166 yX12_in, .static yX12_in, .initialized RX12, .code yX12_in cX12_in 6 (some .boolean), .fieldLink RX12 41 "TalePlayModel" "row" "[I"] : List Cond) ++ wsX120)
set_option maxRecDepth 20000 in
theorem gm_X12_clash_X12_in : GoodIn wm_X12_clash (va_wsS RX12 166 yX12_in wm_X12_in) := goodIn_app (goodIn_of _ (by decide +kernel)) (goodIn_r _ [5] (by decide +kernel) (by decide +kernel))
set_option maxHeartbeats 4000000 in
set_option maxRecDepth 100000 in
theorem s_X12_clash (l : Launch) (D : va_G) (sz : Nat) (o : Nat) (a : Nat → Nat) (t : Nat → ClassId) (i : Nat → Int32) (q : Int64) (c : Nat → Nat → Int32) (d : Nat → Nat → Int64) (w : Int32) (hI : mInv i c) : Met l yX12_clash wm_X12_clash ({ frames := 1, cells := 0, slots := 0, locals := 25 }) (va_Pc [.ref o, .int w] (pA D sz (mW o a t i q c d) (mT t))) (va_Qi (fun (r : Int32) (_ : Unit) => True) oA (ro sz)) 0 0 (ro sz) := by
  refine Met.ofW (cc := cX12_clash) (maxL := 2) (ret := (some .int)) (by decide) rfl ?_
  intro p e s m args below meth cd s₁ B hml hv
  obtain ⟨rfl, hsz, hP, hK⟩ := hv
  have hx := B.exec
  have hb := B.bytes
  have hr := B.returns
  have hts := atoms_spec (ws := wm_X12_clash) B.pre
  have hown : s.vm.findClass RX12 = some m.cls := findClass_of_methodNamed B.named
  have hlocks := B.notSynchronized
  subst hsz
  have hA : ∀ q : Nat, s.heap.size ≤ q → ro s.heap.size q := fun _ h => h
  have hS : va_S (ro s.heap.size) s.heap s.heap [] := va_S.rf
  have hl := lv_entry ([.ref o, .int w]) (n := 2) (Nat.le_of_ble_eq_true rfl)
  rw [lg_entry_eq]
  generalize (lg_sl ([.ref o, .int w]) ++ List.replicate (2 - (lg_sl ([.ref o, .int w])).length) Slot.unset).toArray = ls at hl ⊢
  have hl : lv_has ls 2 [(0, .ref o), (1, .int w)] := hl
  refine lv_iload_n hx hb dX12_clash_0 rfl (lv_at hl 1 rfl) ?_
  refine lv_i2l (v := w.toInt64) hx hb dX12_clash_1 rfl ?_
  refine lv_lconst (v := 0) hx hb dX12_clash_2 (by decide) ?_
  refine lv_aload_n hx hb dX12_clash_3 rfl (lv_at hl 0 rfl) ?_
  refine mget_15 (v := (i 15)) rfl hx hb hts (fun _ h => List.mem_cons_of_mem _ (List.mem_append_right _ h)) hown hK hP (hts (.fieldLink RX12 205 "TalePlayModel" "rowMany" "I") (by decide +kernel)) dX12_clash_4 ?_
  have rb15_i : 0 ≤ (i 15).toInt ∧ (i 15).toInt ≤ 200 := hI.1 15
  refine lv_iconst (v := 1) hx hb dX12_clash_7 (by decide) ?_
  refine lv_isub hx hb dX12_clash_8 ?_
  refine lv_topi (fun x1 ex1 => ?_)
  have tx1 := ti_sub (a := (i 15).toInt) (b := 1) ex1 rfl (by decide) (by omega) (by omega)
  refine lv_i2l (v := x1.toInt64) hx hb dX12_clash_9 rfl ?_
  have hPc := hP.sub (ws' := []) [] rfl
  have hKc := hK.sub (tys' := []) [] rfl
  refine ro_calli (va_runS (As := [.long w.toInt64, .long 0, .long x1.toInt64]) (rest := []) ⟨hx, hb, hml, hown, hts⟩ (c_X12_in l D s.heap.size w.toInt64 0 x1.toInt64 w.toInt 0 ((i 15).toInt - 1) ((Int32.toInt_toInt64 w).trans rfl) (by decide) ((Int32.toInt_toInt64 x1).trans tx1)) (va_cwS 3 hts gm_X12_clash_X12_in rfl rfl rfl (by decide +kernel) ⟨Nat.le_of_ble_eq_true rfl, Nat.le_of_ble_eq_true rfl⟩) (pA_S hKc hPc) rfl rfl hl.1 rfl (lv_room (Nat.le_of_ble_eq_true rfl)) dX12_clash_10 ⟨Nat.le_of_ble_eq_true rfl, Nat.le_of_ble_eq_true rfl⟩) hS hA hP (fun r2 u2 H locs hw2 hP hS => ?_)
  have hw2 : r2 = if (0 ≤ w.toInt ∧ w.toInt ≤ ((i 15).toInt - 1)) then 1 else 0 := hw2
  refine lv_if_eq (tgt := 25) hx hb dX12_clash_13 (by decide) (fun c3 => ?_) (fun c3 => ?_)
  · have f3 := fl_f hw2 c3
    refine lv_bipush (v := (-9)) hx hb dX12_clash_25 (by decide) ?_
    exact ro_iret hx hb hr hlocks hS dX12_clash_27 trivial
  · have f3 := fl_t hw2 c3
    refine lv_aload_n hx hb dX12_clash_16 rfl (lv_at hl 0 rfl) ?_
    refine mget_14 hx hb hts (fun _ h => List.mem_cons_of_mem _ (List.mem_append_right _ h)) hown hK hP (hts (.fieldLink RX12 41 "TalePlayModel" "row" "[I") (by decide +kernel)) dX12_clash_17 ?_
    refine lv_iload_n hx hb dX12_clash_20 rfl (lv_at hl 1 rfl) ?_
    refine mld_14 hx hb hK hP (vp_in_iff.mpr (by have h9 : w.toInt = w.toInt := rfl; omega)) dX12_clash_21 (fun x4 ex4 => ?_)
    have rx4 : 0 ≤ x4.toInt ∧ x4.toInt ≤ 199 := by rw [ex4]; exact hI.2 14 _
    refine lv_goto (tgt := 27) hx hb dX12_clash_22 (by decide) ?_
    exact ro_iret hx hb hr hlocks hS dX12_clash_27 trivial

def wm_X12_sentence : List Cond := .code yX12_sentence cX12_sentence 3 (some .int) :: (([.fieldLink RX12 202 "TalePlayModel" "sentences" "I", .methodLink RX12 166 yX12_in, .static yX12_in, .initialized RX12, .code yX12_in cX12_in 6 (some .boolean), .constantLong RX12 252 (4), .fieldLink RX12 37 "TalePlayModel" "isSaid" "[Z", .fieldLink RX12 34 "TalePlayModel" "right" "[I", .fieldLink RX12 31 "TalePlayModel" "middle" "[I", .fieldLink RX12 28 "TalePlayModel" "left" "[I", .fieldLink RX12 25 "TalePlayModel" "form" "[I"] : List Cond) ++ wsX120)
set_option maxRecDepth 20000 in
theorem gm_X12_sentence_X12_in : GoodIn wm_X12_sentence (va_wsS RX12 166 yX12_in wm_X12_in) := goodIn_app (goodIn_of _ (by decide +kernel)) (goodIn_r _ [5] (by decide +kernel) (by decide +kernel))
set_option maxHeartbeats 4000000 in
set_option maxRecDepth 100000 in
theorem s_X12_sentence (l : Launch) (D : va_G) (sz : Nat) (o : Nat) (a : Nat → Nat) (t : Nat → ClassId) (i : Nat → Int32) (q : Int64) (c : Nat → Nat → Int32) (d : Nat → Nat → Int64) (s1 : Int32) (w : Int32) (hI : mInv i c) : Met l yX12_sentence wm_X12_sentence ({ frames := 1, cells := 0, slots := 0, locals := 25 }) (va_Pc [.ref o, .int s1, .int w] (pA D sz (mW o a t i q c d) (mT t))) (va_Qi (fun (r : Int32) (_ : Unit) => True) oA (ro sz)) 0 0 (ro sz) := by
  refine Met.ofW (cc := cX12_sentence) (maxL := 3) (ret := (some .int)) (by decide) rfl ?_
  intro p e s m args below meth cd s₁ B hml hv
  obtain ⟨rfl, hsz, hP, hK⟩ := hv
  have hx := B.exec
  have hb := B.bytes
  have hr := B.returns
  have hts := atoms_spec (ws := wm_X12_sentence) B.pre
  have hown : s.vm.findClass RX12 = some m.cls := findClass_of_methodNamed B.named
  have hlocks := B.notSynchronized
  subst hsz
  have hA : ∀ q : Nat, s.heap.size ≤ q → ro s.heap.size q := fun _ h => h
  have hS : va_S (ro s.heap.size) s.heap s.heap [] := va_S.rf
  have hl := lv_entry ([.ref o, .int s1, .int w]) (n := 3) (Nat.le_of_ble_eq_true rfl)
  rw [lg_entry_eq]
  generalize (lg_sl ([.ref o, .int s1, .int w]) ++ List.replicate (3 - (lg_sl ([.ref o, .int s1, .int w])).length) Slot.unset).toArray = ls at hl ⊢
  have hl : lv_has ls 3 [(0, .ref o), (1, .int s1), (2, .int w)] := hl
  refine lv_iload_n hx hb dX12_sentence_0 rfl (lv_at hl 1 rfl) ?_
  refine lv_i2l (v := s1.toInt64) hx hb dX12_sentence_1 rfl ?_
  refine lv_lconst (v := 0) hx hb dX12_sentence_2 (by decide) ?_
  refine lv_aload_n hx hb dX12_sentence_3 rfl (lv_at hl 0 rfl) ?_
  refine mget_8 (v := (i 8)) rfl hx hb hts (fun _ h => List.mem_cons_of_mem _ (List.mem_append_right _ h)) hown hK hP (hts (.fieldLink RX12 202 "TalePlayModel" "sentences" "I") (by decide +kernel)) dX12_sentence_4 ?_
  have rb8_i : 0 ≤ (i 8).toInt ∧ (i 8).toInt ≤ 200 := hI.1 8
  refine lv_iconst (v := 1) hx hb dX12_sentence_7 (by decide) ?_
  refine lv_isub hx hb dX12_sentence_8 ?_
  refine lv_topi (fun x1 ex1 => ?_)
  have tx1 := ti_sub (a := (i 8).toInt) (b := 1) ex1 rfl (by decide) (by omega) (by omega)
  refine lv_i2l (v := x1.toInt64) hx hb dX12_sentence_9 rfl ?_
  have hPc := hP.sub (ws' := []) [] rfl
  have hKc := hK.sub (tys' := []) [] rfl
  refine ro_calli (va_runS (As := [.long s1.toInt64, .long 0, .long x1.toInt64]) (rest := []) ⟨hx, hb, hml, hown, hts⟩ (c_X12_in l D s.heap.size s1.toInt64 0 x1.toInt64 s1.toInt 0 ((i 8).toInt - 1) ((Int32.toInt_toInt64 s1).trans rfl) (by decide) ((Int32.toInt_toInt64 x1).trans tx1)) (va_cwS 3 hts gm_X12_sentence_X12_in rfl rfl rfl (by decide +kernel) ⟨Nat.le_of_ble_eq_true rfl, Nat.le_of_ble_eq_true rfl⟩) (pA_S hKc hPc) rfl rfl hl.1 rfl (lv_room (Nat.le_of_ble_eq_true rfl)) dX12_sentence_10 ⟨Nat.le_of_ble_eq_true rfl, Nat.le_of_ble_eq_true rfl⟩) hS hA hP (fun r2 u2 H locs hw2 hP hS => ?_)
  have hw2 : r2 = if (0 ≤ s1.toInt ∧ s1.toInt ≤ ((i 8).toInt - 1)) then 1 else 0 := hw2
  refine lv_if_eq (tgt := 28) hx hb dX12_sentence_13 (by decide) (fun c3 => ?_) (fun c3 => ?_)
  · have f3 := fl_f hw2 c3
    refine lv_iconst (v := (-1)) hx hb dX12_sentence_28 (by decide) ?_
    exact ro_iret hx hb hr hlocks hS dX12_sentence_29 trivial
  · have f3 := fl_t hw2 c3
    refine lv_iload_n hx hb dX12_sentence_16 rfl (lv_at hl 2 rfl) ?_
    refine lv_i2l (v := w.toInt64) hx hb dX12_sentence_17 rfl ?_
    refine lv_lconst (v := 0) hx hb dX12_sentence_18 (by decide) ?_
    refine lv_ldc2 (v := 4) hx hb hown (hts (.constantLong RX12 252 (4)) (by decide +kernel)) dX12_sentence_19 ?_
    have hPc := hP.sub (ws' := []) [] rfl
    have hKc := hK.sub (tys' := []) [] rfl
    refine ro_calli (va_runS (As := [.long w.toInt64, .long 0, .long 4]) (rest := []) ⟨hx, hb, hml, hown, hts⟩ (c_X12_in l D H.size w.toInt64 0 4 w.toInt 0 4 ((Int32.toInt_toInt64 w).trans rfl) (by decide) (by decide)) (va_cwS 3 hts gm_X12_sentence_X12_in rfl rfl rfl (by decide +kernel) ⟨Nat.le_of_ble_eq_true rfl, Nat.le_of_ble_eq_true rfl⟩) (pA_S hKc hPc) rfl rfl hl.1 rfl (lv_room (Nat.le_of_ble_eq_true rfl)) dX12_sentence_22 ⟨Nat.le_of_ble_eq_true rfl, Nat.le_of_ble_eq_true rfl⟩) hS hA hP (fun r4 u4 H locs hw4 hP hS => ?_)
    have hw4 : r4 = if (0 ≤ w.toInt ∧ w.toInt ≤ 4) then 1 else 0 := hw4
    refine lv_if_ne (tgt := 30) hx hb dX12_sentence_25 (by decide) (fun c5 => ?_) (fun c5 => ?_)
    · have f5 := fl_t hw4 c5
      refine lv_iload_n hx hb dX12_sentence_30 rfl (lv_at hl 2 rfl) ?_
      refine lv_if_ne (tgt := 43) hx hb dX12_sentence_31 (by decide) (fun c6 => ?_) (fun c6 => ?_)
      · have f6 := mt (ti_eq (a := w.toInt) (b := 0) rfl (by decide)).mpr c6
        refine lv_iload_n hx hb dX12_sentence_43 rfl (lv_at hl 2 rfl) ?_
        refine lv_iconst (v := 1) hx hb dX12_sentence_44 (by decide) ?_
        refine lv_icmp_ne (tgt := 57) hx hb dX12_sentence_45 (by decide) (fun c7 => ?_) (fun c7 => ?_)
        · have f7 := mt (ti_eq (a := w.toInt) (b := 1) rfl (by decide)).mpr c7
          refine lv_iload_n hx hb dX12_sentence_57 rfl (lv_at hl 2 rfl) ?_
          refine lv_iconst (v := 2) hx hb dX12_sentence_58 (by decide) ?_
          refine lv_icmp_ne (tgt := 71) hx hb dX12_sentence_59 (by decide) (fun c8 => ?_) (fun c8 => ?_)
          · have f8 := mt (ti_eq (a := w.toInt) (b := 2) rfl (by decide)).mpr c8
            refine lv_iload_n hx hb dX12_sentence_71 rfl (lv_at hl 2 rfl) ?_
            refine lv_iconst (v := 3) hx hb dX12_sentence_72 (by decide) ?_
            refine lv_icmp_ne (tgt := 85) hx hb dX12_sentence_73 (by decide) (fun c9 => ?_) (fun c9 => ?_)
            · have f9 := mt (ti_eq (a := w.toInt) (b := 3) rfl (by decide)).mpr c9
              refine lv_aload_n hx hb dX12_sentence_85 rfl (lv_at hl 0 rfl) ?_
              refine mget_13 hx hb hts (fun _ h => List.mem_cons_of_mem _ (List.mem_append_right _ h)) hown hK hP (hts (.fieldLink RX12 37 "TalePlayModel" "isSaid" "[Z") (by decide +kernel)) dX12_sentence_86 ?_
              refine lv_iload_n hx hb dX12_sentence_89 rfl (lv_at hl 1 rfl) ?_
              refine mld_13 hx hb hK hP (vp_in_iff.mpr (by have h9 : s1.toInt = s1.toInt := rfl; omega)) dX12_sentence_90 (fun x10 ex10 => ?_)
              have rx10 : 0 ≤ x10.toInt ∧ x10.toInt ≤ 1 := by rw [ex10]; exact hI.2 13 _
              refine lv_if_eq (tgt := 98) hx hb dX12_sentence_91 (by decide) (fun c11 => ?_) (fun c11 => ?_)
              · have f11 := (ti_eq (a := x10.toInt) (b := 0) rfl (by decide)).mp c11
                refine lv_iconst (v := 0) hx hb dX12_sentence_98 (by decide) ?_
                exact ro_iret hx hb hr hlocks hS dX12_sentence_99 trivial
              · have f11 := mt (ti_eq (a := x10.toInt) (b := 0) rfl (by decide)).mpr c11
                refine lv_iconst (v := 1) hx hb dX12_sentence_94 (by decide) ?_
                refine lv_goto (tgt := 99) hx hb dX12_sentence_95 (by decide) ?_
                exact ro_iret hx hb hr hlocks hS dX12_sentence_99 trivial
            · have f9 := (ti_eq (a := w.toInt) (b := 3) rfl (by decide)).mp c9
              refine lv_aload_n hx hb dX12_sentence_76 rfl (lv_at hl 0 rfl) ?_
              refine mget_12 hx hb hts (fun _ h => List.mem_cons_of_mem _ (List.mem_append_right _ h)) hown hK hP (hts (.fieldLink RX12 34 "TalePlayModel" "right" "[I") (by decide +kernel)) dX12_sentence_77 ?_
              refine lv_iload_n hx hb dX12_sentence_80 rfl (lv_at hl 1 rfl) ?_
              refine mld_12 hx hb hK hP (vp_in_iff.mpr (by have h9 : s1.toInt = s1.toInt := rfl; omega)) dX12_sentence_81 (fun x12 ex12 => ?_)
              have rx12 : 0 ≤ x12.toInt ∧ x12.toInt ≤ 9 := by rw [ex12]; exact hI.2 12 _
              refine lv_goto (tgt := 99) hx hb dX12_sentence_82 (by decide) ?_
              exact ro_iret hx hb hr hlocks hS dX12_sentence_99 trivial
          · have f8 := (ti_eq (a := w.toInt) (b := 2) rfl (by decide)).mp c8
            refine lv_aload_n hx hb dX12_sentence_62 rfl (lv_at hl 0 rfl) ?_
            refine mget_11 hx hb hts (fun _ h => List.mem_cons_of_mem _ (List.mem_append_right _ h)) hown hK hP (hts (.fieldLink RX12 31 "TalePlayModel" "middle" "[I") (by decide +kernel)) dX12_sentence_63 ?_
            refine lv_iload_n hx hb dX12_sentence_66 rfl (lv_at hl 1 rfl) ?_
            refine mld_11 hx hb hK hP (vp_in_iff.mpr (by have h9 : s1.toInt = s1.toInt := rfl; omega)) dX12_sentence_67 (fun x13 ex13 => ?_)
            have rx13 : 0 ≤ x13.toInt ∧ x13.toInt ≤ 29 := by rw [ex13]; exact hI.2 11 _
            refine lv_goto (tgt := 99) hx hb dX12_sentence_68 (by decide) ?_
            exact ro_iret hx hb hr hlocks hS dX12_sentence_99 trivial
        · have f7 := (ti_eq (a := w.toInt) (b := 1) rfl (by decide)).mp c7
          refine lv_aload_n hx hb dX12_sentence_48 rfl (lv_at hl 0 rfl) ?_
          refine mget_10 hx hb hts (fun _ h => List.mem_cons_of_mem _ (List.mem_append_right _ h)) hown hK hP (hts (.fieldLink RX12 28 "TalePlayModel" "left" "[I") (by decide +kernel)) dX12_sentence_49 ?_
          refine lv_iload_n hx hb dX12_sentence_52 rfl (lv_at hl 1 rfl) ?_
          refine mld_10 hx hb hK hP (vp_in_iff.mpr (by have h9 : s1.toInt = s1.toInt := rfl; omega)) dX12_sentence_53 (fun x14 ex14 => ?_)
          have rx14 : 0 ≤ x14.toInt ∧ x14.toInt ≤ 29 := by rw [ex14]; exact hI.2 10 _
          refine lv_goto (tgt := 99) hx hb dX12_sentence_54 (by decide) ?_
          exact ro_iret hx hb hr hlocks hS dX12_sentence_99 trivial
      · have f6 := (ti_eq (a := w.toInt) (b := 0) rfl (by decide)).mp c6
        refine lv_aload_n hx hb dX12_sentence_34 rfl (lv_at hl 0 rfl) ?_
        refine mget_9 hx hb hts (fun _ h => List.mem_cons_of_mem _ (List.mem_append_right _ h)) hown hK hP (hts (.fieldLink RX12 25 "TalePlayModel" "form" "[I") (by decide +kernel)) dX12_sentence_35 ?_
        refine lv_iload_n hx hb dX12_sentence_38 rfl (lv_at hl 1 rfl) ?_
        refine mld_9 hx hb hK hP (vp_in_iff.mpr (by have h9 : s1.toInt = s1.toInt := rfl; omega)) dX12_sentence_39 (fun x15 ex15 => ?_)
        have rx15 : 0 ≤ x15.toInt ∧ x15.toInt ≤ 7 := by rw [ex15]; exact hI.2 9 _
        refine lv_goto (tgt := 99) hx hb dX12_sentence_40 (by decide) ?_
        exact ro_iret hx hb hr hlocks hS dX12_sentence_99 trivial
    · have f5 := fl_f hw4 c5
      refine lv_iconst (v := (-1)) hx hb dX12_sentence_28 (by decide) ?_
      exact ro_iret hx hb hr hlocks hS dX12_sentence_29 trivial

def wm_X12_place : List Cond := .code yX12_place cX12_place 4 (some .int) :: (([.methodLink RX12 180 yX12_isObject, .instanceMethod yX12_isObject, .selects RX12 yX12_isObject yX12_isObject, .initialized RX12, .code yX12_isObject cX12_isObject 2 (some .boolean), .fieldLink RX12 177 "TalePlayModel" "objects" "I", .methodLink RX12 166 yX12_in, .static yX12_in, .code yX12_in cX12_in 6 (some .boolean), .constantLong RX12 254 (2), .methodLink RX12 208 yX12_placing, .instanceMethod yX12_placing, .selects RX12 yX12_placing yX12_placing, .code yX12_placing cX12_placing 3 (some .int), .fieldLink RX12 202 "TalePlayModel" "sentences" "I", .fieldLink RX12 37 "TalePlayModel" "isSaid" "[Z", .fieldLink RX12 25 "TalePlayModel" "form" "[I", .fieldLink RX12 28 "TalePlayModel" "left" "[I", .fieldLink RX12 31 "TalePlayModel" "middle" "[I"] : List Cond) ++ wsX120)
set_option maxRecDepth 20000 in
theorem gm_X12_place_X12_isObject : GoodIn wm_X12_place (wsV RX12 180 RX12 yX12_isObject wm_X12_isObject) := goodIn_app (goodIn_of _ (by decide +kernel)) (goodIn_r _ [5, 6, 7, 8, 4, 9, 20, 21, 22, 23, 24, 25, 26, 27, 28, 29, 30, 31, 32, 33, 34, 35, 36, 37, 38, 39, 40, 41, 42, 43, 44, 45, 46, 47, 48, 49, 50, 51, 52, 53, 54, 55, 56, 57, 58, 59, 60, 61, 62, 63, 64, 65, 66, 67, 68, 69, 70, 71, 72, 73, 74, 75, 76, 77, 78, 79, 80, 81, 82, 83, 84, 85, 86, 87, 88] (by decide +kernel) (by decide +kernel))
set_option maxRecDepth 20000 in
theorem gm_X12_place_X12_in : GoodIn wm_X12_place (va_wsS RX12 166 yX12_in wm_X12_in) := goodIn_app (goodIn_of _ (by decide +kernel)) (goodIn_r _ [9] (by decide +kernel) (by decide +kernel))
set_option maxRecDepth 20000 in
theorem gm_X12_place_X12_placing : GoodIn wm_X12_place (wsV RX12 208 RX12 yX12_placing wm_X12_placing) := goodIn_app (goodIn_of _ (by decide +kernel)) (goodIn_r _ [14, 15, 16, 17, 18, 20, 21, 22, 23, 24, 25, 26, 27, 28, 29, 30, 31, 32, 33, 34, 35, 36, 37, 38, 39, 40, 41, 42, 43, 44, 45, 46, 47, 48, 49, 50, 51, 52, 53, 54, 55, 56, 57, 58, 59, 60, 61, 62, 63, 64, 65, 66, 67, 68, 69, 70, 71, 72, 73, 74, 75, 76, 77, 78, 79, 80, 81, 82, 83, 84, 85, 86, 87, 88] (by decide +kernel) (by decide +kernel))
set_option maxHeartbeats 4000000 in
set_option maxRecDepth 100000 in
theorem s_X12_place (l : Launch) (D : va_G) (sz : Nat) (o : Nat) (a : Nat → Nat) (t : Nat → ClassId) (i : Nat → Int32) (q : Int64) (c : Nat → Nat → Int32) (d : Nat → Nat → Int64) (w : Int32) (w1 : Int32) (hI : mInv i c) : Met l yX12_place wm_X12_place ({ frames := 2, cells := 0, slots := 0, locals := 46 }) (va_Pc [.ref o, .int w, .int w1] (pA D sz (mW o a t i q c d) (mT t))) (va_Qi (fun (r : Int32) (_ : Unit) => True) oA (ro sz)) 0 0 (ro sz) := by
  refine Met.ofW (cc := cX12_place) (maxL := 4) (ret := (some .int)) (by decide) rfl ?_
  intro p e s m args below meth cd s₁ B hml hv
  obtain ⟨rfl, hsz, hP, hK⟩ := hv
  have hx := B.exec
  have hb := B.bytes
  have hr := B.returns
  have hts := atoms_spec (ws := wm_X12_place) B.pre
  have hown : s.vm.findClass RX12 = some m.cls := findClass_of_methodNamed B.named
  have hlocks := B.notSynchronized
  subst hsz
  have hA : ∀ q : Nat, s.heap.size ≤ q → ro s.heap.size q := fun _ h => h
  have hS : va_S (ro s.heap.size) s.heap s.heap [] := va_S.rf
  have hl := lv_entry ([.ref o, .int w, .int w1]) (n := 4) (Nat.le_of_ble_eq_true rfl)
  rw [lg_entry_eq]
  generalize (lg_sl ([.ref o, .int w, .int w1]) ++ List.replicate (4 - (lg_sl ([.ref o, .int w, .int w1])).length) Slot.unset).toArray = ls at hl ⊢
  have hl : lv_has ls 4 [(0, .ref o), (1, .int w), (2, .int w1)] := hl
  refine lv_aload_n hx hb dX12_place_0 rfl (lv_at hl 0 rfl) ?_
  refine lv_iload_n hx hb dX12_place_1 rfl (lv_at hl 1 rfl) ?_
  have rb5_i : 0 ≤ (i 5).toInt ∧ (i 5).toInt ≤ 30 := hI.1 5
  refine ro_calli (va_runV (As := [.int w]) (rest := []) ⟨hx, hb, hml, hown, hts⟩ (s_X12_isObject l D s.heap.size o a t i q c d w hI ) (cwV 1 hts gm_X12_place_X12_isObject rfl rfl rfl (by decide +kernel) ⟨Nat.le_of_ble_eq_true rfl, Nat.le_of_ble_eq_true rfl⟩) (pA_V hK hP (ci := 12) (q0 := 0) rfl rfl) rfl rfl hl.1 rfl (lv_room (Nat.le_of_ble_eq_true rfl)) dX12_place_2 ⟨Nat.le_of_ble_eq_true rfl, Nat.le_of_ble_eq_true rfl⟩) hS hA hP (fun r1 u1 H locs hw1 hP hS => ?_)
  have hw1 : r1 = if (0 ≤ w.toInt ∧ w.toInt ≤ (i 5).toInt - 1) then 1 else 0 := hw1
  refine lv_if_eq (tgt := 20) hx hb dX12_place_5 (by decide) (fun c2 => ?_) (fun c2 => ?_)
  · have f2 := fl_f hw1 c2
    refine lv_iconst (v := (-1)) hx hb dX12_place_20 (by decide) ?_
    exact ro_iret hx hb hr hlocks hS dX12_place_21 trivial
  · have f2 := fl_t hw1 c2
    refine lv_iload_n hx hb dX12_place_8 rfl (lv_at hl 2 rfl) ?_
    refine lv_i2l (v := w1.toInt64) hx hb dX12_place_9 rfl ?_
    refine lv_lconst (v := 0) hx hb dX12_place_10 (by decide) ?_
    refine lv_ldc2 (v := 2) hx hb hown (hts (.constantLong RX12 254 (2)) (by decide +kernel)) dX12_place_11 ?_
    have hPc := hP.sub (ws' := []) [] rfl
    have hKc := hK.sub (tys' := []) [] rfl
    refine ro_calli (va_runS (As := [.long w1.toInt64, .long 0, .long 2]) (rest := []) ⟨hx, hb, hml, hown, hts⟩ (c_X12_in l D H.size w1.toInt64 0 2 w1.toInt 0 2 ((Int32.toInt_toInt64 w1).trans rfl) (by decide) (by decide)) (va_cwS 3 hts gm_X12_place_X12_in rfl rfl rfl (by decide +kernel) ⟨Nat.le_of_ble_eq_true rfl, Nat.le_of_ble_eq_true rfl⟩) (pA_S hKc hPc) rfl rfl hl.1 rfl (lv_room (Nat.le_of_ble_eq_true rfl)) dX12_place_14 ⟨Nat.le_of_ble_eq_true rfl, Nat.le_of_ble_eq_true rfl⟩) hS hA hP (fun r3 u3 H locs hw3 hP hS => ?_)
    have hw3 : r3 = if (0 ≤ w1.toInt ∧ w1.toInt ≤ 2) then 1 else 0 := hw3
    refine lv_if_ne (tgt := 22) hx hb dX12_place_17 (by decide) (fun c4 => ?_) (fun c4 => ?_)
    · have f4 := fl_t hw3 c4
      refine lv_aload_n hx hb dX12_place_22 rfl (lv_at hl 0 rfl) ?_
      refine lv_iload_n hx hb dX12_place_23 rfl (lv_at hl 1 rfl) ?_
      refine ro_calli (va_runV (As := [.int w]) (rest := []) ⟨hx, hb, hml, hown, hts⟩ (s_X12_placing l D H.size o a t i q c d w hI ) (cwV 1 hts gm_X12_place_X12_placing rfl rfl rfl (by decide +kernel) ⟨Nat.le_of_ble_eq_true rfl, Nat.le_of_ble_eq_true rfl⟩) (pA_V hK hP (ci := 12) (q0 := 0) rfl rfl) rfl rfl hl.1 rfl (lv_room (Nat.le_of_ble_eq_true rfl)) dX12_place_24 ⟨Nat.le_of_ble_eq_true rfl, Nat.le_of_ble_eq_true rfl⟩) hS hA hP (fun r5 u5 H locs hw5 hP hS => ?_)
      have hw5 : r5.toInt = -9 ∨ (0 ≤ r5.toInt ∧ r5.toInt ≤ 199) := hw5
      refine lv_istore_n (lv' := [(3, .int r5), (0, .ref o), (1, .int w), (2, .int w1)]) hx hb dX12_place_27 rfl hl (by decide) rfl (fun ls hl => ?_)
      refine lv_iload_n hx hb dX12_place_28 rfl (lv_at hl 0 rfl) ?_
      refine lv_bipush (v := (-9)) hx hb dX12_place_29 (by decide) ?_
      refine lv_icmp_ne (tgt := 39) hx hb dX12_place_31 (by decide) (fun c6 => ?_) (fun c6 => ?_)
      · have f6 := mt (ti_eq (a := r5.toInt) (b := (-9)) rfl (by decide)).mpr c6
        refine lv_iload_n hx hb dX12_place_39 rfl (lv_at hl 3 rfl) ?_
        refine lv_if_ne (tgt := 52) hx hb dX12_place_40 (by decide) (fun c7 => ?_) (fun c7 => ?_)
        · have f7 := mt (ti_eq (a := w1.toInt) (b := 0) rfl (by decide)).mpr c7
          refine lv_iload_n hx hb dX12_place_52 rfl (lv_at hl 3 rfl) ?_
          refine lv_iconst (v := 1) hx hb dX12_place_53 (by decide) ?_
          refine lv_icmp_ne (tgt := 66) hx hb dX12_place_54 (by decide) (fun c8 => ?_) (fun c8 => ?_)
          · have f8 := mt (ti_eq (a := w1.toInt) (b := 1) rfl (by decide)).mpr c8
            refine lv_iload_n hx hb dX12_place_66 rfl (lv_at hl 0 rfl) ?_
            exact ro_iret hx hb hr hlocks hS dX12_place_67 trivial
          · have f8 := (ti_eq (a := w1.toInt) (b := 1) rfl (by decide)).mp c8
            refine lv_aload_n hx hb dX12_place_57 rfl (lv_at hl 1 rfl) ?_
            refine mget_11 hx hb hts (fun _ h => List.mem_cons_of_mem _ (List.mem_append_right _ h)) hown hK hP (hts (.fieldLink RX12 31 "TalePlayModel" "middle" "[I") (by decide +kernel)) dX12_place_58 ?_
            refine lv_iload_n hx hb dX12_place_61 rfl (lv_at hl 0 rfl) ?_
            refine mld_11 hx hb hK hP (vp_in_iff.mpr (by have h9 : r5.toInt = r5.toInt := rfl; omega)) dX12_place_62 (fun x9 ex9 => ?_)
            have rx9 : 0 ≤ x9.toInt ∧ x9.toInt ≤ 29 := by rw [ex9]; exact hI.2 11 _
            refine lv_goto (tgt := 67) hx hb dX12_place_63 (by decide) ?_
            exact ro_iret hx hb hr hlocks hS dX12_place_67 trivial
        · have f7 := (ti_eq (a := w1.toInt) (b := 0) rfl (by decide)).mp c7
          refine lv_aload_n hx hb dX12_place_43 rfl (lv_at hl 1 rfl) ?_
          refine mget_9 hx hb hts (fun _ h => List.mem_cons_of_mem _ (List.mem_append_right _ h)) hown hK hP (hts (.fieldLink RX12 25 "TalePlayModel" "form" "[I") (by decide +kernel)) dX12_place_44 ?_
          refine lv_iload_n hx hb dX12_place_47 rfl (lv_at hl 0 rfl) ?_
          refine mld_9 hx hb hK hP (vp_in_iff.mpr (by have h9 : r5.toInt = r5.toInt := rfl; omega)) dX12_place_48 (fun x10 ex10 => ?_)
          have rx10 : 0 ≤ x10.toInt ∧ x10.toInt ≤ 7 := by rw [ex10]; exact hI.2 9 _
          refine lv_goto (tgt := 67) hx hb dX12_place_49 (by decide) ?_
          exact ro_iret hx hb hr hlocks hS dX12_place_67 trivial
      · have f6 := (ti_eq (a := r5.toInt) (b := (-9)) rfl (by decide)).mp c6
        refine lv_bipush (v := (-9)) hx hb dX12_place_34 (by decide) ?_
        refine lv_goto (tgt := 67) hx hb dX12_place_36 (by decide) ?_
        exact ro_iret hx hb hr hlocks hS dX12_place_67 trivial
    · have f4 := fl_f hw3 c4
      refine lv_iconst (v := (-1)) hx hb dX12_place_20 (by decide) ?_
      exact ro_iret hx hb hr hlocks hS dX12_place_21 trivial

def wm_X12_flag : List Cond := .code yX12_flag cX12_flag 3 (some .int) :: (([.methodLink RX12 180 yX12_isObject, .instanceMethod yX12_isObject, .selects RX12 yX12_isObject yX12_isObject, .initialized RX12, .code yX12_isObject cX12_isObject 2 (some .boolean), .fieldLink RX12 177 "TalePlayModel" "objects" "I", .methodLink RX12 166 yX12_in, .static yX12_in, .code yX12_in cX12_in 6 (some .boolean), .constantLong RX12 170 (5), .methodLink RX12 199 yX12_mayHave, .instanceMethod yX12_mayHave, .selects RX12 yX12_mayHave yX12_mayHave, .code yX12_mayHave cX12_mayHave 3 (some .boolean), .methodLink RX12 184 yX12_isOf, .instanceMethod yX12_isOf, .selects RX12 yX12_isOf yX12_isOf, .code yX12_isOf cX12_isOf 4 (some .boolean), .fieldLink RX12 19 "TalePlayModel" "kindOf" "[I", .fieldLink RX12 13 "TalePlayModel" "parentOf" "[I", .methodLink RX12 191 yX12_isShutter, .instanceMethod yX12_isShutter, .selects RX12 yX12_isShutter yX12_isShutter, .code yX12_isShutter cX12_isShutter 2 (some .boolean), .methodLink RX12 188 yX12_isMovable, .instanceMethod yX12_isMovable, .selects RX12 yX12_isMovable yX12_isMovable, .code yX12_isMovable cX12_isMovable 2 (some .boolean), .methodLink RX12 194 yX12_isGoods, .instanceMethod yX12_isGoods, .selects RX12 yX12_isGoods yX12_isGoods, .code yX12_isGoods cX12_isGoods 2 (some .boolean), .methodLink RX12 233 yX12_meets, .instanceMethod yX12_meets, .selects RX12 yX12_meets yX12_meets, .code yX12_meets cX12_meets 2 (some .int), .fieldLink RX12 161 "TalePlayModel" "latest" "I", .fieldLink RX12 7 "TalePlayModel" "came" "[I", .methodLink RX12 256 yX12_saidFlag, .instanceMethod yX12_saidFlag, .selects RX12 yX12_saidFlag yX12_saidFlag, .code yX12_saidFlag cX12_saidFlag 4 (some .int), .methodLink RX12 216 yX12_saidSo, .instanceMethod yX12_saidSo, .selects RX12 yX12_saidSo yX12_saidSo, .code yX12_saidSo cX12_saidSo 6 (some .int), .fieldLink RX12 202 "TalePlayModel" "sentences" "I", .fieldLink RX12 37 "TalePlayModel" "isSaid" "[Z", .fieldLink RX12 25 "TalePlayModel" "form" "[I", .fieldLink RX12 28 "TalePlayModel" "left" "[I", .fieldLink RX12 31 "TalePlayModel" "middle" "[I", .fieldLink RX12 34 "TalePlayModel" "right" "[I", .fieldLink RX12 16 "TalePlayModel" "defaults" "[I"] : List Cond) ++ wsX120)
set_option maxRecDepth 20000 in
theorem gm_X12_flag_X12_isObject : GoodIn wm_X12_flag (wsV RX12 180 RX12 yX12_isObject wm_X12_isObject) := goodIn_app (goodIn_of _ (by decide +kernel)) (goodIn_r _ [5, 6, 7, 8, 4, 9, 54, 55, 56, 57, 58, 59, 60, 61, 62, 63, 64, 65, 66, 67, 68, 69, 70, 71, 72, 73, 74, 75, 76, 77, 78, 79, 80, 81, 82, 83, 84, 85, 86, 87, 88, 89, 90, 91, 92, 93, 94, 95, 96, 97, 98, 99, 100, 101, 102, 103, 104, 105, 106, 107, 108, 109, 110, 111, 112, 113, 114, 115, 116, 117, 118, 119, 120, 121, 122] (by decide +kernel) (by decide +kernel))
set_option maxRecDepth 20000 in
theorem gm_X12_flag_X12_in : GoodIn wm_X12_flag (va_wsS RX12 166 yX12_in wm_X12_in) := goodIn_app (goodIn_of _ (by decide +kernel)) (goodIn_r _ [9] (by decide +kernel) (by decide +kernel))
set_option maxRecDepth 20000 in
theorem gm_X12_flag_X12_mayHave : GoodIn wm_X12_flag (wsV RX12 199 RX12 yX12_mayHave wm_X12_mayHave) := goodIn_app (goodIn_of _ (by decide +kernel)) (goodIn_r _ [14, 15, 16, 17, 4, 18, 19, 20, 21, 22, 23, 24, 25, 26, 27, 28, 29, 30, 31, 32, 54, 55, 56, 57, 58, 59, 60, 61, 62, 63, 64, 65, 66, 67, 68, 69, 70, 71, 72, 73, 74, 75, 76, 77, 78, 79, 80, 81, 82, 83, 84, 85, 86, 87, 88, 89, 90, 91, 92, 93, 94, 95, 96, 97, 98, 99, 100, 101, 102, 103, 104, 105, 106, 107, 108, 109, 110, 111, 112, 113, 114, 115, 116, 117, 118, 119, 120, 121, 122] (by decide +kernel) (by decide +kernel))
set_option maxRecDepth 20000 in
theorem gm_X12_flag_X12_meets : GoodIn wm_X12_flag (wsV RX12 233 RX12 yX12_meets wm_X12_meets) := goodIn_app (goodIn_of _ (by decide +kernel)) (goodIn_r _ [36, 37, 38, 54, 55, 56, 57, 58, 59, 60, 61, 62, 63, 64, 65, 66, 67, 68, 69, 70, 71, 72, 73, 74, 75, 76, 77, 78, 79, 80, 81, 82, 83, 84, 85, 86, 87, 88, 89, 90, 91, 92, 93, 94, 95, 96, 97, 98, 99, 100, 101, 102, 103, 104, 105, 106, 107, 108, 109, 110, 111, 112, 113, 114, 115, 116, 117, 118, 119, 120, 121, 122] (by decide +kernel) (by decide +kernel))
set_option maxRecDepth 20000 in
theorem gm_X12_flag_X12_saidFlag : GoodIn wm_X12_flag (wsV RX12 256 RX12 yX12_saidFlag wm_X12_saidFlag) := goodIn_app (goodIn_of _ (by decide +kernel)) (goodIn_r _ [42, 43, 44, 45, 4, 46, 47, 48, 49, 50, 51, 52, 19, 15, 16, 17, 18, 20, 53, 54, 55, 56, 57, 58, 59, 60, 61, 62, 63, 64, 65, 66, 67, 68, 69, 70, 71, 72, 73, 74, 75, 76, 77, 78, 79, 80, 81, 82, 83, 84, 85, 86, 87, 88, 89, 90, 91, 92, 93, 94, 95, 96, 97, 98, 99, 100, 101, 102, 103, 104, 105, 106, 107, 108, 109, 110, 111, 112, 113, 114, 115, 116, 117, 118, 119, 120, 121, 122] (by decide +kernel) (by decide +kernel))
set_option maxHeartbeats 4000000 in
set_option maxRecDepth 100000 in
theorem s_X12_flag (l : Launch) (D : va_G) (sz : Nat) (o : Nat) (a : Nat → Nat) (t : Nat → ClassId) (i : Nat → Int32) (q : Int64) (c : Nat → Nat → Int32) (d : Nat → Nat → Int64) (w : Int32) (f : Int32) (hI : mInv i c) : Met l yX12_flag wm_X12_flag ({ frames := 4, cells := 0, slots := 0, locals := 87 }) (va_Pc [.ref o, .int w, .int f] (pB D sz (mW o a t i q c d) (mT t))) (va_Qi (fun (r : Int32) (u : MS) => True ∧ mInv u.1 u.2.2.1 ∧ (∀ k, k ∉ ([0] : List Nat) → u.1 k = i k) ∧ (∀ k, k ∉ ([1] : List Nat) → u.2.2.1 k = c k)) (oC D (va_A (mW o a t i q c d) sz) (fun u : MS => mW o a t u.1 u.2.1 u.2.2.1 u.2.2.2) (fun _ => [])) (va_A (mW o a t i q c d) sz)) 0 0 (va_A (mW o a t i q c d) sz) := by
  refine Met.ofW (cc := cX12_flag) (maxL := 3) (ret := (some .int)) (by decide) rfl ?_
  intro p e s m args below meth cd s₁ B hml hv
  obtain ⟨rfl, hsz, hP, hK, hD0⟩ := hv
  have hx := B.exec
  have hb := B.bytes
  have hr := B.returns
  have hts := atoms_spec (ws := wm_X12_flag) B.pre
  have hown : s.vm.findClass RX12 = some m.cls := findClass_of_methodNamed B.named
  have hlocks := B.notSynchronized
  subst hsz
  have hD := hD0.self (sz := s.heap.size)
  generalize hAe : va_A (mW o a t i q c d) s.heap.size = A at hD ⊢
  have hA : ∀ q : Nat, s.heap.size ≤ q → A q := fun q h => by rw [← hAe]; exact Or.inr h
  have hS : va_S A s.heap s.heap [] := va_S.rf
  have hfi : ∀ k, k ∉ ([0] : List Nat) → i k = i k := fun _ _ => rfl
  have hfc : ∀ k, k ∉ ([1] : List Nat) → c k = c k := fun _ _ => rfl
  have hl := lv_entry ([.ref o, .int w, .int f]) (n := 3) (Nat.le_of_ble_eq_true rfl)
  rw [lg_entry_eq]
  generalize (lg_sl ([.ref o, .int w, .int f]) ++ List.replicate (3 - (lg_sl ([.ref o, .int w, .int f])).length) Slot.unset).toArray = ls at hl ⊢
  have hl : lv_has ls 3 [(0, .ref o), (1, .int w), (2, .int f)] := hl
  refine lv_aload_n hx hb dX12_flag_0 rfl (lv_at hl 0 rfl) ?_
  refine lv_iload_n hx hb dX12_flag_1 rfl (lv_at hl 1 rfl) ?_
  have rb5_i : 0 ≤ (i 5).toInt ∧ (i 5).toInt ≤ 30 := hI.1 5
  refine ro_calli (va_runV (As := [.int w]) (rest := []) ⟨hx, hb, hml, hown, hts⟩ (s_X12_isObject l D s.heap.size o a t i q c d w hI ) (cwV 1 hts gm_X12_flag_X12_isObject rfl rfl rfl (by decide +kernel) ⟨Nat.le_of_ble_eq_true rfl, Nat.le_of_ble_eq_true rfl⟩) (pA_V hK hP (ci := 12) (q0 := 0) rfl rfl) rfl rfl hl.1 rfl (lv_room (Nat.le_of_ble_eq_true rfl)) dX12_flag_2 ⟨Nat.le_of_ble_eq_true rfl, Nat.le_of_ble_eq_true rfl⟩) hS hA hP (fun r1 u1 H locs hw1 hP hS => ?_)
  have hw1 : r1 = if (0 ≤ w.toInt ∧ w.toInt ≤ (i 5).toInt - 1) then 1 else 0 := hw1
  refine lv_if_eq (tgt := 20) hx hb dX12_flag_5 (by decide) (fun c2 => ?_) (fun c2 => ?_)
  · have f2 := fl_f hw1 c2
    refine lv_iconst (v := (-1)) hx hb dX12_flag_20 (by decide) ?_
    exact rw_iret (i, q, c, d) hx hb hr hlocks hS (hK.sub (tys' := []) [] rfl) hP hD dX12_flag_21 ⟨trivial, hI, hfi, hfc⟩
  · have f2 := fl_t hw1 c2
    refine lv_iload_n hx hb dX12_flag_8 rfl (lv_at hl 2 rfl) ?_
    refine lv_i2l (v := f.toInt64) hx hb dX12_flag_9 rfl ?_
    refine lv_lconst (v := 0) hx hb dX12_flag_10 (by decide) ?_
    refine lv_ldc2 (v := 5) hx hb hown (hts (.constantLong RX12 170 (5)) (by decide +kernel)) dX12_flag_11 ?_
    have hPc := hP.sub (ws' := []) [] rfl
    have hKc := hK.sub (tys' := []) [] rfl
    refine ro_calli (va_runS (As := [.long f.toInt64, .long 0, .long 5]) (rest := []) ⟨hx, hb, hml, hown, hts⟩ (c_X12_in l D H.size f.toInt64 0 5 f.toInt 0 5 ((Int32.toInt_toInt64 f).trans rfl) (by decide) (by decide)) (va_cwS 3 hts gm_X12_flag_X12_in rfl rfl rfl (by decide +kernel) ⟨Nat.le_of_ble_eq_true rfl, Nat.le_of_ble_eq_true rfl⟩) (pA_S hKc hPc) rfl rfl hl.1 rfl (lv_room (Nat.le_of_ble_eq_true rfl)) dX12_flag_14 ⟨Nat.le_of_ble_eq_true rfl, Nat.le_of_ble_eq_true rfl⟩) hS hA hP (fun r3 u3 H locs hw3 hP hS => ?_)
    have hw3 : r3 = if (0 ≤ f.toInt ∧ f.toInt ≤ 5) then 1 else 0 := hw3
    refine lv_if_ne (tgt := 22) hx hb dX12_flag_17 (by decide) (fun c4 => ?_) (fun c4 => ?_)
    · have f4 := fl_t hw3 c4
      refine lv_aload_n hx hb dX12_flag_22 rfl (lv_at hl 0 rfl) ?_
      refine lv_iload_n hx hb dX12_flag_23 rfl (lv_at hl 1 rfl) ?_
      refine lv_iload_n hx hb dX12_flag_24 rfl (lv_at hl 2 rfl) ?_
      refine ro_calli (va_runV (As := [.int w, .int f]) (rest := []) ⟨hx, hb, hml, hown, hts⟩ (s_X12_mayHave l D H.size o a t i q c d w f hI (by omega)) (cwV 2 hts gm_X12_flag_X12_mayHave rfl rfl rfl (by decide +kernel) ⟨Nat.le_of_ble_eq_true rfl, Nat.le_of_ble_eq_true rfl⟩) (pA_V hK hP (ci := 12) (q0 := 0) rfl rfl) rfl rfl hl.1 rfl (lv_room (Nat.le_of_ble_eq_true rfl)) dX12_flag_25 ⟨Nat.le_of_ble_eq_true rfl, Nat.le_of_ble_eq_true rfl⟩) hS hA hP (fun r5 u5 H locs hw5 hP hS => ?_)
      have hw5 : 0 ≤ r5.toInt ∧ r5.toInt ≤ 1 := hw5
      refine lv_if_eq (tgt := 40) hx hb dX12_flag_28 (by decide) (fun c6 => ?_) (fun c6 => ?_)
      · have f6 := (ti_eq (a := r5.toInt) (b := 0) rfl (by decide)).mp c6
        refine lv_aload_n hx hb dX12_flag_40 rfl (lv_at hl 0 rfl) ?_
        refine lv_iconst (v := 3) hx hb dX12_flag_41 (by decide) ?_
        refine al_calli (va_runV (As := [.int 3]) (rest := []) ⟨hx, hb, hml, hown, hts⟩ (s_X12_meets l D H.size o a t i q c d 3 hI (by have h90 : (3 : Int32).toInt = 3 := (by decide); omega)) (cwV 1 hts gm_X12_flag_X12_meets rfl rfl rfl (by decide +kernel) ⟨Nat.le_of_ble_eq_true rfl, Nat.le_of_ble_eq_true rfl⟩) (pB_V hK hP hD (ci := 12) (q0 := 0) rfl rfl) rfl rfl hl.1 rfl (lv_room (Nat.le_of_ble_eq_true rfl)) dX12_flag_42 ⟨Nat.le_of_ble_eq_true rfl, Nat.le_of_ble_eq_true rfl⟩) hS hA hP hD (fun r7 u7 H locs hw7 hP hD hS => ?_)
        obtain ⟨i7, q7, c7, d7⟩ := u7
        have hw7 : r7 = (-3) ∧ mInv i7 c7 ∧ (∀ k, k ∉ ([0] : List Nat) → i7 k = i k) ∧ (∀ k, k ∉ ([1] : List Nat) → c7 k = c k) := hw7
        obtain ⟨hw7, hI, hei7, hec7⟩ := hw7
        have hfi := fr_t hfi hei7 (by decide)
        have hfc := fr_t hfc hec7 (by decide)
        have hP : va_P D vwCl (mW o a t i7 q7 c7 d7) H := hP
        have hD : va_D A (mW o a t i7 q7 c7 d7) := hD
        have hw7 : r7 = (-3) := hw7
        subst hw7
        exact rw_iret (i7, q7, c7, d7) hx hb hr hlocks hS (hK.sub (tys' := []) [] rfl) hP hD dX12_flag_45 ⟨trivial, hI, hfi, hfc⟩
      · have f6 := mt (ti_eq (a := r5.toInt) (b := 0) rfl (by decide)).mpr c6
        refine lv_aload_n hx hb dX12_flag_31 rfl (lv_at hl 0 rfl) ?_
        refine lv_iload_n hx hb dX12_flag_32 rfl (lv_at hl 1 rfl) ?_
        refine lv_iload_n hx hb dX12_flag_33 rfl (lv_at hl 2 rfl) ?_
        refine ro_calli (va_runV (As := [.int w, .int f]) (rest := []) ⟨hx, hb, hml, hown, hts⟩ (s_X12_saidFlag l D H.size o a t i q c d w f hI (by omega) (by omega)) (cwV 2 hts gm_X12_flag_X12_saidFlag rfl rfl rfl (by decide +kernel) ⟨Nat.le_of_ble_eq_true rfl, Nat.le_of_ble_eq_true rfl⟩) (pA_V hK hP (ci := 12) (q0 := 0) rfl rfl) rfl rfl hl.1 rfl (lv_room (Nat.le_of_ble_eq_true rfl)) dX12_flag_34 ⟨Nat.le_of_ble_eq_true rfl, Nat.le_of_ble_eq_true rfl⟩) hS hA hP (fun r8 u8 H locs hw8 hP hS => ?_)
        have hw8 : r8.toInt = -9 ∨ (0 ≤ r8.toInt ∧ r8.toInt ≤ 1) := hw8
        refine lv_goto (tgt := 45) hx hb dX12_flag_37 (by decide) ?_
        exact rw_iret (i, q, c, d) hx hb hr hlocks hS (hK.sub (tys' := []) [] rfl) hP hD dX12_flag_45 ⟨trivial, hI, hfi, hfc⟩
    · have f4 := fl_f hw3 c4
      refine lv_iconst (v := (-1)) hx hb dX12_flag_20 (by decide) ?_
      exact rw_iret (i, q, c, d) hx hb hr hlocks hS (hK.sub (tys' := []) [] rfl) hP hD dX12_flag_21 ⟨trivial, hI, hfi, hfc⟩

def wm_X12_key : List Cond := .code yX12_key cX12_key 2 (some .int) :: (([.methodLink RX12 180 yX12_isObject, .instanceMethod yX12_isObject, .selects RX12 yX12_isObject yX12_isObject, .initialized RX12, .code yX12_isObject cX12_isObject 2 (some .boolean), .fieldLink RX12 177 "TalePlayModel" "objects" "I", .methodLink RX12 166 yX12_in, .static yX12_in, .code yX12_in cX12_in 6 (some .boolean), .methodLink RX12 191 yX12_isShutter, .instanceMethod yX12_isShutter, .selects RX12 yX12_isShutter yX12_isShutter, .code yX12_isShutter cX12_isShutter 2 (some .boolean), .methodLink RX12 184 yX12_isOf, .instanceMethod yX12_isOf, .selects RX12 yX12_isOf yX12_isOf, .code yX12_isOf cX12_isOf 4 (some .boolean), .fieldLink RX12 19 "TalePlayModel" "kindOf" "[I", .fieldLink RX12 13 "TalePlayModel" "parentOf" "[I", .methodLink RX12 233 yX12_meets, .instanceMethod yX12_meets, .selects RX12 yX12_meets yX12_meets, .code yX12_meets cX12_meets 2 (some .int), .fieldLink RX12 161 "TalePlayModel" "latest" "I", .fieldLink RX12 7 "TalePlayModel" "came" "[I", .methodLink RX12 260 yX12_keyOf, .instanceMethod yX12_keyOf, .selects RX12 yX12_keyOf yX12_keyOf, .code yX12_keyOf cX12_keyOf 3 (some .int), .fieldLink RX12 202 "TalePlayModel" "sentences" "I", .fieldLink RX12 37 "TalePlayModel" "isSaid" "[Z", .fieldLink RX12 25 "TalePlayModel" "form" "[I", .fieldLink RX12 31 "TalePlayModel" "middle" "[I", .fieldLink RX12 28 "TalePlayModel" "left" "[I"] : List Cond) ++ wsX120)
set_option maxRecDepth 20000 in
theorem gm_X12_key_X12_isObject : GoodIn wm_X12_key (wsV RX12 180 RX12 yX12_isObject wm_X12_isObject) := goodIn_app (goodIn_of _ (by decide +kernel)) (goodIn_r _ [5, 6, 7, 8, 4, 9, 35, 36, 37, 38, 39, 40, 41, 42, 43, 44, 45, 46, 47, 48, 49, 50, 51, 52, 53, 54, 55, 56, 57, 58, 59, 60, 61, 62, 63, 64, 65, 66, 67, 68, 69, 70, 71, 72, 73, 74, 75, 76, 77, 78, 79, 80, 81, 82, 83, 84, 85, 86, 87, 88, 89, 90, 91, 92, 93, 94, 95, 96, 97, 98, 99, 100, 101, 102, 103] (by decide +kernel) (by decide +kernel))
set_option maxRecDepth 20000 in
theorem gm_X12_key_X12_isShutter : GoodIn wm_X12_key (wsV RX12 191 RX12 yX12_isShutter wm_X12_isShutter) := goodIn_app (goodIn_of _ (by decide +kernel)) (goodIn_r _ [13, 14, 15, 16, 4, 17, 18, 19, 35, 36, 37, 38, 39, 40, 41, 42, 43, 44, 45, 46, 47, 48, 49, 50, 51, 52, 53, 54, 55, 56, 57, 58, 59, 60, 61, 62, 63, 64, 65, 66, 67, 68, 69, 70, 71, 72, 73, 74, 75, 76, 77, 78, 79, 80, 81, 82, 83, 84, 85, 86, 87, 88, 89, 90, 91, 92, 93, 94, 95, 96, 97, 98, 99, 100, 101, 102, 103] (by decide +kernel) (by decide +kernel))
set_option maxRecDepth 20000 in
theorem gm_X12_key_X12_meets : GoodIn wm_X12_key (wsV RX12 233 RX12 yX12_meets wm_X12_meets) := goodIn_app (goodIn_of _ (by decide +kernel)) (goodIn_r _ [23, 24, 25, 35, 36, 37, 38, 39, 40, 41, 42, 43, 44, 45, 46, 47, 48, 49, 50, 51, 52, 53, 54, 55, 56, 57, 58, 59, 60, 61, 62, 63, 64, 65, 66, 67, 68, 69, 70, 71, 72, 73, 74, 75, 76, 77, 78, 79, 80, 81, 82, 83, 84, 85, 86, 87, 88, 89, 90, 91, 92, 93, 94, 95, 96, 97, 98, 99, 100, 101, 102, 103] (by decide +kernel) (by decide +kernel))
set_option maxRecDepth 20000 in
theorem gm_X12_key_X12_keyOf : GoodIn wm_X12_key (wsV RX12 260 RX12 yX12_keyOf wm_X12_keyOf) := goodIn_app (goodIn_of _ (by decide +kernel)) (goodIn_r _ [29, 30, 31, 32, 33, 34, 35, 36, 37, 38, 39, 40, 41, 42, 43, 44, 45, 46, 47, 48, 49, 50, 51, 52, 53, 54, 55, 56, 57, 58, 59, 60, 61, 62, 63, 64, 65, 66, 67, 68, 69, 70, 71, 72, 73, 74, 75, 76, 77, 78, 79, 80, 81, 82, 83, 84, 85, 86, 87, 88, 89, 90, 91, 92, 93, 94, 95, 96, 97, 98, 99, 100, 101, 102, 103] (by decide +kernel) (by decide +kernel))
set_option maxHeartbeats 4000000 in
set_option maxRecDepth 100000 in
theorem s_X12_key (l : Launch) (D : va_G) (sz : Nat) (o : Nat) (a : Nat → Nat) (t : Nat → ClassId) (i : Nat → Int32) (q : Int64) (c : Nat → Nat → Int32) (d : Nat → Nat → Int64) (w : Int32) (hI : mInv i c) : Met l yX12_key wm_X12_key ({ frames := 2, cells := 0, slots := 0, locals := 46 }) (va_Pc [.ref o, .int w] (pB D sz (mW o a t i q c d) (mT t))) (va_Qi (fun (r : Int32) (u : MS) => True ∧ mInv u.1 u.2.2.1 ∧ (∀ k, k ∉ ([0] : List Nat) → u.1 k = i k) ∧ (∀ k, k ∉ ([1] : List Nat) → u.2.2.1 k = c k)) (oC D (va_A (mW o a t i q c d) sz) (fun u : MS => mW o a t u.1 u.2.1 u.2.2.1 u.2.2.2) (fun _ => [])) (va_A (mW o a t i q c d) sz)) 0 0 (va_A (mW o a t i q c d) sz) := by
  refine Met.ofW (cc := cX12_key) (maxL := 2) (ret := (some .int)) (by decide) rfl ?_
  intro p e s m args below meth cd s₁ B hml hv
  obtain ⟨rfl, hsz, hP, hK, hD0⟩ := hv
  have hx := B.exec
  have hb := B.bytes
  have hr := B.returns
  have hts := atoms_spec (ws := wm_X12_key) B.pre
  have hown : s.vm.findClass RX12 = some m.cls := findClass_of_methodNamed B.named
  have hlocks := B.notSynchronized
  subst hsz
  have hD := hD0.self (sz := s.heap.size)
  generalize hAe : va_A (mW o a t i q c d) s.heap.size = A at hD ⊢
  have hA : ∀ q : Nat, s.heap.size ≤ q → A q := fun q h => by rw [← hAe]; exact Or.inr h
  have hS : va_S A s.heap s.heap [] := va_S.rf
  have hfi : ∀ k, k ∉ ([0] : List Nat) → i k = i k := fun _ _ => rfl
  have hfc : ∀ k, k ∉ ([1] : List Nat) → c k = c k := fun _ _ => rfl
  have hl := lv_entry ([.ref o, .int w]) (n := 2) (Nat.le_of_ble_eq_true rfl)
  rw [lg_entry_eq]
  generalize (lg_sl ([.ref o, .int w]) ++ List.replicate (2 - (lg_sl ([.ref o, .int w])).length) Slot.unset).toArray = ls at hl ⊢
  have hl : lv_has ls 2 [(0, .ref o), (1, .int w)] := hl
  refine lv_aload_n hx hb dX12_key_0 rfl (lv_at hl 0 rfl) ?_
  refine lv_iload_n hx hb dX12_key_1 rfl (lv_at hl 1 rfl) ?_
  have rb5_i : 0 ≤ (i 5).toInt ∧ (i 5).toInt ≤ 30 := hI.1 5
  refine ro_calli (va_runV (As := [.int w]) (rest := []) ⟨hx, hb, hml, hown, hts⟩ (s_X12_isObject l D s.heap.size o a t i q c d w hI ) (cwV 1 hts gm_X12_key_X12_isObject rfl rfl rfl (by decide +kernel) ⟨Nat.le_of_ble_eq_true rfl, Nat.le_of_ble_eq_true rfl⟩) (pA_V hK hP (ci := 12) (q0 := 0) rfl rfl) rfl rfl hl.1 rfl (lv_room (Nat.le_of_ble_eq_true rfl)) dX12_key_2 ⟨Nat.le_of_ble_eq_true rfl, Nat.le_of_ble_eq_true rfl⟩) hS hA hP (fun r1 u1 H locs hw1 hP hS => ?_)
  have hw1 : r1 = if (0 ≤ w.toInt ∧ w.toInt ≤ (i 5).toInt - 1) then 1 else 0 := hw1
  refine lv_if_ne (tgt := 12) hx hb dX12_key_5 (by decide) (fun c2 => ?_) (fun c2 => ?_)
  · have f2 := fl_t hw1 c2
    refine lv_aload_n hx hb dX12_key_12 rfl (lv_at hl 0 rfl) ?_
    refine lv_iload_n hx hb dX12_key_13 rfl (lv_at hl 1 rfl) ?_
    refine ro_calli (va_runV (As := [.int w]) (rest := []) ⟨hx, hb, hml, hown, hts⟩ (s_X12_isShutter l D H.size o a t i q c d w hI (by omega)) (cwV 1 hts gm_X12_key_X12_isShutter rfl rfl rfl (by decide +kernel) ⟨Nat.le_of_ble_eq_true rfl, Nat.le_of_ble_eq_true rfl⟩) (pA_V hK hP (ci := 12) (q0 := 0) rfl rfl) rfl rfl hl.1 rfl (lv_room (Nat.le_of_ble_eq_true rfl)) dX12_key_14 ⟨Nat.le_of_ble_eq_true rfl, Nat.le_of_ble_eq_true rfl⟩) hS hA hP (fun r3 u3 H locs hw3 hP hS => ?_)
    have hw3 : 0 ≤ r3.toInt ∧ r3.toInt ≤ 1 := hw3
    refine lv_if_eq (tgt := 28) hx hb dX12_key_17 (by decide) (fun c4 => ?_) (fun c4 => ?_)
    · have f4 := (ti_eq (a := r3.toInt) (b := 0) rfl (by decide)).mp c4
      refine lv_aload_n hx hb dX12_key_28 rfl (lv_at hl 0 rfl) ?_
      refine lv_iconst (v := 3) hx hb dX12_key_29 (by decide) ?_
      refine al_calli (va_runV (As := [.int 3]) (rest := []) ⟨hx, hb, hml, hown, hts⟩ (s_X12_meets l D H.size o a t i q c d 3 hI (by have h90 : (3 : Int32).toInt = 3 := (by decide); omega)) (cwV 1 hts gm_X12_key_X12_meets rfl rfl rfl (by decide +kernel) ⟨Nat.le_of_ble_eq_true rfl, Nat.le_of_ble_eq_true rfl⟩) (pB_V hK hP hD (ci := 12) (q0 := 0) rfl rfl) rfl rfl hl.1 rfl (lv_room (Nat.le_of_ble_eq_true rfl)) dX12_key_30 ⟨Nat.le_of_ble_eq_true rfl, Nat.le_of_ble_eq_true rfl⟩) hS hA hP hD (fun r5 u5 H locs hw5 hP hD hS => ?_)
      obtain ⟨i5, q5, c5, d5⟩ := u5
      have hw5 : r5 = (-3) ∧ mInv i5 c5 ∧ (∀ k, k ∉ ([0] : List Nat) → i5 k = i k) ∧ (∀ k, k ∉ ([1] : List Nat) → c5 k = c k) := hw5
      obtain ⟨hw5, hI, hei5, hec5⟩ := hw5
      have hfi := fr_t hfi hei5 (by decide)
      have hfc := fr_t hfc hec5 (by decide)
      have hP : va_P D vwCl (mW o a t i5 q5 c5 d5) H := hP
      have hD : va_D A (mW o a t i5 q5 c5 d5) := hD
      have hw5 : r5 = (-3) := hw5
      subst hw5
      exact rw_iret (i5, q5, c5, d5) hx hb hr hlocks hS (hK.sub (tys' := []) [] rfl) hP hD dX12_key_33 ⟨trivial, hI, hfi, hfc⟩
    · have f4 := mt (ti_eq (a := r3.toInt) (b := 0) rfl (by decide)).mpr c4
      refine lv_aload_n hx hb dX12_key_20 rfl (lv_at hl 0 rfl) ?_
      refine lv_iload_n hx hb dX12_key_21 rfl (lv_at hl 1 rfl) ?_
      refine ro_calli (va_runV (As := [.int w]) (rest := []) ⟨hx, hb, hml, hown, hts⟩ (s_X12_keyOf l D H.size o a t i q c d w hI ) (cwV 1 hts gm_X12_key_X12_keyOf rfl rfl rfl (by decide +kernel) ⟨Nat.le_of_ble_eq_true rfl, Nat.le_of_ble_eq_true rfl⟩) (pA_V hK hP (ci := 12) (q0 := 0) rfl rfl) rfl rfl hl.1 rfl (lv_room (Nat.le_of_ble_eq_true rfl)) dX12_key_22 ⟨Nat.le_of_ble_eq_true rfl, Nat.le_of_ble_eq_true rfl⟩) hS hA hP (fun r6 u6 H locs hw6 hP hS => ?_)
      have hw6 : r6.toInt = -9 ∨ (0 ≤ r6.toInt ∧ r6.toInt ≤ 29) := hw6
      refine lv_goto (tgt := 33) hx hb dX12_key_25 (by decide) ?_
      exact rw_iret (i, q, c, d) hx hb hr hlocks hS (hK.sub (tys' := []) [] rfl) hP hD dX12_key_33 ⟨trivial, hI, hfi, hfc⟩
  · have f2 := fl_f hw1 c2
    refine lv_iconst (v := (-1)) hx hb dX12_key_8 (by decide) ?_
    refine lv_goto (tgt := 33) hx hb dX12_key_9 (by decide) ?_
    exact rw_iret (i, q, c, d) hx hb hr hlocks hS (hK.sub (tys' := []) [] rfl) hP hD dX12_key_33 ⟨trivial, hI, hfi, hfc⟩

def wm_X12_exit : List Cond := .code yX12_exit cX12_exit 4 (some .int) :: (([.methodLink RX12 180 yX12_isObject, .instanceMethod yX12_isObject, .selects RX12 yX12_isObject yX12_isObject, .initialized RX12, .code yX12_isObject cX12_isObject 2 (some .boolean), .fieldLink RX12 177 "TalePlayModel" "objects" "I", .methodLink RX12 166 yX12_in, .static yX12_in, .code yX12_in cX12_in 6 (some .boolean), .constantLong RX12 197 (9), .constantLong RX12 279 (3), .methodLink RX12 184 yX12_isOf, .instanceMethod yX12_isOf, .selects RX12 yX12_isOf yX12_isOf, .code yX12_isOf cX12_isOf 4 (some .boolean), .fieldLink RX12 19 "TalePlayModel" "kindOf" "[I", .fieldLink RX12 13 "TalePlayModel" "parentOf" "[I", .methodLink RX12 281 yX12_findExit, .instanceMethod yX12_findExit, .selects RX12 yX12_findExit yX12_findExit, .code yX12_findExit cX12_findExit 6 (some .boolean), .fieldLink RX12 263 "TalePlayModel" "leads" "I", .fieldLink RX12 266 "TalePlayModel" "byDoor" "I", .fieldLink RX12 269 "TalePlayModel" "bySentence" "I", .fieldLink RX12 272 "TalePlayModel" "isImplied" "Z", .fieldLink RX12 202 "TalePlayModel" "sentences" "I", .fieldLink RX12 28 "TalePlayModel" "left" "[I", .fieldLink RX12 31 "TalePlayModel" "middle" "[I", .methodLink RX12 276 yX12_otherSide, .instanceMethod yX12_otherSide, .selects RX12 yX12_otherSide yX12_otherSide, .code yX12_otherSide cX12_otherSide 4 (some .int), .fieldLink RX12 37 "TalePlayModel" "isSaid" "[Z", .fieldLink RX12 25 "TalePlayModel" "form" "[I", .fieldLink RX12 34 "TalePlayModel" "right" "[I", .methodLink RX12 233 yX12_meets, .instanceMethod yX12_meets, .selects RX12 yX12_meets yX12_meets, .code yX12_meets cX12_meets 2 (some .int), .fieldLink RX12 161 "TalePlayModel" "latest" "I", .fieldLink RX12 7 "TalePlayModel" "came" "[I"] : List Cond) ++ wsX120)
set_option maxRecDepth 20000 in
theorem gm_X12_exit_X12_isObject : GoodIn wm_X12_exit (wsV RX12 180 RX12 yX12_isObject wm_X12_isObject) := goodIn_app (goodIn_of _ (by decide +kernel)) (goodIn_r _ [5, 6, 7, 8, 4, 9, 42, 43, 44, 45, 46, 47, 48, 49, 50, 51, 52, 53, 54, 55, 56, 57, 58, 59, 60, 61, 62, 63, 64, 65, 66, 67, 68, 69, 70, 71, 72, 73, 74, 75, 76, 77, 78, 79, 80, 81, 82, 83, 84, 85, 86, 87, 88, 89, 90, 91, 92, 93, 94, 95, 96, 97, 98, 99, 100, 101, 102, 103, 104, 105, 106, 107, 108, 109, 110] (by decide +kernel) (by decide +kernel))
set_option maxRecDepth 20000 in
theorem gm_X12_exit_X12_in : GoodIn wm_X12_exit (va_wsS RX12 166 yX12_in wm_X12_in) := goodIn_app (goodIn_of _ (by decide +kernel)) (goodIn_r _ [9] (by decide +kernel) (by decide +kernel))
set_option maxRecDepth 20000 in
theorem gm_X12_exit_X12_isOf : GoodIn wm_X12_exit (wsV RX12 184 RX12 yX12_isOf wm_X12_isOf) := goodIn_app (goodIn_of _ (by decide +kernel)) (goodIn_r _ [15, 16, 17, 42, 43, 44, 45, 46, 47, 48, 49, 50, 51, 52, 53, 54, 55, 56, 57, 58, 59, 60, 61, 62, 63, 64, 65, 66, 67, 68, 69, 70, 71, 72, 73, 74, 75, 76, 77, 78, 79, 80, 81, 82, 83, 84, 85, 86, 87, 88, 89, 90, 91, 92, 93, 94, 95, 96, 97, 98, 99, 100, 101, 102, 103, 104, 105, 106, 107, 108, 109, 110] (by decide +kernel) (by decide +kernel))
set_option maxRecDepth 20000 in
theorem gm_X12_exit_X12_findExit : GoodIn wm_X12_exit (wsV RX12 281 RX12 yX12_findExit wm_X12_findExit) := goodIn_app (goodIn_of _ (by decide +kernel)) (goodIn_r _ [21, 22, 23, 24, 25, 26, 27, 28, 12, 13, 14, 4, 15, 16, 17, 29, 30, 31, 32, 33, 34, 35, 42, 43, 44, 45, 46, 47, 48, 49, 50, 51, 52, 53, 54, 55, 56, 57, 58, 59, 60, 61, 62, 63, 64, 65, 66, 67, 68, 69, 70, 71, 72, 73, 74, 75, 76, 77, 78, 79, 80, 81, 82, 83, 84, 85, 86, 87, 88, 89, 90, 91, 92, 93, 94, 95, 96, 97, 98, 99, 100, 101, 102, 103, 104, 105, 106, 107, 108, 109, 110] (by decide +kernel) (by decide +kernel))
set_option maxRecDepth 20000 in
theorem gm_X12_exit_X12_meets : GoodIn wm_X12_exit (wsV RX12 233 RX12 yX12_meets wm_X12_meets) := goodIn_app (goodIn_of _ (by decide +kernel)) (goodIn_r _ [39, 40, 41, 42, 43, 44, 45, 46, 47, 48, 49, 50, 51, 52, 53, 54, 55, 56, 57, 58, 59, 60, 61, 62, 63, 64, 65, 66, 67, 68, 69, 70, 71, 72, 73, 74, 75, 76, 77, 78, 79, 80, 81, 82, 83, 84, 85, 86, 87, 88, 89, 90, 91, 92, 93, 94, 95, 96, 97, 98, 99, 100, 101, 102, 103, 104, 105, 106, 107, 108, 109, 110] (by decide +kernel) (by decide +kernel))
set_option maxHeartbeats 4000000 in
set_option maxRecDepth 100000 in
theorem s_X12_exit (l : Launch) (D : va_G) (sz : Nat) (o : Nat) (a : Nat → Nat) (t : Nat → ClassId) (i : Nat → Int32) (q : Int64) (c : Nat → Nat → Int32) (d : Nat → Nat → Int64) (w : Int32) (d1 : Int32) (w1 : Int32) (hI : mInv i c) : Met l yX12_exit wm_X12_exit ({ frames := 2, cells := 0, slots := 0, locals := 48 }) (va_Pc [.ref o, .int w, .int d1, .int w1] (pB D sz (mW o a t i q c d) (mT t))) (va_Qi (fun (r : Int32) (u : MS) => True ∧ mInv u.1 u.2.2.1 ∧ (∀ k, k ∉ ([0, 16, 17, 18, 19] : List Nat) → u.1 k = i k) ∧ (∀ k, k ∉ ([1] : List Nat) → u.2.2.1 k = c k)) (oC D (va_A (mW o a t i q c d) sz) (fun u : MS => mW o a t u.1 u.2.1 u.2.2.1 u.2.2.2) (fun _ => [])) (va_A (mW o a t i q c d) sz)) 0 0 (va_A (mW o a t i q c d) sz) := by
  refine Met.ofW (cc := cX12_exit) (maxL := 4) (ret := (some .int)) (by decide) rfl ?_
  intro p e s m args below meth cd s₁ B hml hv
  obtain ⟨rfl, hsz, hP, hK, hD0⟩ := hv
  have hx := B.exec
  have hb := B.bytes
  have hr := B.returns
  have hts := atoms_spec (ws := wm_X12_exit) B.pre
  have hown : s.vm.findClass RX12 = some m.cls := findClass_of_methodNamed B.named
  have hlocks := B.notSynchronized
  subst hsz
  have hD := hD0.self (sz := s.heap.size)
  generalize hAe : va_A (mW o a t i q c d) s.heap.size = A at hD ⊢
  have hA : ∀ q : Nat, s.heap.size ≤ q → A q := fun q h => by rw [← hAe]; exact Or.inr h
  have hS : va_S A s.heap s.heap [] := va_S.rf
  have hfi : ∀ k, k ∉ ([0, 16, 17, 18, 19] : List Nat) → i k = i k := fun _ _ => rfl
  have hfc : ∀ k, k ∉ ([1] : List Nat) → c k = c k := fun _ _ => rfl
  have hl := lv_entry ([.ref o, .int w, .int d1, .int w1]) (n := 4) (Nat.le_of_ble_eq_true rfl)
  rw [lg_entry_eq]
  generalize (lg_sl ([.ref o, .int w, .int d1, .int w1]) ++ List.replicate (4 - (lg_sl ([.ref o, .int w, .int d1, .int w1])).length) Slot.unset).toArray = ls at hl ⊢
  have hl : lv_has ls 4 [(0, .ref o), (1, .int w), (2, .int d1), (3, .int w1)] := hl
  refine lv_aload_n hx hb dX12_exit_0 rfl (lv_at hl 0 rfl) ?_
  refine lv_iload_n hx hb dX12_exit_1 rfl (lv_at hl 1 rfl) ?_
  have rb5_i : 0 ≤ (i 5).toInt ∧ (i 5).toInt ≤ 30 := hI.1 5
  refine ro_calli (va_runV (As := [.int w]) (rest := []) ⟨hx, hb, hml, hown, hts⟩ (s_X12_isObject l D s.heap.size o a t i q c d w hI ) (cwV 1 hts gm_X12_exit_X12_isObject rfl rfl rfl (by decide +kernel) ⟨Nat.le_of_ble_eq_true rfl, Nat.le_of_ble_eq_true rfl⟩) (pA_V hK hP (ci := 12) (q0 := 0) rfl rfl) rfl rfl hl.1 rfl (lv_room (Nat.le_of_ble_eq_true rfl)) dX12_exit_2 ⟨Nat.le_of_ble_eq_true rfl, Nat.le_of_ble_eq_true rfl⟩) hS hA hP (fun r1 u1 H locs hw1 hP hS => ?_)
  have hw1 : r1 = if (0 ≤ w.toInt ∧ w.toInt ≤ (i 5).toInt - 1) then 1 else 0 := hw1
  refine lv_if_eq (tgt := 32) hx hb dX12_exit_5 (by decide) (fun c2 => ?_) (fun c2 => ?_)
  · have f2 := fl_f hw1 c2
    refine lv_iconst (v := (-1)) hx hb dX12_exit_32 (by decide) ?_
    exact rw_iret (i, q, c, d) hx hb hr hlocks hS (hK.sub (tys' := []) [] rfl) hP hD dX12_exit_33 ⟨trivial, hI, hfi, hfc⟩
  · have f2 := fl_t hw1 c2
    refine lv_iload_n hx hb dX12_exit_8 rfl (lv_at hl 2 rfl) ?_
    refine lv_i2l (v := d1.toInt64) hx hb dX12_exit_9 rfl ?_
    refine lv_lconst (v := 0) hx hb dX12_exit_10 (by decide) ?_
    refine lv_ldc2 (v := 9) hx hb hown (hts (.constantLong RX12 197 (9)) (by decide +kernel)) dX12_exit_11 ?_
    have hPc := hP.sub (ws' := []) [] rfl
    have hKc := hK.sub (tys' := []) [] rfl
    refine ro_calli (va_runS (As := [.long d1.toInt64, .long 0, .long 9]) (rest := []) ⟨hx, hb, hml, hown, hts⟩ (c_X12_in l D H.size d1.toInt64 0 9 d1.toInt 0 9 ((Int32.toInt_toInt64 d1).trans rfl) (by decide) (by decide)) (va_cwS 3 hts gm_X12_exit_X12_in rfl rfl rfl (by decide +kernel) ⟨Nat.le_of_ble_eq_true rfl, Nat.le_of_ble_eq_true rfl⟩) (pA_S hKc hPc) rfl rfl hl.1 rfl (lv_room (Nat.le_of_ble_eq_true rfl)) dX12_exit_14 ⟨Nat.le_of_ble_eq_true rfl, Nat.le_of_ble_eq_true rfl⟩) hS hA hP (fun r3 u3 H locs hw3 hP hS => ?_)
    have hw3 : r3 = if (0 ≤ d1.toInt ∧ d1.toInt ≤ 9) then 1 else 0 := hw3
    refine lv_if_eq (tgt := 32) hx hb dX12_exit_17 (by decide) (fun c4 => ?_) (fun c4 => ?_)
    · have f4 := fl_f hw3 c4
      refine lv_iconst (v := (-1)) hx hb dX12_exit_32 (by decide) ?_
      exact rw_iret (i, q, c, d) hx hb hr hlocks hS (hK.sub (tys' := []) [] rfl) hP hD dX12_exit_33 ⟨trivial, hI, hfi, hfc⟩
    · have f4 := fl_t hw3 c4
      refine lv_iload_n hx hb dX12_exit_20 rfl (lv_at hl 3 rfl) ?_
      refine lv_i2l (v := w1.toInt64) hx hb dX12_exit_21 rfl ?_
      refine lv_lconst (v := 0) hx hb dX12_exit_22 (by decide) ?_
      refine lv_ldc2 (v := 3) hx hb hown (hts (.constantLong RX12 279 (3)) (by decide +kernel)) dX12_exit_23 ?_
      have hPc := hP.sub (ws' := []) [] rfl
      have hKc := hK.sub (tys' := []) [] rfl
      refine ro_calli (va_runS (As := [.long w1.toInt64, .long 0, .long 3]) (rest := []) ⟨hx, hb, hml, hown, hts⟩ (c_X12_in l D H.size w1.toInt64 0 3 w1.toInt 0 3 ((Int32.toInt_toInt64 w1).trans rfl) (by decide) (by decide)) (va_cwS 3 hts gm_X12_exit_X12_in rfl rfl rfl (by decide +kernel) ⟨Nat.le_of_ble_eq_true rfl, Nat.le_of_ble_eq_true rfl⟩) (pA_S hKc hPc) rfl rfl hl.1 rfl (lv_room (Nat.le_of_ble_eq_true rfl)) dX12_exit_26 ⟨Nat.le_of_ble_eq_true rfl, Nat.le_of_ble_eq_true rfl⟩) hS hA hP (fun r5 u5 H locs hw5 hP hS => ?_)
      have hw5 : r5 = if (0 ≤ w1.toInt ∧ w1.toInt ≤ 3) then 1 else 0 := hw5
      refine lv_if_ne (tgt := 34) hx hb dX12_exit_29 (by decide) (fun c6 => ?_) (fun c6 => ?_)
      · have f6 := fl_t hw5 c6
        refine lv_aload_n hx hb dX12_exit_34 rfl (lv_at hl 0 rfl) ?_
        refine lv_iload_n hx hb dX12_exit_35 rfl (lv_at hl 1 rfl) ?_
        refine lv_iconst (v := 0) hx hb dX12_exit_36 (by decide) ?_
        refine ro_calli (va_runV (As := [.int w, .int 0]) (rest := []) ⟨hx, hb, hml, hown, hts⟩ (s_X12_isOf l D H.size o a t i q c d w 0 hI (by have h91 : (0 : Int32).toInt = 0 := (by decide); omega)) (cwV 2 hts gm_X12_exit_X12_isOf rfl rfl rfl (by decide +kernel) ⟨Nat.le_of_ble_eq_true rfl, Nat.le_of_ble_eq_true rfl⟩) (pA_V hK hP (ci := 12) (q0 := 0) rfl rfl) rfl rfl hl.1 rfl (lv_room (Nat.le_of_ble_eq_true rfl)) dX12_exit_37 ⟨Nat.le_of_ble_eq_true rfl, Nat.le_of_ble_eq_true rfl⟩) hS hA hP (fun r7 u7 H locs hw7 hP hS => ?_)
        have hw7 : 0 ≤ r7.toInt ∧ r7.toInt ≤ 1 := hw7
        refine lv_if_ne (tgt := 49) hx hb dX12_exit_40 (by decide) (fun c8 => ?_) (fun c8 => ?_)
        · have f8 := mt (ti_eq (a := r7.toInt) (b := 0) rfl (by decide)).mpr c8
          refine lv_aload_n hx hb dX12_exit_49 rfl (lv_at hl 0 rfl) ?_
          refine lv_iload_n hx hb dX12_exit_50 rfl (lv_at hl 1 rfl) ?_
          refine lv_iload_n hx hb dX12_exit_51 rfl (lv_at hl 2 rfl) ?_
          refine al_calli (va_runV (As := [.int w, .int d1]) (rest := []) ⟨hx, hb, hml, hown, hts⟩ (s_X12_findExit l D H.size o a t i q c d w d1 hI (by omega) (by omega)) (cwV 2 hts gm_X12_exit_X12_findExit rfl rfl rfl (by decide +kernel) ⟨Nat.le_of_ble_eq_true rfl, Nat.le_of_ble_eq_true rfl⟩) (pB_V hK hP hD (ci := 12) (q0 := 0) rfl rfl) rfl rfl hl.1 rfl (lv_room (Nat.le_of_ble_eq_true rfl)) dX12_exit_52 ⟨Nat.le_of_ble_eq_true rfl, Nat.le_of_ble_eq_true rfl⟩) hS hA hP hD (fun r9 u9 H locs hw9 hP hD hS => ?_)
          obtain ⟨i9, q9, c9, d9⟩ := u9
          have hw9 : (0 ≤ r9.toInt ∧ r9.toInt ≤ 1) ∧ mInv i9 c9 ∧ (∀ k, k ∉ ([16, 17, 18, 19] : List Nat) → i9 k = i k) ∧ (∀ k, k ∉ ([] : List Nat) → c9 k = c k) := hw9
          obtain ⟨hw9, hI, hei9, hec9⟩ := hw9
          have hfi := fr_t hfi hei9 (by decide)
          have hfc := fr_t hfc hec9 (by decide)
          have hP : va_P D vwCl (mW o a t i9 q9 c9 d9) H := hP
          have hD : va_D A (mW o a t i9 q9 c9 d9) := hD
          have hw9 : 0 ≤ r9.toInt ∧ r9.toInt ≤ 1 := hw9
          refine lv_if_ne (tgt := 61) hx hb dX12_exit_55 (by decide) (fun c10 => ?_) (fun c10 => ?_)
          · have f10 := mt (ti_eq (a := r9.toInt) (b := 0) rfl (by decide)).mpr c10
            refine lv_iload_n hx hb dX12_exit_61 rfl (lv_at hl 3 rfl) ?_
            refine lv_if_ne (tgt := 72) hx hb dX12_exit_62 (by decide) (fun c11 => ?_) (fun c11 => ?_)
            · have f11 := mt (ti_eq (a := w1.toInt) (b := 0) rfl (by decide)).mpr c11
              refine lv_iload_n hx hb dX12_exit_72 rfl (lv_at hl 3 rfl) ?_
              refine lv_iconst (v := 1) hx hb dX12_exit_73 (by decide) ?_
              refine lv_icmp_ne (tgt := 84) hx hb dX12_exit_74 (by decide) (fun c12 => ?_) (fun c12 => ?_)
              · have f12 := mt (ti_eq (a := w1.toInt) (b := 1) rfl (by decide)).mpr c12
                refine lv_iload_n hx hb dX12_exit_84 rfl (lv_at hl 3 rfl) ?_
                refine lv_iconst (v := 2) hx hb dX12_exit_85 (by decide) ?_
                refine lv_icmp_ne (tgt := 96) hx hb dX12_exit_86 (by decide) (fun c13 => ?_) (fun c13 => ?_)
                · have f13 := mt (ti_eq (a := w1.toInt) (b := 2) rfl (by decide)).mpr c13
                  refine lv_aload_n hx hb dX12_exit_96 rfl (lv_at hl 0 rfl) ?_
                  refine mget_19 (v := (i9 19)) rfl hx hb hts (fun _ h => List.mem_cons_of_mem _ (List.mem_append_right _ h)) hown hK hP (hts (.fieldLink RX12 272 "TalePlayModel" "isImplied" "Z") (by decide +kernel)) dX12_exit_97 ?_
                  have rb19_i9 : 0 ≤ (i9 19).toInt ∧ (i9 19).toInt ≤ 1 := hI.1 19
                  refine lv_if_eq (tgt := 107) hx hb dX12_exit_100 (by decide) (fun c14 => ?_) (fun c14 => ?_)
                  · have f14 := (ti_eq (a := (i9 19).toInt) (b := 0) rfl (by decide)).mp c14
                    refine lv_iconst (v := 0) hx hb dX12_exit_107 (by decide) ?_
                    exact rw_iret (i9, q9, c9, d9) hx hb hr hlocks hS (hK.sub (tys' := []) [] rfl) hP hD dX12_exit_108 ⟨trivial, hI, hfi, hfc⟩
                  · have f14 := mt (ti_eq (a := (i9 19).toInt) (b := 0) rfl (by decide)).mpr c14
                    refine lv_iconst (v := 1) hx hb dX12_exit_103 (by decide) ?_
                    refine lv_goto (tgt := 108) hx hb dX12_exit_104 (by decide) ?_
                    exact rw_iret (i9, q9, c9, d9) hx hb hr hlocks hS (hK.sub (tys' := []) [] rfl) hP hD dX12_exit_108 ⟨trivial, hI, hfi, hfc⟩
                · have f13 := (ti_eq (a := w1.toInt) (b := 2) rfl (by decide)).mp c13
                  refine lv_aload_n hx hb dX12_exit_89 rfl (lv_at hl 0 rfl) ?_
                  refine mget_18 (v := (i9 18)) rfl hx hb hts (fun _ h => List.mem_cons_of_mem _ (List.mem_append_right _ h)) hown hK hP (hts (.fieldLink RX12 269 "TalePlayModel" "bySentence" "I") (by decide +kernel)) dX12_exit_90 ?_
                  have rb18_i9 : (i9 18).toInt = -9 ∨ (0 ≤ (i9 18).toInt ∧ (i9 18).toInt ≤ 199) := hI.1 18
                  refine lv_goto (tgt := 108) hx hb dX12_exit_93 (by decide) ?_
                  exact rw_iret (i9, q9, c9, d9) hx hb hr hlocks hS (hK.sub (tys' := []) [] rfl) hP hD dX12_exit_108 ⟨trivial, hI, hfi, hfc⟩
              · have f12 := (ti_eq (a := w1.toInt) (b := 1) rfl (by decide)).mp c12
                refine lv_aload_n hx hb dX12_exit_77 rfl (lv_at hl 0 rfl) ?_
                refine mget_17 (v := (i9 17)) rfl hx hb hts (fun _ h => List.mem_cons_of_mem _ (List.mem_append_right _ h)) hown hK hP (hts (.fieldLink RX12 266 "TalePlayModel" "byDoor" "I") (by decide +kernel)) dX12_exit_78 ?_
                have rb17_i9 : (i9 17).toInt = -9 ∨ (0 ≤ (i9 17).toInt ∧ (i9 17).toInt ≤ 29) := hI.1 17
                refine lv_goto (tgt := 108) hx hb dX12_exit_81 (by decide) ?_
                exact rw_iret (i9, q9, c9, d9) hx hb hr hlocks hS (hK.sub (tys' := []) [] rfl) hP hD dX12_exit_108 ⟨trivial, hI, hfi, hfc⟩
            · have f11 := (ti_eq (a := w1.toInt) (b := 0) rfl (by decide)).mp c11
              refine lv_aload_n hx hb dX12_exit_65 rfl (lv_at hl 0 rfl) ?_
              refine mget_16 (v := (i9 16)) rfl hx hb hts (fun _ h => List.mem_cons_of_mem _ (List.mem_append_right _ h)) hown hK hP (hts (.fieldLink RX12 263 "TalePlayModel" "leads" "I") (by decide +kernel)) dX12_exit_66 ?_
              have rb16_i9 : (i9 16).toInt = -9 ∨ (0 ≤ (i9 16).toInt ∧ (i9 16).toInt ≤ 29) := hI.1 16
              refine lv_goto (tgt := 108) hx hb dX12_exit_69 (by decide) ?_
              exact rw_iret (i9, q9, c9, d9) hx hb hr hlocks hS (hK.sub (tys' := []) [] rfl) hP hD dX12_exit_108 ⟨trivial, hI, hfi, hfc⟩
          · have f10 := (ti_eq (a := r9.toInt) (b := 0) rfl (by decide)).mp c10
            refine lv_bipush (v := (-9)) hx hb dX12_exit_58 (by decide) ?_
            exact rw_iret (i9, q9, c9, d9) hx hb hr hlocks hS (hK.sub (tys' := []) [] rfl) hP hD dX12_exit_60 ⟨trivial, hI, hfi, hfc⟩
        · have f8 := (ti_eq (a := r7.toInt) (b := 0) rfl (by decide)).mp c8
          refine lv_aload_n hx hb dX12_exit_43 rfl (lv_at hl 0 rfl) ?_
          refine lv_iconst (v := 3) hx hb dX12_exit_44 (by decide) ?_
          refine al_calli (va_runV (As := [.int 3]) (rest := []) ⟨hx, hb, hml, hown, hts⟩ (s_X12_meets l D H.size o a t i q c d 3 hI (by have h90 : (3 : Int32).toInt = 3 := (by decide); omega)) (cwV 1 hts gm_X12_exit_X12_meets rfl rfl rfl (by decide +kernel) ⟨Nat.le_of_ble_eq_true rfl, Nat.le_of_ble_eq_true rfl⟩) (pB_V hK hP hD (ci := 12) (q0 := 0) rfl rfl) rfl rfl hl.1 rfl (lv_room (Nat.le_of_ble_eq_true rfl)) dX12_exit_45 ⟨Nat.le_of_ble_eq_true rfl, Nat.le_of_ble_eq_true rfl⟩) hS hA hP hD (fun r15 u15 H locs hw15 hP hD hS => ?_)
          obtain ⟨i15, q15, c15, d15⟩ := u15
          have hw15 : r15 = (-3) ∧ mInv i15 c15 ∧ (∀ k, k ∉ ([0] : List Nat) → i15 k = i k) ∧ (∀ k, k ∉ ([1] : List Nat) → c15 k = c k) := hw15
          obtain ⟨hw15, hI, hei15, hec15⟩ := hw15
          have hfi := fr_t hfi hei15 (by decide)
          have hfc := fr_t hfc hec15 (by decide)
          have hP : va_P D vwCl (mW o a t i15 q15 c15 d15) H := hP
          have hD : va_D A (mW o a t i15 q15 c15 d15) := hD
          have hw15 : r15 = (-3) := hw15
          subst hw15
          exact rw_iret (i15, q15, c15, d15) hx hb hr hlocks hS (hK.sub (tys' := []) [] rfl) hP hD dX12_exit_48 ⟨trivial, hI, hfi, hfc⟩
      · have f6 := fl_f hw5 c6
        refine lv_iconst (v := (-1)) hx hb dX12_exit_32 (by decide) ?_
        exact rw_iret (i, q, c, d) hx hb hr hlocks hS (hK.sub (tys' := []) [] rfl) hP hD dX12_exit_33 ⟨trivial, hI, hfi, hfc⟩

def wm_X12_wayRefused : List Cond := .code yX12_wayRefused cX12_wayRefused 3 (some .int) :: (([.methodLink RX12 180 yX12_isObject, .instanceMethod yX12_isObject, .selects RX12 yX12_isObject yX12_isObject, .initialized RX12, .code yX12_isObject cX12_isObject 2 (some .boolean), .fieldLink RX12 177 "TalePlayModel" "objects" "I", .methodLink RX12 166 yX12_in, .static yX12_in, .code yX12_in cX12_in 6 (some .boolean), .methodLink RX12 184 yX12_isOf, .instanceMethod yX12_isOf, .selects RX12 yX12_isOf yX12_isOf, .code yX12_isOf cX12_isOf 4 (some .boolean), .fieldLink RX12 19 "TalePlayModel" "kindOf" "[I", .fieldLink RX12 13 "TalePlayModel" "parentOf" "[I", .methodLink RX12 233 yX12_meets, .instanceMethod yX12_meets, .selects RX12 yX12_meets yX12_meets, .code yX12_meets cX12_meets 2 (some .int), .fieldLink RX12 161 "TalePlayModel" "latest" "I", .fieldLink RX12 7 "TalePlayModel" "came" "[I"] : List Cond) ++ wsX120)
set_option maxRecDepth 20000 in
theorem gm_X12_wayRefused_X12_isObject : GoodIn wm_X12_wayRefused (wsV RX12 180 RX12 yX12_isObject wm_X12_isObject) := goodIn_app (goodIn_of _ (by decide +kernel)) (goodIn_r _ [5, 6, 7, 8, 4, 9, 22, 23, 24, 25, 26, 27, 28, 29, 30, 31, 32, 33, 34, 35, 36, 37, 38, 39, 40, 41, 42, 43, 44, 45, 46, 47, 48, 49, 50, 51, 52, 53, 54, 55, 56, 57, 58, 59, 60, 61, 62, 63, 64, 65, 66, 67, 68, 69, 70, 71, 72, 73, 74, 75, 76, 77, 78, 79, 80, 81, 82, 83, 84, 85, 86, 87, 88, 89, 90] (by decide +kernel) (by decide +kernel))
set_option maxRecDepth 20000 in
theorem gm_X12_wayRefused_X12_isOf : GoodIn wm_X12_wayRefused (wsV RX12 184 RX12 yX12_isOf wm_X12_isOf) := goodIn_app (goodIn_of _ (by decide +kernel)) (goodIn_r _ [13, 14, 15, 22, 23, 24, 25, 26, 27, 28, 29, 30, 31, 32, 33, 34, 35, 36, 37, 38, 39, 40, 41, 42, 43, 44, 45, 46, 47, 48, 49, 50, 51, 52, 53, 54, 55, 56, 57, 58, 59, 60, 61, 62, 63, 64, 65, 66, 67, 68, 69, 70, 71, 72, 73, 74, 75, 76, 77, 78, 79, 80, 81, 82, 83, 84, 85, 86, 87, 88, 89, 90] (by decide +kernel) (by decide +kernel))
set_option maxRecDepth 20000 in
theorem gm_X12_wayRefused_X12_meets : GoodIn wm_X12_wayRefused (wsV RX12 233 RX12 yX12_meets wm_X12_meets) := goodIn_app (goodIn_of _ (by decide +kernel)) (goodIn_r _ [19, 20, 21, 22, 23, 24, 25, 26, 27, 28, 29, 30, 31, 32, 33, 34, 35, 36, 37, 38, 39, 40, 41, 42, 43, 44, 45, 46, 47, 48, 49, 50, 51, 52, 53, 54, 55, 56, 57, 58, 59, 60, 61, 62, 63, 64, 65, 66, 67, 68, 69, 70, 71, 72, 73, 74, 75, 76, 77, 78, 79, 80, 81, 82, 83, 84, 85, 86, 87, 88, 89, 90] (by decide +kernel) (by decide +kernel))
set_option maxHeartbeats 4000000 in
set_option maxRecDepth 100000 in
theorem s_X12_wayRefused (l : Launch) (D : va_G) (sz : Nat) (o : Nat) (a : Nat → Nat) (t : Nat → ClassId) (i : Nat → Int32) (q : Int64) (c : Nat → Nat → Int32) (d : Nat → Nat → Int64) (w1 : Int32) (w2 : Int32) (hI : mInv i c) : Met l yX12_wayRefused wm_X12_wayRefused ({ frames := 2, cells := 0, slots := 0, locals := 46 }) (va_Pc [.ref o, .int w1, .int w2] (pB D sz (mW o a t i q c d) (mT t))) (va_Qi (fun (r : Int32) (u : MS) => ((r.toInt = 0 ∧ 0 ≤ w1.toInt ∧ w1.toInt ≤ 29 ∧ 0 ≤ w2.toInt ∧ w2.toInt ≤ 29) ∨ r.toInt < 0) ∧ mInv u.1 u.2.2.1 ∧ (∀ k, k ∉ ([0] : List Nat) → u.1 k = i k) ∧ (∀ k, k ∉ ([1] : List Nat) → u.2.2.1 k = c k)) (oC D (va_A (mW o a t i q c d) sz) (fun u : MS => mW o a t u.1 u.2.1 u.2.2.1 u.2.2.2) (fun _ => [])) (va_A (mW o a t i q c d) sz)) 0 0 (va_A (mW o a t i q c d) sz) := by
  refine Met.ofW (cc := cX12_wayRefused) (maxL := 3) (ret := (some .int)) (by decide) rfl ?_
  intro p e s m args below meth cd s₁ B hml hv
  obtain ⟨rfl, hsz, hP, hK, hD0⟩ := hv
  have hx := B.exec
  have hb := B.bytes
  have hr := B.returns
  have hts := atoms_spec (ws := wm_X12_wayRefused) B.pre
  have hown : s.vm.findClass RX12 = some m.cls := findClass_of_methodNamed B.named
  have hlocks := B.notSynchronized
  subst hsz
  have hD := hD0.self (sz := s.heap.size)
  generalize hAe : va_A (mW o a t i q c d) s.heap.size = A at hD ⊢
  have hA : ∀ q : Nat, s.heap.size ≤ q → A q := fun q h => by rw [← hAe]; exact Or.inr h
  have hS : va_S A s.heap s.heap [] := va_S.rf
  have hfi : ∀ k, k ∉ ([0] : List Nat) → i k = i k := fun _ _ => rfl
  have hfc : ∀ k, k ∉ ([1] : List Nat) → c k = c k := fun _ _ => rfl
  have hl := lv_entry ([.ref o, .int w1, .int w2]) (n := 3) (Nat.le_of_ble_eq_true rfl)
  rw [lg_entry_eq]
  generalize (lg_sl ([.ref o, .int w1, .int w2]) ++ List.replicate (3 - (lg_sl ([.ref o, .int w1, .int w2])).length) Slot.unset).toArray = ls at hl ⊢
  have hl : lv_has ls 3 [(0, .ref o), (1, .int w1), (2, .int w2)] := hl
  refine lv_aload_n hx hb dX12_wayRefused_0 rfl (lv_at hl 0 rfl) ?_
  refine lv_iload_n hx hb dX12_wayRefused_1 rfl (lv_at hl 1 rfl) ?_
  have rb5_i : 0 ≤ (i 5).toInt ∧ (i 5).toInt ≤ 30 := hI.1 5
  refine ro_calli (va_runV (As := [.int w1]) (rest := []) ⟨hx, hb, hml, hown, hts⟩ (s_X12_isObject l D s.heap.size o a t i q c d w1 hI ) (cwV 1 hts gm_X12_wayRefused_X12_isObject rfl rfl rfl (by decide +kernel) ⟨Nat.le_of_ble_eq_true rfl, Nat.le_of_ble_eq_true rfl⟩) (pA_V hK hP (ci := 12) (q0 := 0) rfl rfl) rfl rfl hl.1 rfl (lv_room (Nat.le_of_ble_eq_true rfl)) dX12_wayRefused_2 ⟨Nat.le_of_ble_eq_true rfl, Nat.le_of_ble_eq_true rfl⟩) hS hA hP (fun r1 u1 H locs hw1 hP hS => ?_)
  have hw1 : r1 = if (0 ≤ w1.toInt ∧ w1.toInt ≤ (i 5).toInt - 1) then 1 else 0 := hw1
  refine lv_if_eq (tgt := 16) hx hb dX12_wayRefused_5 (by decide) (fun c2 => ?_) (fun c2 => ?_)
  · have f2 := fl_f hw1 c2
    refine lv_iconst (v := (-1)) hx hb dX12_wayRefused_16 (by decide) ?_
    refine lv_goto (tgt := 47) hx hb dX12_wayRefused_17 (by decide) ?_
    exact rw_iret (i, q, c, d) hx hb hr hlocks hS (hK.sub (tys' := []) [] rfl) hP hD dX12_wayRefused_47 ⟨(show (((-1) : Int32).toInt = 0 ∧ 0 ≤ w1.toInt ∧ w1.toInt ≤ 29 ∧ 0 ≤ w2.toInt ∧ w2.toInt ≤ 29) ∨ ((-1) : Int32).toInt < 0 from by have h9 : ((-1) : Int32).toInt = -1 := (by decide); omega), hI, hfi, hfc⟩
  · have f2 := fl_t hw1 c2
    refine lv_aload_n hx hb dX12_wayRefused_8 rfl (lv_at hl 0 rfl) ?_
    refine lv_iload_n hx hb dX12_wayRefused_9 rfl (lv_at hl 2 rfl) ?_
    refine ro_calli (va_runV (As := [.int w2]) (rest := []) ⟨hx, hb, hml, hown, hts⟩ (s_X12_isObject l D H.size o a t i q c d w2 hI ) (cwV 1 hts gm_X12_wayRefused_X12_isObject rfl rfl rfl (by decide +kernel) ⟨Nat.le_of_ble_eq_true rfl, Nat.le_of_ble_eq_true rfl⟩) (pA_V hK hP (ci := 12) (q0 := 0) rfl rfl) rfl rfl hl.1 rfl (lv_room (Nat.le_of_ble_eq_true rfl)) dX12_wayRefused_10 ⟨Nat.le_of_ble_eq_true rfl, Nat.le_of_ble_eq_true rfl⟩) hS hA hP (fun r3 u3 H locs hw3 hP hS => ?_)
    have hw3 : r3 = if (0 ≤ w2.toInt ∧ w2.toInt ≤ (i 5).toInt - 1) then 1 else 0 := hw3
    refine lv_if_ne (tgt := 20) hx hb dX12_wayRefused_13 (by decide) (fun c4 => ?_) (fun c4 => ?_)
    · have f4 := fl_t hw3 c4
      refine lv_aload_n hx hb dX12_wayRefused_20 rfl (lv_at hl 0 rfl) ?_
      refine lv_iload_n hx hb dX12_wayRefused_21 rfl (lv_at hl 1 rfl) ?_
      refine lv_iconst (v := 0) hx hb dX12_wayRefused_22 (by decide) ?_
      refine ro_calli (va_runV (As := [.int w1, .int 0]) (rest := []) ⟨hx, hb, hml, hown, hts⟩ (s_X12_isOf l D H.size o a t i q c d w1 0 hI (by have h91 : (0 : Int32).toInt = 0 := (by decide); omega)) (cwV 2 hts gm_X12_wayRefused_X12_isOf rfl rfl rfl (by decide +kernel) ⟨Nat.le_of_ble_eq_true rfl, Nat.le_of_ble_eq_true rfl⟩) (pA_V hK hP (ci := 12) (q0 := 0) rfl rfl) rfl rfl hl.1 rfl (lv_room (Nat.le_of_ble_eq_true rfl)) dX12_wayRefused_23 ⟨Nat.le_of_ble_eq_true rfl, Nat.le_of_ble_eq_true rfl⟩) hS hA hP (fun r5 u5 H locs hw5 hP hS => ?_)
      have hw5 : 0 ≤ r5.toInt ∧ r5.toInt ≤ 1 := hw5
      refine lv_if_eq (tgt := 38) hx hb dX12_wayRefused_26 (by decide) (fun c6 => ?_) (fun c6 => ?_)
      · have f6 := (ti_eq (a := r5.toInt) (b := 0) rfl (by decide)).mp c6
        refine lv_aload_n hx hb dX12_wayRefused_38 rfl (lv_at hl 0 rfl) ?_
        refine lv_iconst (v := 3) hx hb dX12_wayRefused_39 (by decide) ?_
        refine al_calli (va_runV (As := [.int 3]) (rest := []) ⟨hx, hb, hml, hown, hts⟩ (s_X12_meets l D H.size o a t i q c d 3 hI (by have h90 : (3 : Int32).toInt = 3 := (by decide); omega)) (cwV 1 hts gm_X12_wayRefused_X12_meets rfl rfl rfl (by decide +kernel) ⟨Nat.le_of_ble_eq_true rfl, Nat.le_of_ble_eq_true rfl⟩) (pB_V hK hP hD (ci := 12) (q0 := 0) rfl rfl) rfl rfl hl.1 rfl (lv_room (Nat.le_of_ble_eq_true rfl)) dX12_wayRefused_40 ⟨Nat.le_of_ble_eq_true rfl, Nat.le_of_ble_eq_true rfl⟩) hS hA hP hD (fun r7 u7 H locs hw7 hP hD hS => ?_)
        obtain ⟨i7, q7, c7, d7⟩ := u7
        have hw7 : r7 = (-3) ∧ mInv i7 c7 ∧ (∀ k, k ∉ ([0] : List Nat) → i7 k = i k) ∧ (∀ k, k ∉ ([1] : List Nat) → c7 k = c k) := hw7
        obtain ⟨hw7, hI, hei7, hec7⟩ := hw7
        have hfi := fr_t hfi hei7 (by decide)
        have hfc := fr_t hfc hec7 (by decide)
        have hP : va_P D vwCl (mW o a t i7 q7 c7 d7) H := hP
        have hD : va_D A (mW o a t i7 q7 c7 d7) := hD
        have hw7 : r7 = (-3) := hw7
        subst hw7
        refine lv_goto (tgt := 47) hx hb dX12_wayRefused_43 (by decide) ?_
        exact rw_iret (i7, q7, c7, d7) hx hb hr hlocks hS (hK.sub (tys' := []) [] rfl) hP hD dX12_wayRefused_47 ⟨(show (((-3) : Int32).toInt = 0 ∧ 0 ≤ w1.toInt ∧ w1.toInt ≤ 29 ∧ 0 ≤ w2.toInt ∧ w2.toInt ≤ 29) ∨ ((-3) : Int32).toInt < 0 from by have h9 : ((-3) : Int32).toInt = -3 := (by decide); omega), hI, hfi, hfc⟩
      · have f6 := mt (ti_eq (a := r5.toInt) (b := 0) rfl (by decide)).mpr c6
        refine lv_aload_n hx hb dX12_wayRefused_29 rfl (lv_at hl 0 rfl) ?_
        refine lv_iload_n hx hb dX12_wayRefused_30 rfl (lv_at hl 2 rfl) ?_
        refine lv_iconst (v := 0) hx hb dX12_wayRefused_31 (by decide) ?_
        refine ro_calli (va_runV (As := [.int w2, .int 0]) (rest := []) ⟨hx, hb, hml, hown, hts⟩ (s_X12_isOf l D H.size o a t i q c d w2 0 hI (by have h91 : (0 : Int32).toInt = 0 := (by decide); omega)) (cwV 2 hts gm_X12_wayRefused_X12_isOf rfl rfl rfl (by decide +kernel) ⟨Nat.le_of_ble_eq_true rfl, Nat.le_of_ble_eq_true rfl⟩) (pA_V hK hP (ci := 12) (q0 := 0) rfl rfl) rfl rfl hl.1 rfl (lv_room (Nat.le_of_ble_eq_true rfl)) dX12_wayRefused_32 ⟨Nat.le_of_ble_eq_true rfl, Nat.le_of_ble_eq_true rfl⟩) hS hA hP (fun r8 u8 H locs hw8 hP hS => ?_)
        have hw8 : 0 ≤ r8.toInt ∧ r8.toInt ≤ 1 := hw8
        refine lv_if_ne (tgt := 46) hx hb dX12_wayRefused_35 (by decide) (fun c9 => ?_) (fun c9 => ?_)
        · have f9 := mt (ti_eq (a := r8.toInt) (b := 0) rfl (by decide)).mpr c9
          refine lv_iconst (v := 0) hx hb dX12_wayRefused_46 (by decide) ?_
          exact rw_iret (i, q, c, d) hx hb hr hlocks hS (hK.sub (tys' := []) [] rfl) hP hD dX12_wayRefused_47 ⟨(show ((0 : Int32).toInt = 0 ∧ 0 ≤ w1.toInt ∧ w1.toInt ≤ 29 ∧ 0 ≤ w2.toInt ∧ w2.toInt ≤ 29) ∨ (0 : Int32).toInt < 0 from by have h9 : (0 : Int32).toInt = 0 := (by decide); omega), hI, hfi, hfc⟩
        · have f9 := (ti_eq (a := r8.toInt) (b := 0) rfl (by decide)).mp c9
          refine lv_aload_n hx hb dX12_wayRefused_38 rfl (lv_at hl 0 rfl) ?_
          refine lv_iconst (v := 3) hx hb dX12_wayRefused_39 (by decide) ?_
          refine al_calli (va_runV (As := [.int 3]) (rest := []) ⟨hx, hb, hml, hown, hts⟩ (s_X12_meets l D H.size o a t i q c d 3 hI (by have h90 : (3 : Int32).toInt = 3 := (by decide); omega)) (cwV 1 hts gm_X12_wayRefused_X12_meets rfl rfl rfl (by decide +kernel) ⟨Nat.le_of_ble_eq_true rfl, Nat.le_of_ble_eq_true rfl⟩) (pB_V hK hP hD (ci := 12) (q0 := 0) rfl rfl) rfl rfl hl.1 rfl (lv_room (Nat.le_of_ble_eq_true rfl)) dX12_wayRefused_40 ⟨Nat.le_of_ble_eq_true rfl, Nat.le_of_ble_eq_true rfl⟩) hS hA hP hD (fun r10 u10 H locs hw10 hP hD hS => ?_)
          obtain ⟨i10, q10, c10, d10⟩ := u10
          have hw10 : r10 = (-3) ∧ mInv i10 c10 ∧ (∀ k, k ∉ ([0] : List Nat) → i10 k = i k) ∧ (∀ k, k ∉ ([1] : List Nat) → c10 k = c k) := hw10
          obtain ⟨hw10, hI, hei10, hec10⟩ := hw10
          have hfi := fr_t hfi hei10 (by decide)
          have hfc := fr_t hfc hec10 (by decide)
          have hP : va_P D vwCl (mW o a t i10 q10 c10 d10) H := hP
          have hD : va_D A (mW o a t i10 q10 c10 d10) := hD
          have hw10 : r10 = (-3) := hw10
          subst hw10
          refine lv_goto (tgt := 47) hx hb dX12_wayRefused_43 (by decide) ?_
          exact rw_iret (i10, q10, c10, d10) hx hb hr hlocks hS (hK.sub (tys' := []) [] rfl) hP hD dX12_wayRefused_47 ⟨(show (((-3) : Int32).toInt = 0 ∧ 0 ≤ w1.toInt ∧ w1.toInt ≤ 29 ∧ 0 ≤ w2.toInt ∧ w2.toInt ≤ 29) ∨ ((-3) : Int32).toInt < 0 from by have h9 : ((-3) : Int32).toInt = -3 := (by decide); omega), hI, hfi, hfc⟩
    · have f4 := fl_f hw3 c4
      refine lv_iconst (v := (-1)) hx hb dX12_wayRefused_16 (by decide) ?_
      refine lv_goto (tgt := 47) hx hb dX12_wayRefused_17 (by decide) ?_
      exact rw_iret (i, q, c, d) hx hb hr hlocks hS (hK.sub (tys' := []) [] rfl) hP hD dX12_wayRefused_47 ⟨(show (((-1) : Int32).toInt = 0 ∧ 0 ≤ w1.toInt ∧ w1.toInt ≤ 29 ∧ 0 ≤ w2.toInt ∧ w2.toInt ≤ 29) ∨ ((-1) : Int32).toInt < 0 from by have h9 : ((-1) : Int32).toInt = -1 := (by decide); omega), hI, hfi, hfc⟩

def wm_X12_beginBulk : List Cond := .code yX12_beginBulk cX12_beginBulk 3 (some .int) :: (([.fieldLink RX12 80 "TalePlayModel" "pile" "[I", .fieldLink RX12 83 "TalePlayModel" "nextIn" "[I", .methodLink RX12 184 yX12_isOf, .instanceMethod yX12_isOf, .selects RX12 yX12_isOf yX12_isOf, .initialized RX12, .code yX12_isOf cX12_isOf 4 (some .boolean), .fieldLink RX12 19 "TalePlayModel" "kindOf" "[I", .fieldLink RX12 13 "TalePlayModel" "parentOf" "[I", .methodLink RX12 300 yX12_body, .instanceMethod yX12_body, .selects RX12 yX12_body yX12_body, .code yX12_body cX12_body 2 none, .fieldLink RX12 294 "TalePlayModel" "traces" "Z", .fieldLink RX12 297 "TalePlayModel" "traced" "I", .fieldLink RX12 77 "TalePlayModel" "trace" "[I", .fieldLink RX12 22 "TalePlayModel" "sizeOf" "[I"] : List Cond) ++ wsX120)
set_option maxRecDepth 20000 in
theorem gm_X12_beginBulk_X12_isOf : GoodIn wm_X12_beginBulk (wsV RX12 184 RX12 yX12_isOf wm_X12_isOf) := goodIn_app (goodIn_of _ (by decide +kernel)) (goodIn_r _ [7, 8, 9, 18, 19, 20, 21, 22, 23, 24, 25, 26, 27, 28, 29, 30, 31, 32, 33, 34, 35, 36, 37, 38, 39, 40, 41, 42, 43, 44, 45, 46, 47, 48, 49, 50, 51, 52, 53, 54, 55, 56, 57, 58, 59, 60, 61, 62, 63, 64, 65, 66, 67, 68, 69, 70, 71, 72, 73, 74, 75, 76, 77, 78, 79, 80, 81, 82, 83, 84, 85, 86] (by decide +kernel) (by decide +kernel))
set_option maxRecDepth 20000 in
theorem gm_X12_beginBulk_X12_body : GoodIn wm_X12_beginBulk (wsV RX12 300 RX12 yX12_body wm_X12_body) := goodIn_app (goodIn_of _ (by decide +kernel)) (goodIn_r _ [13, 14, 15, 16, 18, 19, 20, 21, 22, 23, 24, 25, 26, 27, 28, 29, 30, 31, 32, 33, 34, 35, 36, 37, 38, 39, 40, 41, 42, 43, 44, 45, 46, 47, 48, 49, 50, 51, 52, 53, 54, 55, 56, 57, 58, 59, 60, 61, 62, 63, 64, 65, 66, 67, 68, 69, 70, 71, 72, 73, 74, 75, 76, 77, 78, 79, 80, 81, 82, 83, 84, 85, 86] (by decide +kernel) (by decide +kernel))
set_option maxHeartbeats 4000000 in
set_option maxRecDepth 100000 in
theorem s_X12_beginBulk (l : Launch) (D : va_G) (sz : Nat) (o : Nat) (a : Nat → Nat) (t : Nat → ClassId) (i : Nat → Int32) (q : Int64) (c : Nat → Nat → Int32) (d : Nat → Nat → Int64) (e1 : Int32) (w : Int32) (hI : mInv i c) (he1 : 0 ≤ e1.toInt ∧ e1.toInt ≤ 29) (hw : 0 ≤ w.toInt ∧ w.toInt ≤ 29) : Met l yX12_beginBulk wm_X12_beginBulk ({ frames := 1, cells := 0, slots := 0, locals := 23 }) (va_Pc [.ref o, .int e1, .int w] (pB D sz (mW o a t i q c d) (mT t))) (va_Qi (fun (r : Int32) (u : MS) => (0 ≤ r.toInt ∧ r.toInt ≤ 198) ∧ mInv u.1 u.2.2.1 ∧ (∀ k, k ∉ ([35] : List Nat) → u.1 k = i k) ∧ (∀ k, k ∉ ([34, 38, 39] : List Nat) → u.2.2.1 k = c k)) (oC D (va_A (mW o a t i q c d) sz) (fun u : MS => mW o a t u.1 u.2.1 u.2.2.1 u.2.2.2) (fun _ => [])) (va_A (mW o a t i q c d) sz)) 0 0 (va_A (mW o a t i q c d) sz) := by
  refine Met.ofW (cc := cX12_beginBulk) (maxL := 3) (ret := (some .int)) (by decide) rfl ?_
  intro p e s m args below meth cd s₁ B hml hv
  obtain ⟨rfl, hsz, hP, hK, hD0⟩ := hv
  have hx := B.exec
  have hb := B.bytes
  have hr := B.returns
  have hts := atoms_spec (ws := wm_X12_beginBulk) B.pre
  have hown : s.vm.findClass RX12 = some m.cls := findClass_of_methodNamed B.named
  have hlocks := B.notSynchronized
  subst hsz
  have hD := hD0.self (sz := s.heap.size)
  generalize hAe : va_A (mW o a t i q c d) s.heap.size = A at hD ⊢
  have hA : ∀ q : Nat, s.heap.size ≤ q → A q := fun q h => by rw [← hAe]; exact Or.inr h
  have hS : va_S A s.heap s.heap [] := va_S.rf
  have hfi : ∀ k, k ∉ ([35] : List Nat) → i k = i k := fun _ _ => rfl
  have hfc : ∀ k, k ∉ ([34, 38, 39] : List Nat) → c k = c k := fun _ _ => rfl
  have hl := lv_entry ([.ref o, .int e1, .int w]) (n := 3) (Nat.le_of_ble_eq_true rfl)
  rw [lg_entry_eq]
  generalize (lg_sl ([.ref o, .int e1, .int w]) ++ List.replicate (3 - (lg_sl ([.ref o, .int e1, .int w])).length) Slot.unset).toArray = ls at hl ⊢
  have hl : lv_has ls 3 [(0, .ref o), (1, .int e1), (2, .int w)] := hl
  refine lv_aload_n hx hb dX12_beginBulk_0 rfl (lv_at hl 0 rfl) ?_
  refine mget_38 hx hb hts (fun _ h => List.mem_cons_of_mem _ (List.mem_append_right _ h)) hown hK hP (hts (.fieldLink RX12 80 "TalePlayModel" "pile" "[I") (by decide +kernel)) dX12_beginBulk_1 ?_
  refine lv_iload_n hx hb dX12_beginBulk_4 rfl (lv_at hl 1 rfl) ?_
  refine lv_iload_n hx hb dX12_beginBulk_5 rfl (lv_at hl 2 rfl) ?_
  refine mst_38 hx hb hK hP hD hS (vp_in_iff.mpr (by have h9 : e1.toInt = e1.toInt := rfl; omega)) dX12_beginBulk_6 (fun H locs hP hD hS => ?_)
  have hI := mInv_c hI (k := 38) (j := (e1 : Int32).toNatClampNeg) (x := w) (show 0 ≤ (w : Int32).toInt ∧ (w : Int32).toInt ≤ 29 from by omega)
  have hfc := fr_c hfc (k := 38) (j := (e1 : Int32).toNatClampNeg) (x := w) (by decide)
  refine lv_aload_n hx hb dX12_beginBulk_7 rfl (lv_at hl 0 rfl) ?_
  refine mget_39 hx hb hts (fun _ h => List.mem_cons_of_mem _ (List.mem_append_right _ h)) hown hK hP (hts (.fieldLink RX12 83 "TalePlayModel" "nextIn" "[I") (by decide +kernel)) dX12_beginBulk_8 ?_
  refine lv_iload_n hx hb dX12_beginBulk_11 rfl (lv_at hl 1 rfl) ?_
  refine lv_iconst (v := 0) hx hb dX12_beginBulk_12 (by decide) ?_
  refine mst_39 hx hb hK hP hD hS (vp_in_iff.mpr (by have h9 : e1.toInt = e1.toInt := rfl; omega)) dX12_beginBulk_13 (fun H locs hP hD hS => ?_)
  have hI := mInv_c hI (k := 39) (j := (e1 : Int32).toNatClampNeg) (x := 0) (show 0 ≤ (0 : Int32).toInt ∧ (0 : Int32).toInt ≤ 31 from by have h9 : (0 : Int32).toInt = 0 := (by decide); omega)
  have hfc := fr_c hfc (k := 39) (j := (e1 : Int32).toNatClampNeg) (x := 0) (by decide)
  refine lv_aload_n hx hb dX12_beginBulk_14 rfl (lv_at hl 0 rfl) ?_
  refine lv_iload_n hx hb dX12_beginBulk_15 rfl (lv_at hl 2 rfl) ?_
  refine lv_iconst (v := 3) hx hb dX12_beginBulk_16 (by decide) ?_
  refine ro_calli (va_runV (As := [.int w, .int 3]) (rest := []) ⟨hx, hb, hml, hown, hts⟩ (s_X12_isOf l D H.size o a t i q (updA (updA c 38 (e1 : Int32).toNatClampNeg w) 39 (e1 : Int32).toNatClampNeg 0) d w 3 hI (by have h91 : (3 : Int32).toInt = 3 := (by decide); omega)) (cwV 2 hts gm_X12_beginBulk_X12_isOf rfl rfl rfl (by decide +kernel) ⟨Nat.le_of_ble_eq_true rfl, Nat.le_of_ble_eq_true rfl⟩) (pA_V hK hP (ci := 12) (q0 := 0) rfl rfl) rfl rfl hl.1 rfl (lv_room (Nat.le_of_ble_eq_true rfl)) dX12_beginBulk_17 ⟨Nat.le_of_ble_eq_true rfl, Nat.le_of_ble_eq_true rfl⟩) hS hA hP (fun r1 u1 H locs hw1 hP hS => ?_)
  have hw1 : 0 ≤ r1.toInt ∧ r1.toInt ≤ 1 := hw1
  have jn2 : ∀ (i2 : Nat → Int32) (q2 : Int64) (c2 : Nat → Nat → Int32) (d2 : Nat → Nat → Int64), mInv i2 c2 → (∀ k, k ∉ ([35] : List Nat) → i2 k = i k) → (∀ k, k ∉ ([34, 38, 39] : List Nat) → c2 k = c k) → ∀ (H : Heap) (locs : List Loc) (ls : Array Slot), va_P D vwCl (mW o a t i2 q2 c2 d2) H → va_D A (mW o a t i2 q2 c2 d2) → va_S A s.heap H locs → lv_has ls 3 [(0, .ref o), (1, .int e1), (2, .int w)] → W p l e (headSpec wm_X12_beginBulk ({ frames := 1, cells := 0, slots := 0, locals := 23 })).room s m ([.ref o, .int e1, .int w] : List Value).toArray below meth cd H locs 0 0 (MQ below (va_Qi (fun (r : Int32) (u : MS) => (0 ≤ r.toInt ∧ r.toInt ≤ 198) ∧ mInv u.1 u.2.2.1 ∧ (∀ k, k ∉ ([35] : List Nat) → u.1 k = i k) ∧ (∀ k, k ∉ ([34, 38, 39] : List Nat) → u.2.2.1 k = c k)) (oC D A (fun u : MS => mW o a t u.1 u.2.1 u.2.2.1 u.2.2.2) (fun _ => [])) A) ([.ref o, .int e1, .int w] : List Value).toArray s 0 0 A) (F0 m 62 ls []) := by
    intro i2 q2 c2 d2 hI hfi hfc H locs ls hP hD hS hl
    refine lv_aload_n hx hb dX12_beginBulk_62 rfl (lv_at hl 0 rfl) ?_
    refine lv_iconst (v := 1) hx hb dX12_beginBulk_63 (by decide) ?_
    refine al_callv (va_runV (As := [.int 1]) (rest := []) ⟨hx, hb, hml, hown, hts⟩ (s_X12_body l D H.size o a t i2 q2 c2 d2 1 hI (by have h90 : (1 : Int32).toInt = 1 := (by decide); omega)) (cwV 1 hts gm_X12_beginBulk_X12_body rfl rfl rfl (by decide +kernel) ⟨Nat.le_of_ble_eq_true rfl, Nat.le_of_ble_eq_true rfl⟩) (pB_V hK hP hD (ci := 12) (q0 := 0) rfl rfl) rfl rfl hl.1 rfl (lv_room (Nat.le_of_ble_eq_true rfl)) dX12_beginBulk_64 ⟨Nat.le_of_ble_eq_true rfl, Nat.le_of_ble_eq_true rfl⟩) hS hA hP hD (fun u3 H locs hw3 hP hD hS => ?_)
    obtain ⟨i3, q3, c3, d3⟩ := u3
    have hw3 : True ∧ mInv i3 c3 ∧ (∀ k, k ∉ ([35] : List Nat) → i3 k = i2 k) ∧ (∀ k, k ∉ ([34] : List Nat) → c3 k = c2 k) := hw3
    obtain ⟨hw3, hI, hei3, hec3⟩ := hw3
    have hfi := fr_t hfi hei3 (by decide)
    have hfc := fr_t hfc hec3 (by decide)
    have hP : va_P D vwCl (mW o a t i3 q3 c3 d3) H := hP
    have hD : va_D A (mW o a t i3 q3 c3 d3) := hD
    refine lv_aload_n hx hb dX12_beginBulk_67 rfl (lv_at hl 0 rfl) ?_
    refine lv_iload_n hx hb dX12_beginBulk_68 rfl (lv_at hl 2 rfl) ?_
    refine lv_iconst (v := 5) hx hb dX12_beginBulk_69 (by decide) ?_
    refine ro_calli (va_runV (As := [.int w, .int 5]) (rest := []) ⟨hx, hb, hml, hown, hts⟩ (s_X12_isOf l D H.size o a t i3 q3 c3 d3 w 5 hI (by have h91 : (5 : Int32).toInt = 5 := (by decide); omega)) (cwV 2 hts gm_X12_beginBulk_X12_isOf rfl rfl rfl (by decide +kernel) ⟨Nat.le_of_ble_eq_true rfl, Nat.le_of_ble_eq_true rfl⟩) (pA_V hK hP (ci := 12) (q0 := 0) rfl rfl) rfl rfl hl.1 rfl (lv_room (Nat.le_of_ble_eq_true rfl)) dX12_beginBulk_70 ⟨Nat.le_of_ble_eq_true rfl, Nat.le_of_ble_eq_true rfl⟩) hS hA hP (fun r4 u4 H locs hw4 hP hS => ?_)
    have hw4 : 0 ≤ r4.toInt ∧ r4.toInt ≤ 1 := hw4
    refine lv_if_eq (tgt := 87) hx hb dX12_beginBulk_73 (by decide) (fun c5 => ?_) (fun c5 => ?_)
    · have f5 := (ti_eq (a := r4.toInt) (b := 0) rfl (by decide)).mp c5
      refine lv_aload_n hx hb dX12_beginBulk_87 rfl (lv_at hl 0 rfl) ?_
      refine mget_7 hx hb hts (fun _ h => List.mem_cons_of_mem _ (List.mem_append_right _ h)) hown hK hP (hts (.fieldLink RX12 22 "TalePlayModel" "sizeOf" "[I") (by decide +kernel)) dX12_beginBulk_88 ?_
      refine lv_iload_n hx hb dX12_beginBulk_91 rfl (lv_at hl 2 rfl) ?_
      refine mld_7 hx hb hK hP (vp_in_iff.mpr (by have h9 : w.toInt = w.toInt := rfl; omega)) dX12_beginBulk_92 (fun x6 ex6 => ?_)
      have rx6 : 0 ≤ x6.toInt ∧ x6.toInt ≤ 99 := by rw [ex6]; exact hI.2 7 _
      exact rw_iret (i3, q3, c3, d3) hx hb hr hlocks hS (hK.sub (tys' := []) [] rfl) hP hD dX12_beginBulk_93 ⟨(show 0 ≤ x6.toInt ∧ x6.toInt ≤ 198 from by omega), hI, hfi, hfc⟩
    · have f5 := mt (ti_eq (a := r4.toInt) (b := 0) rfl (by decide)).mpr c5
      refine lv_iconst (v := 2) hx hb dX12_beginBulk_76 (by decide) ?_
      refine lv_aload_n hx hb dX12_beginBulk_77 rfl (lv_at hl 0 rfl) ?_
      refine mget_7 hx hb hts (fun _ h => List.mem_cons_of_mem _ (List.mem_append_right _ h)) hown hK hP (hts (.fieldLink RX12 22 "TalePlayModel" "sizeOf" "[I") (by decide +kernel)) dX12_beginBulk_78 ?_
      refine lv_iload_n hx hb dX12_beginBulk_81 rfl (lv_at hl 2 rfl) ?_
      refine mld_7 hx hb hK hP (vp_in_iff.mpr (by have h9 : w.toInt = w.toInt := rfl; omega)) dX12_beginBulk_82 (fun x7 ex7 => ?_)
      have rx7 : 0 ≤ x7.toInt ∧ x7.toInt ≤ 99 := by rw [ex7]; exact hI.2 7 _
      refine lv_imul hx hb dX12_beginBulk_83 ?_
      refine lv_topi (fun x8 ex8 => ?_)
      have tx8 := ti_mul (a := 2) (b := x7.toInt) ex8 (by decide) rfl (by omega) (by omega)
      refine lv_goto (tgt := 93) hx hb dX12_beginBulk_84 (by decide) ?_
      exact rw_iret (i3, q3, c3, d3) hx hb hr hlocks hS (hK.sub (tys' := []) [] rfl) hP hD dX12_beginBulk_93 ⟨(show 0 ≤ x8.toInt ∧ x8.toInt ≤ 198 from by have h9 : x8.toInt = (2 * x7.toInt) := tx8; omega), hI, hfi, hfc⟩
  refine lv_if_eq (tgt := 31) hx hb dX12_beginBulk_20 (by decide) (fun c9 => ?_) (fun c9 => ?_)
  · have f9 := (ti_eq (a := r1.toInt) (b := 0) rfl (by decide)).mp c9
    refine lv_aload_n hx hb dX12_beginBulk_31 rfl (lv_at hl 0 rfl) ?_
    refine lv_iload_n hx hb dX12_beginBulk_32 rfl (lv_at hl 2 rfl) ?_
    refine lv_iconst (v := 4) hx hb dX12_beginBulk_33 (by decide) ?_
    refine ro_calli (va_runV (As := [.int w, .int 4]) (rest := []) ⟨hx, hb, hml, hown, hts⟩ (s_X12_isOf l D H.size o a t i q (updA (updA c 38 (e1 : Int32).toNatClampNeg w) 39 (e1 : Int32).toNatClampNeg 0) d w 4 hI (by have h91 : (4 : Int32).toInt = 4 := (by decide); omega)) (cwV 2 hts gm_X12_beginBulk_X12_isOf rfl rfl rfl (by decide +kernel) ⟨Nat.le_of_ble_eq_true rfl, Nat.le_of_ble_eq_true rfl⟩) (pA_V hK hP (ci := 12) (q0 := 0) rfl rfl) rfl rfl hl.1 rfl (lv_room (Nat.le_of_ble_eq_true rfl)) dX12_beginBulk_34 ⟨Nat.le_of_ble_eq_true rfl, Nat.le_of_ble_eq_true rfl⟩) hS hA hP (fun r10 u10 H locs hw10 hP hS => ?_)
    have hw10 : 0 ≤ r10.toInt ∧ r10.toInt ≤ 1 := hw10
    refine lv_if_eq (tgt := 48) hx hb dX12_beginBulk_37 (by decide) (fun c11 => ?_) (fun c11 => ?_)
    · have f11 := (ti_eq (a := r10.toInt) (b := 0) rfl (by decide)).mp c11
      refine lv_aload_n hx hb dX12_beginBulk_48 rfl (lv_at hl 0 rfl) ?_
      refine lv_iload_n hx hb dX12_beginBulk_49 rfl (lv_at hl 2 rfl) ?_
      refine lv_iconst (v := 5) hx hb dX12_beginBulk_50 (by decide) ?_
      refine ro_calli (va_runV (As := [.int w, .int 5]) (rest := []) ⟨hx, hb, hml, hown, hts⟩ (s_X12_isOf l D H.size o a t i q (updA (updA c 38 (e1 : Int32).toNatClampNeg w) 39 (e1 : Int32).toNatClampNeg 0) d w 5 hI (by have h91 : (5 : Int32).toInt = 5 := (by decide); omega)) (cwV 2 hts gm_X12_beginBulk_X12_isOf rfl rfl rfl (by decide +kernel) ⟨Nat.le_of_ble_eq_true rfl, Nat.le_of_ble_eq_true rfl⟩) (pA_V hK hP (ci := 12) (q0 := 0) rfl rfl) rfl rfl hl.1 rfl (lv_room (Nat.le_of_ble_eq_true rfl)) dX12_beginBulk_51 ⟨Nat.le_of_ble_eq_true rfl, Nat.le_of_ble_eq_true rfl⟩) hS hA hP (fun r12 u12 H locs hw12 hP hS => ?_)
      have hw12 : 0 ≤ r12.toInt ∧ r12.toInt ≤ 1 := hw12
      refine lv_if_eq (tgt := 62) hx hb dX12_beginBulk_54 (by decide) (fun c13 => ?_) (fun c13 => ?_)
      · have f13 := (ti_eq (a := r12.toInt) (b := 0) rfl (by decide)).mp c13
        exact jn2 i q (updA (updA c 38 (e1 : Int32).toNatClampNeg w) 39 (e1 : Int32).toNatClampNeg 0) d   hI hfi hfc _ _ _ hP hD hS (lv_sub hl [0, 1, 2] rfl)
      · have f13 := mt (ti_eq (a := r12.toInt) (b := 0) rfl (by decide)).mpr c13
        refine lv_aload_n hx hb dX12_beginBulk_57 rfl (lv_at hl 0 rfl) ?_
        refine lv_iconst (v := 5) hx hb dX12_beginBulk_58 (by decide) ?_
        refine al_callv (va_runV (As := [.int 5]) (rest := []) ⟨hx, hb, hml, hown, hts⟩ (s_X12_body l D H.size o a t i q (updA (updA c 38 (e1 : Int32).toNatClampNeg w) 39 (e1 : Int32).toNatClampNeg 0) d 5 hI (by have h90 : (5 : Int32).toInt = 5 := (by decide); omega)) (cwV 1 hts gm_X12_beginBulk_X12_body rfl rfl rfl (by decide +kernel) ⟨Nat.le_of_ble_eq_true rfl, Nat.le_of_ble_eq_true rfl⟩) (pB_V hK hP hD (ci := 12) (q0 := 0) rfl rfl) rfl rfl hl.1 rfl (lv_room (Nat.le_of_ble_eq_true rfl)) dX12_beginBulk_59 ⟨Nat.le_of_ble_eq_true rfl, Nat.le_of_ble_eq_true rfl⟩) hS hA hP hD (fun u14 H locs hw14 hP hD hS => ?_)
        obtain ⟨i14, q14, c14, d14⟩ := u14
        have hw14 : True ∧ mInv i14 c14 ∧ (∀ k, k ∉ ([35] : List Nat) → i14 k = i k) ∧ (∀ k, k ∉ ([34] : List Nat) → c14 k = (updA (updA c 38 (e1 : Int32).toNatClampNeg w) 39 (e1 : Int32).toNatClampNeg 0) k) := hw14
        obtain ⟨hw14, hI, hei14, hec14⟩ := hw14
        have hfi := fr_t hfi hei14 (by decide)
        have hfc := fr_t hfc hec14 (by decide)
        have hP : va_P D vwCl (mW o a t i14 q14 c14 d14) H := hP
        have hD : va_D A (mW o a t i14 q14 c14 d14) := hD
        exact jn2 i14 q14 c14 d14   hI hfi hfc _ _ _ hP hD hS (lv_sub hl [0, 1, 2] rfl)
    · have f11 := mt (ti_eq (a := r10.toInt) (b := 0) rfl (by decide)).mpr c11
      refine lv_aload_n hx hb dX12_beginBulk_40 rfl (lv_at hl 0 rfl) ?_
      refine lv_iconst (v := 3) hx hb dX12_beginBulk_41 (by decide) ?_
      refine al_callv (va_runV (As := [.int 3]) (rest := []) ⟨hx, hb, hml, hown, hts⟩ (s_X12_body l D H.size o a t i q (updA (updA c 38 (e1 : Int32).toNatClampNeg w) 39 (e1 : Int32).toNatClampNeg 0) d 3 hI (by have h90 : (3 : Int32).toInt = 3 := (by decide); omega)) (cwV 1 hts gm_X12_beginBulk_X12_body rfl rfl rfl (by decide +kernel) ⟨Nat.le_of_ble_eq_true rfl, Nat.le_of_ble_eq_true rfl⟩) (pB_V hK hP hD (ci := 12) (q0 := 0) rfl rfl) rfl rfl hl.1 rfl (lv_room (Nat.le_of_ble_eq_true rfl)) dX12_beginBulk_42 ⟨Nat.le_of_ble_eq_true rfl, Nat.le_of_ble_eq_true rfl⟩) hS hA hP hD (fun u15 H locs hw15 hP hD hS => ?_)
      obtain ⟨i15, q15, c15, d15⟩ := u15
      have hw15 : True ∧ mInv i15 c15 ∧ (∀ k, k ∉ ([35] : List Nat) → i15 k = i k) ∧ (∀ k, k ∉ ([34] : List Nat) → c15 k = (updA (updA c 38 (e1 : Int32).toNatClampNeg w) 39 (e1 : Int32).toNatClampNeg 0) k) := hw15
      obtain ⟨hw15, hI, hei15, hec15⟩ := hw15
      have hfi := fr_t hfi hei15 (by decide)
      have hfc := fr_t hfc hec15 (by decide)
      have hP : va_P D vwCl (mW o a t i15 q15 c15 d15) H := hP
      have hD : va_D A (mW o a t i15 q15 c15 d15) := hD
      refine lv_goto (tgt := 62) hx hb dX12_beginBulk_45 (by decide) ?_
      exact jn2 i15 q15 c15 d15   hI hfi hfc _ _ _ hP hD hS (lv_sub hl [0, 1, 2] rfl)
  · have f9 := mt (ti_eq (a := r1.toInt) (b := 0) rfl (by decide)).mpr c9
    refine lv_aload_n hx hb dX12_beginBulk_23 rfl (lv_at hl 0 rfl) ?_
    refine lv_iconst (v := 2) hx hb dX12_beginBulk_24 (by decide) ?_
    refine al_callv (va_runV (As := [.int 2]) (rest := []) ⟨hx, hb, hml, hown, hts⟩ (s_X12_body l D H.size o a t i q (updA (updA c 38 (e1 : Int32).toNatClampNeg w) 39 (e1 : Int32).toNatClampNeg 0) d 2 hI (by have h90 : (2 : Int32).toInt = 2 := (by decide); omega)) (cwV 1 hts gm_X12_beginBulk_X12_body rfl rfl rfl (by decide +kernel) ⟨Nat.le_of_ble_eq_true rfl, Nat.le_of_ble_eq_true rfl⟩) (pB_V hK hP hD (ci := 12) (q0 := 0) rfl rfl) rfl rfl hl.1 rfl (lv_room (Nat.le_of_ble_eq_true rfl)) dX12_beginBulk_25 ⟨Nat.le_of_ble_eq_true rfl, Nat.le_of_ble_eq_true rfl⟩) hS hA hP hD (fun u16 H locs hw16 hP hD hS => ?_)
    obtain ⟨i16, q16, c16, d16⟩ := u16
    have hw16 : True ∧ mInv i16 c16 ∧ (∀ k, k ∉ ([35] : List Nat) → i16 k = i k) ∧ (∀ k, k ∉ ([34] : List Nat) → c16 k = (updA (updA c 38 (e1 : Int32).toNatClampNeg w) 39 (e1 : Int32).toNatClampNeg 0) k) := hw16
    obtain ⟨hw16, hI, hei16, hec16⟩ := hw16
    have hfi := fr_t hfi hei16 (by decide)
    have hfc := fr_t hfc hec16 (by decide)
    have hP : va_P D vwCl (mW o a t i16 q16 c16 d16) H := hP
    have hD : va_D A (mW o a t i16 q16 c16 d16) := hD
    refine lv_goto (tgt := 62) hx hb dX12_beginBulk_28 (by decide) ?_
    exact jn2 i16 q16 c16 d16   hI hfi hfc _ _ _ hP hD hS (lv_sub hl [0, 1, 2] rfl)

def wm_X12_asked : List Cond := .code yX12_asked cX12_asked 1 (some .long) :: (([.fieldLink RX12 318 "TalePlayModel" "asked" "J"] : List Cond) ++ wsX120)
set_option maxHeartbeats 4000000 in
set_option maxRecDepth 100000 in
theorem s_X12_asked (l : Launch) (D : va_G) (sz : Nat) (o : Nat) (a : Nat → Nat) (t : Nat → ClassId) (i : Nat → Int32) (q : Int64) (c : Nat → Nat → Int32) (d : Nat → Nat → Int64) (hI : mInv i c) : Met l yX12_asked wm_X12_asked ({ frames := 0, cells := 0, slots := 0, locals := 0 }) (va_Pc [.ref o] (pA D sz (mW o a t i q c d) (mT t))) (va_Ql (fun (r : Int64) (_ : Unit) => True) oA (ro sz)) 0 0 (ro sz) := by
  refine Met.ofW (cc := cX12_asked) (maxL := 1) (ret := (some .long)) (by decide) rfl ?_
  intro p e s m args below meth cd s₁ B hml hv
  obtain ⟨rfl, hsz, hP, hK⟩ := hv
  have hx := B.exec
  have hb := B.bytes
  have hr := B.returns
  have hts := atoms_spec (ws := wm_X12_asked) B.pre
  have hown : s.vm.findClass RX12 = some m.cls := findClass_of_methodNamed B.named
  have hlocks := B.notSynchronized
  subst hsz
  have hA : ∀ q : Nat, s.heap.size ≤ q → ro s.heap.size q := fun _ h => h
  have hS : va_S (ro s.heap.size) s.heap s.heap [] := va_S.rf
  have hl := lv_entry ([.ref o]) (n := 1) (Nat.le_of_ble_eq_true rfl)
  rw [lg_entry_eq]
  generalize (lg_sl ([.ref o]) ++ List.replicate (1 - (lg_sl ([.ref o])).length) Slot.unset).toArray = ls at hl ⊢
  have hl : lv_has ls 1 [(0, .ref o)] := hl
  refine lv_aload_n hx hb dX12_asked_0 rfl (lv_at hl 0 rfl) ?_
  refine mget_37 (v := q) rfl hx hb hts (fun _ h => List.mem_cons_of_mem _ (List.mem_append_right _ h)) hown hK hP (hts (.fieldLink RX12 318 "TalePlayModel" "asked" "J") (by decide +kernel)) dX12_asked_1 ?_
  exact ro_lret hx hb hr hlocks hS dX12_asked_4 trivial

def wm_X12_trace : List Cond := .code yX12_trace cX12_trace 2 (some .int) :: (([.fieldLink RX12 297 "TalePlayModel" "traced" "I", .methodLink RX12 166 yX12_in, .static yX12_in, .initialized RX12, .code yX12_in cX12_in 6 (some .boolean), .fieldLink RX12 77 "TalePlayModel" "trace" "[I"] : List Cond) ++ wsX120)
set_option maxRecDepth 20000 in
theorem gm_X12_trace_X12_in : GoodIn wm_X12_trace (va_wsS RX12 166 yX12_in wm_X12_in) := goodIn_app (goodIn_of _ (by decide +kernel)) (goodIn_r _ [5] (by decide +kernel) (by decide +kernel))
set_option maxHeartbeats 4000000 in
set_option maxRecDepth 100000 in
theorem s_X12_trace (l : Launch) (D : va_G) (sz : Nat) (o : Nat) (a : Nat → Nat) (t : Nat → ClassId) (i : Nat → Int32) (q : Int64) (c : Nat → Nat → Int32) (d : Nat → Nat → Int64) (w : Int32) (hI : mInv i c) : Met l yX12_trace wm_X12_trace ({ frames := 1, cells := 0, slots := 0, locals := 25 }) (va_Pc [.ref o, .int w] (pA D sz (mW o a t i q c d) (mT t))) (va_Qi (fun (r : Int32) (_ : Unit) => True) oA (ro sz)) 0 0 (ro sz) := by
  refine Met.ofW (cc := cX12_trace) (maxL := 2) (ret := (some .int)) (by decide) rfl ?_
  intro p e s m args below meth cd s₁ B hml hv
  obtain ⟨rfl, hsz, hP, hK⟩ := hv
  have hx := B.exec
  have hb := B.bytes
  have hr := B.returns
  have hts := atoms_spec (ws := wm_X12_trace) B.pre
  have hown : s.vm.findClass RX12 = some m.cls := findClass_of_methodNamed B.named
  have hlocks := B.notSynchronized
  subst hsz
  have hA : ∀ q : Nat, s.heap.size ≤ q → ro s.heap.size q := fun _ h => h
  have hS : va_S (ro s.heap.size) s.heap s.heap [] := va_S.rf
  have hl := lv_entry ([.ref o, .int w]) (n := 2) (Nat.le_of_ble_eq_true rfl)
  rw [lg_entry_eq]
  generalize (lg_sl ([.ref o, .int w]) ++ List.replicate (2 - (lg_sl ([.ref o, .int w])).length) Slot.unset).toArray = ls at hl ⊢
  have hl : lv_has ls 2 [(0, .ref o), (1, .int w)] := hl
  refine lv_iload_n hx hb dX12_trace_0 rfl (lv_at hl 1 rfl) ?_
  refine lv_i2l (v := w.toInt64) hx hb dX12_trace_1 rfl ?_
  refine lv_lconst (v := 0) hx hb dX12_trace_2 (by decide) ?_
  refine lv_aload_n hx hb dX12_trace_3 rfl (lv_at hl 0 rfl) ?_
  refine mget_35 (v := (i 35)) rfl hx hb hts (fun _ h => List.mem_cons_of_mem _ (List.mem_append_right _ h)) hown hK hP (hts (.fieldLink RX12 297 "TalePlayModel" "traced" "I") (by decide +kernel)) dX12_trace_4 ?_
  have rb35_i : 0 ≤ (i 35).toInt ∧ (i 35).toInt ≤ 100 := hI.1 35
  refine lv_iconst (v := 1) hx hb dX12_trace_7 (by decide) ?_
  refine lv_isub hx hb dX12_trace_8 ?_
  refine lv_topi (fun x1 ex1 => ?_)
  have tx1 := ti_sub (a := (i 35).toInt) (b := 1) ex1 rfl (by decide) (by omega) (by omega)
  refine lv_i2l (v := x1.toInt64) hx hb dX12_trace_9 rfl ?_
  have hPc := hP.sub (ws' := []) [] rfl
  have hKc := hK.sub (tys' := []) [] rfl
  refine ro_calli (va_runS (As := [.long w.toInt64, .long 0, .long x1.toInt64]) (rest := []) ⟨hx, hb, hml, hown, hts⟩ (c_X12_in l D s.heap.size w.toInt64 0 x1.toInt64 w.toInt 0 ((i 35).toInt - 1) ((Int32.toInt_toInt64 w).trans rfl) (by decide) ((Int32.toInt_toInt64 x1).trans tx1)) (va_cwS 3 hts gm_X12_trace_X12_in rfl rfl rfl (by decide +kernel) ⟨Nat.le_of_ble_eq_true rfl, Nat.le_of_ble_eq_true rfl⟩) (pA_S hKc hPc) rfl rfl hl.1 rfl (lv_room (Nat.le_of_ble_eq_true rfl)) dX12_trace_10 ⟨Nat.le_of_ble_eq_true rfl, Nat.le_of_ble_eq_true rfl⟩) hS hA hP (fun r2 u2 H locs hw2 hP hS => ?_)
  have hw2 : r2 = if (0 ≤ w.toInt ∧ w.toInt ≤ ((i 35).toInt - 1)) then 1 else 0 := hw2
  refine lv_if_eq (tgt := 25) hx hb dX12_trace_13 (by decide) (fun c3 => ?_) (fun c3 => ?_)
  · have f3 := fl_f hw2 c3
    refine lv_bipush (v := (-9)) hx hb dX12_trace_25 (by decide) ?_
    exact ro_iret hx hb hr hlocks hS dX12_trace_27 trivial
  · have f3 := fl_t hw2 c3
    refine lv_aload_n hx hb dX12_trace_16 rfl (lv_at hl 0 rfl) ?_
    refine mget_34 hx hb hts (fun _ h => List.mem_cons_of_mem _ (List.mem_append_right _ h)) hown hK hP (hts (.fieldLink RX12 77 "TalePlayModel" "trace" "[I") (by decide +kernel)) dX12_trace_17 ?_
    refine lv_iload_n hx hb dX12_trace_20 rfl (lv_at hl 1 rfl) ?_
    refine mld_34 hx hb hK hP (vp_in_iff.mpr (by have h9 : w.toInt = w.toInt := rfl; omega)) dX12_trace_21 (fun x4 ex4 => ?_)
    have rx4 : 0 ≤ x4.toInt ∧ x4.toInt ≤ 5 := by rw [ex4]; exact hI.2 34 _
    refine lv_goto (tgt := 27) hx hb dX12_trace_22 (by decide) ?_
    exact ro_iret hx hb hr hlocks hS dX12_trace_27 trivial

def wm_X12_turn : List Cond := .code yX12_turn cX12_turn 3 (some .int) :: (([.constantLong RX12 254 (2), .methodLink RX12 166 yX12_in, .static yX12_in, .initialized RX12, .code yX12_in cX12_in 6 (some .boolean), .fieldLink RX12 155 "TalePlayModel" "player" "I", .fieldLink RX12 291 "TalePlayModel" "turns" "I", .fieldLink RX12 62 "TalePlayModel" "turnRow" "[I"] : List Cond) ++ wsX120)
set_option maxRecDepth 20000 in
theorem gm_X12_turn_X12_in : GoodIn wm_X12_turn (va_wsS RX12 166 yX12_in wm_X12_in) := goodIn_app (goodIn_of _ (by decide +kernel)) (goodIn_r _ [5] (by decide +kernel) (by decide +kernel))
set_option maxHeartbeats 4000000 in
set_option maxRecDepth 100000 in
theorem s_X12_turn (l : Launch) (D : va_G) (sz : Nat) (o : Nat) (a : Nat → Nat) (t : Nat → ClassId) (i : Nat → Int32) (q : Int64) (c : Nat → Nat → Int32) (d : Nat → Nat → Int64) (w : Int32) (w1 : Int32) (hI : mInv i c) : Met l yX12_turn wm_X12_turn ({ frames := 1, cells := 0, slots := 0, locals := 25 }) (va_Pc [.ref o, .int w, .int w1] (pA D sz (mW o a t i q c d) (mT t))) (va_Qi (fun (r : Int32) (_ : Unit) => True) oA (ro sz)) 0 0 (ro sz) := by
  refine Met.ofW (cc := cX12_turn) (maxL := 3) (ret := (some .int)) (by decide) rfl ?_
  intro p e s m args below meth cd s₁ B hml hv
  obtain ⟨rfl, hsz, hP, hK⟩ := hv
  have hx := B.exec
  have hb := B.bytes
  have hr := B.returns
  have hts := atoms_spec (ws := wm_X12_turn) B.pre
  have hown : s.vm.findClass RX12 = some m.cls := findClass_of_methodNamed B.named
  have hlocks := B.notSynchronized
  subst hsz
  have hA : ∀ q : Nat, s.heap.size ≤ q → ro s.heap.size q := fun _ h => h
  have hS : va_S (ro s.heap.size) s.heap s.heap [] := va_S.rf
  have hl := lv_entry ([.ref o, .int w, .int w1]) (n := 3) (Nat.le_of_ble_eq_true rfl)
  rw [lg_entry_eq]
  generalize (lg_sl ([.ref o, .int w, .int w1]) ++ List.replicate (3 - (lg_sl ([.ref o, .int w, .int w1])).length) Slot.unset).toArray = ls at hl ⊢
  have hl : lv_has ls 3 [(0, .ref o), (1, .int w), (2, .int w1)] := hl
  refine lv_iload_n hx hb dX12_turn_0 rfl (lv_at hl 1 rfl) ?_
  refine lv_if_lt (tgt := 16) hx hb dX12_turn_1 (by decide) (fun c1 => ?_) (fun c1 => ?_)
  · have f1 := (ti_lt (a := w.toInt) (b := 0) rfl (by decide)).mp c1
    refine lv_iconst (v := (-1)) hx hb dX12_turn_16 (by decide) ?_
    exact ro_iret hx hb hr hlocks hS dX12_turn_17 trivial
  · have f1 := mt (ti_lt (a := w.toInt) (b := 0) rfl (by decide)).mpr c1
    refine lv_iload_n hx hb dX12_turn_4 rfl (lv_at hl 2 rfl) ?_
    refine lv_i2l (v := w1.toInt64) hx hb dX12_turn_5 rfl ?_
    refine lv_lconst (v := 0) hx hb dX12_turn_6 (by decide) ?_
    refine lv_ldc2 (v := 2) hx hb hown (hts (.constantLong RX12 254 (2)) (by decide +kernel)) dX12_turn_7 ?_
    have hPc := hP.sub (ws' := []) [] rfl
    have hKc := hK.sub (tys' := []) [] rfl
    refine ro_calli (va_runS (As := [.long w1.toInt64, .long 0, .long 2]) (rest := []) ⟨hx, hb, hml, hown, hts⟩ (c_X12_in l D s.heap.size w1.toInt64 0 2 w1.toInt 0 2 ((Int32.toInt_toInt64 w1).trans rfl) (by decide) (by decide)) (va_cwS 3 hts gm_X12_turn_X12_in rfl rfl rfl (by decide +kernel) ⟨Nat.le_of_ble_eq_true rfl, Nat.le_of_ble_eq_true rfl⟩) (pA_S hKc hPc) rfl rfl hl.1 rfl (lv_room (Nat.le_of_ble_eq_true rfl)) dX12_turn_10 ⟨Nat.le_of_ble_eq_true rfl, Nat.le_of_ble_eq_true rfl⟩) hS hA hP (fun r2 u2 H locs hw2 hP hS => ?_)
    have hw2 : r2 = if (0 ≤ w1.toInt ∧ w1.toInt ≤ 2) then 1 else 0 := hw2
    refine lv_if_ne (tgt := 18) hx hb dX12_turn_13 (by decide) (fun c3 => ?_) (fun c3 => ?_)
    · have f3 := fl_t hw2 c3
      refine lv_aload_n hx hb dX12_turn_18 rfl (lv_at hl 0 rfl) ?_
      refine mget_22 (v := (i 22)) rfl hx hb hts (fun _ h => List.mem_cons_of_mem _ (List.mem_append_right _ h)) hown hK hP (hts (.fieldLink RX12 155 "TalePlayModel" "player" "I") (by decide +kernel)) dX12_turn_19 ?_
      have rb22_i : (i 22).toInt = -9 ∨ (0 ≤ (i 22).toInt ∧ (i 22).toInt ≤ 29) := hI.1 22
      refine lv_bipush (v := (-9)) hx hb dX12_turn_22 (by decide) ?_
      refine lv_icmp_ne (tgt := 30) hx hb dX12_turn_24 (by decide) (fun c4 => ?_) (fun c4 => ?_)
      · have f4 := mt (ti_eq (a := (i 22).toInt) (b := (-9)) rfl (by decide)).mpr c4
        refine lv_iload_n hx hb dX12_turn_30 rfl (lv_at hl 1 rfl) ?_
        refine lv_aload_n hx hb dX12_turn_31 rfl (lv_at hl 0 rfl) ?_
        refine mget_27 (v := (i 27)) rfl hx hb hts (fun _ h => List.mem_cons_of_mem _ (List.mem_append_right _ h)) hown hK hP (hts (.fieldLink RX12 291 "TalePlayModel" "turns" "I") (by decide +kernel)) dX12_turn_32 ?_
        have rb27_i : 0 ≤ (i 27).toInt ∧ (i 27).toInt ≤ 100 := hI.1 27
        refine lv_icmp_ge (tgt := 51) hx hb dX12_turn_35 (by decide) (fun c5 => ?_) (fun c5 => ?_)
        · have f5 := (ti_le (a := (i 27).toInt) (b := w.toInt) rfl rfl).mp c5
          refine lv_iconst (v := (-1)) hx hb dX12_turn_51 (by decide) ?_
          exact ro_iret hx hb hr hlocks hS dX12_turn_52 trivial
        · have f5 := mt (ti_le (a := (i 27).toInt) (b := w.toInt) rfl rfl).mpr c5
          refine lv_aload_n hx hb dX12_turn_38 rfl (lv_at hl 0 rfl) ?_
          refine mget_28 hx hb hts (fun _ h => List.mem_cons_of_mem _ (List.mem_append_right _ h)) hown hK hP (hts (.fieldLink RX12 62 "TalePlayModel" "turnRow" "[I") (by decide +kernel)) dX12_turn_39 ?_
          refine lv_iconst (v := 3) hx hb dX12_turn_42 (by decide) ?_
          refine lv_iload_n hx hb dX12_turn_43 rfl (lv_at hl 1 rfl) ?_
          refine lv_imul hx hb dX12_turn_44 ?_
          refine lv_topi (fun x6 ex6 => ?_)
          have tx6 := ti_mul (a := 3) (b := w.toInt) ex6 (by decide) rfl (by omega) (by omega)
          refine lv_iload_n hx hb dX12_turn_45 rfl (lv_at hl 2 rfl) ?_
          refine lv_iadd hx hb dX12_turn_46 ?_
          refine lv_topi (fun x7 ex7 => ?_)
          have tx7 := ti_add (a := (3 * w.toInt)) (b := w1.toInt) ex7 tx6 rfl (by omega) (by omega)
          refine mld_28 hx hb hK hP (vp_in_iff.mpr (by have h9 : x7.toInt = ((3 * w.toInt) + w1.toInt) := tx7; omega)) dX12_turn_47 (fun x8 ex8 => ?_)
          have rx8 : 0 ≤ x8.toInt ∧ x8.toInt ≤ 29 := by rw [ex8]; exact hI.2 28 _
          refine lv_goto (tgt := 52) hx hb dX12_turn_48 (by decide) ?_
          exact ro_iret hx hb hr hlocks hS dX12_turn_52 trivial
      · have f4 := (ti_eq (a := (i 22).toInt) (b := (-9)) rfl (by decide)).mp c4
        refine lv_bipush (v := (-5)) hx hb dX12_turn_27 (by decide) ?_
        exact ro_iret hx hb hr hlocks hS dX12_turn_29 trivial
    · have f3 := fl_f hw2 c3
      refine lv_iconst (v := (-1)) hx hb dX12_turn_16 (by decide) ?_
      exact ro_iret hx hb hr hlocks hS dX12_turn_17 trivial

def wm_X12_sought : List Cond := .code yX12_sought cX12_sought 3 (some .int) :: (([.constantLong RX12 254 (2), .methodLink RX12 166 yX12_in, .static yX12_in, .initialized RX12, .code yX12_in cX12_in 6 (some .boolean), .fieldLink RX12 158 "TalePlayModel" "soughtMany" "I", .fieldLink RX12 123 "TalePlayModel" "soughtRow" "[I"] : List Cond) ++ wsX120)
set_option maxRecDepth 20000 in
theorem gm_X12_sought_X12_in : GoodIn wm_X12_sought (va_wsS RX12 166 yX12_in wm_X12_in) := goodIn_app (goodIn_of _ (by decide +kernel)) (goodIn_r _ [5] (by decide +kernel) (by decide +kernel))
set_option maxHeartbeats 4000000 in
set_option maxRecDepth 100000 in
theorem s_X12_sought (l : Launch) (D : va_G) (sz : Nat) (o : Nat) (a : Nat → Nat) (t : Nat → ClassId) (i : Nat → Int32) (q : Int64) (c : Nat → Nat → Int32) (d : Nat → Nat → Int64) (w : Int32) (w1 : Int32) (hI : mInv i c) : Met l yX12_sought wm_X12_sought ({ frames := 1, cells := 0, slots := 0, locals := 25 }) (va_Pc [.ref o, .int w, .int w1] (pA D sz (mW o a t i q c d) (mT t))) (va_Qi (fun (r : Int32) (_ : Unit) => True) oA (ro sz)) 0 0 (ro sz) := by
  refine Met.ofW (cc := cX12_sought) (maxL := 3) (ret := (some .int)) (by decide) rfl ?_
  intro p e s m args below meth cd s₁ B hml hv
  obtain ⟨rfl, hsz, hP, hK⟩ := hv
  have hx := B.exec
  have hb := B.bytes
  have hr := B.returns
  have hts := atoms_spec (ws := wm_X12_sought) B.pre
  have hown : s.vm.findClass RX12 = some m.cls := findClass_of_methodNamed B.named
  have hlocks := B.notSynchronized
  subst hsz
  have hA : ∀ q : Nat, s.heap.size ≤ q → ro s.heap.size q := fun _ h => h
  have hS : va_S (ro s.heap.size) s.heap s.heap [] := va_S.rf
  have hl := lv_entry ([.ref o, .int w, .int w1]) (n := 3) (Nat.le_of_ble_eq_true rfl)
  rw [lg_entry_eq]
  generalize (lg_sl ([.ref o, .int w, .int w1]) ++ List.replicate (3 - (lg_sl ([.ref o, .int w, .int w1])).length) Slot.unset).toArray = ls at hl ⊢
  have hl : lv_has ls 3 [(0, .ref o), (1, .int w), (2, .int w1)] := hl
  refine lv_iload_n hx hb dX12_sought_0 rfl (lv_at hl 2 rfl) ?_
  refine lv_i2l (v := w1.toInt64) hx hb dX12_sought_1 rfl ?_
  refine lv_lconst (v := 0) hx hb dX12_sought_2 (by decide) ?_
  refine lv_ldc2 (v := 2) hx hb hown (hts (.constantLong RX12 254 (2)) (by decide +kernel)) dX12_sought_3 ?_
  have hPc := hP.sub (ws' := []) [] rfl
  have hKc := hK.sub (tys' := []) [] rfl
  refine ro_calli (va_runS (As := [.long w1.toInt64, .long 0, .long 2]) (rest := []) ⟨hx, hb, hml, hown, hts⟩ (c_X12_in l D s.heap.size w1.toInt64 0 2 w1.toInt 0 2 ((Int32.toInt_toInt64 w1).trans rfl) (by decide) (by decide)) (va_cwS 3 hts gm_X12_sought_X12_in rfl rfl rfl (by decide +kernel) ⟨Nat.le_of_ble_eq_true rfl, Nat.le_of_ble_eq_true rfl⟩) (pA_S hKc hPc) rfl rfl hl.1 rfl (lv_room (Nat.le_of_ble_eq_true rfl)) dX12_sought_6 ⟨Nat.le_of_ble_eq_true rfl, Nat.le_of_ble_eq_true rfl⟩) hS hA hP (fun r1 u1 H locs hw1 hP hS => ?_)
  have hw1 : r1 = if (0 ≤ w1.toInt ∧ w1.toInt ≤ 2) then 1 else 0 := hw1
  refine lv_if_ne (tgt := 14) hx hb dX12_sought_9 (by decide) (fun c2 => ?_) (fun c2 => ?_)
  · have f2 := fl_t hw1 c2
    refine lv_iload_n hx hb dX12_sought_14 rfl (lv_at hl 1 rfl) ?_
    refine lv_i2l (v := w.toInt64) hx hb dX12_sought_15 rfl ?_
    refine lv_lconst (v := 0) hx hb dX12_sought_16 (by decide) ?_
    refine lv_aload_n hx hb dX12_sought_17 rfl (lv_at hl 0 rfl) ?_
    refine mget_57 (v := (i 57)) rfl hx hb hts (fun _ h => List.mem_cons_of_mem _ (List.mem_append_right _ h)) hown hK hP (hts (.fieldLink RX12 158 "TalePlayModel" "soughtMany" "I") (by decide +kernel)) dX12_sought_18 ?_
    have rb57_i : (i 57).toInt = -9 ∨ (0 ≤ (i 57).toInt ∧ (i 57).toInt ≤ 300) := hI.1 57
    refine lv_iconst (v := 1) hx hb dX12_sought_21 (by decide) ?_
    refine lv_isub hx hb dX12_sought_22 ?_
    refine lv_topi (fun x3 ex3 => ?_)
    have tx3 := ti_sub (a := (i 57).toInt) (b := 1) ex3 rfl (by decide) (by omega) (by omega)
    refine lv_i2l (v := x3.toInt64) hx hb dX12_sought_23 rfl ?_
    have hPc := hP.sub (ws' := []) [] rfl
    have hKc := hK.sub (tys' := []) [] rfl
    refine ro_calli (va_runS (As := [.long w.toInt64, .long 0, .long x3.toInt64]) (rest := []) ⟨hx, hb, hml, hown, hts⟩ (c_X12_in l D H.size w.toInt64 0 x3.toInt64 w.toInt 0 ((i 57).toInt - 1) ((Int32.toInt_toInt64 w).trans rfl) (by decide) ((Int32.toInt_toInt64 x3).trans tx3)) (va_cwS 3 hts gm_X12_sought_X12_in rfl rfl rfl (by decide +kernel) ⟨Nat.le_of_ble_eq_true rfl, Nat.le_of_ble_eq_true rfl⟩) (pA_S hKc hPc) rfl rfl hl.1 rfl (lv_room (Nat.le_of_ble_eq_true rfl)) dX12_sought_24 ⟨Nat.le_of_ble_eq_true rfl, Nat.le_of_ble_eq_true rfl⟩) hS hA hP (fun r4 u4 H locs hw4 hP hS => ?_)
    have hw4 : r4 = if (0 ≤ w.toInt ∧ w.toInt ≤ ((i 57).toInt - 1)) then 1 else 0 := hw4
    refine lv_if_eq (tgt := 43) hx hb dX12_sought_27 (by decide) (fun c5 => ?_) (fun c5 => ?_)
    · have f5 := fl_f hw4 c5
      refine lv_bipush (v := (-9)) hx hb dX12_sought_43 (by decide) ?_
      exact ro_iret hx hb hr hlocks hS dX12_sought_45 trivial
    · have f5 := fl_t hw4 c5
      refine lv_aload_n hx hb dX12_sought_30 rfl (lv_at hl 0 rfl) ?_
      refine mget_56 hx hb hts (fun _ h => List.mem_cons_of_mem _ (List.mem_append_right _ h)) hown hK hP (hts (.fieldLink RX12 123 "TalePlayModel" "soughtRow" "[I") (by decide +kernel)) dX12_sought_31 ?_
      refine lv_iconst (v := 3) hx hb dX12_sought_34 (by decide) ?_
      refine lv_iload_n hx hb dX12_sought_35 rfl (lv_at hl 1 rfl) ?_
      refine lv_imul hx hb dX12_sought_36 ?_
      refine lv_topi (fun x6 ex6 => ?_)
      have tx6 := ti_mul (a := 3) (b := w.toInt) ex6 (by decide) rfl (by omega) (by omega)
      refine lv_iload_n hx hb dX12_sought_37 rfl (lv_at hl 2 rfl) ?_
      refine lv_iadd hx hb dX12_sought_38 ?_
      refine lv_topi (fun x7 ex7 => ?_)
      have tx7 := ti_add (a := (3 * w.toInt)) (b := w1.toInt) ex7 tx6 rfl (by omega) (by omega)
      refine mld_56 hx hb hK hP (vp_in_iff.mpr (by have h9 : x7.toInt = ((3 * w.toInt) + w1.toInt) := tx7; omega)) dX12_sought_39 (fun x8 ex8 => ?_)
      have rx8 : 0 ≤ x8.toInt ∧ x8.toInt ≤ 29 := by rw [ex8]; exact hI.2 56 _
      refine lv_goto (tgt := 45) hx hb dX12_sought_40 (by decide) ?_
      exact ro_iret hx hb hr hlocks hS dX12_sought_45 trivial
  · have f2 := fl_f hw1 c2
    refine lv_iconst (v := (-1)) hx hb dX12_sought_12 (by decide) ?_
    exact ro_iret hx hb hr hlocks hS dX12_sought_13 trivial

def wm_X12_line : List Cond := .code yX12_line cX12_line 5 (some .int) :: (([.methodLink RX12 180 yX12_isObject, .instanceMethod yX12_isObject, .selects RX12 yX12_isObject yX12_isObject, .initialized RX12, .code yX12_isObject cX12_isObject 2 (some .boolean), .fieldLink RX12 177 "TalePlayModel" "objects" "I", .methodLink RX12 166 yX12_in, .static yX12_in, .code yX12_in cX12_in 6 (some .boolean), .constantLong RX12 279 (3), .fieldLink RX12 136 "TalePlayModel" "hasLine" "[Z", .fieldLink RX12 126 "TalePlayModel" "lineSort" "[I", .fieldLink RX12 129 "TalePlayModel" "lineMany" "[I", .fieldLink RX12 132 "TalePlayModel" "items" "[J", .methodLink RX12 233 yX12_meets, .instanceMethod yX12_meets, .selects RX12 yX12_meets yX12_meets, .code yX12_meets cX12_meets 2 (some .int), .fieldLink RX12 161 "TalePlayModel" "latest" "I", .fieldLink RX12 7 "TalePlayModel" "came" "[I"] : List Cond) ++ wsX120)
set_option maxRecDepth 20000 in
theorem gm_X12_line_X12_isObject : GoodIn wm_X12_line (wsV RX12 180 RX12 yX12_isObject wm_X12_isObject) := goodIn_app (goodIn_of _ (by decide +kernel)) (goodIn_r _ [5, 6, 7, 8, 4, 9, 21, 22, 23, 24, 25, 26, 27, 28, 29, 30, 31, 32, 33, 34, 35, 36, 37, 38, 39, 40, 41, 42, 43, 44, 45, 46, 47, 48, 49, 50, 51, 52, 53, 54, 55, 56, 57, 58, 59, 60, 61, 62, 63, 64, 65, 66, 67, 68, 69, 70, 71, 72, 73, 74, 75, 76, 77, 78, 79, 80, 81, 82, 83, 84, 85, 86, 87, 88, 89] (by decide +kernel) (by decide +kernel))
set_option maxRecDepth 20000 in
theorem gm_X12_line_X12_in : GoodIn wm_X12_line (va_wsS RX12 166 yX12_in wm_X12_in) := goodIn_app (goodIn_of _ (by decide +kernel)) (goodIn_r _ [9] (by decide +kernel) (by decide +kernel))
set_option maxRecDepth 20000 in
theorem gm_X12_line_X12_meets : GoodIn wm_X12_line (wsV RX12 233 RX12 yX12_meets wm_X12_meets) := goodIn_app (goodIn_of _ (by decide +kernel)) (goodIn_r _ [18, 19, 20, 21, 22, 23, 24, 25, 26, 27, 28, 29, 30, 31, 32, 33, 34, 35, 36, 37, 38, 39, 40, 41, 42, 43, 44, 45, 46, 47, 48, 49, 50, 51, 52, 53, 54, 55, 56, 57, 58, 59, 60, 61, 62, 63, 64, 65, 66, 67, 68, 69, 70, 71, 72, 73, 74, 75, 76, 77, 78, 79, 80, 81, 82, 83, 84, 85, 86, 87, 88, 89] (by decide +kernel) (by decide +kernel))
set_option maxHeartbeats 4000000 in
set_option maxRecDepth 100000 in
theorem s_X12_line (l : Launch) (D : va_G) (sz : Nat) (o : Nat) (a : Nat → Nat) (t : Nat → ClassId) (i : Nat → Int32) (q : Int64) (c : Nat → Nat → Int32) (d : Nat → Nat → Int64) (w : Int32) (s1 : Int32) (n1 : Int32) (hI : mInv i c) : Met l yX12_line wm_X12_line ({ frames := 2, cells := 0, slots := 0, locals := 46 }) (va_Pc [.ref o, .int w, .int s1, .int n1] (pB D sz (mW o a t i q c d) (mT t))) (va_Qi (fun (r : Int32) (u : MS) => True ∧ mInv u.1 u.2.2.1 ∧ (∀ k, k ∉ ([0] : List Nat) → u.1 k = i k) ∧ (∀ k, k ∉ ([1, 60, 61, 63] : List Nat) → u.2.2.1 k = c k)) (oC D (va_A (mW o a t i q c d) sz) (fun u : MS => mW o a t u.1 u.2.1 u.2.2.1 u.2.2.2) (fun _ => [])) (va_A (mW o a t i q c d) sz)) 0 0 (va_A (mW o a t i q c d) sz) := by
  refine Met.ofW (cc := cX12_line) (maxL := 5) (ret := (some .int)) (by decide) rfl ?_
  intro p e s m args below meth cd s₁ B hml hv
  obtain ⟨rfl, hsz, hP, hK, hD0⟩ := hv
  have hx := B.exec
  have hb := B.bytes
  have hr := B.returns
  have hts := atoms_spec (ws := wm_X12_line) B.pre
  have hown : s.vm.findClass RX12 = some m.cls := findClass_of_methodNamed B.named
  have hlocks := B.notSynchronized
  subst hsz
  have hD := hD0.self (sz := s.heap.size)
  generalize hAe : va_A (mW o a t i q c d) s.heap.size = A at hD ⊢
  have hA : ∀ q : Nat, s.heap.size ≤ q → A q := fun q h => by rw [← hAe]; exact Or.inr h
  have hS : va_S A s.heap s.heap [] := va_S.rf
  have hfi : ∀ k, k ∉ ([0] : List Nat) → i k = i k := fun _ _ => rfl
  have hfc : ∀ k, k ∉ ([1, 60, 61, 63] : List Nat) → c k = c k := fun _ _ => rfl
  have hl := lv_entry ([.ref o, .int w, .int s1, .int n1]) (n := 5) (Nat.le_of_ble_eq_true rfl)
  rw [lg_entry_eq]
  generalize (lg_sl ([.ref o, .int w, .int s1, .int n1]) ++ List.replicate (5 - (lg_sl ([.ref o, .int w, .int s1, .int n1])).length) Slot.unset).toArray = ls at hl ⊢
  have hl : lv_has ls 5 [(0, .ref o), (1, .int w), (2, .int s1), (3, .int n1)] := hl
  refine lv_aload_n hx hb dX12_line_0 rfl (lv_at hl 0 rfl) ?_
  refine lv_iload_n hx hb dX12_line_1 rfl (lv_at hl 1 rfl) ?_
  have rb5_i : 0 ≤ (i 5).toInt ∧ (i 5).toInt ≤ 30 := hI.1 5
  refine ro_calli (va_runV (As := [.int w]) (rest := []) ⟨hx, hb, hml, hown, hts⟩ (s_X12_isObject l D s.heap.size o a t i q c d w hI ) (cwV 1 hts gm_X12_line_X12_isObject rfl rfl rfl (by decide +kernel) ⟨Nat.le_of_ble_eq_true rfl, Nat.le_of_ble_eq_true rfl⟩) (pA_V hK hP (ci := 12) (q0 := 0) rfl rfl) rfl rfl hl.1 rfl (lv_room (Nat.le_of_ble_eq_true rfl)) dX12_line_2 ⟨Nat.le_of_ble_eq_true rfl, Nat.le_of_ble_eq_true rfl⟩) hS hA hP (fun r1 u1 H locs hw1 hP hS => ?_)
  have hw1 : r1 = if (0 ≤ w.toInt ∧ w.toInt ≤ (i 5).toInt - 1) then 1 else 0 := hw1
  refine lv_if_eq (tgt := 26) hx hb dX12_line_5 (by decide) (fun c2 => ?_) (fun c2 => ?_)
  · have f2 := fl_f hw1 c2
    refine lv_iconst (v := (-1)) hx hb dX12_line_26 (by decide) ?_
    exact rw_iret (i, q, c, d) hx hb hr hlocks hS (hK.sub (tys' := []) [] rfl) hP hD dX12_line_27 ⟨trivial, hI, hfi, hfc⟩
  · have f2 := fl_t hw1 c2
    refine lv_iload_n hx hb dX12_line_8 rfl (lv_at hl 2 rfl) ?_
    refine lv_i2l (v := s1.toInt64) hx hb dX12_line_9 rfl ?_
    refine lv_lconst (v := 0) hx hb dX12_line_10 (by decide) ?_
    refine lv_ldc2 (v := 3) hx hb hown (hts (.constantLong RX12 279 (3)) (by decide +kernel)) dX12_line_11 ?_
    have hPc := hP.sub (ws' := []) [] rfl
    have hKc := hK.sub (tys' := []) [] rfl
    refine ro_calli (va_runS (As := [.long s1.toInt64, .long 0, .long 3]) (rest := []) ⟨hx, hb, hml, hown, hts⟩ (c_X12_in l D H.size s1.toInt64 0 3 s1.toInt 0 3 ((Int32.toInt_toInt64 s1).trans rfl) (by decide) (by decide)) (va_cwS 3 hts gm_X12_line_X12_in rfl rfl rfl (by decide +kernel) ⟨Nat.le_of_ble_eq_true rfl, Nat.le_of_ble_eq_true rfl⟩) (pA_S hKc hPc) rfl rfl hl.1 rfl (lv_room (Nat.le_of_ble_eq_true rfl)) dX12_line_14 ⟨Nat.le_of_ble_eq_true rfl, Nat.le_of_ble_eq_true rfl⟩) hS hA hP (fun r3 u3 H locs hw3 hP hS => ?_)
    have hw3 : r3 = if (0 ≤ s1.toInt ∧ s1.toInt ≤ 3) then 1 else 0 := hw3
    refine lv_if_eq (tgt := 26) hx hb dX12_line_17 (by decide) (fun c4 => ?_) (fun c4 => ?_)
    · have f4 := fl_f hw3 c4
      refine lv_iconst (v := (-1)) hx hb dX12_line_26 (by decide) ?_
      exact rw_iret (i, q, c, d) hx hb hr hlocks hS (hK.sub (tys' := []) [] rfl) hP hD dX12_line_27 ⟨trivial, hI, hfi, hfc⟩
    · have f4 := fl_t hw3 c4
      refine lv_iload_n hx hb dX12_line_20 rfl (lv_at hl 3 rfl) ?_
      refine lv_bipush (v := 12) hx hb dX12_line_21 (by decide) ?_
      refine lv_icmp_le (tgt := 28) hx hb dX12_line_23 (by decide) (fun c5 => ?_) (fun c5 => ?_)
      · have f5 := (ti_le (a := n1.toInt) (b := 12) rfl (by decide)).mp c5
        refine lv_iload_n hx hb dX12_line_28 rfl (lv_at hl 3 rfl) ?_
        refine lv_if_ge (tgt := 38) hx hb dX12_line_29 (by decide) (fun c6 => ?_) (fun c6 => ?_)
        · have f6 := (ti_le (a := 0) (b := n1.toInt) (by decide) rfl).mp c6
          refine lv_aload_n hx hb dX12_line_38 rfl (lv_at hl 0 rfl) ?_
          refine mget_63 hx hb hts (fun _ h => List.mem_cons_of_mem _ (List.mem_append_right _ h)) hown hK hP (hts (.fieldLink RX12 136 "TalePlayModel" "hasLine" "[Z") (by decide +kernel)) dX12_line_39 ?_
          refine lv_iload_n hx hb dX12_line_42 rfl (lv_at hl 1 rfl) ?_
          refine lv_iconst (v := 1) hx hb dX12_line_43 (by decide) ?_
          refine mst_63 hx hb hK hP hD hS (vp_in_iff.mpr (by have h9 : w.toInt = w.toInt := rfl; omega)) (nb_z (show 0 ≤ (1 : Int32).toInt ∧ (1 : Int32).toInt ≤ 1 from by have h9 : (1 : Int32).toInt = 1 := (by decide); omega)) dX12_line_44 (fun H locs hP hD hS => ?_)
          have hI := mInv_c hI (k := 63) (j := (w : Int32).toNatClampNeg) (x := 1) (show 0 ≤ (1 : Int32).toInt ∧ (1 : Int32).toInt ≤ 1 from by have h9 : (1 : Int32).toInt = 1 := (by decide); omega)
          have hfc := fr_c hfc (k := 63) (j := (w : Int32).toNatClampNeg) (x := 1) (by decide)
          refine lv_aload_n hx hb dX12_line_45 rfl (lv_at hl 0 rfl) ?_
          refine mget_60 hx hb hts (fun _ h => List.mem_cons_of_mem _ (List.mem_append_right _ h)) hown hK hP (hts (.fieldLink RX12 126 "TalePlayModel" "lineSort" "[I") (by decide +kernel)) dX12_line_46 ?_
          refine lv_iload_n hx hb dX12_line_49 rfl (lv_at hl 1 rfl) ?_
          refine lv_iload_n hx hb dX12_line_50 rfl (lv_at hl 2 rfl) ?_
          refine mst_60 hx hb hK hP hD hS (vp_in_iff.mpr (by have h9 : w.toInt = w.toInt := rfl; omega)) dX12_line_51 (fun H locs hP hD hS => ?_)
          have hI := mInv_c hI (k := 60) (j := (w : Int32).toNatClampNeg) (x := s1) (show 0 ≤ (s1 : Int32).toInt ∧ (s1 : Int32).toInt ≤ 3 from by omega)
          have hfc := fr_c hfc (k := 60) (j := (w : Int32).toNatClampNeg) (x := s1) (by decide)
          refine lv_aload_n hx hb dX12_line_52 rfl (lv_at hl 0 rfl) ?_
          refine mget_61 hx hb hts (fun _ h => List.mem_cons_of_mem _ (List.mem_append_right _ h)) hown hK hP (hts (.fieldLink RX12 129 "TalePlayModel" "lineMany" "[I") (by decide +kernel)) dX12_line_53 ?_
          refine lv_iload_n hx hb dX12_line_56 rfl (lv_at hl 1 rfl) ?_
          refine lv_iload_n hx hb dX12_line_57 rfl (lv_at hl 3 rfl) ?_
          refine mst_61 hx hb hK hP hD hS (vp_in_iff.mpr (by have h9 : w.toInt = w.toInt := rfl; omega)) dX12_line_58 (fun H locs hP hD hS => ?_)
          have hI := mInv_c hI (k := 61) (j := (w : Int32).toNatClampNeg) (x := n1) (show 0 ≤ (n1 : Int32).toInt ∧ (n1 : Int32).toInt ≤ 12 from by omega)
          have hfc := fr_c hfc (k := 61) (j := (w : Int32).toNatClampNeg) (x := n1) (by decide)
          refine lv_iconst (v := 0) hx hb dX12_line_59 (by decide) ?_
          refine lv_istore (lv' := [(4, .int 0), (0, .ref o), (1, .int w), (2, .int s1), (3, .int n1)]) hx hb dX12_line_60 hl (by decide) rfl (fun ls hl => ?_)
          have lp7 : ∀ (fu : Nat) (i7 : Nat → Int32) (q7 : Int64) (c7 : Nat → Nat → Int32) (d7 : Nat → Nat → Int64) (y7_4 : Int32), mInv i7 c7 → (∀ k, k ∉ ([0] : List Nat) → i7 k = i k) → (∀ k, k ∉ ([1, 60, 61, 63] : List Nat) → c7 k = c k) → (0 ≤ y7_4.toInt ∧ y7_4.toInt ≤ 12) → (12 - y7_4.toInt).toNat < fu → ∀ (H : Heap) (locs : List Loc) (ls : Array Slot), va_P D vwCl (mW o a t i7 q7 c7 d7) H → va_D A (mW o a t i7 q7 c7 d7) → va_S A s.heap H locs → lv_has ls 5 [(4, .int y7_4), (0, .ref o), (1, .int w), (2, .int s1), (3, .int n1)] → W p l e (headSpec wm_X12_line ({ frames := 2, cells := 0, slots := 0, locals := 46 })).room s m ([.ref o, .int w, .int s1, .int n1] : List Value).toArray below meth cd H locs 0 0 (MQ below (va_Qi (fun (r : Int32) (u : MS) => True ∧ mInv u.1 u.2.2.1 ∧ (∀ k, k ∉ ([0] : List Nat) → u.1 k = i k) ∧ (∀ k, k ∉ ([1, 60, 61, 63] : List Nat) → u.2.2.1 k = c k)) (oC D A (fun u : MS => mW o a t u.1 u.2.1 u.2.2.1 u.2.2.2) (fun _ => [])) A) ([.ref o, .int w, .int s1, .int n1] : List Value).toArray s 0 0 A) (F0 m 62 ls []) := by
            intro fu
            induction fu with
            | zero => intro i7 q7 c7 d7 y7_4 hI hfi hfc hy7_4 hm; exact absurd hm (Nat.not_lt_zero _)
            | succ fu ih =>
              intro i7 q7 c7 d7 y7_4 hI hfi hfc hy7_4 hm H locs ls hP hD hS hl
              have ih7 := ih
              refine lv_iload hx hb dX12_line_62 (lv_at hl 0 rfl) ?_
              refine lv_bipush (v := 12) hx hb dX12_line_64 (by decide) ?_
              refine lv_icmp_ge (tgt := 88) hx hb dX12_line_66 (by decide) (fun c8 => ?_) (fun c8 => ?_)
              · have f8 := (ti_le (a := 12) (b := y7_4.toInt) (by decide) rfl).mp c8
                refine lv_iload_n hx hb dX12_line_88 rfl (lv_at hl 4 rfl) ?_
                exact rw_iret (i7, q7, c7, d7) hx hb hr hlocks hS (hK.sub (tys' := []) [] rfl) hP hD dX12_line_89 ⟨trivial, hI, hfi, hfc⟩
              · have f8 := mt (ti_le (a := 12) (b := y7_4.toInt) (by decide) rfl).mpr c8
                refine lv_aload_n hx hb dX12_line_69 rfl (lv_at hl 1 rfl) ?_
                refine mget_62 hx hb hts (fun _ h => List.mem_cons_of_mem _ (List.mem_append_right _ h)) hown hK hP (hts (.fieldLink RX12 132 "TalePlayModel" "items" "[J") (by decide +kernel)) dX12_line_70 ?_
                refine lv_bipush (v := 12) hx hb dX12_line_73 (by decide) ?_
                refine lv_iload_n hx hb dX12_line_75 rfl (lv_at hl 2 rfl) ?_
                refine lv_imul hx hb dX12_line_76 ?_
                refine lv_topi (fun x9 ex9 => ?_)
                have tx9 := ti_mul (a := 12) (b := w.toInt) ex9 (by decide) rfl (by omega) (by omega)
                refine lv_iload hx hb dX12_line_77 (lv_at hl 0 rfl) ?_
                refine lv_iadd hx hb dX12_line_79 ?_
                refine lv_topi (fun x10 ex10 => ?_)
                have tx10 := ti_add (a := (12 * w.toInt)) (b := y7_4.toInt) ex10 tx9 rfl (by omega) (by omega)
                refine lv_lconst (v := 0) hx hb dX12_line_80 (by decide) ?_
                refine mst_62 hx hb hK hP hD hS (vp_in_iff.mpr (by have h9 : x10.toInt = ((12 * w.toInt) + y7_4.toInt) := tx10; omega)) dX12_line_81 (fun H locs hP hD hS => ?_)
                obtain ⟨x11, ex11⟩ : ∃ y : Int32, y = y7_4 + 1 := ⟨_, rfl⟩
                have tx11 := ti_add (a := y7_4.toInt) (b := 1) ex11 rfl (by decide) (by omega) (by omega)
                refine lv_iinc (v := x11) (lv' := [(4, .int x11), (0, .ref o), (1, .int w), (2, .int s1), (3, .int n1)]) hx hb dX12_line_82 hl (k := 0) rfl (by rw [ex11]; rfl) (by decide) rfl (fun ls hl => ?_)
                refine lv_goto (tgt := 62) hx hb dX12_line_85 (by decide) ?_
                exact ih7 i7 q7 c7 (updD d7 62 (x10 : Int32).toNatClampNeg 0) x11 hI hfi hfc (show 0 ≤ x11.toInt ∧ x11.toInt ≤ 12 from by have h50 : x11.toInt = (y7_4.toInt + 1) := tx11; omega) (by have h50 : x11.toInt = (y7_4.toInt + 1) := tx11; omega) _ _ _ hP hD hS (lv_sub hl [0, 1, 2, 3, 4] rfl)
          exact lp7 _ i q (updA (updA (updA c 63 (w : Int32).toNatClampNeg 1) 60 (w : Int32).toNatClampNeg s1) 61 (w : Int32).toNatClampNeg n1) d (0 : Int32) hI hfi hfc (show 0 ≤ (0 : Int32).toInt ∧ (0 : Int32).toInt ≤ 12 from by have h50 : (0 : Int32).toInt = 0 := (by decide); omega) (Nat.lt_succ_self _) _ _ _ hP hD hS (lv_sub hl [0, 1, 2, 3, 4] rfl)
        · have f6 := mt (ti_le (a := 0) (b := n1.toInt) (by decide) rfl).mpr c6
          refine lv_aload_n hx hb dX12_line_32 rfl (lv_at hl 0 rfl) ?_
          refine lv_iconst (v := 5) hx hb dX12_line_33 (by decide) ?_
          refine al_calli (va_runV (As := [.int 5]) (rest := []) ⟨hx, hb, hml, hown, hts⟩ (s_X12_meets l D H.size o a t i q c d 5 hI (by have h90 : (5 : Int32).toInt = 5 := (by decide); omega)) (cwV 1 hts gm_X12_line_X12_meets rfl rfl rfl (by decide +kernel) ⟨Nat.le_of_ble_eq_true rfl, Nat.le_of_ble_eq_true rfl⟩) (pB_V hK hP hD (ci := 12) (q0 := 0) rfl rfl) rfl rfl hl.1 rfl (lv_room (Nat.le_of_ble_eq_true rfl)) dX12_line_34 ⟨Nat.le_of_ble_eq_true rfl, Nat.le_of_ble_eq_true rfl⟩) hS hA hP hD (fun r12 u12 H locs hw12 hP hD hS => ?_)
          obtain ⟨i12, q12, c12, d12⟩ := u12
          have hw12 : r12 = (-3) ∧ mInv i12 c12 ∧ (∀ k, k ∉ ([0] : List Nat) → i12 k = i k) ∧ (∀ k, k ∉ ([1] : List Nat) → c12 k = c k) := hw12
          obtain ⟨hw12, hI, hei12, hec12⟩ := hw12
          have hfi := fr_t hfi hei12 (by decide)
          have hfc := fr_t hfc hec12 (by decide)
          have hP : va_P D vwCl (mW o a t i12 q12 c12 d12) H := hP
          have hD : va_D A (mW o a t i12 q12 c12 d12) := hD
          have hw12 : r12 = (-3) := hw12
          subst hw12
          exact rw_iret (i12, q12, c12, d12) hx hb hr hlocks hS (hK.sub (tys' := []) [] rfl) hP hD dX12_line_37 ⟨trivial, hI, hfi, hfc⟩
      · have f5 := mt (ti_le (a := n1.toInt) (b := 12) rfl (by decide)).mpr c5
        refine lv_iconst (v := (-1)) hx hb dX12_line_26 (by decide) ?_
        exact rw_iret (i, q, c, d) hx hb hr hlocks hS (hK.sub (tys' := []) [] rfl) hP hD dX12_line_27 ⟨trivial, hI, hfi, hfc⟩

def wm_X12_lacks : List Cond := .code yX12_lacks cX12_lacks 4 (some .int) :: (([.fieldLink RX12 136 "TalePlayModel" "hasLine" "[Z", .fieldLink RX12 126 "TalePlayModel" "lineSort" "[I", .fieldLink RX12 129 "TalePlayModel" "lineMany" "[I", .methodLink RX12 166 yX12_in, .static yX12_in, .initialized RX12, .code yX12_in cX12_in 6 (some .boolean)] : List Cond) ++ wsX120)
set_option maxRecDepth 20000 in
theorem gm_X12_lacks_X12_in : GoodIn wm_X12_lacks (va_wsS RX12 166 yX12_in wm_X12_in) := goodIn_app (goodIn_of _ (by decide +kernel)) (goodIn_r _ [7] (by decide +kernel) (by decide +kernel))
set_option maxHeartbeats 4000000 in
set_option maxRecDepth 100000 in
theorem s_X12_lacks (l : Launch) (D : va_G) (sz : Nat) (o : Nat) (a : Nat → Nat) (t : Nat → ClassId) (i : Nat → Int32) (q : Int64) (c : Nat → Nat → Int32) (d : Nat → Nat → Int64) (w : Int32) (s1 : Int32) (n1 : Int32) (hI : mInv i c) (hw : 0 ≤ w.toInt ∧ w.toInt ≤ 29) : Met l yX12_lacks wm_X12_lacks ({ frames := 1, cells := 0, slots := 0, locals := 25 }) (va_Pc [.ref o, .int w, .int s1, .int n1] (pA D sz (mW o a t i q c d) (mT t))) (va_Qi (fun (r : Int32) (_ : Unit) => (r.toInt = 1 ∨ r.toInt = 2 ∨ r.toInt = 3 ∨ (r.toInt = 0 ∧ 0 ≤ n1.toInt ∧ n1.toInt ≤ 11))) oA (ro sz)) 0 0 (ro sz) := by
  refine Met.ofW (cc := cX12_lacks) (maxL := 4) (ret := (some .int)) (by decide) rfl ?_
  intro p e s m args below meth cd s₁ B hml hv
  obtain ⟨rfl, hsz, hP, hK⟩ := hv
  have hx := B.exec
  have hb := B.bytes
  have hr := B.returns
  have hts := atoms_spec (ws := wm_X12_lacks) B.pre
  have hown : s.vm.findClass RX12 = some m.cls := findClass_of_methodNamed B.named
  have hlocks := B.notSynchronized
  subst hsz
  have hA : ∀ q : Nat, s.heap.size ≤ q → ro s.heap.size q := fun _ h => h
  have hS : va_S (ro s.heap.size) s.heap s.heap [] := va_S.rf
  have hl := lv_entry ([.ref o, .int w, .int s1, .int n1]) (n := 4) (Nat.le_of_ble_eq_true rfl)
  rw [lg_entry_eq]
  generalize (lg_sl ([.ref o, .int w, .int s1, .int n1]) ++ List.replicate (4 - (lg_sl ([.ref o, .int w, .int s1, .int n1])).length) Slot.unset).toArray = ls at hl ⊢
  have hl : lv_has ls 4 [(0, .ref o), (1, .int w), (2, .int s1), (3, .int n1)] := hl
  refine lv_aload_n hx hb dX12_lacks_0 rfl (lv_at hl 0 rfl) ?_
  refine mget_63 hx hb hts (fun _ h => List.mem_cons_of_mem _ (List.mem_append_right _ h)) hown hK hP (hts (.fieldLink RX12 136 "TalePlayModel" "hasLine" "[Z") (by decide +kernel)) dX12_lacks_1 ?_
  refine lv_iload_n hx hb dX12_lacks_4 rfl (lv_at hl 1 rfl) ?_
  refine mld_63 hx hb hK hP (vp_in_iff.mpr (by have h9 : w.toInt = w.toInt := rfl; omega)) dX12_lacks_5 (fun x1 ex1 => ?_)
  have rx1 : 0 ≤ x1.toInt ∧ x1.toInt ≤ 1 := by rw [ex1]; exact hI.2 63 _
  refine lv_if_ne (tgt := 13) hx hb dX12_lacks_6 (by decide) (fun c2 => ?_) (fun c2 => ?_)
  · have f2 := mt (ti_eq (a := x1.toInt) (b := 0) rfl (by decide)).mpr c2
    refine lv_aload_n hx hb dX12_lacks_13 rfl (lv_at hl 0 rfl) ?_
    refine mget_60 hx hb hts (fun _ h => List.mem_cons_of_mem _ (List.mem_append_right _ h)) hown hK hP (hts (.fieldLink RX12 126 "TalePlayModel" "lineSort" "[I") (by decide +kernel)) dX12_lacks_14 ?_
    refine lv_iload_n hx hb dX12_lacks_17 rfl (lv_at hl 1 rfl) ?_
    refine mld_60 hx hb hK hP (vp_in_iff.mpr (by have h9 : w.toInt = w.toInt := rfl; omega)) dX12_lacks_18 (fun x3 ex3 => ?_)
    have rx3 : 0 ≤ x3.toInt ∧ x3.toInt ≤ 3 := by rw [ex3]; exact hI.2 60 _
    refine lv_iload_n hx hb dX12_lacks_19 rfl (lv_at hl 2 rfl) ?_
    refine lv_icmp_eq (tgt := 27) hx hb dX12_lacks_20 (by decide) (fun c4 => ?_) (fun c4 => ?_)
    · have f4 := (ti_eq (a := x3.toInt) (b := s1.toInt) rfl rfl).mp c4
      refine lv_iload_n hx hb dX12_lacks_27 rfl (lv_at hl 3 rfl) ?_
      refine lv_i2l (v := n1.toInt64) hx hb dX12_lacks_28 rfl ?_
      refine lv_lconst (v := 0) hx hb dX12_lacks_29 (by decide) ?_
      refine lv_aload_n hx hb dX12_lacks_30 rfl (lv_at hl 0 rfl) ?_
      refine mget_61 hx hb hts (fun _ h => List.mem_cons_of_mem _ (List.mem_append_right _ h)) hown hK hP (hts (.fieldLink RX12 129 "TalePlayModel" "lineMany" "[I") (by decide +kernel)) dX12_lacks_31 ?_
      refine lv_iload_n hx hb dX12_lacks_34 rfl (lv_at hl 1 rfl) ?_
      refine mld_61 hx hb hK hP (vp_in_iff.mpr (by have h9 : w.toInt = w.toInt := rfl; omega)) dX12_lacks_35 (fun x5 ex5 => ?_)
      have rx5 : 0 ≤ x5.toInt ∧ x5.toInt ≤ 12 := by rw [ex5]; exact hI.2 61 _
      refine lv_iconst (v := 1) hx hb dX12_lacks_36 (by decide) ?_
      refine lv_isub hx hb dX12_lacks_37 ?_
      refine lv_topi (fun x6 ex6 => ?_)
      have tx6 := ti_sub (a := x5.toInt) (b := 1) ex6 rfl (by decide) (by omega) (by omega)
      refine lv_i2l (v := x6.toInt64) hx hb dX12_lacks_38 rfl ?_
      have hPc := hP.sub (ws' := []) [] rfl
      have hKc := hK.sub (tys' := []) [] rfl
      refine ro_calli (va_runS (As := [.long n1.toInt64, .long 0, .long x6.toInt64]) (rest := []) ⟨hx, hb, hml, hown, hts⟩ (c_X12_in l D s.heap.size n1.toInt64 0 x6.toInt64 n1.toInt 0 (x5.toInt - 1) ((Int32.toInt_toInt64 n1).trans rfl) (by decide) ((Int32.toInt_toInt64 x6).trans tx6)) (va_cwS 3 hts gm_X12_lacks_X12_in rfl rfl rfl (by decide +kernel) ⟨Nat.le_of_ble_eq_true rfl, Nat.le_of_ble_eq_true rfl⟩) (pA_S hKc hPc) rfl rfl hl.1 rfl (lv_room (Nat.le_of_ble_eq_true rfl)) dX12_lacks_39 ⟨Nat.le_of_ble_eq_true rfl, Nat.le_of_ble_eq_true rfl⟩) hS hA hP (fun r7 u7 H locs hw7 hP hS => ?_)
      have hw7 : r7 = if (0 ≤ n1.toInt ∧ n1.toInt ≤ (x5.toInt - 1)) then 1 else 0 := hw7
      refine lv_if_ne (tgt := 49) hx hb dX12_lacks_42 (by decide) (fun c8 => ?_) (fun c8 => ?_)
      · have f8 := fl_t hw7 c8
        refine lv_iconst (v := 0) hx hb dX12_lacks_49 (by decide) ?_
        exact ro_iret hx hb hr hlocks hS dX12_lacks_50 (show (0 : Int32).toInt = 1 ∨ (0 : Int32).toInt = 2 ∨ (0 : Int32).toInt = 3 ∨ ((0 : Int32).toInt = 0 ∧ 0 ≤ n1.toInt ∧ n1.toInt ≤ 11) from by have h9 : (0 : Int32).toInt = 0 := (by decide); omega)
      · have f8 := fl_f hw7 c8
        refine lv_iconst (v := 2) hx hb dX12_lacks_45 (by decide) ?_
        refine lv_goto (tgt := 50) hx hb dX12_lacks_46 (by decide) ?_
        exact ro_iret hx hb hr hlocks hS dX12_lacks_50 (show (2 : Int32).toInt = 1 ∨ (2 : Int32).toInt = 2 ∨ (2 : Int32).toInt = 3 ∨ ((2 : Int32).toInt = 0 ∧ 0 ≤ n1.toInt ∧ n1.toInt ≤ 11) from by have h9 : (2 : Int32).toInt = 2 := (by decide); omega)
    · have f4 := mt (ti_eq (a := x3.toInt) (b := s1.toInt) rfl rfl).mpr c4
      refine lv_iconst (v := 3) hx hb dX12_lacks_23 (by decide) ?_
      refine lv_goto (tgt := 50) hx hb dX12_lacks_24 (by decide) ?_
      exact ro_iret hx hb hr hlocks hS dX12_lacks_50 (show (3 : Int32).toInt = 1 ∨ (3 : Int32).toInt = 2 ∨ (3 : Int32).toInt = 3 ∨ ((3 : Int32).toInt = 0 ∧ 0 ≤ n1.toInt ∧ n1.toInt ≤ 11) from by have h9 : (3 : Int32).toInt = 3 := (by decide); omega)
  · have f2 := (ti_eq (a := x1.toInt) (b := 0) rfl (by decide)).mp c2
    refine lv_iconst (v := 1) hx hb dX12_lacks_9 (by decide) ?_
    refine lv_goto (tgt := 50) hx hb dX12_lacks_10 (by decide) ?_
    exact ro_iret hx hb hr hlocks hS dX12_lacks_50 (show (1 : Int32).toInt = 1 ∨ (1 : Int32).toInt = 2 ∨ (1 : Int32).toInt = 3 ∨ ((1 : Int32).toInt = 0 ∧ 0 ≤ n1.toInt ∧ n1.toInt ≤ 11) from by have h9 : (1 : Int32).toInt = 1 := (by decide); omega)

def wm_X12_cut : List Cond := .code yX12_cut cX12_cut 4 (some .long) :: (([.constant RX12 439 (2147483647), .constant RX12 440 (2139095040), .constantLong RX12 441 (2143289344)] : List Cond))
set_option maxHeartbeats 4000000 in
set_option maxRecDepth 100000 in
theorem c_X12_cut (l : Launch) (D : va_G) (sz : Nat) (s1 : Int32) (v : Int64) : Met l yX12_cut wm_X12_cut ({ frames := 0, cells := 0, slots := 0, locals := 0 }) (va_Pc [.int s1, .long v] (pA D sz [] [])) (va_Ql (fun (_ : Int64) (_ : Unit) => True) oA (ro sz)) 0 0 (ro sz) := by
  refine Met.ofW (cc := cX12_cut) (maxL := 4) (ret := (some .long)) (by decide) rfl ?_
  intro p e s m args below meth c s₁ B hml hv
  obtain ⟨rfl, hsz, hP, hK⟩ := hv
  have hx := B.exec
  have hb := B.bytes
  have hr := B.returns
  have hts := atoms_spec (ws := wm_X12_cut) B.pre
  have hown : s.vm.findClass RX12 = some m.cls := findClass_of_methodNamed B.named
  have hlocks := B.notSynchronized
  subst hsz
  have hA : ∀ q : Nat, s.heap.size ≤ q → ro s.heap.size q := fun _ h => h
  have hS : va_S (ro s.heap.size) s.heap s.heap [] := va_S.rf
  have hP : va_P D vwCl [] s.heap := hP
  have hl := lv_entry ([.int s1, .long v]) (n := 4) (Nat.le_of_ble_eq_true rfl)
  rw [lg_entry_eq]
  generalize (lg_sl ([.int s1, .long v]) ++ List.replicate (4 - (lg_sl ([.int s1, .long v])).length) Slot.unset).toArray = ls at hl ⊢
  have hl : lv_has ls 4 [(0, .int s1), (1, .long v)] := hl
  refine lv_iload_n hx hb dX12_cut_0 rfl (lv_at hl 0 rfl) ?_
  refine lv_if_ne (tgt := 9) hx hb dX12_cut_1 (by decide) (fun c1 => ?_) (fun c1 => ?_)
  · have f1 := mt (ti_eq (a := s1.toInt) (b := 0) rfl (by decide)).mpr c1
    refine lv_iload_n hx hb dX12_cut_9 rfl (lv_at hl 0 rfl) ?_
    refine lv_iconst (v := 1) hx hb dX12_cut_10 (by decide) ?_
    refine lv_icmp_ne (tgt := 18) hx hb dX12_cut_11 (by decide) (fun c2 => ?_) (fun c2 => ?_)
    · have f2 := mt (ti_eq (a := s1.toInt) (b := 1) rfl (by decide)).mpr c2
      refine lv_iload_n hx hb dX12_cut_18 rfl (lv_at hl 0 rfl) ?_
      refine lv_iconst (v := 2) hx hb dX12_cut_19 (by decide) ?_
      refine lv_icmp_ne (tgt := 46) hx hb dX12_cut_20 (by decide) (fun c3 => ?_) (fun c3 => ?_)
      · have f3 := mt (ti_eq (a := s1.toInt) (b := 2) rfl (by decide)).mpr c3
        refine lv_lload_n hx hb dX12_cut_46 rfl (lv_at hl 1 rfl) ?_
        exact ro_lret hx hb hr hlocks hS dX12_cut_47 trivial
      · have f3 := (ti_eq (a := s1.toInt) (b := 2) rfl (by decide)).mp c3
        refine lv_lload_n hx hb dX12_cut_23 rfl (lv_at hl 1 rfl) ?_
        refine lv_l2i (v := v.toInt32) hx hb dX12_cut_24 rfl ?_
        refine lv_topi (fun x4 ex4 => ?_)
        refine lv_istore_n (lv' := [(3, .int x4), (0, .int s1), (1, .long v)]) hx hb dX12_cut_25 rfl hl (by decide) rfl (fun ls hl => ?_)
        refine lv_iload_n hx hb dX12_cut_26 rfl (lv_at hl 0 rfl) ?_
        refine lv_ldcw (v := 2147483647) hx hb hown (hts (.constant RX12 439 (2147483647)) (by decide +kernel)) dX12_cut_27 ?_
        refine lv_iand hx hb dX12_cut_30 ?_
        refine lv_topi (fun x5 ex5 => ?_)
        refine lv_ldcw (v := 2139095040) hx hb hown (hts (.constant RX12 440 (2139095040)) (by decide +kernel)) dX12_cut_31 ?_
        refine lv_icmp_le (tgt := 43) hx hb dX12_cut_34 (by decide) (fun c6 => ?_) (fun c6 => ?_)
        · have f6 := (ti_le (a := x5.toInt) (b := 2139095040) rfl (by decide)).mp c6
          refine lv_iload_n hx hb dX12_cut_43 rfl (lv_at hl 0 rfl) ?_
          refine lv_i2l (v := x4.toInt64) hx hb dX12_cut_44 rfl ?_
          exact ro_lret hx hb hr hlocks hS dX12_cut_45 trivial
        · have f6 := mt (ti_le (a := x5.toInt) (b := 2139095040) rfl (by decide)).mpr c6
          refine lv_ldc2 (v := 2143289344) hx hb hown (hts (.constantLong RX12 441 (2143289344)) (by decide +kernel)) dX12_cut_37 ?_
          refine lv_goto (tgt := 45) hx hb dX12_cut_40 (by decide) ?_
          exact ro_lret hx hb hr hlocks hS dX12_cut_45 trivial
    · have f2 := (ti_eq (a := s1.toInt) (b := 1) rfl (by decide)).mp c2
      refine lv_lload_n hx hb dX12_cut_14 rfl (lv_at hl 1 rfl) ?_
      refine lv_l2i (v := v.toInt32) hx hb dX12_cut_15 rfl ?_
      refine lv_topi (fun x7 ex7 => ?_)
      refine lv_i2l (v := x7.toInt64) hx hb dX12_cut_16 rfl ?_
      exact ro_lret hx hb hr hlocks hS dX12_cut_17 trivial
  · have f1 := (ti_eq (a := s1.toInt) (b := 0) rfl (by decide)).mp c1
    refine lv_lload_n hx hb dX12_cut_4 rfl (lv_at hl 1 rfl) ?_
    refine lv_l2i (v := v.toInt32) hx hb dX12_cut_5 rfl ?_
    refine lv_topi (fun x8 ex8 => ?_)
    refine lv_i2b (v := x8.toInt8.toInt32) hx hb dX12_cut_6 rfl ?_
    refine lv_topi (fun x9 ex9 => ?_)
    refine lv_i2l (v := x9.toInt64) hx hb dX12_cut_7 rfl ?_
    exact ro_lret hx hb hr hlocks hS dX12_cut_8 trivial

def wm_X12_put : List Cond := .code yX12_put cX12_put 7 (some .int) :: (([.methodLink RX12 180 yX12_isObject, .instanceMethod yX12_isObject, .selects RX12 yX12_isObject yX12_isObject, .initialized RX12, .code yX12_isObject cX12_isObject 2 (some .boolean), .fieldLink RX12 177 "TalePlayModel" "objects" "I", .methodLink RX12 166 yX12_in, .static yX12_in, .code yX12_in cX12_in 6 (some .boolean), .constantLong RX12 279 (3), .methodLink RX12 443 yX12_lacks, .instanceMethod yX12_lacks, .selects RX12 yX12_lacks yX12_lacks, .code yX12_lacks cX12_lacks 4 (some .int), .fieldLink RX12 136 "TalePlayModel" "hasLine" "[Z", .fieldLink RX12 126 "TalePlayModel" "lineSort" "[I", .fieldLink RX12 129 "TalePlayModel" "lineMany" "[I", .fieldLink RX12 132 "TalePlayModel" "items" "[J", .methodLink RX12 446 yX12_cut, .static yX12_cut, .code yX12_cut cX12_cut 4 (some .long), .constant RX12 439 (2147483647), .constant RX12 440 (2139095040), .constantLong RX12 441 (2143289344), .methodLink RX12 233 yX12_meets, .instanceMethod yX12_meets, .selects RX12 yX12_meets yX12_meets, .code yX12_meets cX12_meets 2 (some .int), .fieldLink RX12 161 "TalePlayModel" "latest" "I", .fieldLink RX12 7 "TalePlayModel" "came" "[I"] : List Cond) ++ wsX120)
set_option maxRecDepth 20000 in
theorem gm_X12_put_X12_isObject : GoodIn wm_X12_put (wsV RX12 180 RX12 yX12_isObject wm_X12_isObject) := goodIn_app (goodIn_of _ (by decide +kernel)) (goodIn_r _ [5, 6, 7, 8, 4, 9, 31, 32, 33, 34, 35, 36, 37, 38, 39, 40, 41, 42, 43, 44, 45, 46, 47, 48, 49, 50, 51, 52, 53, 54, 55, 56, 57, 58, 59, 60, 61, 62, 63, 64, 65, 66, 67, 68, 69, 70, 71, 72, 73, 74, 75, 76, 77, 78, 79, 80, 81, 82, 83, 84, 85, 86, 87, 88, 89, 90, 91, 92, 93, 94, 95, 96, 97, 98, 99] (by decide +kernel) (by decide +kernel))
set_option maxRecDepth 20000 in
theorem gm_X12_put_X12_in : GoodIn wm_X12_put (va_wsS RX12 166 yX12_in wm_X12_in) := goodIn_app (goodIn_of _ (by decide +kernel)) (goodIn_r _ [9] (by decide +kernel) (by decide +kernel))
set_option maxRecDepth 20000 in
theorem gm_X12_put_X12_lacks : GoodIn wm_X12_put (wsV RX12 443 RX12 yX12_lacks wm_X12_lacks) := goodIn_app (goodIn_of _ (by decide +kernel)) (goodIn_r _ [14, 15, 16, 17, 7, 8, 4, 9, 31, 32, 33, 34, 35, 36, 37, 38, 39, 40, 41, 42, 43, 44, 45, 46, 47, 48, 49, 50, 51, 52, 53, 54, 55, 56, 57, 58, 59, 60, 61, 62, 63, 64, 65, 66, 67, 68, 69, 70, 71, 72, 73, 74, 75, 76, 77, 78, 79, 80, 81, 82, 83, 84, 85, 86, 87, 88, 89, 90, 91, 92, 93, 94, 95, 96, 97, 98, 99] (by decide +kernel) (by decide +kernel))
set_option maxRecDepth 20000 in
theorem gm_X12_put_X12_cut : GoodIn wm_X12_put (va_wsS RX12 446 yX12_cut wm_X12_cut) := goodIn_app (goodIn_of _ (by decide +kernel)) (goodIn_r _ [21, 22, 23, 24] (by decide +kernel) (by decide +kernel))
set_option maxRecDepth 20000 in
theorem gm_X12_put_X12_meets : GoodIn wm_X12_put (wsV RX12 233 RX12 yX12_meets wm_X12_meets) := goodIn_app (goodIn_of _ (by decide +kernel)) (goodIn_r _ [28, 29, 30, 31, 32, 33, 34, 35, 36, 37, 38, 39, 40, 41, 42, 43, 44, 45, 46, 47, 48, 49, 50, 51, 52, 53, 54, 55, 56, 57, 58, 59, 60, 61, 62, 63, 64, 65, 66, 67, 68, 69, 70, 71, 72, 73, 74, 75, 76, 77, 78, 79, 80, 81, 82, 83, 84, 85, 86, 87, 88, 89, 90, 91, 92, 93, 94, 95, 96, 97, 98, 99] (by decide +kernel) (by decide +kernel))
set_option maxHeartbeats 4000000 in
set_option maxRecDepth 100000 in
theorem s_X12_put (l : Launch) (D : va_G) (sz : Nat) (o : Nat) (a : Nat → Nat) (t : Nat → ClassId) (i : Nat → Int32) (q : Int64) (c : Nat → Nat → Int32) (d : Nat → Nat → Int64) (w : Int32) (s1 : Int32) (n1 : Int32) (v1 : Int64) (hI : mInv i c) : Met l yX12_put wm_X12_put ({ frames := 2, cells := 0, slots := 0, locals := 48 }) (va_Pc [.ref o, .int w, .int s1, .int n1, .long v1] (pB D sz (mW o a t i q c d) (mT t))) (va_Qi (fun (r : Int32) (u : MS) => True ∧ mInv u.1 u.2.2.1 ∧ (∀ k, k ∉ ([0] : List Nat) → u.1 k = i k) ∧ (∀ k, k ∉ ([1] : List Nat) → u.2.2.1 k = c k)) (oC D (va_A (mW o a t i q c d) sz) (fun u : MS => mW o a t u.1 u.2.1 u.2.2.1 u.2.2.2) (fun _ => [])) (va_A (mW o a t i q c d) sz)) 0 0 (va_A (mW o a t i q c d) sz) := by
  refine Met.ofW (cc := cX12_put) (maxL := 7) (ret := (some .int)) (by decide) rfl ?_
  intro p e s m args below meth cd s₁ B hml hv
  obtain ⟨rfl, hsz, hP, hK, hD0⟩ := hv
  have hx := B.exec
  have hb := B.bytes
  have hr := B.returns
  have hts := atoms_spec (ws := wm_X12_put) B.pre
  have hown : s.vm.findClass RX12 = some m.cls := findClass_of_methodNamed B.named
  have hlocks := B.notSynchronized
  subst hsz
  have hD := hD0.self (sz := s.heap.size)
  generalize hAe : va_A (mW o a t i q c d) s.heap.size = A at hD ⊢
  have hA : ∀ q : Nat, s.heap.size ≤ q → A q := fun q h => by rw [← hAe]; exact Or.inr h
  have hS : va_S A s.heap s.heap [] := va_S.rf
  have hfi : ∀ k, k ∉ ([0] : List Nat) → i k = i k := fun _ _ => rfl
  have hfc : ∀ k, k ∉ ([1] : List Nat) → c k = c k := fun _ _ => rfl
  have hl := lv_entry ([.ref o, .int w, .int s1, .int n1, .long v1]) (n := 7) (Nat.le_of_ble_eq_true rfl)
  rw [lg_entry_eq]
  generalize (lg_sl ([.ref o, .int w, .int s1, .int n1, .long v1]) ++ List.replicate (7 - (lg_sl ([.ref o, .int w, .int s1, .int n1, .long v1])).length) Slot.unset).toArray = ls at hl ⊢
  have hl : lv_has ls 7 [(0, .ref o), (1, .int w), (2, .int s1), (3, .int n1), (4, .long v1)] := hl
  refine lv_aload_n hx hb dX12_put_0 rfl (lv_at hl 0 rfl) ?_
  refine lv_iload_n hx hb dX12_put_1 rfl (lv_at hl 1 rfl) ?_
  have rb5_i : 0 ≤ (i 5).toInt ∧ (i 5).toInt ≤ 30 := hI.1 5
  refine ro_calli (va_runV (As := [.int w]) (rest := []) ⟨hx, hb, hml, hown, hts⟩ (s_X12_isObject l D s.heap.size o a t i q c d w hI ) (cwV 1 hts gm_X12_put_X12_isObject rfl rfl rfl (by decide +kernel) ⟨Nat.le_of_ble_eq_true rfl, Nat.le_of_ble_eq_true rfl⟩) (pA_V hK hP (ci := 12) (q0 := 0) rfl rfl) rfl rfl hl.1 rfl (lv_room (Nat.le_of_ble_eq_true rfl)) dX12_put_2 ⟨Nat.le_of_ble_eq_true rfl, Nat.le_of_ble_eq_true rfl⟩) hS hA hP (fun r1 u1 H locs hw1 hP hS => ?_)
  have hw1 : r1 = if (0 ≤ w.toInt ∧ w.toInt ≤ (i 5).toInt - 1) then 1 else 0 := hw1
  refine lv_if_eq (tgt := 20) hx hb dX12_put_5 (by decide) (fun c2 => ?_) (fun c2 => ?_)
  · have f2 := fl_f hw1 c2
    refine lv_iconst (v := (-1)) hx hb dX12_put_20 (by decide) ?_
    exact rw_iret (i, q, c, d) hx hb hr hlocks hS (hK.sub (tys' := []) [] rfl) hP hD dX12_put_21 ⟨trivial, hI, hfi, hfc⟩
  · have f2 := fl_t hw1 c2
    refine lv_iload_n hx hb dX12_put_8 rfl (lv_at hl 2 rfl) ?_
    refine lv_i2l (v := s1.toInt64) hx hb dX12_put_9 rfl ?_
    refine lv_lconst (v := 0) hx hb dX12_put_10 (by decide) ?_
    refine lv_ldc2 (v := 3) hx hb hown (hts (.constantLong RX12 279 (3)) (by decide +kernel)) dX12_put_11 ?_
    have hPc := hP.sub (ws' := []) [] rfl
    have hKc := hK.sub (tys' := []) [] rfl
    refine ro_calli (va_runS (As := [.long s1.toInt64, .long 0, .long 3]) (rest := []) ⟨hx, hb, hml, hown, hts⟩ (c_X12_in l D H.size s1.toInt64 0 3 s1.toInt 0 3 ((Int32.toInt_toInt64 s1).trans rfl) (by decide) (by decide)) (va_cwS 3 hts gm_X12_put_X12_in rfl rfl rfl (by decide +kernel) ⟨Nat.le_of_ble_eq_true rfl, Nat.le_of_ble_eq_true rfl⟩) (pA_S hKc hPc) rfl rfl hl.1 rfl (lv_room (Nat.le_of_ble_eq_true rfl)) dX12_put_14 ⟨Nat.le_of_ble_eq_true rfl, Nat.le_of_ble_eq_true rfl⟩) hS hA hP (fun r3 u3 H locs hw3 hP hS => ?_)
    have hw3 : r3 = if (0 ≤ s1.toInt ∧ s1.toInt ≤ 3) then 1 else 0 := hw3
    refine lv_if_ne (tgt := 22) hx hb dX12_put_17 (by decide) (fun c4 => ?_) (fun c4 => ?_)
    · have f4 := fl_t hw3 c4
      refine lv_aload_n hx hb dX12_put_22 rfl (lv_at hl 0 rfl) ?_
      refine lv_iload_n hx hb dX12_put_23 rfl (lv_at hl 1 rfl) ?_
      refine lv_iload_n hx hb dX12_put_24 rfl (lv_at hl 2 rfl) ?_
      refine lv_iload_n hx hb dX12_put_25 rfl (lv_at hl 3 rfl) ?_
      refine ro_calli (va_runV (As := [.int w, .int s1, .int n1]) (rest := []) ⟨hx, hb, hml, hown, hts⟩ (s_X12_lacks l D H.size o a t i q c d w s1 n1 hI (by omega)) (cwV 3 hts gm_X12_put_X12_lacks rfl rfl rfl (by decide +kernel) ⟨Nat.le_of_ble_eq_true rfl, Nat.le_of_ble_eq_true rfl⟩) (pA_V hK hP (ci := 12) (q0 := 0) rfl rfl) rfl rfl hl.1 rfl (lv_room (Nat.le_of_ble_eq_true rfl)) dX12_put_26 ⟨Nat.le_of_ble_eq_true rfl, Nat.le_of_ble_eq_true rfl⟩) hS hA hP (fun r5 u5 H locs hw5 hP hS => ?_)
      have hw5 : r5.toInt = 1 ∨ r5.toInt = 2 ∨ r5.toInt = 3 ∨ (r5.toInt = 0 ∧ 0 ≤ n1.toInt ∧ n1.toInt ≤ 11) := hw5
      refine lv_istore (lv' := [(6, .int r5), (0, .ref o), (1, .int w), (2, .int s1), (3, .int n1), (4, .long v1)]) hx hb dX12_put_29 hl (by decide) rfl (fun ls hl => ?_)
      refine lv_iload hx hb dX12_put_31 (lv_at hl 0 rfl) ?_
      refine lv_if_le (tgt := 43) hx hb dX12_put_33 (by decide) (fun c6 => ?_) (fun c6 => ?_)
      · have f6 := (ti_le (a := r5.toInt) (b := 0) rfl (by decide)).mp c6
        refine lv_aload_n hx hb dX12_put_43 rfl (lv_at hl 1 rfl) ?_
        refine mget_62 hx hb hts (fun _ h => List.mem_cons_of_mem _ (List.mem_append_right _ h)) hown hK hP (hts (.fieldLink RX12 132 "TalePlayModel" "items" "[J") (by decide +kernel)) dX12_put_44 ?_
        refine lv_bipush (v := 12) hx hb dX12_put_47 (by decide) ?_
        refine lv_iload_n hx hb dX12_put_49 rfl (lv_at hl 2 rfl) ?_
        refine lv_imul hx hb dX12_put_50 ?_
        refine lv_topi (fun x7 ex7 => ?_)
        have tx7 := ti_mul (a := 12) (b := w.toInt) ex7 (by decide) rfl (by omega) (by omega)
        refine lv_iload_n hx hb dX12_put_51 rfl (lv_at hl 4 rfl) ?_
        refine lv_iadd hx hb dX12_put_52 ?_
        refine lv_topi (fun x8 ex8 => ?_)
        have tx8 := ti_add (a := (12 * w.toInt)) (b := n1.toInt) ex8 tx7 rfl (by omega) (by omega)
        refine lv_iload_n hx hb dX12_put_53 rfl (lv_at hl 3 rfl) ?_
        refine lv_lload hx hb dX12_put_54 (lv_at hl 5 rfl) ?_
        have hPc := hP.sub (ws' := []) [] rfl
        have hKc := hK.sub (tys' := []) [] rfl
        refine ro_calll (va_runS (As := [.int s1, .long v1]) (rest := [.int x8, .ref (a 62)]) ⟨hx, hb, hml, hown, hts⟩ (c_X12_cut l D H.size s1 v1) (va_cwS 2 hts gm_X12_put_X12_cut rfl rfl rfl (by decide +kernel) ⟨Nat.le_of_ble_eq_true rfl, Nat.le_of_ble_eq_true rfl⟩) (pA_S hKc hPc) rfl rfl hl.1 rfl (lv_room (Nat.le_of_ble_eq_true rfl)) dX12_put_56 ⟨Nat.le_of_ble_eq_true rfl, Nat.le_of_ble_eq_true rfl⟩) hS hA hP (fun r9 u9 H locs hw9 hP hS => ?_)
        refine mst_62 hx hb hK hP hD hS (vp_in_iff.mpr (by have h9 : x8.toInt = ((12 * w.toInt) + n1.toInt) := tx8; omega)) dX12_put_59 (fun H locs hP hD hS => ?_)
        refine lv_iconst (v := 1) hx hb dX12_put_60 (by decide) ?_
        exact rw_iret (i, q, c, (updD d 62 (x8 : Int32).toNatClampNeg r9)) hx hb hr hlocks hS (hK.sub (tys' := []) [] rfl) hP hD dX12_put_61 ⟨trivial, hI, hfi, hfc⟩
      · have f6 := mt (ti_le (a := r5.toInt) (b := 0) rfl (by decide)).mpr c6
        refine lv_aload_n hx hb dX12_put_36 rfl (lv_at hl 1 rfl) ?_
        refine lv_iload hx hb dX12_put_37 (lv_at hl 0 rfl) ?_
        refine al_calli (va_runV (As := [.int r5]) (rest := []) ⟨hx, hb, hml, hown, hts⟩ (s_X12_meets l D H.size o a t i q c d r5 hI (by omega)) (cwV 1 hts gm_X12_put_X12_meets rfl rfl rfl (by decide +kernel) ⟨Nat.le_of_ble_eq_true rfl, Nat.le_of_ble_eq_true rfl⟩) (pB_V hK hP hD (ci := 12) (q0 := 0) rfl rfl) rfl rfl hl.1 rfl (lv_room (Nat.le_of_ble_eq_true rfl)) dX12_put_39 ⟨Nat.le_of_ble_eq_true rfl, Nat.le_of_ble_eq_true rfl⟩) hS hA hP hD (fun r10 u10 H locs hw10 hP hD hS => ?_)
        obtain ⟨i10, q10, c10, d10⟩ := u10
        have hw10 : r10 = (-3) ∧ mInv i10 c10 ∧ (∀ k, k ∉ ([0] : List Nat) → i10 k = i k) ∧ (∀ k, k ∉ ([1] : List Nat) → c10 k = c k) := hw10
        obtain ⟨hw10, hI, hei10, hec10⟩ := hw10
        have hfi := fr_t hfi hei10 (by decide)
        have hfc := fr_t hfc hec10 (by decide)
        have hP : va_P D vwCl (mW o a t i10 q10 c10 d10) H := hP
        have hD : va_D A (mW o a t i10 q10 c10 d10) := hD
        have hw10 : r10 = (-3) := hw10
        subst hw10
        exact rw_iret (i10, q10, c10, d10) hx hb hr hlocks hS (hK.sub (tys' := []) [] rfl) hP hD dX12_put_42 ⟨trivial, hI, hfi, hfc⟩
    · have f4 := fl_f hw3 c4
      refine lv_iconst (v := (-1)) hx hb dX12_put_20 (by decide) ?_
      exact rw_iret (i, q, c, d) hx hb hr hlocks hS (hK.sub (tys' := []) [] rfl) hP hD dX12_put_21 ⟨trivial, hI, hfi, hfc⟩

def wm_X12_item : List Cond := .code yX12_item cX12_item 5 (some .int) :: (([.methodLink RX12 180 yX12_isObject, .instanceMethod yX12_isObject, .selects RX12 yX12_isObject yX12_isObject, .initialized RX12, .code yX12_isObject cX12_isObject 2 (some .boolean), .fieldLink RX12 177 "TalePlayModel" "objects" "I", .methodLink RX12 166 yX12_in, .static yX12_in, .code yX12_in cX12_in 6 (some .boolean), .constantLong RX12 279 (3), .methodLink RX12 443 yX12_lacks, .instanceMethod yX12_lacks, .selects RX12 yX12_lacks yX12_lacks, .code yX12_lacks cX12_lacks 4 (some .int), .fieldLink RX12 136 "TalePlayModel" "hasLine" "[Z", .fieldLink RX12 126 "TalePlayModel" "lineSort" "[I", .fieldLink RX12 129 "TalePlayModel" "lineMany" "[I", .fieldLink RX12 132 "TalePlayModel" "items" "[J", .fieldLink RX12 318 "TalePlayModel" "asked" "J", .methodLink RX12 233 yX12_meets, .instanceMethod yX12_meets, .selects RX12 yX12_meets yX12_meets, .code yX12_meets cX12_meets 2 (some .int), .fieldLink RX12 161 "TalePlayModel" "latest" "I", .fieldLink RX12 7 "TalePlayModel" "came" "[I"] : List Cond) ++ wsX120)
set_option maxRecDepth 20000 in
theorem gm_X12_item_X12_isObject : GoodIn wm_X12_item (wsV RX12 180 RX12 yX12_isObject wm_X12_isObject) := goodIn_app (goodIn_of _ (by decide +kernel)) (goodIn_r _ [5, 6, 7, 8, 4, 9, 26, 27, 28, 29, 30, 31, 32, 33, 34, 35, 36, 37, 38, 39, 40, 41, 42, 43, 44, 45, 46, 47, 48, 49, 50, 51, 52, 53, 54, 55, 56, 57, 58, 59, 60, 61, 62, 63, 64, 65, 66, 67, 68, 69, 70, 71, 72, 73, 74, 75, 76, 77, 78, 79, 80, 81, 82, 83, 84, 85, 86, 87, 88, 89, 90, 91, 92, 93, 94] (by decide +kernel) (by decide +kernel))
set_option maxRecDepth 20000 in
theorem gm_X12_item_X12_in : GoodIn wm_X12_item (va_wsS RX12 166 yX12_in wm_X12_in) := goodIn_app (goodIn_of _ (by decide +kernel)) (goodIn_r _ [9] (by decide +kernel) (by decide +kernel))
set_option maxRecDepth 20000 in
theorem gm_X12_item_X12_lacks : GoodIn wm_X12_item (wsV RX12 443 RX12 yX12_lacks wm_X12_lacks) := goodIn_app (goodIn_of _ (by decide +kernel)) (goodIn_r _ [14, 15, 16, 17, 7, 8, 4, 9, 26, 27, 28, 29, 30, 31, 32, 33, 34, 35, 36, 37, 38, 39, 40, 41, 42, 43, 44, 45, 46, 47, 48, 49, 50, 51, 52, 53, 54, 55, 56, 57, 58, 59, 60, 61, 62, 63, 64, 65, 66, 67, 68, 69, 70, 71, 72, 73, 74, 75, 76, 77, 78, 79, 80, 81, 82, 83, 84, 85, 86, 87, 88, 89, 90, 91, 92, 93, 94] (by decide +kernel) (by decide +kernel))
set_option maxRecDepth 20000 in
theorem gm_X12_item_X12_meets : GoodIn wm_X12_item (wsV RX12 233 RX12 yX12_meets wm_X12_meets) := goodIn_app (goodIn_of _ (by decide +kernel)) (goodIn_r _ [23, 24, 25, 26, 27, 28, 29, 30, 31, 32, 33, 34, 35, 36, 37, 38, 39, 40, 41, 42, 43, 44, 45, 46, 47, 48, 49, 50, 51, 52, 53, 54, 55, 56, 57, 58, 59, 60, 61, 62, 63, 64, 65, 66, 67, 68, 69, 70, 71, 72, 73, 74, 75, 76, 77, 78, 79, 80, 81, 82, 83, 84, 85, 86, 87, 88, 89, 90, 91, 92, 93, 94] (by decide +kernel) (by decide +kernel))
set_option maxHeartbeats 4000000 in
set_option maxRecDepth 100000 in
theorem s_X12_item (l : Launch) (D : va_G) (sz : Nat) (o : Nat) (a : Nat → Nat) (t : Nat → ClassId) (i : Nat → Int32) (q : Int64) (c : Nat → Nat → Int32) (d : Nat → Nat → Int64) (w : Int32) (s1 : Int32) (n1 : Int32) (hI : mInv i c) : Met l yX12_item wm_X12_item ({ frames := 2, cells := 0, slots := 0, locals := 48 }) (va_Pc [.ref o, .int w, .int s1, .int n1] (pB D sz (mW o a t i q c d) (mT t))) (va_Qi (fun (r : Int32) (u : MS) => True ∧ mInv u.1 u.2.2.1 ∧ (∀ k, k ∉ ([0] : List Nat) → u.1 k = i k) ∧ (∀ k, k ∉ ([1] : List Nat) → u.2.2.1 k = c k)) (oC D (va_A (mW o a t i q c d) sz) (fun u : MS => mW o a t u.1 u.2.1 u.2.2.1 u.2.2.2) (fun _ => [])) (va_A (mW o a t i q c d) sz)) 0 0 (va_A (mW o a t i q c d) sz) := by
  refine Met.ofW (cc := cX12_item) (maxL := 5) (ret := (some .int)) (by decide) rfl ?_
  intro p e s m args below meth cd s₁ B hml hv
  obtain ⟨rfl, hsz, hP, hK, hD0⟩ := hv
  have hx := B.exec
  have hb := B.bytes
  have hr := B.returns
  have hts := atoms_spec (ws := wm_X12_item) B.pre
  have hown : s.vm.findClass RX12 = some m.cls := findClass_of_methodNamed B.named
  have hlocks := B.notSynchronized
  subst hsz
  have hD := hD0.self (sz := s.heap.size)
  generalize hAe : va_A (mW o a t i q c d) s.heap.size = A at hD ⊢
  have hA : ∀ q : Nat, s.heap.size ≤ q → A q := fun q h => by rw [← hAe]; exact Or.inr h
  have hS : va_S A s.heap s.heap [] := va_S.rf
  have hfi : ∀ k, k ∉ ([0] : List Nat) → i k = i k := fun _ _ => rfl
  have hfc : ∀ k, k ∉ ([1] : List Nat) → c k = c k := fun _ _ => rfl
  have hl := lv_entry ([.ref o, .int w, .int s1, .int n1]) (n := 5) (Nat.le_of_ble_eq_true rfl)
  rw [lg_entry_eq]
  generalize (lg_sl ([.ref o, .int w, .int s1, .int n1]) ++ List.replicate (5 - (lg_sl ([.ref o, .int w, .int s1, .int n1])).length) Slot.unset).toArray = ls at hl ⊢
  have hl : lv_has ls 5 [(0, .ref o), (1, .int w), (2, .int s1), (3, .int n1)] := hl
  refine lv_aload_n hx hb dX12_item_0 rfl (lv_at hl 0 rfl) ?_
  refine lv_iload_n hx hb dX12_item_1 rfl (lv_at hl 1 rfl) ?_
  have rb5_i : 0 ≤ (i 5).toInt ∧ (i 5).toInt ≤ 30 := hI.1 5
  refine ro_calli (va_runV (As := [.int w]) (rest := []) ⟨hx, hb, hml, hown, hts⟩ (s_X12_isObject l D s.heap.size o a t i q c d w hI ) (cwV 1 hts gm_X12_item_X12_isObject rfl rfl rfl (by decide +kernel) ⟨Nat.le_of_ble_eq_true rfl, Nat.le_of_ble_eq_true rfl⟩) (pA_V hK hP (ci := 12) (q0 := 0) rfl rfl) rfl rfl hl.1 rfl (lv_room (Nat.le_of_ble_eq_true rfl)) dX12_item_2 ⟨Nat.le_of_ble_eq_true rfl, Nat.le_of_ble_eq_true rfl⟩) hS hA hP (fun r1 u1 H locs hw1 hP hS => ?_)
  have hw1 : r1 = if (0 ≤ w.toInt ∧ w.toInt ≤ (i 5).toInt - 1) then 1 else 0 := hw1
  refine lv_if_eq (tgt := 20) hx hb dX12_item_5 (by decide) (fun c2 => ?_) (fun c2 => ?_)
  · have f2 := fl_f hw1 c2
    refine lv_iconst (v := (-1)) hx hb dX12_item_20 (by decide) ?_
    exact rw_iret (i, q, c, d) hx hb hr hlocks hS (hK.sub (tys' := []) [] rfl) hP hD dX12_item_21 ⟨trivial, hI, hfi, hfc⟩
  · have f2 := fl_t hw1 c2
    refine lv_iload_n hx hb dX12_item_8 rfl (lv_at hl 2 rfl) ?_
    refine lv_i2l (v := s1.toInt64) hx hb dX12_item_9 rfl ?_
    refine lv_lconst (v := 0) hx hb dX12_item_10 (by decide) ?_
    refine lv_ldc2 (v := 3) hx hb hown (hts (.constantLong RX12 279 (3)) (by decide +kernel)) dX12_item_11 ?_
    have hPc := hP.sub (ws' := []) [] rfl
    have hKc := hK.sub (tys' := []) [] rfl
    refine ro_calli (va_runS (As := [.long s1.toInt64, .long 0, .long 3]) (rest := []) ⟨hx, hb, hml, hown, hts⟩ (c_X12_in l D H.size s1.toInt64 0 3 s1.toInt 0 3 ((Int32.toInt_toInt64 s1).trans rfl) (by decide) (by decide)) (va_cwS 3 hts gm_X12_item_X12_in rfl rfl rfl (by decide +kernel) ⟨Nat.le_of_ble_eq_true rfl, Nat.le_of_ble_eq_true rfl⟩) (pA_S hKc hPc) rfl rfl hl.1 rfl (lv_room (Nat.le_of_ble_eq_true rfl)) dX12_item_14 ⟨Nat.le_of_ble_eq_true rfl, Nat.le_of_ble_eq_true rfl⟩) hS hA hP (fun r3 u3 H locs hw3 hP hS => ?_)
    have hw3 : r3 = if (0 ≤ s1.toInt ∧ s1.toInt ≤ 3) then 1 else 0 := hw3
    refine lv_if_ne (tgt := 22) hx hb dX12_item_17 (by decide) (fun c4 => ?_) (fun c4 => ?_)
    · have f4 := fl_t hw3 c4
      refine lv_aload_n hx hb dX12_item_22 rfl (lv_at hl 0 rfl) ?_
      refine lv_iload_n hx hb dX12_item_23 rfl (lv_at hl 1 rfl) ?_
      refine lv_iload_n hx hb dX12_item_24 rfl (lv_at hl 2 rfl) ?_
      refine lv_iload_n hx hb dX12_item_25 rfl (lv_at hl 3 rfl) ?_
      refine ro_calli (va_runV (As := [.int w, .int s1, .int n1]) (rest := []) ⟨hx, hb, hml, hown, hts⟩ (s_X12_lacks l D H.size o a t i q c d w s1 n1 hI (by omega)) (cwV 3 hts gm_X12_item_X12_lacks rfl rfl rfl (by decide +kernel) ⟨Nat.le_of_ble_eq_true rfl, Nat.le_of_ble_eq_true rfl⟩) (pA_V hK hP (ci := 12) (q0 := 0) rfl rfl) rfl rfl hl.1 rfl (lv_room (Nat.le_of_ble_eq_true rfl)) dX12_item_26 ⟨Nat.le_of_ble_eq_true rfl, Nat.le_of_ble_eq_true rfl⟩) hS hA hP (fun r5 u5 H locs hw5 hP hS => ?_)
      have hw5 : r5.toInt = 1 ∨ r5.toInt = 2 ∨ r5.toInt = 3 ∨ (r5.toInt = 0 ∧ 0 ≤ n1.toInt ∧ n1.toInt ≤ 11) := hw5
      refine lv_istore (lv' := [(4, .int r5), (0, .ref o), (1, .int w), (2, .int s1), (3, .int n1)]) hx hb dX12_item_29 hl (by decide) rfl (fun ls hl => ?_)
      refine lv_iload hx hb dX12_item_31 (lv_at hl 0 rfl) ?_
      refine lv_if_le (tgt := 43) hx hb dX12_item_33 (by decide) (fun c6 => ?_) (fun c6 => ?_)
      · have f6 := (ti_le (a := r5.toInt) (b := 0) rfl (by decide)).mp c6
        refine lv_aload_n hx hb dX12_item_43 rfl (lv_at hl 1 rfl) ?_
        refine lv_aload_n hx hb dX12_item_44 rfl (lv_at hl 1 rfl) ?_
        refine mget_62 hx hb hts (fun _ h => List.mem_cons_of_mem _ (List.mem_append_right _ h)) hown hK hP (hts (.fieldLink RX12 132 "TalePlayModel" "items" "[J") (by decide +kernel)) dX12_item_45 ?_
        refine lv_bipush (v := 12) hx hb dX12_item_48 (by decide) ?_
        refine lv_iload_n hx hb dX12_item_50 rfl (lv_at hl 2 rfl) ?_
        refine lv_imul hx hb dX12_item_51 ?_
        refine lv_topi (fun x7 ex7 => ?_)
        have tx7 := ti_mul (a := 12) (b := w.toInt) ex7 (by decide) rfl (by omega) (by omega)
        refine lv_iload_n hx hb dX12_item_52 rfl (lv_at hl 4 rfl) ?_
        refine lv_iadd hx hb dX12_item_53 ?_
        refine lv_topi (fun x8 ex8 => ?_)
        have tx8 := ti_add (a := (12 * w.toInt)) (b := n1.toInt) ex8 tx7 rfl (by omega) (by omega)
        refine mld_62 hx hb hK hP (vp_in_iff.mpr (by have h9 : x8.toInt = ((12 * w.toInt) + n1.toInt) := tx8; omega)) dX12_item_54 (fun x9 ex9 => ?_)
        refine mput_37 hx hb hts (fun _ h => List.mem_cons_of_mem _ (List.mem_append_right _ h)) hown hK hP hD hS (hts (.fieldLink RX12 318 "TalePlayModel" "asked" "J") (by decide +kernel)) rfl rfl dX12_item_55 (fun H locs hP hD hS => ?_)
        refine lv_iconst (v := 1) hx hb dX12_item_58 (by decide) ?_
        exact rw_iret (i, x9, c, d) hx hb hr hlocks hS (hK.sub (tys' := []) [] rfl) hP hD dX12_item_59 ⟨trivial, hI, hfi, hfc⟩
      · have f6 := mt (ti_le (a := r5.toInt) (b := 0) rfl (by decide)).mpr c6
        refine lv_aload_n hx hb dX12_item_36 rfl (lv_at hl 1 rfl) ?_
        refine lv_iload hx hb dX12_item_37 (lv_at hl 0 rfl) ?_
        refine al_calli (va_runV (As := [.int r5]) (rest := []) ⟨hx, hb, hml, hown, hts⟩ (s_X12_meets l D H.size o a t i q c d r5 hI (by omega)) (cwV 1 hts gm_X12_item_X12_meets rfl rfl rfl (by decide +kernel) ⟨Nat.le_of_ble_eq_true rfl, Nat.le_of_ble_eq_true rfl⟩) (pB_V hK hP hD (ci := 12) (q0 := 0) rfl rfl) rfl rfl hl.1 rfl (lv_room (Nat.le_of_ble_eq_true rfl)) dX12_item_39 ⟨Nat.le_of_ble_eq_true rfl, Nat.le_of_ble_eq_true rfl⟩) hS hA hP hD (fun r10 u10 H locs hw10 hP hD hS => ?_)
        obtain ⟨i10, q10, c10, d10⟩ := u10
        have hw10 : r10 = (-3) ∧ mInv i10 c10 ∧ (∀ k, k ∉ ([0] : List Nat) → i10 k = i k) ∧ (∀ k, k ∉ ([1] : List Nat) → c10 k = c k) := hw10
        obtain ⟨hw10, hI, hei10, hec10⟩ := hw10
        have hfi := fr_t hfi hei10 (by decide)
        have hfc := fr_t hfc hec10 (by decide)
        have hP : va_P D vwCl (mW o a t i10 q10 c10 d10) H := hP
        have hD : va_D A (mW o a t i10 q10 c10 d10) := hD
        have hw10 : r10 = (-3) := hw10
        subst hw10
        exact rw_iret (i10, q10, c10, d10) hx hb hr hlocks hS (hK.sub (tys' := []) [] rfl) hP hD dX12_item_42 ⟨trivial, hI, hfi, hfc⟩
    · have f4 := fl_f hw3 c4
      refine lv_iconst (v := (-1)) hx hb dX12_item_20 (by decide) ?_
      exact rw_iret (i, q, c, d) hx hb hr hlocks hS (hK.sub (tys' := []) [] rfl) hP hD dX12_item_21 ⟨trivial, hI, hfi, hfc⟩

def wm_X12_copy : List Cond := .code yX12_copy cX12_copy 8 (some .int) :: (([.methodLink RX12 180 yX12_isObject, .instanceMethod yX12_isObject, .selects RX12 yX12_isObject yX12_isObject, .initialized RX12, .code yX12_isObject cX12_isObject 2 (some .boolean), .fieldLink RX12 177 "TalePlayModel" "objects" "I", .methodLink RX12 166 yX12_in, .static yX12_in, .code yX12_in cX12_in 6 (some .boolean), .constantLong RX12 279 (3), .fieldLink RX12 136 "TalePlayModel" "hasLine" "[Z", .methodLink RX12 233 yX12_meets, .instanceMethod yX12_meets, .selects RX12 yX12_meets yX12_meets, .code yX12_meets cX12_meets 2 (some .int), .fieldLink RX12 161 "TalePlayModel" "latest" "I", .fieldLink RX12 7 "TalePlayModel" "came" "[I", .fieldLink RX12 129 "TalePlayModel" "lineMany" "[I", .fieldLink RX12 132 "TalePlayModel" "items" "[J", .fieldLink RX12 148 "TalePlayModel" "held" "[J", .fieldLink RX12 126 "TalePlayModel" "lineSort" "[I"] : List Cond) ++ wsX120)
set_option maxRecDepth 20000 in
theorem gm_X12_copy_X12_isObject : GoodIn wm_X12_copy (wsV RX12 180 RX12 yX12_isObject wm_X12_isObject) := goodIn_app (goodIn_of _ (by decide +kernel)) (goodIn_r _ [5, 6, 7, 8, 4, 9, 22, 23, 24, 25, 26, 27, 28, 29, 30, 31, 32, 33, 34, 35, 36, 37, 38, 39, 40, 41, 42, 43, 44, 45, 46, 47, 48, 49, 50, 51, 52, 53, 54, 55, 56, 57, 58, 59, 60, 61, 62, 63, 64, 65, 66, 67, 68, 69, 70, 71, 72, 73, 74, 75, 76, 77, 78, 79, 80, 81, 82, 83, 84, 85, 86, 87, 88, 89, 90] (by decide +kernel) (by decide +kernel))
set_option maxRecDepth 20000 in
theorem gm_X12_copy_X12_in : GoodIn wm_X12_copy (va_wsS RX12 166 yX12_in wm_X12_in) := goodIn_app (goodIn_of _ (by decide +kernel)) (goodIn_r _ [9] (by decide +kernel) (by decide +kernel))
set_option maxRecDepth 20000 in
theorem gm_X12_copy_X12_meets : GoodIn wm_X12_copy (wsV RX12 233 RX12 yX12_meets wm_X12_meets) := goodIn_app (goodIn_of _ (by decide +kernel)) (goodIn_r _ [15, 16, 17, 22, 23, 24, 25, 26, 27, 28, 29, 30, 31, 32, 33, 34, 35, 36, 37, 38, 39, 40, 41, 42, 43, 44, 45, 46, 47, 48, 49, 50, 51, 52, 53, 54, 55, 56, 57, 58, 59, 60, 61, 62, 63, 64, 65, 66, 67, 68, 69, 70, 71, 72, 73, 74, 75, 76, 77, 78, 79, 80, 81, 82, 83, 84, 85, 86, 87, 88, 89, 90] (by decide +kernel) (by decide +kernel))
set_option maxHeartbeats 4000000 in
set_option maxRecDepth 100000 in
theorem s_X12_copy (l : Launch) (D : va_G) (sz : Nat) (o : Nat) (a : Nat → Nat) (t : Nat → ClassId) (i : Nat → Int32) (q : Int64) (c : Nat → Nat → Int32) (d : Nat → Nat → Int64) (w : Int32) (s1 : Int32) (n1 : Int32) (w2 : Int32) (n2 : Int32) (n3 : Int32) (hI : mInv i c) : Met l yX12_copy wm_X12_copy ({ frames := 2, cells := 0, slots := 0, locals := 46 }) (va_Pc [.ref o, .int w, .int s1, .int n1, .int w2, .int n2, .int n3] (pB D sz (mW o a t i q c d) (mT t))) (va_Qi (fun (r : Int32) (u : MS) => True ∧ mInv u.1 u.2.2.1 ∧ (∀ k, k ∉ ([0] : List Nat) → u.1 k = i k) ∧ (∀ k, k ∉ ([1] : List Nat) → u.2.2.1 k = c k)) (oC D (va_A (mW o a t i q c d) sz) (fun u : MS => mW o a t u.1 u.2.1 u.2.2.1 u.2.2.2) (fun _ => [])) (va_A (mW o a t i q c d) sz)) 0 0 (va_A (mW o a t i q c d) sz) := by
  refine Met.ofW (cc := cX12_copy) (maxL := 8) (ret := (some .int)) (by decide) rfl ?_
  intro p e s m args below meth cd s₁ B hml hv
  obtain ⟨rfl, hsz, hP, hK, hD0⟩ := hv
  have hx := B.exec
  have hb := B.bytes
  have hr := B.returns
  have hts := atoms_spec (ws := wm_X12_copy) B.pre
  have hown : s.vm.findClass RX12 = some m.cls := findClass_of_methodNamed B.named
  have hlocks := B.notSynchronized
  subst hsz
  have hD := hD0.self (sz := s.heap.size)
  generalize hAe : va_A (mW o a t i q c d) s.heap.size = A at hD ⊢
  have hA : ∀ q : Nat, s.heap.size ≤ q → A q := fun q h => by rw [← hAe]; exact Or.inr h
  have hS : va_S A s.heap s.heap [] := va_S.rf
  have hfi : ∀ k, k ∉ ([0] : List Nat) → i k = i k := fun _ _ => rfl
  have hfc : ∀ k, k ∉ ([1] : List Nat) → c k = c k := fun _ _ => rfl
  have hl := lv_entry ([.ref o, .int w, .int s1, .int n1, .int w2, .int n2, .int n3]) (n := 8) (Nat.le_of_ble_eq_true rfl)
  rw [lg_entry_eq]
  generalize (lg_sl ([.ref o, .int w, .int s1, .int n1, .int w2, .int n2, .int n3]) ++ List.replicate (8 - (lg_sl ([.ref o, .int w, .int s1, .int n1, .int w2, .int n2, .int n3])).length) Slot.unset).toArray = ls at hl ⊢
  have hl : lv_has ls 8 [(0, .ref o), (1, .int w), (2, .int s1), (3, .int n1), (4, .int w2), (5, .int n2), (6, .int n3)] := hl
  refine lv_aload_n hx hb dX12_copy_0 rfl (lv_at hl 0 rfl) ?_
  refine lv_iload_n hx hb dX12_copy_1 rfl (lv_at hl 1 rfl) ?_
  have rb5_i : 0 ≤ (i 5).toInt ∧ (i 5).toInt ≤ 30 := hI.1 5
  refine ro_calli (va_runV (As := [.int w]) (rest := []) ⟨hx, hb, hml, hown, hts⟩ (s_X12_isObject l D s.heap.size o a t i q c d w hI ) (cwV 1 hts gm_X12_copy_X12_isObject rfl rfl rfl (by decide +kernel) ⟨Nat.le_of_ble_eq_true rfl, Nat.le_of_ble_eq_true rfl⟩) (pA_V hK hP (ci := 12) (q0 := 0) rfl rfl) rfl rfl hl.1 rfl (lv_room (Nat.le_of_ble_eq_true rfl)) dX12_copy_2 ⟨Nat.le_of_ble_eq_true rfl, Nat.le_of_ble_eq_true rfl⟩) hS hA hP (fun r1 u1 H locs hw1 hP hS => ?_)
  have hw1 : r1 = if (0 ≤ w.toInt ∧ w.toInt ≤ (i 5).toInt - 1) then 1 else 0 := hw1
  refine lv_if_eq (tgt := 29) hx hb dX12_copy_5 (by decide) (fun c2 => ?_) (fun c2 => ?_)
  · have f2 := fl_f hw1 c2
    refine lv_iconst (v := (-1)) hx hb dX12_copy_29 (by decide) ?_
    exact rw_iret (i, q, c, d) hx hb hr hlocks hS (hK.sub (tys' := []) [] rfl) hP hD dX12_copy_30 ⟨trivial, hI, hfi, hfc⟩
  · have f2 := fl_t hw1 c2
    refine lv_aload_n hx hb dX12_copy_8 rfl (lv_at hl 0 rfl) ?_
    refine lv_iload hx hb dX12_copy_9 (lv_at hl 4 rfl) ?_
    refine ro_calli (va_runV (As := [.int w2]) (rest := []) ⟨hx, hb, hml, hown, hts⟩ (s_X12_isObject l D H.size o a t i q c d w2 hI ) (cwV 1 hts gm_X12_copy_X12_isObject rfl rfl rfl (by decide +kernel) ⟨Nat.le_of_ble_eq_true rfl, Nat.le_of_ble_eq_true rfl⟩) (pA_V hK hP (ci := 12) (q0 := 0) rfl rfl) rfl rfl hl.1 rfl (lv_room (Nat.le_of_ble_eq_true rfl)) dX12_copy_11 ⟨Nat.le_of_ble_eq_true rfl, Nat.le_of_ble_eq_true rfl⟩) hS hA hP (fun r3 u3 H locs hw3 hP hS => ?_)
    have hw3 : r3 = if (0 ≤ w2.toInt ∧ w2.toInt ≤ (i 5).toInt - 1) then 1 else 0 := hw3
    refine lv_if_eq (tgt := 29) hx hb dX12_copy_14 (by decide) (fun c4 => ?_) (fun c4 => ?_)
    · have f4 := fl_f hw3 c4
      refine lv_iconst (v := (-1)) hx hb dX12_copy_29 (by decide) ?_
      exact rw_iret (i, q, c, d) hx hb hr hlocks hS (hK.sub (tys' := []) [] rfl) hP hD dX12_copy_30 ⟨trivial, hI, hfi, hfc⟩
    · have f4 := fl_t hw3 c4
      refine lv_iload_n hx hb dX12_copy_17 rfl (lv_at hl 2 rfl) ?_
      refine lv_i2l (v := s1.toInt64) hx hb dX12_copy_18 rfl ?_
      refine lv_lconst (v := 0) hx hb dX12_copy_19 (by decide) ?_
      refine lv_ldc2 (v := 3) hx hb hown (hts (.constantLong RX12 279 (3)) (by decide +kernel)) dX12_copy_20 ?_
      have hPc := hP.sub (ws' := []) [] rfl
      have hKc := hK.sub (tys' := []) [] rfl
      refine ro_calli (va_runS (As := [.long s1.toInt64, .long 0, .long 3]) (rest := []) ⟨hx, hb, hml, hown, hts⟩ (c_X12_in l D H.size s1.toInt64 0 3 s1.toInt 0 3 ((Int32.toInt_toInt64 s1).trans rfl) (by decide) (by decide)) (va_cwS 3 hts gm_X12_copy_X12_in rfl rfl rfl (by decide +kernel) ⟨Nat.le_of_ble_eq_true rfl, Nat.le_of_ble_eq_true rfl⟩) (pA_S hKc hPc) rfl rfl hl.1 rfl (lv_room (Nat.le_of_ble_eq_true rfl)) dX12_copy_23 ⟨Nat.le_of_ble_eq_true rfl, Nat.le_of_ble_eq_true rfl⟩) hS hA hP (fun r5 u5 H locs hw5 hP hS => ?_)
      have hw5 : r5 = if (0 ≤ s1.toInt ∧ s1.toInt ≤ 3) then 1 else 0 := hw5
      refine lv_if_ne (tgt := 31) hx hb dX12_copy_26 (by decide) (fun c6 => ?_) (fun c6 => ?_)
      · have f6 := fl_t hw5 c6
        refine lv_aload_n hx hb dX12_copy_31 rfl (lv_at hl 0 rfl) ?_
        refine mget_63 hx hb hts (fun _ h => List.mem_cons_of_mem _ (List.mem_append_right _ h)) hown hK hP (hts (.fieldLink RX12 136 "TalePlayModel" "hasLine" "[Z") (by decide +kernel)) dX12_copy_32 ?_
        refine lv_iload_n hx hb dX12_copy_35 rfl (lv_at hl 1 rfl) ?_
        refine mld_63 hx hb hK hP (vp_in_iff.mpr (by have h9 : w.toInt = w.toInt := rfl; omega)) dX12_copy_36 (fun x7 ex7 => ?_)
        have rx7 : 0 ≤ x7.toInt ∧ x7.toInt ≤ 1 := by rw [ex7]; exact hI.2 63 _
        have jn8 : ∀ (H : Heap) (locs : List Loc) (ls : Array Slot), va_P D vwCl (mW o a t i q c d) H → va_D A (mW o a t i q c d) → va_S A s.heap H locs → lv_has ls 8 [(0, .ref o), (1, .int w), (2, .int s1), (3, .int n1), (4, .int w2), (5, .int n2), (6, .int n3)] → W p l e (headSpec wm_X12_copy ({ frames := 2, cells := 0, slots := 0, locals := 46 })).room s m ([.ref o, .int w, .int s1, .int n1, .int w2, .int n2, .int n3] : List Value).toArray below meth cd H locs 0 0 (MQ below (va_Qi (fun (r : Int32) (u : MS) => True ∧ mInv u.1 u.2.2.1 ∧ (∀ k, k ∉ ([0] : List Nat) → u.1 k = i k) ∧ (∀ k, k ∉ ([1] : List Nat) → u.2.2.1 k = c k)) (oC D A (fun u : MS => mW o a t u.1 u.2.1 u.2.2.1 u.2.2.2) (fun _ => [])) A) ([.ref o, .int w, .int s1, .int n1, .int w2, .int n2, .int n3] : List Value).toArray s 0 0 A) (F0 m 50 ls []) := by
          intro H locs ls hP hD hS hl
          refine lv_aload_n hx hb dX12_copy_50 rfl (lv_at hl 0 rfl) ?_
          refine mget_63 hx hb hts (fun _ h => List.mem_cons_of_mem _ (List.mem_append_right _ h)) hown hK hP (hts (.fieldLink RX12 136 "TalePlayModel" "hasLine" "[Z") (by decide +kernel)) dX12_copy_51 ?_
          refine lv_iload hx hb dX12_copy_54 (lv_at hl 4 rfl) ?_
          refine mld_63 hx hb hK hP (vp_in_iff.mpr (by have h9 : w2.toInt = w2.toInt := rfl; omega)) dX12_copy_56 (fun x9 ex9 => ?_)
          have rx9 : 0 ≤ x9.toInt ∧ x9.toInt ≤ 1 := by rw [ex9]; exact hI.2 63 _
          have jn10 : ∀ (H : Heap) (locs : List Loc) (ls : Array Slot), va_P D vwCl (mW o a t i q c d) H → va_D A (mW o a t i q c d) → va_S A s.heap H locs → lv_has ls 8 [(0, .ref o), (1, .int w), (2, .int s1), (3, .int n1), (4, .int w2), (5, .int n2), (6, .int n3)] → W p l e (headSpec wm_X12_copy ({ frames := 2, cells := 0, slots := 0, locals := 46 })).room s m ([.ref o, .int w, .int s1, .int n1, .int w2, .int n2, .int n3] : List Value).toArray below meth cd H locs 0 0 (MQ below (va_Qi (fun (r : Int32) (u : MS) => True ∧ mInv u.1 u.2.2.1 ∧ (∀ k, k ∉ ([0] : List Nat) → u.1 k = i k) ∧ (∀ k, k ∉ ([1] : List Nat) → u.2.2.1 k = c k)) (oC D A (fun u : MS => mW o a t u.1 u.2.1 u.2.2.1 u.2.2.2) (fun _ => [])) A) ([.ref o, .int w, .int s1, .int n1, .int w2, .int n2, .int n3] : List Value).toArray s 0 0 A) (F0 m 77 ls []) := by
            intro H locs ls hP hD hS hl
            refine lv_aload_n hx hb dX12_copy_77 rfl (lv_at hl 0 rfl) ?_
            refine mget_63 hx hb hts (fun _ h => List.mem_cons_of_mem _ (List.mem_append_right _ h)) hown hK hP (hts (.fieldLink RX12 136 "TalePlayModel" "hasLine" "[Z") (by decide +kernel)) dX12_copy_78 ?_
            refine lv_iload_n hx hb dX12_copy_81 rfl (lv_at hl 1 rfl) ?_
            refine mld_63 hx hb hK hP (vp_in_iff.mpr (by have h9 : w.toInt = w.toInt := rfl; omega)) dX12_copy_82 (fun x11 ex11 => ?_)
            have rx11 : 0 ≤ x11.toInt ∧ x11.toInt ≤ 1 := by rw [ex11]; exact hI.2 63 _
            refine lv_if_eq (tgt := 96) hx hb dX12_copy_83 (by decide) (fun c12 => ?_) (fun c12 => ?_)
            · have f12 := (ti_eq (a := x11.toInt) (b := 0) rfl (by decide)).mp c12
              refine lv_aload_n hx hb dX12_copy_96 rfl (lv_at hl 0 rfl) ?_
              refine lv_iconst (v := 1) hx hb dX12_copy_97 (by decide) ?_
              refine al_calli (va_runV (As := [.int 1]) (rest := []) ⟨hx, hb, hml, hown, hts⟩ (s_X12_meets l D H.size o a t i q c d 1 hI (by have h90 : (1 : Int32).toInt = 1 := (by decide); omega)) (cwV 1 hts gm_X12_copy_X12_meets rfl rfl rfl (by decide +kernel) ⟨Nat.le_of_ble_eq_true rfl, Nat.le_of_ble_eq_true rfl⟩) (pB_V hK hP hD (ci := 12) (q0 := 0) rfl rfl) rfl rfl hl.1 rfl (lv_room (Nat.le_of_ble_eq_true rfl)) dX12_copy_98 ⟨Nat.le_of_ble_eq_true rfl, Nat.le_of_ble_eq_true rfl⟩) hS hA hP hD (fun r13 u13 H locs hw13 hP hD hS => ?_)
              obtain ⟨i13, q13, c13, d13⟩ := u13
              have hw13 : r13 = (-3) ∧ mInv i13 c13 ∧ (∀ k, k ∉ ([0] : List Nat) → i13 k = i k) ∧ (∀ k, k ∉ ([1] : List Nat) → c13 k = c k) := hw13
              obtain ⟨hw13, hI, hei13, hec13⟩ := hw13
              have hfi := fr_t hfi hei13 (by decide)
              have hfc := fr_t hfc hec13 (by decide)
              have hP : va_P D vwCl (mW o a t i13 q13 c13 d13) H := hP
              have hD : va_D A (mW o a t i13 q13 c13 d13) := hD
              have hw13 : r13 = (-3) := hw13
              subst hw13
              exact rw_iret (i13, q13, c13, d13) hx hb hr hlocks hS (hK.sub (tys' := []) [] rfl) hP hD dX12_copy_101 ⟨trivial, hI, hfi, hfc⟩
            · have f12 := mt (ti_eq (a := x11.toInt) (b := 0) rfl (by decide)).mpr c12
              refine lv_aload_n hx hb dX12_copy_86 rfl (lv_at hl 0 rfl) ?_
              refine mget_63 hx hb hts (fun _ h => List.mem_cons_of_mem _ (List.mem_append_right _ h)) hown hK hP (hts (.fieldLink RX12 136 "TalePlayModel" "hasLine" "[Z") (by decide +kernel)) dX12_copy_87 ?_
              refine lv_iload hx hb dX12_copy_90 (lv_at hl 4 rfl) ?_
              refine mld_63 hx hb hK hP (vp_in_iff.mpr (by have h9 : w2.toInt = w2.toInt := rfl; omega)) dX12_copy_92 (fun x14 ex14 => ?_)
              have rx14 : 0 ≤ x14.toInt ∧ x14.toInt ≤ 1 := by rw [ex14]; exact hI.2 63 _
              refine lv_if_ne (tgt := 102) hx hb dX12_copy_93 (by decide) (fun c15 => ?_) (fun c15 => ?_)
              · have f15 := mt (ti_eq (a := x14.toInt) (b := 0) rfl (by decide)).mpr c15
                refine lv_iload_n hx hb dX12_copy_102 rfl (lv_at hl 3 rfl) ?_
                refine lv_if_lt (tgt := 152) hx hb dX12_copy_103 (by decide) (fun c16 => ?_) (fun c16 => ?_)
                · have f16 := (ti_lt (a := n1.toInt) (b := 0) rfl (by decide)).mp c16
                  refine lv_aload_n hx hb dX12_copy_152 rfl (lv_at hl 0 rfl) ?_
                  refine lv_iconst (v := 2) hx hb dX12_copy_153 (by decide) ?_
                  refine al_calli (va_runV (As := [.int 2]) (rest := []) ⟨hx, hb, hml, hown, hts⟩ (s_X12_meets l D H.size o a t i q c d 2 hI (by have h90 : (2 : Int32).toInt = 2 := (by decide); omega)) (cwV 1 hts gm_X12_copy_X12_meets rfl rfl rfl (by decide +kernel) ⟨Nat.le_of_ble_eq_true rfl, Nat.le_of_ble_eq_true rfl⟩) (pB_V hK hP hD (ci := 12) (q0 := 0) rfl rfl) rfl rfl hl.1 rfl (lv_room (Nat.le_of_ble_eq_true rfl)) dX12_copy_154 ⟨Nat.le_of_ble_eq_true rfl, Nat.le_of_ble_eq_true rfl⟩) hS hA hP hD (fun r17 u17 H locs hw17 hP hD hS => ?_)
                  obtain ⟨i17, q17, c17, d17⟩ := u17
                  have hw17 : r17 = (-3) ∧ mInv i17 c17 ∧ (∀ k, k ∉ ([0] : List Nat) → i17 k = i k) ∧ (∀ k, k ∉ ([1] : List Nat) → c17 k = c k) := hw17
                  obtain ⟨hw17, hI, hei17, hec17⟩ := hw17
                  have hfi := fr_t hfi hei17 (by decide)
                  have hfc := fr_t hfc hec17 (by decide)
                  have hP : va_P D vwCl (mW o a t i17 q17 c17 d17) H := hP
                  have hD : va_D A (mW o a t i17 q17 c17 d17) := hD
                  have hw17 : r17 = (-3) := hw17
                  subst hw17
                  exact rw_iret (i17, q17, c17, d17) hx hb hr hlocks hS (hK.sub (tys' := []) [] rfl) hP hD dX12_copy_157 ⟨trivial, hI, hfi, hfc⟩
                · have f16 := mt (ti_lt (a := n1.toInt) (b := 0) rfl (by decide)).mpr c16
                  refine lv_iload hx hb dX12_copy_106 (lv_at hl 5 rfl) ?_
                  refine lv_if_lt (tgt := 152) hx hb dX12_copy_108 (by decide) (fun c18 => ?_) (fun c18 => ?_)
                  · have f18 := (ti_lt (a := n2.toInt) (b := 0) rfl (by decide)).mp c18
                    refine lv_aload_n hx hb dX12_copy_152 rfl (lv_at hl 0 rfl) ?_
                    refine lv_iconst (v := 2) hx hb dX12_copy_153 (by decide) ?_
                    refine al_calli (va_runV (As := [.int 2]) (rest := []) ⟨hx, hb, hml, hown, hts⟩ (s_X12_meets l D H.size o a t i q c d 2 hI (by have h90 : (2 : Int32).toInt = 2 := (by decide); omega)) (cwV 1 hts gm_X12_copy_X12_meets rfl rfl rfl (by decide +kernel) ⟨Nat.le_of_ble_eq_true rfl, Nat.le_of_ble_eq_true rfl⟩) (pB_V hK hP hD (ci := 12) (q0 := 0) rfl rfl) rfl rfl hl.1 rfl (lv_room (Nat.le_of_ble_eq_true rfl)) dX12_copy_154 ⟨Nat.le_of_ble_eq_true rfl, Nat.le_of_ble_eq_true rfl⟩) hS hA hP hD (fun r19 u19 H locs hw19 hP hD hS => ?_)
                    obtain ⟨i19, q19, c19, d19⟩ := u19
                    have hw19 : r19 = (-3) ∧ mInv i19 c19 ∧ (∀ k, k ∉ ([0] : List Nat) → i19 k = i k) ∧ (∀ k, k ∉ ([1] : List Nat) → c19 k = c k) := hw19
                    obtain ⟨hw19, hI, hei19, hec19⟩ := hw19
                    have hfi := fr_t hfi hei19 (by decide)
                    have hfc := fr_t hfc hec19 (by decide)
                    have hP : va_P D vwCl (mW o a t i19 q19 c19 d19) H := hP
                    have hD : va_D A (mW o a t i19 q19 c19 d19) := hD
                    have hw19 : r19 = (-3) := hw19
                    subst hw19
                    exact rw_iret (i19, q19, c19, d19) hx hb hr hlocks hS (hK.sub (tys' := []) [] rfl) hP hD dX12_copy_157 ⟨trivial, hI, hfi, hfc⟩
                  · have f18 := mt (ti_lt (a := n2.toInt) (b := 0) rfl (by decide)).mpr c18
                    refine lv_iload hx hb dX12_copy_111 (lv_at hl 6 rfl) ?_
                    refine lv_if_lt (tgt := 152) hx hb dX12_copy_113 (by decide) (fun c20 => ?_) (fun c20 => ?_)
                    · have f20 := (ti_lt (a := n3.toInt) (b := 0) rfl (by decide)).mp c20
                      refine lv_aload_n hx hb dX12_copy_152 rfl (lv_at hl 0 rfl) ?_
                      refine lv_iconst (v := 2) hx hb dX12_copy_153 (by decide) ?_
                      refine al_calli (va_runV (As := [.int 2]) (rest := []) ⟨hx, hb, hml, hown, hts⟩ (s_X12_meets l D H.size o a t i q c d 2 hI (by have h90 : (2 : Int32).toInt = 2 := (by decide); omega)) (cwV 1 hts gm_X12_copy_X12_meets rfl rfl rfl (by decide +kernel) ⟨Nat.le_of_ble_eq_true rfl, Nat.le_of_ble_eq_true rfl⟩) (pB_V hK hP hD (ci := 12) (q0 := 0) rfl rfl) rfl rfl hl.1 rfl (lv_room (Nat.le_of_ble_eq_true rfl)) dX12_copy_154 ⟨Nat.le_of_ble_eq_true rfl, Nat.le_of_ble_eq_true rfl⟩) hS hA hP hD (fun r21 u21 H locs hw21 hP hD hS => ?_)
                      obtain ⟨i21, q21, c21, d21⟩ := u21
                      have hw21 : r21 = (-3) ∧ mInv i21 c21 ∧ (∀ k, k ∉ ([0] : List Nat) → i21 k = i k) ∧ (∀ k, k ∉ ([1] : List Nat) → c21 k = c k) := hw21
                      obtain ⟨hw21, hI, hei21, hec21⟩ := hw21
                      have hfi := fr_t hfi hei21 (by decide)
                      have hfc := fr_t hfc hec21 (by decide)
                      have hP : va_P D vwCl (mW o a t i21 q21 c21 d21) H := hP
                      have hD : va_D A (mW o a t i21 q21 c21 d21) := hD
                      have hw21 : r21 = (-3) := hw21
                      subst hw21
                      exact rw_iret (i21, q21, c21, d21) hx hb hr hlocks hS (hK.sub (tys' := []) [] rfl) hP hD dX12_copy_157 ⟨trivial, hI, hfi, hfc⟩
                    · have f20 := mt (ti_lt (a := n3.toInt) (b := 0) rfl (by decide)).mpr c20
                      refine lv_iload_n hx hb dX12_copy_116 rfl (lv_at hl 3 rfl) ?_
                      refine lv_i2l (v := n1.toInt64) hx hb dX12_copy_117 rfl ?_
                      refine lv_iload hx hb dX12_copy_118 (lv_at hl 6 rfl) ?_
                      refine lv_i2l (v := n3.toInt64) hx hb dX12_copy_120 rfl ?_
                      refine lv_ladd hx hb dX12_copy_121 ?_
                      refine lv_topl (fun x22 ex22 => ?_)
                      have ib22_n1 := i32b n1
                      have ib22_n3 := i32b n3
                      have tx22 := ti_addl (a := n1.toInt) (b := n3.toInt) ex22 ((Int32.toInt_toInt64 n1).trans rfl) ((Int32.toInt_toInt64 n3).trans rfl) (by omega) (by omega)
                      refine lv_aload_n hx hb dX12_copy_122 rfl (lv_at hl 0 rfl) ?_
                      refine mget_61 hx hb hts (fun _ h => List.mem_cons_of_mem _ (List.mem_append_right _ h)) hown hK hP (hts (.fieldLink RX12 129 "TalePlayModel" "lineMany" "[I") (by decide +kernel)) dX12_copy_123 ?_
                      refine lv_iload_n hx hb dX12_copy_126 rfl (lv_at hl 1 rfl) ?_
                      refine mld_61 hx hb hK hP (vp_in_iff.mpr (by have h9 : w.toInt = w.toInt := rfl; omega)) dX12_copy_127 (fun x23 ex23 => ?_)
                      have rx23 : 0 ≤ x23.toInt ∧ x23.toInt ≤ 12 := by rw [ex23]; exact hI.2 61 _
                      refine lv_i2l (v := x23.toInt64) hx hb dX12_copy_128 rfl ?_
                      refine W.lcmp hx hb dX12_copy_129 ?_
                      refine lv_if_gt (tgt := 152) hx hb dX12_copy_130 (by decide) (fun c24 => ?_) (fun c24 => ?_)
                      · have f24 := (lc_gt (a := (n1.toInt + n3.toInt)) (b := x23.toInt) tx22 ((Int32.toInt_toInt64 x23).trans rfl)).mp c24
                        refine lv_aload_n hx hb dX12_copy_152 rfl (lv_at hl 0 rfl) ?_
                        refine lv_iconst (v := 2) hx hb dX12_copy_153 (by decide) ?_
                        refine al_calli (va_runV (As := [.int 2]) (rest := []) ⟨hx, hb, hml, hown, hts⟩ (s_X12_meets l D H.size o a t i q c d 2 hI (by have h90 : (2 : Int32).toInt = 2 := (by decide); omega)) (cwV 1 hts gm_X12_copy_X12_meets rfl rfl rfl (by decide +kernel) ⟨Nat.le_of_ble_eq_true rfl, Nat.le_of_ble_eq_true rfl⟩) (pB_V hK hP hD (ci := 12) (q0 := 0) rfl rfl) rfl rfl hl.1 rfl (lv_room (Nat.le_of_ble_eq_true rfl)) dX12_copy_154 ⟨Nat.le_of_ble_eq_true rfl, Nat.le_of_ble_eq_true rfl⟩) hS hA hP hD (fun r25 u25 H locs hw25 hP hD hS => ?_)
                        obtain ⟨i25, q25, c25, d25⟩ := u25
                        have hw25 : r25 = (-3) ∧ mInv i25 c25 ∧ (∀ k, k ∉ ([0] : List Nat) → i25 k = i k) ∧ (∀ k, k ∉ ([1] : List Nat) → c25 k = c k) := hw25
                        obtain ⟨hw25, hI, hei25, hec25⟩ := hw25
                        have hfi := fr_t hfi hei25 (by decide)
                        have hfc := fr_t hfc hec25 (by decide)
                        have hP : va_P D vwCl (mW o a t i25 q25 c25 d25) H := hP
                        have hD : va_D A (mW o a t i25 q25 c25 d25) := hD
                        have hw25 : r25 = (-3) := hw25
                        subst hw25
                        exact rw_iret (i25, q25, c25, d25) hx hb hr hlocks hS (hK.sub (tys' := []) [] rfl) hP hD dX12_copy_157 ⟨trivial, hI, hfi, hfc⟩
                      · have f24 := mt (lc_gt (a := (n1.toInt + n3.toInt)) (b := x23.toInt) tx22 ((Int32.toInt_toInt64 x23).trans rfl)).mpr c24
                        refine lv_iload hx hb dX12_copy_133 (lv_at hl 5 rfl) ?_
                        refine lv_i2l (v := n2.toInt64) hx hb dX12_copy_135 rfl ?_
                        refine lv_iload hx hb dX12_copy_136 (lv_at hl 6 rfl) ?_
                        refine lv_i2l (v := n3.toInt64) hx hb dX12_copy_138 rfl ?_
                        refine lv_ladd hx hb dX12_copy_139 ?_
                        refine lv_topl (fun x26 ex26 => ?_)
                        have ib26_n2 := i32b n2
                        have ib26_n3 := i32b n3
                        have tx26 := ti_addl (a := n2.toInt) (b := n3.toInt) ex26 ((Int32.toInt_toInt64 n2).trans rfl) ((Int32.toInt_toInt64 n3).trans rfl) (by omega) (by omega)
                        refine lv_aload_n hx hb dX12_copy_140 rfl (lv_at hl 0 rfl) ?_
                        refine mget_61 hx hb hts (fun _ h => List.mem_cons_of_mem _ (List.mem_append_right _ h)) hown hK hP (hts (.fieldLink RX12 129 "TalePlayModel" "lineMany" "[I") (by decide +kernel)) dX12_copy_141 ?_
                        refine lv_iload hx hb dX12_copy_144 (lv_at hl 4 rfl) ?_
                        refine mld_61 hx hb hK hP (vp_in_iff.mpr (by have h9 : w2.toInt = w2.toInt := rfl; omega)) dX12_copy_146 (fun x27 ex27 => ?_)
                        have rx27 : 0 ≤ x27.toInt ∧ x27.toInt ≤ 12 := by rw [ex27]; exact hI.2 61 _
                        refine lv_i2l (v := x27.toInt64) hx hb dX12_copy_147 rfl ?_
                        refine W.lcmp hx hb dX12_copy_148 ?_
                        refine lv_if_le (tgt := 158) hx hb dX12_copy_149 (by decide) (fun c28 => ?_) (fun c28 => ?_)
                        · have f28 := (lc_le (a := (n2.toInt + n3.toInt)) (b := x27.toInt) tx26 ((Int32.toInt_toInt64 x27).trans rfl)).mp c28
                          refine lv_iconst (v := 0) hx hb dX12_copy_158 (by decide) ?_
                          refine lv_istore (lv' := [(7, .int 0), (0, .ref o), (1, .int w), (2, .int s1), (3, .int n1), (4, .int w2), (5, .int n2), (6, .int n3)]) hx hb dX12_copy_159 hl (by decide) rfl (fun ls hl => ?_)
                          have lp29 : ∀ (fu : Nat) (i29 : Nat → Int32) (q29 : Int64) (c29 : Nat → Nat → Int32) (d29 : Nat → Nat → Int64) (y29_7 : Int32), mInv i29 c29 → (∀ k, k ∉ ([0] : List Nat) → i29 k = i k) → (∀ k, k ∉ ([1] : List Nat) → c29 k = c k) → (0 ≤ y29_7.toInt ∧ y29_7.toInt ≤ 12) → (12 - y29_7.toInt).toNat < fu → ∀ (H : Heap) (locs : List Loc) (ls : Array Slot), va_P D vwCl (mW o a t i29 q29 c29 d29) H → va_D A (mW o a t i29 q29 c29 d29) → va_S A s.heap H locs → lv_has ls 8 [(7, .int y29_7), (0, .ref o), (1, .int w), (2, .int s1), (3, .int n1), (4, .int w2), (5, .int n2), (6, .int n3)] → W p l e (headSpec wm_X12_copy ({ frames := 2, cells := 0, slots := 0, locals := 46 })).room s m ([.ref o, .int w, .int s1, .int n1, .int w2, .int n2, .int n3] : List Value).toArray below meth cd H locs 0 0 (MQ below (va_Qi (fun (r : Int32) (u : MS) => True ∧ mInv u.1 u.2.2.1 ∧ (∀ k, k ∉ ([0] : List Nat) → u.1 k = i k) ∧ (∀ k, k ∉ ([1] : List Nat) → u.2.2.1 k = c k)) (oC D A (fun u : MS => mW o a t u.1 u.2.1 u.2.2.1 u.2.2.2) (fun _ => [])) A) ([.ref o, .int w, .int s1, .int n1, .int w2, .int n2, .int n3] : List Value).toArray s 0 0 A) (F0 m 161 ls []) := by
                            intro fu
                            induction fu with
                            | zero => intro i29 q29 c29 d29 y29_7 hI hfi hfc hy29_7 hm; exact absurd hm (Nat.not_lt_zero _)
                            | succ fu ih =>
                              intro i29 q29 c29 d29 y29_7 hI hfi hfc hy29_7 hm H locs ls hP hD hS hl
                              have ih29 := ih
                              refine lv_iload hx hb dX12_copy_161 (lv_at hl 0 rfl) ?_
                              refine lv_iload hx hb dX12_copy_163 (lv_at hl 7 rfl) ?_
                              refine lv_icmp_ge (tgt := 195) hx hb dX12_copy_165 (by decide) (fun c30 => ?_) (fun c30 => ?_)
                              · have f30 := (ti_le (a := n3.toInt) (b := y29_7.toInt) rfl rfl).mp c30
                                refine lv_iconst (v := 0) hx hb dX12_copy_195 (by decide) ?_
                                refine lv_istore (lv' := [(7, .int 0), (0, .ref o), (1, .int w), (2, .int s1), (3, .int n1), (4, .int w2), (5, .int n2), (6, .int n3)]) hx hb dX12_copy_196 hl (by decide) rfl (fun ls hl => ?_)
                                have lp31 : ∀ (fu : Nat) (i31 : Nat → Int32) (q31 : Int64) (c31 : Nat → Nat → Int32) (d31 : Nat → Nat → Int64) (y31_7 : Int32), mInv i31 c31 → (∀ k, k ∉ ([0] : List Nat) → i31 k = i k) → (∀ k, k ∉ ([1] : List Nat) → c31 k = c k) → (0 ≤ y31_7.toInt ∧ y31_7.toInt ≤ 12) → (12 - y31_7.toInt).toNat < fu → ∀ (H : Heap) (locs : List Loc) (ls : Array Slot), va_P D vwCl (mW o a t i31 q31 c31 d31) H → va_D A (mW o a t i31 q31 c31 d31) → va_S A s.heap H locs → lv_has ls 8 [(7, .int y31_7), (0, .ref o), (1, .int w), (2, .int s1), (3, .int n1), (4, .int w2), (5, .int n2), (6, .int n3)] → W p l e (headSpec wm_X12_copy ({ frames := 2, cells := 0, slots := 0, locals := 46 })).room s m ([.ref o, .int w, .int s1, .int n1, .int w2, .int n2, .int n3] : List Value).toArray below meth cd H locs 0 0 (MQ below (va_Qi (fun (r : Int32) (u : MS) => True ∧ mInv u.1 u.2.2.1 ∧ (∀ k, k ∉ ([0] : List Nat) → u.1 k = i k) ∧ (∀ k, k ∉ ([1] : List Nat) → u.2.2.1 k = c k)) (oC D A (fun u : MS => mW o a t u.1 u.2.1 u.2.2.1 u.2.2.2) (fun _ => [])) A) ([.ref o, .int w, .int s1, .int n1, .int w2, .int n2, .int n3] : List Value).toArray s 0 0 A) (F0 m 198 ls []) := by
                                  intro fu
                                  induction fu with
                                  | zero => intro i31 q31 c31 d31 y31_7 hI hfi hfc hy31_7 hm; exact absurd hm (Nat.not_lt_zero _)
                                  | succ fu ih =>
                                    intro i31 q31 c31 d31 y31_7 hI hfi hfc hy31_7 hm H locs ls hP hD hS hl
                                    have ih31 := ih
                                    refine lv_iload hx hb dX12_copy_198 (lv_at hl 0 rfl) ?_
                                    refine lv_iload hx hb dX12_copy_200 (lv_at hl 7 rfl) ?_
                                    refine lv_icmp_ge (tgt := 234) hx hb dX12_copy_202 (by decide) (fun c32 => ?_) (fun c32 => ?_)
                                    · have f32 := (ti_le (a := n3.toInt) (b := y31_7.toInt) rfl rfl).mp c32
                                      refine lv_iconst (v := 1) hx hb dX12_copy_234 (by decide) ?_
                                      exact rw_iret (i31, q31, c31, d31) hx hb hr hlocks hS (hK.sub (tys' := []) [] rfl) hP hD dX12_copy_235 ⟨trivial, hI, hfi, hfc⟩
                                    · have f32 := mt (ti_le (a := n3.toInt) (b := y31_7.toInt) rfl rfl).mpr c32
                                      refine lv_aload_n hx hb dX12_copy_205 rfl (lv_at hl 1 rfl) ?_
                                      refine mget_62 hx hb hts (fun _ h => List.mem_cons_of_mem _ (List.mem_append_right _ h)) hown hK hP (hts (.fieldLink RX12 132 "TalePlayModel" "items" "[J") (by decide +kernel)) dX12_copy_206 ?_
                                      refine lv_bipush (v := 12) hx hb dX12_copy_209 (by decide) ?_
                                      refine lv_iload hx hb dX12_copy_211 (lv_at hl 5 rfl) ?_
                                      refine lv_imul hx hb dX12_copy_213 ?_
                                      refine lv_topi (fun x33 ex33 => ?_)
                                      have tx33 := ti_mul (a := 12) (b := w2.toInt) ex33 (by decide) rfl (by omega) (by omega)
                                      refine lv_iload hx hb dX12_copy_214 (lv_at hl 6 rfl) ?_
                                      refine lv_iadd hx hb dX12_copy_216 ?_
                                      refine lv_topi (fun x34 ex34 => ?_)
                                      have tx34 := ti_add (a := (12 * w2.toInt)) (b := n2.toInt) ex34 tx33 rfl (by omega) (by omega)
                                      refine lv_iload hx hb dX12_copy_217 (lv_at hl 0 rfl) ?_
                                      refine lv_iadd hx hb dX12_copy_219 ?_
                                      refine lv_topi (fun x35 ex35 => ?_)
                                      have tx35 := ti_add (a := ((12 * w2.toInt) + n2.toInt)) (b := y31_7.toInt) ex35 tx34 rfl (by omega) (by omega)
                                      refine lv_aload_n hx hb dX12_copy_220 rfl (lv_at hl 1 rfl) ?_
                                      refine mget_68 hx hb hts (fun _ h => List.mem_cons_of_mem _ (List.mem_append_right _ h)) hown hK hP (hts (.fieldLink RX12 148 "TalePlayModel" "held" "[J") (by decide +kernel)) dX12_copy_221 ?_
                                      refine lv_iload hx hb dX12_copy_224 (lv_at hl 0 rfl) ?_
                                      refine mld_68 hx hb hK hP (vp_in_iff.mpr (by have h9 : y31_7.toInt = y31_7.toInt := rfl; omega)) dX12_copy_226 (fun x36 ex36 => ?_)
                                      refine mst_62 hx hb hK hP hD hS (vp_in_iff.mpr (by have h9 : x35.toInt = (((12 * w2.toInt) + n2.toInt) + y31_7.toInt) := tx35; omega)) dX12_copy_227 (fun H locs hP hD hS => ?_)
                                      obtain ⟨x37, ex37⟩ : ∃ y : Int32, y = y31_7 + 1 := ⟨_, rfl⟩
                                      have tx37 := ti_add (a := y31_7.toInt) (b := 1) ex37 rfl (by decide) (by omega) (by omega)
                                      refine lv_iinc (v := x37) (lv' := [(7, .int x37), (0, .ref o), (1, .int w), (2, .int s1), (3, .int n1), (4, .int w2), (5, .int n2), (6, .int n3)]) hx hb dX12_copy_228 hl (k := 0) rfl (by rw [ex37]; rfl) (by decide) rfl (fun ls hl => ?_)
                                      refine lv_goto (tgt := 198) hx hb dX12_copy_231 (by decide) ?_
                                      exact ih31 i31 q31 c31 (updD d31 62 (x35 : Int32).toNatClampNeg x36) x37 hI hfi hfc (show 0 ≤ x37.toInt ∧ x37.toInt ≤ 12 from by have h50 : x37.toInt = (y31_7.toInt + 1) := tx37; omega) (by have h50 : x37.toInt = (y31_7.toInt + 1) := tx37; omega) _ _ _ hP hD hS (lv_sub hl [0, 1, 2, 3, 4, 5, 6, 7] rfl)
                                exact lp31 _ i29 q29 c29 d29 (0 : Int32) hI hfi hfc (show 0 ≤ (0 : Int32).toInt ∧ (0 : Int32).toInt ≤ 12 from by have h50 : (0 : Int32).toInt = 0 := (by decide); omega) (Nat.lt_succ_self _) _ _ _ hP hD hS (lv_sub hl [0, 1, 2, 3, 4, 5, 6, 7] rfl)
                              · have f30 := mt (ti_le (a := n3.toInt) (b := y29_7.toInt) rfl rfl).mpr c30
                                refine lv_aload_n hx hb dX12_copy_168 rfl (lv_at hl 1 rfl) ?_
                                refine mget_68 hx hb hts (fun _ h => List.mem_cons_of_mem _ (List.mem_append_right _ h)) hown hK hP (hts (.fieldLink RX12 148 "TalePlayModel" "held" "[J") (by decide +kernel)) dX12_copy_169 ?_
                                refine lv_iload hx hb dX12_copy_172 (lv_at hl 0 rfl) ?_
                                refine lv_aload_n hx hb dX12_copy_174 rfl (lv_at hl 1 rfl) ?_
                                refine mget_62 hx hb hts (fun _ h => List.mem_cons_of_mem _ (List.mem_append_right _ h)) hown hK hP (hts (.fieldLink RX12 132 "TalePlayModel" "items" "[J") (by decide +kernel)) dX12_copy_175 ?_
                                refine lv_bipush (v := 12) hx hb dX12_copy_178 (by decide) ?_
                                refine lv_iload_n hx hb dX12_copy_180 rfl (lv_at hl 2 rfl) ?_
                                refine lv_imul hx hb dX12_copy_181 ?_
                                refine lv_topi (fun x38 ex38 => ?_)
                                have tx38 := ti_mul (a := 12) (b := w.toInt) ex38 (by decide) rfl (by omega) (by omega)
                                refine lv_iload_n hx hb dX12_copy_182 rfl (lv_at hl 4 rfl) ?_
                                refine lv_iadd hx hb dX12_copy_183 ?_
                                refine lv_topi (fun x39 ex39 => ?_)
                                have tx39 := ti_add (a := (12 * w.toInt)) (b := n1.toInt) ex39 tx38 rfl (by omega) (by omega)
                                refine lv_iload hx hb dX12_copy_184 (lv_at hl 0 rfl) ?_
                                refine lv_iadd hx hb dX12_copy_186 ?_
                                refine lv_topi (fun x40 ex40 => ?_)
                                have tx40 := ti_add (a := ((12 * w.toInt) + n1.toInt)) (b := y29_7.toInt) ex40 tx39 rfl (by omega) (by omega)
                                refine mld_62 hx hb hK hP (vp_in_iff.mpr (by have h9 : x40.toInt = (((12 * w.toInt) + n1.toInt) + y29_7.toInt) := tx40; omega)) dX12_copy_187 (fun x41 ex41 => ?_)
                                refine mst_68 hx hb hK hP hD hS (vp_in_iff.mpr (by have h9 : y29_7.toInt = y29_7.toInt := rfl; omega)) dX12_copy_188 (fun H locs hP hD hS => ?_)
                                obtain ⟨x42, ex42⟩ : ∃ y : Int32, y = y29_7 + 1 := ⟨_, rfl⟩
                                have tx42 := ti_add (a := y29_7.toInt) (b := 1) ex42 rfl (by decide) (by omega) (by omega)
                                refine lv_iinc (v := x42) (lv' := [(7, .int x42), (0, .ref o), (1, .int w), (2, .int s1), (3, .int n1), (4, .int w2), (5, .int n2), (6, .int n3)]) hx hb dX12_copy_189 hl (k := 0) rfl (by rw [ex42]; rfl) (by decide) rfl (fun ls hl => ?_)
                                refine lv_goto (tgt := 161) hx hb dX12_copy_192 (by decide) ?_
                                exact ih29 i29 q29 c29 (updD d29 68 (y29_7 : Int32).toNatClampNeg x41) x42 hI hfi hfc (show 0 ≤ x42.toInt ∧ x42.toInt ≤ 12 from by have h50 : x42.toInt = (y29_7.toInt + 1) := tx42; omega) (by have h50 : x42.toInt = (y29_7.toInt + 1) := tx42; omega) _ _ _ hP hD hS (lv_sub hl [0, 1, 2, 3, 4, 5, 6, 7] rfl)
                          exact lp29 _ i q c d (0 : Int32) hI hfi hfc (show 0 ≤ (0 : Int32).toInt ∧ (0 : Int32).toInt ≤ 12 from by have h50 : (0 : Int32).toInt = 0 := (by decide); omega) (Nat.lt_succ_self _) _ _ _ hP hD hS (lv_sub hl [0, 1, 2, 3, 4, 5, 6, 7] rfl)
                        · have f28 := mt (lc_le (a := (n2.toInt + n3.toInt)) (b := x27.toInt) tx26 ((Int32.toInt_toInt64 x27).trans rfl)).mpr c28
                          refine lv_aload_n hx hb dX12_copy_152 rfl (lv_at hl 0 rfl) ?_
                          refine lv_iconst (v := 2) hx hb dX12_copy_153 (by decide) ?_
                          refine al_calli (va_runV (As := [.int 2]) (rest := []) ⟨hx, hb, hml, hown, hts⟩ (s_X12_meets l D H.size o a t i q c d 2 hI (by have h90 : (2 : Int32).toInt = 2 := (by decide); omega)) (cwV 1 hts gm_X12_copy_X12_meets rfl rfl rfl (by decide +kernel) ⟨Nat.le_of_ble_eq_true rfl, Nat.le_of_ble_eq_true rfl⟩) (pB_V hK hP hD (ci := 12) (q0 := 0) rfl rfl) rfl rfl hl.1 rfl (lv_room (Nat.le_of_ble_eq_true rfl)) dX12_copy_154 ⟨Nat.le_of_ble_eq_true rfl, Nat.le_of_ble_eq_true rfl⟩) hS hA hP hD (fun r43 u43 H locs hw43 hP hD hS => ?_)
                          obtain ⟨i43, q43, c43, d43⟩ := u43
                          have hw43 : r43 = (-3) ∧ mInv i43 c43 ∧ (∀ k, k ∉ ([0] : List Nat) → i43 k = i k) ∧ (∀ k, k ∉ ([1] : List Nat) → c43 k = c k) := hw43
                          obtain ⟨hw43, hI, hei43, hec43⟩ := hw43
                          have hfi := fr_t hfi hei43 (by decide)
                          have hfc := fr_t hfc hec43 (by decide)
                          have hP : va_P D vwCl (mW o a t i43 q43 c43 d43) H := hP
                          have hD : va_D A (mW o a t i43 q43 c43 d43) := hD
                          have hw43 : r43 = (-3) := hw43
                          subst hw43
                          exact rw_iret (i43, q43, c43, d43) hx hb hr hlocks hS (hK.sub (tys' := []) [] rfl) hP hD dX12_copy_157 ⟨trivial, hI, hfi, hfc⟩
              · have f15 := (ti_eq (a := x14.toInt) (b := 0) rfl (by decide)).mp c15
                refine lv_aload_n hx hb dX12_copy_96 rfl (lv_at hl 0 rfl) ?_
                refine lv_iconst (v := 1) hx hb dX12_copy_97 (by decide) ?_
                refine al_calli (va_runV (As := [.int 1]) (rest := []) ⟨hx, hb, hml, hown, hts⟩ (s_X12_meets l D H.size o a t i q c d 1 hI (by have h90 : (1 : Int32).toInt = 1 := (by decide); omega)) (cwV 1 hts gm_X12_copy_X12_meets rfl rfl rfl (by decide +kernel) ⟨Nat.le_of_ble_eq_true rfl, Nat.le_of_ble_eq_true rfl⟩) (pB_V hK hP hD (ci := 12) (q0 := 0) rfl rfl) rfl rfl hl.1 rfl (lv_room (Nat.le_of_ble_eq_true rfl)) dX12_copy_98 ⟨Nat.le_of_ble_eq_true rfl, Nat.le_of_ble_eq_true rfl⟩) hS hA hP hD (fun r44 u44 H locs hw44 hP hD hS => ?_)
                obtain ⟨i44, q44, c44, d44⟩ := u44
                have hw44 : r44 = (-3) ∧ mInv i44 c44 ∧ (∀ k, k ∉ ([0] : List Nat) → i44 k = i k) ∧ (∀ k, k ∉ ([1] : List Nat) → c44 k = c k) := hw44
                obtain ⟨hw44, hI, hei44, hec44⟩ := hw44
                have hfi := fr_t hfi hei44 (by decide)
                have hfc := fr_t hfc hec44 (by decide)
                have hP : va_P D vwCl (mW o a t i44 q44 c44 d44) H := hP
                have hD : va_D A (mW o a t i44 q44 c44 d44) := hD
                have hw44 : r44 = (-3) := hw44
                subst hw44
                exact rw_iret (i44, q44, c44, d44) hx hb hr hlocks hS (hK.sub (tys' := []) [] rfl) hP hD dX12_copy_101 ⟨trivial, hI, hfi, hfc⟩
          refine lv_if_eq (tgt := 77) hx hb dX12_copy_57 (by decide) (fun c45 => ?_) (fun c45 => ?_)
          · have f45 := (ti_eq (a := x9.toInt) (b := 0) rfl (by decide)).mp c45
            exact jn10    _ _ _ hP hD hS (lv_sub hl [0, 1, 2, 3, 4, 5, 6] rfl)
          · have f45 := mt (ti_eq (a := x9.toInt) (b := 0) rfl (by decide)).mpr c45
            refine lv_aload_n hx hb dX12_copy_60 rfl (lv_at hl 0 rfl) ?_
            refine mget_60 hx hb hts (fun _ h => List.mem_cons_of_mem _ (List.mem_append_right _ h)) hown hK hP (hts (.fieldLink RX12 126 "TalePlayModel" "lineSort" "[I") (by decide +kernel)) dX12_copy_61 ?_
            refine lv_iload hx hb dX12_copy_64 (lv_at hl 4 rfl) ?_
            refine mld_60 hx hb hK hP (vp_in_iff.mpr (by have h9 : w2.toInt = w2.toInt := rfl; omega)) dX12_copy_66 (fun x46 ex46 => ?_)
            have rx46 : 0 ≤ x46.toInt ∧ x46.toInt ≤ 3 := by rw [ex46]; exact hI.2 60 _
            refine lv_iload_n hx hb dX12_copy_67 rfl (lv_at hl 2 rfl) ?_
            refine lv_icmp_eq (tgt := 77) hx hb dX12_copy_68 (by decide) (fun c47 => ?_) (fun c47 => ?_)
            · have f47 := (ti_eq (a := x46.toInt) (b := s1.toInt) rfl rfl).mp c47
              exact jn10    _ _ _ hP hD hS (lv_sub hl [0, 1, 2, 3, 4, 5, 6] rfl)
            · have f47 := mt (ti_eq (a := x46.toInt) (b := s1.toInt) rfl rfl).mpr c47
              refine lv_aload_n hx hb dX12_copy_71 rfl (lv_at hl 0 rfl) ?_
              refine lv_iconst (v := 3) hx hb dX12_copy_72 (by decide) ?_
              refine al_calli (va_runV (As := [.int 3]) (rest := []) ⟨hx, hb, hml, hown, hts⟩ (s_X12_meets l D H.size o a t i q c d 3 hI (by have h90 : (3 : Int32).toInt = 3 := (by decide); omega)) (cwV 1 hts gm_X12_copy_X12_meets rfl rfl rfl (by decide +kernel) ⟨Nat.le_of_ble_eq_true rfl, Nat.le_of_ble_eq_true rfl⟩) (pB_V hK hP hD (ci := 12) (q0 := 0) rfl rfl) rfl rfl hl.1 rfl (lv_room (Nat.le_of_ble_eq_true rfl)) dX12_copy_73 ⟨Nat.le_of_ble_eq_true rfl, Nat.le_of_ble_eq_true rfl⟩) hS hA hP hD (fun r48 u48 H locs hw48 hP hD hS => ?_)
              obtain ⟨i48, q48, c48, d48⟩ := u48
              have hw48 : r48 = (-3) ∧ mInv i48 c48 ∧ (∀ k, k ∉ ([0] : List Nat) → i48 k = i k) ∧ (∀ k, k ∉ ([1] : List Nat) → c48 k = c k) := hw48
              obtain ⟨hw48, hI, hei48, hec48⟩ := hw48
              have hfi := fr_t hfi hei48 (by decide)
              have hfc := fr_t hfc hec48 (by decide)
              have hP : va_P D vwCl (mW o a t i48 q48 c48 d48) H := hP
              have hD : va_D A (mW o a t i48 q48 c48 d48) := hD
              have hw48 : r48 = (-3) := hw48
              subst hw48
              exact rw_iret (i48, q48, c48, d48) hx hb hr hlocks hS (hK.sub (tys' := []) [] rfl) hP hD dX12_copy_76 ⟨trivial, hI, hfi, hfc⟩
        refine lv_if_eq (tgt := 50) hx hb dX12_copy_37 (by decide) (fun c49 => ?_) (fun c49 => ?_)
        · have f49 := (ti_eq (a := x7.toInt) (b := 0) rfl (by decide)).mp c49
          exact jn8    _ _ _ hP hD hS (lv_sub hl [0, 1, 2, 3, 4, 5, 6] rfl)
        · have f49 := mt (ti_eq (a := x7.toInt) (b := 0) rfl (by decide)).mpr c49
          refine lv_aload_n hx hb dX12_copy_40 rfl (lv_at hl 0 rfl) ?_
          refine mget_60 hx hb hts (fun _ h => List.mem_cons_of_mem _ (List.mem_append_right _ h)) hown hK hP (hts (.fieldLink RX12 126 "TalePlayModel" "lineSort" "[I") (by decide +kernel)) dX12_copy_41 ?_
          refine lv_iload_n hx hb dX12_copy_44 rfl (lv_at hl 1 rfl) ?_
          refine mld_60 hx hb hK hP (vp_in_iff.mpr (by have h9 : w.toInt = w.toInt := rfl; omega)) dX12_copy_45 (fun x50 ex50 => ?_)
          have rx50 : 0 ≤ x50.toInt ∧ x50.toInt ≤ 3 := by rw [ex50]; exact hI.2 60 _
          refine lv_iload_n hx hb dX12_copy_46 rfl (lv_at hl 2 rfl) ?_
          refine lv_icmp_ne (tgt := 71) hx hb dX12_copy_47 (by decide) (fun c51 => ?_) (fun c51 => ?_)
          · have f51 := mt (ti_eq (a := x50.toInt) (b := s1.toInt) rfl rfl).mpr c51
            refine lv_aload_n hx hb dX12_copy_71 rfl (lv_at hl 0 rfl) ?_
            refine lv_iconst (v := 3) hx hb dX12_copy_72 (by decide) ?_
            refine al_calli (va_runV (As := [.int 3]) (rest := []) ⟨hx, hb, hml, hown, hts⟩ (s_X12_meets l D H.size o a t i q c d 3 hI (by have h90 : (3 : Int32).toInt = 3 := (by decide); omega)) (cwV 1 hts gm_X12_copy_X12_meets rfl rfl rfl (by decide +kernel) ⟨Nat.le_of_ble_eq_true rfl, Nat.le_of_ble_eq_true rfl⟩) (pB_V hK hP hD (ci := 12) (q0 := 0) rfl rfl) rfl rfl hl.1 rfl (lv_room (Nat.le_of_ble_eq_true rfl)) dX12_copy_73 ⟨Nat.le_of_ble_eq_true rfl, Nat.le_of_ble_eq_true rfl⟩) hS hA hP hD (fun r52 u52 H locs hw52 hP hD hS => ?_)
            obtain ⟨i52, q52, c52, d52⟩ := u52
            have hw52 : r52 = (-3) ∧ mInv i52 c52 ∧ (∀ k, k ∉ ([0] : List Nat) → i52 k = i k) ∧ (∀ k, k ∉ ([1] : List Nat) → c52 k = c k) := hw52
            obtain ⟨hw52, hI, hei52, hec52⟩ := hw52
            have hfi := fr_t hfi hei52 (by decide)
            have hfc := fr_t hfc hec52 (by decide)
            have hP : va_P D vwCl (mW o a t i52 q52 c52 d52) H := hP
            have hD : va_D A (mW o a t i52 q52 c52 d52) := hD
            have hw52 : r52 = (-3) := hw52
            subst hw52
            exact rw_iret (i52, q52, c52, d52) hx hb hr hlocks hS (hK.sub (tys' := []) [] rfl) hP hD dX12_copy_76 ⟨trivial, hI, hfi, hfc⟩
          · have f51 := (ti_eq (a := x50.toInt) (b := s1.toInt) rfl rfl).mp c51
            exact jn8    _ _ _ hP hD hS (lv_sub hl [0, 1, 2, 3, 4, 5, 6] rfl)
      · have f6 := fl_f hw5 c6
        refine lv_iconst (v := (-1)) hx hb dX12_copy_29 (by decide) ?_
        exact rw_iret (i, q, c, d) hx hb hr hlocks hS (hK.sub (tys' := []) [] rfl) hP hD dX12_copy_30 ⟨trivial, hI, hfi, hfc⟩

def wm_X12_cast : List Cond := .code yX12_cast cX12_cast 4 (some .int) :: (([.constantLong RX12 170 (5), .methodLink RX12 166 yX12_in, .static yX12_in, .initialized RX12, .code yX12_in cX12_in 6 (some .boolean), .fieldLink RX12 450 "TalePlayModel" "casts" "I", .fieldLink RX12 139 "TalePlayModel" "castSort" "[I", .fieldLink RX12 142 "TalePlayModel" "castMany" "[I", .fieldLink RX12 145 "TalePlayModel" "roles" "[I", .methodLink RX12 233 yX12_meets, .instanceMethod yX12_meets, .selects RX12 yX12_meets yX12_meets, .code yX12_meets cX12_meets 2 (some .int), .fieldLink RX12 161 "TalePlayModel" "latest" "I", .fieldLink RX12 7 "TalePlayModel" "came" "[I"] : List Cond) ++ wsX120)
set_option maxRecDepth 20000 in
theorem gm_X12_cast_X12_in : GoodIn wm_X12_cast (va_wsS RX12 166 yX12_in wm_X12_in) := goodIn_app (goodIn_of _ (by decide +kernel)) (goodIn_r _ [5] (by decide +kernel) (by decide +kernel))
set_option maxRecDepth 20000 in
theorem gm_X12_cast_X12_meets : GoodIn wm_X12_cast (wsV RX12 233 RX12 yX12_meets wm_X12_meets) := goodIn_app (goodIn_of _ (by decide +kernel)) (goodIn_r _ [13, 14, 15, 16, 17, 18, 19, 20, 21, 22, 23, 24, 25, 26, 27, 28, 29, 30, 31, 32, 33, 34, 35, 36, 37, 38, 39, 40, 41, 42, 43, 44, 45, 46, 47, 48, 49, 50, 51, 52, 53, 54, 55, 56, 57, 58, 59, 60, 61, 62, 63, 64, 65, 66, 67, 68, 69, 70, 71, 72, 73, 74, 75, 76, 77, 78, 79, 80, 81, 82, 83, 84] (by decide +kernel) (by decide +kernel))
set_option maxHeartbeats 4000000 in
set_option maxRecDepth 100000 in
theorem s_X12_cast (l : Launch) (D : va_G) (sz : Nat) (o : Nat) (a : Nat → Nat) (t : Nat → ClassId) (i : Nat → Int32) (q : Int64) (c : Nat → Nat → Int32) (d : Nat → Nat → Int64) (s1 : Int32) (n1 : Int32) (hI : mInv i c) : Met l yX12_cast wm_X12_cast ({ frames := 1, cells := 0, slots := 0, locals := 25 }) (va_Pc [.ref o, .int s1, .int n1] (pB D sz (mW o a t i q c d) (mT t))) (va_Qi (fun (r : Int32) (u : MS) => True ∧ mInv u.1 u.2.2.1 ∧ (∀ k, k ∉ ([0, 64] : List Nat) → u.1 k = i k) ∧ (∀ k, k ∉ ([1, 65, 66, 67] : List Nat) → u.2.2.1 k = c k)) (oC D (va_A (mW o a t i q c d) sz) (fun u : MS => mW o a t u.1 u.2.1 u.2.2.1 u.2.2.2) (fun _ => [])) (va_A (mW o a t i q c d) sz)) 0 0 (va_A (mW o a t i q c d) sz) := by
  refine Met.ofW (cc := cX12_cast) (maxL := 4) (ret := (some .int)) (by decide) rfl ?_
  intro p e s m args below meth cd s₁ B hml hv
  obtain ⟨rfl, hsz, hP, hK, hD0⟩ := hv
  have hx := B.exec
  have hb := B.bytes
  have hr := B.returns
  have hts := atoms_spec (ws := wm_X12_cast) B.pre
  have hown : s.vm.findClass RX12 = some m.cls := findClass_of_methodNamed B.named
  have hlocks := B.notSynchronized
  subst hsz
  have hD := hD0.self (sz := s.heap.size)
  generalize hAe : va_A (mW o a t i q c d) s.heap.size = A at hD ⊢
  have hA : ∀ q : Nat, s.heap.size ≤ q → A q := fun q h => by rw [← hAe]; exact Or.inr h
  have hS : va_S A s.heap s.heap [] := va_S.rf
  have hfi : ∀ k, k ∉ ([0, 64] : List Nat) → i k = i k := fun _ _ => rfl
  have hfc : ∀ k, k ∉ ([1, 65, 66, 67] : List Nat) → c k = c k := fun _ _ => rfl
  have hl := lv_entry ([.ref o, .int s1, .int n1]) (n := 4) (Nat.le_of_ble_eq_true rfl)
  rw [lg_entry_eq]
  generalize (lg_sl ([.ref o, .int s1, .int n1]) ++ List.replicate (4 - (lg_sl ([.ref o, .int s1, .int n1])).length) Slot.unset).toArray = ls at hl ⊢
  have hl : lv_has ls 4 [(0, .ref o), (1, .int s1), (2, .int n1)] := hl
  refine lv_iload_n hx hb dX12_cast_0 rfl (lv_at hl 1 rfl) ?_
  refine lv_i2l (v := s1.toInt64) hx hb dX12_cast_1 rfl ?_
  refine lv_lconst (v := 1) hx hb dX12_cast_2 (by decide) ?_
  refine lv_ldc2 (v := 5) hx hb hown (hts (.constantLong RX12 170 (5)) (by decide +kernel)) dX12_cast_3 ?_
  have hPc := hP.sub (ws' := []) [] rfl
  have hKc := hK.sub (tys' := []) [] rfl
  refine ro_calli (va_runS (As := [.long s1.toInt64, .long 1, .long 5]) (rest := []) ⟨hx, hb, hml, hown, hts⟩ (c_X12_in l D s.heap.size s1.toInt64 1 5 s1.toInt 1 5 ((Int32.toInt_toInt64 s1).trans rfl) (by decide) (by decide)) (va_cwS 3 hts gm_X12_cast_X12_in rfl rfl rfl (by decide +kernel) ⟨Nat.le_of_ble_eq_true rfl, Nat.le_of_ble_eq_true rfl⟩) (pA_S hKc hPc) rfl rfl hl.1 rfl (lv_room (Nat.le_of_ble_eq_true rfl)) dX12_cast_6 ⟨Nat.le_of_ble_eq_true rfl, Nat.le_of_ble_eq_true rfl⟩) hS hA hP (fun r1 u1 H locs hw1 hP hS => ?_)
  have hw1 : r1 = if (1 ≤ s1.toInt ∧ s1.toInt ≤ 5) then 1 else 0 := hw1
  refine lv_if_eq (tgt := 18) hx hb dX12_cast_9 (by decide) (fun c2 => ?_) (fun c2 => ?_)
  · have f2 := fl_f hw1 c2
    refine lv_iconst (v := (-1)) hx hb dX12_cast_18 (by decide) ?_
    exact rw_iret (i, q, c, d) hx hb hr hlocks hS (hK.sub (tys' := []) [] rfl) hP hD dX12_cast_19 ⟨trivial, hI, hfi, hfc⟩
  · have f2 := fl_t hw1 c2
    refine lv_iload_n hx hb dX12_cast_12 rfl (lv_at hl 2 rfl) ?_
    refine lv_bipush (v := 12) hx hb dX12_cast_13 (by decide) ?_
    refine lv_icmp_le (tgt := 20) hx hb dX12_cast_15 (by decide) (fun c3 => ?_) (fun c3 => ?_)
    · have f3 := (ti_le (a := n1.toInt) (b := 12) rfl (by decide)).mp c3
      refine lv_aload_n hx hb dX12_cast_20 rfl (lv_at hl 0 rfl) ?_
      refine mget_64 (v := (i 64)) rfl hx hb hts (fun _ h => List.mem_cons_of_mem _ (List.mem_append_right _ h)) hown hK hP (hts (.fieldLink RX12 450 "TalePlayModel" "casts" "I") (by decide +kernel)) dX12_cast_21 ?_
      have rb64_i : 0 ≤ (i 64).toInt ∧ (i 64).toInt ≤ 10 := hI.1 64
      refine lv_bipush (v := 10) hx hb dX12_cast_24 (by decide) ?_
      refine lv_icmp_ne (tgt := 32) hx hb dX12_cast_26 (by decide) (fun c4 => ?_) (fun c4 => ?_)
      · have f4 := mt (ti_eq (a := (i 64).toInt) (b := 10) rfl (by decide)).mpr c4
        refine lv_iload_n hx hb dX12_cast_32 rfl (lv_at hl 2 rfl) ?_
        refine lv_if_ge (tgt := 42) hx hb dX12_cast_33 (by decide) (fun c5 => ?_) (fun c5 => ?_)
        · have f5 := (ti_le (a := 0) (b := n1.toInt) (by decide) rfl).mp c5
          refine lv_aload_n hx hb dX12_cast_42 rfl (lv_at hl 0 rfl) ?_
          refine mget_65 hx hb hts (fun _ h => List.mem_cons_of_mem _ (List.mem_append_right _ h)) hown hK hP (hts (.fieldLink RX12 139 "TalePlayModel" "castSort" "[I") (by decide +kernel)) dX12_cast_43 ?_
          refine lv_aload_n hx hb dX12_cast_46 rfl (lv_at hl 0 rfl) ?_
          refine mget_64 (v := (i 64)) rfl hx hb hts (fun _ h => List.mem_cons_of_mem _ (List.mem_append_right _ h)) hown hK hP (hts (.fieldLink RX12 450 "TalePlayModel" "casts" "I") (by decide +kernel)) dX12_cast_47 ?_
          refine lv_iload_n hx hb dX12_cast_50 rfl (lv_at hl 1 rfl) ?_
          refine mst_65 hx hb hK hP hD hS (vp_in_iff.mpr (by have h9 : (i 64).toInt = (i 64).toInt := rfl; omega)) dX12_cast_51 (fun H locs hP hD hS => ?_)
          have hI := mInv_c hI (k := 65) (j := ((i 64) : Int32).toNatClampNeg) (x := s1) (show 0 ≤ (s1 : Int32).toInt ∧ (s1 : Int32).toInt ≤ 5 from by omega)
          have hfc := fr_c hfc (k := 65) (j := ((i 64) : Int32).toNatClampNeg) (x := s1) (by decide)
          refine lv_aload_n hx hb dX12_cast_52 rfl (lv_at hl 0 rfl) ?_
          refine mget_66 hx hb hts (fun _ h => List.mem_cons_of_mem _ (List.mem_append_right _ h)) hown hK hP (hts (.fieldLink RX12 142 "TalePlayModel" "castMany" "[I") (by decide +kernel)) dX12_cast_53 ?_
          refine lv_aload_n hx hb dX12_cast_56 rfl (lv_at hl 0 rfl) ?_
          refine mget_64 (v := (i 64)) rfl hx hb hts (fun _ h => List.mem_cons_of_mem _ (List.mem_append_right _ h)) hown hK hP (hts (.fieldLink RX12 450 "TalePlayModel" "casts" "I") (by decide +kernel)) dX12_cast_57 ?_
          refine lv_iload_n hx hb dX12_cast_60 rfl (lv_at hl 2 rfl) ?_
          refine mst_66 hx hb hK hP hD hS (vp_in_iff.mpr (by have h9 : (i 64).toInt = (i 64).toInt := rfl; omega)) dX12_cast_61 (fun H locs hP hD hS => ?_)
          have hI := mInv_c hI (k := 66) (j := ((i 64) : Int32).toNatClampNeg) (x := n1) (show 0 ≤ (n1 : Int32).toInt ∧ (n1 : Int32).toInt ≤ 12 from by omega)
          have hfc := fr_c hfc (k := 66) (j := ((i 64) : Int32).toNatClampNeg) (x := n1) (by decide)
          refine lv_iconst (v := 0) hx hb dX12_cast_62 (by decide) ?_
          refine lv_istore_n (lv' := [(3, .int 0), (0, .ref o), (1, .int s1), (2, .int n1)]) hx hb dX12_cast_63 rfl hl (by decide) rfl (fun ls hl => ?_)
          have lp6 : ∀ (fu : Nat) (i6 : Nat → Int32) (q6 : Int64) (c6 : Nat → Nat → Int32) (d6 : Nat → Nat → Int64) (y6_3 : Int32), mInv i6 c6 → (∀ k, k ∉ ([0, 64] : List Nat) → i6 k = i k) → (∀ k, k ∉ ([1, 65, 66, 67] : List Nat) → c6 k = c k) → (0 ≤ y6_3.toInt ∧ y6_3.toInt ≤ 12) → (((i6 64) : Int32).toInt = (i 64).toInt) → (12 - y6_3.toInt).toNat < fu → ∀ (H : Heap) (locs : List Loc) (ls : Array Slot), va_P D vwCl (mW o a t i6 q6 c6 d6) H → va_D A (mW o a t i6 q6 c6 d6) → va_S A s.heap H locs → lv_has ls 4 [(3, .int y6_3), (0, .ref o), (1, .int s1), (2, .int n1)] → W p l e (headSpec wm_X12_cast ({ frames := 1, cells := 0, slots := 0, locals := 25 })).room s m ([.ref o, .int s1, .int n1] : List Value).toArray below meth cd H locs 0 0 (MQ below (va_Qi (fun (r : Int32) (u : MS) => True ∧ mInv u.1 u.2.2.1 ∧ (∀ k, k ∉ ([0, 64] : List Nat) → u.1 k = i k) ∧ (∀ k, k ∉ ([1, 65, 66, 67] : List Nat) → u.2.2.1 k = c k)) (oC D A (fun u : MS => mW o a t u.1 u.2.1 u.2.2.1 u.2.2.2) (fun _ => [])) A) ([.ref o, .int s1, .int n1] : List Value).toArray s 0 0 A) (F0 m 64 ls []) := by
            intro fu
            induction fu with
            | zero => intro i6 q6 c6 d6 y6_3 hI hfi hfc hy6_3 hz6_0 hm; exact absurd hm (Nat.not_lt_zero _)
            | succ fu ih =>
              intro i6 q6 c6 d6 y6_3 hI hfi hfc hy6_3 hz6_0 hm H locs ls hP hD hS hl
              have ih6 := ih
              refine lv_iload_n hx hb dX12_cast_64 rfl (lv_at hl 0 rfl) ?_
              refine lv_bipush (v := 12) hx hb dX12_cast_65 (by decide) ?_
              refine lv_icmp_ge (tgt := 92) hx hb dX12_cast_67 (by decide) (fun c7 => ?_) (fun c7 => ?_)
              · have f7 := (ti_le (a := 12) (b := y6_3.toInt) (by decide) rfl).mp c7
                refine lv_aload_n hx hb dX12_cast_92 rfl (lv_at hl 1 rfl) ?_
                refine lv_dup hx hb dX12_cast_93 rfl ?_
                refine mget_64 (v := (i6 64)) rfl hx hb hts (fun _ h => List.mem_cons_of_mem _ (List.mem_append_right _ h)) hown hK hP (hts (.fieldLink RX12 450 "TalePlayModel" "casts" "I") (by decide +kernel)) dX12_cast_94 ?_
                have rb64_i6 : 0 ≤ (i6 64).toInt ∧ (i6 64).toInt ≤ 10 := hI.1 64
                refine lv_iconst (v := 1) hx hb dX12_cast_97 (by decide) ?_
                refine lv_iadd hx hb dX12_cast_98 ?_
                refine lv_topi (fun x8 ex8 => ?_)
                have tx8 := ti_add (a := (i6 64).toInt) (b := 1) ex8 rfl (by decide) (by omega) (by omega)
                refine mput_64 hx hb hts (fun _ h => List.mem_cons_of_mem _ (List.mem_append_right _ h)) hown hK hP hD hS (hts (.fieldLink RX12 450 "TalePlayModel" "casts" "I") (by decide +kernel)) rfl rfl dX12_cast_99 (fun H locs hP hD hS => ?_)
                have hI := mInv_i hI (k := 64) (v := x8) (show 0 ≤ (x8 : Int32).toInt ∧ (x8 : Int32).toInt ≤ 10 from by have h9 : x8.toInt = ((i6 64).toInt + 1) := tx8; omega)
                have hfi := fr_i hfi (k := 64) (v := x8) (by decide)
                refine lv_aload_n hx hb dX12_cast_102 rfl (lv_at hl 1 rfl) ?_
                refine mget_64 (v := x8) rfl hx hb hts (fun _ h => List.mem_cons_of_mem _ (List.mem_append_right _ h)) hown hK hP (hts (.fieldLink RX12 450 "TalePlayModel" "casts" "I") (by decide +kernel)) dX12_cast_103 ?_
                refine lv_iconst (v := 1) hx hb dX12_cast_106 (by decide) ?_
                refine lv_isub hx hb dX12_cast_107 ?_
                refine lv_topi (fun x9 ex9 => ?_)
                have tx9 := ti_sub (a := ((i6 64).toInt + 1)) (b := 1) ex9 tx8 (by decide) (by omega) (by omega)
                exact rw_iret ((upd i6 64 x8), q6, c6, d6) hx hb hr hlocks hS (hK.sub (tys' := []) [] rfl) hP hD dX12_cast_108 ⟨trivial, hI, hfi, hfc⟩
              · have f7 := mt (ti_le (a := 12) (b := y6_3.toInt) (by decide) rfl).mpr c7
                refine lv_aload_n hx hb dX12_cast_70 rfl (lv_at hl 1 rfl) ?_
                refine mget_67 hx hb hts (fun _ h => List.mem_cons_of_mem _ (List.mem_append_right _ h)) hown hK hP (hts (.fieldLink RX12 145 "TalePlayModel" "roles" "[I") (by decide +kernel)) dX12_cast_71 ?_
                refine lv_bipush (v := 12) hx hb dX12_cast_74 (by decide) ?_
                refine lv_aload_n hx hb dX12_cast_76 rfl (lv_at hl 1 rfl) ?_
                refine mget_64 (v := (i6 64)) rfl hx hb hts (fun _ h => List.mem_cons_of_mem _ (List.mem_append_right _ h)) hown hK hP (hts (.fieldLink RX12 450 "TalePlayModel" "casts" "I") (by decide +kernel)) dX12_cast_77 ?_
                have rb64_i6 : 0 ≤ (i6 64).toInt ∧ (i6 64).toInt ≤ 10 := hI.1 64
                refine lv_imul hx hb dX12_cast_80 ?_
                refine lv_topi (fun x10 ex10 => ?_)
                have tx10 := ti_mul (a := 12) (b := (i6 64).toInt) ex10 (by decide) rfl (by omega) (by omega)
                refine lv_iload_n hx hb dX12_cast_81 rfl (lv_at hl 0 rfl) ?_
                refine lv_iadd hx hb dX12_cast_82 ?_
                refine lv_topi (fun x11 ex11 => ?_)
                have tx11 := ti_add (a := (12 * (i6 64).toInt)) (b := y6_3.toInt) ex11 tx10 rfl (by omega) (by omega)
                refine lv_bipush (v := (-9)) hx hb dX12_cast_83 (by decide) ?_
                refine mst_67 hx hb hK hP hD hS (vp_in_iff.mpr (by have h9 : x11.toInt = ((12 * (i6 64).toInt) + y6_3.toInt) := tx11; omega)) dX12_cast_85 (fun H locs hP hD hS => ?_)
                have hI := mInv_c hI (k := 67) (j := (x11 : Int32).toNatClampNeg) (x := (-9)) (show ((-9) : Int32).toInt = -9 ∨ (0 ≤ ((-9) : Int32).toInt ∧ ((-9) : Int32).toInt ≤ 29) from by have h9 : ((-9) : Int32).toInt = -9 := (by decide); omega)
                have hfc := fr_c hfc (k := 67) (j := (x11 : Int32).toNatClampNeg) (x := (-9)) (by decide)
                obtain ⟨x12, ex12⟩ : ∃ y : Int32, y = y6_3 + 1 := ⟨_, rfl⟩
                have tx12 := ti_add (a := y6_3.toInt) (b := 1) ex12 rfl (by decide) (by omega) (by omega)
                refine lv_iinc (v := x12) (lv' := [(3, .int x12), (0, .ref o), (1, .int s1), (2, .int n1)]) hx hb dX12_cast_86 hl (k := 0) rfl (by rw [ex12]; rfl) (by decide) rfl (fun ls hl => ?_)
                refine lv_goto (tgt := 64) hx hb dX12_cast_89 (by decide) ?_
                exact ih6 i6 q6 (updA c6 67 (x11 : Int32).toNatClampNeg (-9)) d6 x12 hI hfi hfc (show 0 ≤ x12.toInt ∧ x12.toInt ≤ 12 from by have h50 : x12.toInt = (y6_3.toInt + 1) := tx12; omega) (show ((i6 64) : Int32).toInt = (i 64).toInt from by have h50 : x12.toInt = (y6_3.toInt + 1) := tx12; omega) (by have h50 : x12.toInt = (y6_3.toInt + 1) := tx12; omega) _ _ _ hP hD hS (lv_sub hl [0, 1, 2, 3] rfl)
          exact lp6 _ i q (updA (updA c 65 ((i 64) : Int32).toNatClampNeg s1) 66 ((i 64) : Int32).toNatClampNeg n1) d (0 : Int32) hI hfi hfc (show 0 ≤ (0 : Int32).toInt ∧ (0 : Int32).toInt ≤ 12 from by have h50 : (0 : Int32).toInt = 0 := (by decide); omega) (show ((i 64) : Int32).toInt = (i 64).toInt from by have h50 : (0 : Int32).toInt = 0 := (by decide); omega) (Nat.lt_succ_self _) _ _ _ hP hD hS (lv_sub hl [0, 1, 2, 3] rfl)
        · have f5 := mt (ti_le (a := 0) (b := n1.toInt) (by decide) rfl).mpr c5
          refine lv_aload_n hx hb dX12_cast_36 rfl (lv_at hl 0 rfl) ?_
          refine lv_iconst (v := 5) hx hb dX12_cast_37 (by decide) ?_
          refine al_calli (va_runV (As := [.int 5]) (rest := []) ⟨hx, hb, hml, hown, hts⟩ (s_X12_meets l D H.size o a t i q c d 5 hI (by have h90 : (5 : Int32).toInt = 5 := (by decide); omega)) (cwV 1 hts gm_X12_cast_X12_meets rfl rfl rfl (by decide +kernel) ⟨Nat.le_of_ble_eq_true rfl, Nat.le_of_ble_eq_true rfl⟩) (pB_V hK hP hD (ci := 12) (q0 := 0) rfl rfl) rfl rfl hl.1 rfl (lv_room (Nat.le_of_ble_eq_true rfl)) dX12_cast_38 ⟨Nat.le_of_ble_eq_true rfl, Nat.le_of_ble_eq_true rfl⟩) hS hA hP hD (fun r13 u13 H locs hw13 hP hD hS => ?_)
          obtain ⟨i13, q13, c13, d13⟩ := u13
          have hw13 : r13 = (-3) ∧ mInv i13 c13 ∧ (∀ k, k ∉ ([0] : List Nat) → i13 k = i k) ∧ (∀ k, k ∉ ([1] : List Nat) → c13 k = c k) := hw13
          obtain ⟨hw13, hI, hei13, hec13⟩ := hw13
          have hfi := fr_t hfi hei13 (by decide)
          have hfc := fr_t hfc hec13 (by decide)
          have hP : va_P D vwCl (mW o a t i13 q13 c13 d13) H := hP
          have hD : va_D A (mW o a t i13 q13 c13 d13) := hD
          have hw13 : r13 = (-3) := hw13
          subst hw13
          exact rw_iret (i13, q13, c13, d13) hx hb hr hlocks hS (hK.sub (tys' := []) [] rfl) hP hD dX12_cast_41 ⟨trivial, hI, hfi, hfc⟩
      · have f4 := (ti_eq (a := (i 64).toInt) (b := 10) rfl (by decide)).mp c4
        refine lv_bipush (v := (-2)) hx hb dX12_cast_29 (by decide) ?_
        exact rw_iret (i, q, c, d) hx hb hr hlocks hS (hK.sub (tys' := []) [] rfl) hP hD dX12_cast_31 ⟨trivial, hI, hfi, hfc⟩
    · have f3 := mt (ti_le (a := n1.toInt) (b := 12) rfl (by decide)).mpr c3
      refine lv_iconst (v := (-1)) hx hb dX12_cast_18 (by decide) ?_
      exact rw_iret (i, q, c, d) hx hb hr hlocks hS (hK.sub (tys' := []) [] rfl) hP hD dX12_cast_19 ⟨trivial, hI, hfi, hfc⟩

def wm_X12_role : List Cond := .code yX12_role cX12_role 4 (some .int) :: (([.fieldLink RX12 450 "TalePlayModel" "casts" "I", .methodLink RX12 166 yX12_in, .static yX12_in, .initialized RX12, .code yX12_in cX12_in 6 (some .boolean), .fieldLink RX12 142 "TalePlayModel" "castMany" "[I", .fieldLink RX12 145 "TalePlayModel" "roles" "[I", .fieldLink RX12 139 "TalePlayModel" "castSort" "[I", .methodLink RX12 184 yX12_isOf, .instanceMethod yX12_isOf, .selects RX12 yX12_isOf yX12_isOf, .code yX12_isOf cX12_isOf 4 (some .boolean), .fieldLink RX12 19 "TalePlayModel" "kindOf" "[I", .fieldLink RX12 13 "TalePlayModel" "parentOf" "[I", .methodLink RX12 233 yX12_meets, .instanceMethod yX12_meets, .selects RX12 yX12_meets yX12_meets, .code yX12_meets cX12_meets 2 (some .int), .fieldLink RX12 161 "TalePlayModel" "latest" "I", .fieldLink RX12 7 "TalePlayModel" "came" "[I", .methodLink RX12 180 yX12_isObject, .instanceMethod yX12_isObject, .selects RX12 yX12_isObject yX12_isObject, .code yX12_isObject cX12_isObject 2 (some .boolean), .fieldLink RX12 177 "TalePlayModel" "objects" "I"] : List Cond) ++ wsX120)
set_option maxRecDepth 20000 in
theorem gm_X12_role_X12_in : GoodIn wm_X12_role (va_wsS RX12 166 yX12_in wm_X12_in) := goodIn_app (goodIn_of _ (by decide +kernel)) (goodIn_r _ [5] (by decide +kernel) (by decide +kernel))
set_option maxRecDepth 20000 in
theorem gm_X12_role_X12_isOf : GoodIn wm_X12_role (wsV RX12 184 RX12 yX12_isOf wm_X12_isOf) := goodIn_app (goodIn_of _ (by decide +kernel)) (goodIn_r _ [12, 13, 14, 26, 27, 28, 29, 30, 31, 32, 33, 34, 35, 36, 37, 38, 39, 40, 41, 42, 43, 44, 45, 46, 47, 48, 49, 50, 51, 52, 53, 54, 55, 56, 57, 58, 59, 60, 61, 62, 63, 64, 65, 66, 67, 68, 69, 70, 71, 72, 73, 74, 75, 76, 77, 78, 79, 80, 81, 82, 83, 84, 85, 86, 87, 88, 89, 90, 91, 92, 93, 94] (by decide +kernel) (by decide +kernel))
set_option maxRecDepth 20000 in
theorem gm_X12_role_X12_meets : GoodIn wm_X12_role (wsV RX12 233 RX12 yX12_meets wm_X12_meets) := goodIn_app (goodIn_of _ (by decide +kernel)) (goodIn_r _ [18, 19, 20, 26, 27, 28, 29, 30, 31, 32, 33, 34, 35, 36, 37, 38, 39, 40, 41, 42, 43, 44, 45, 46, 47, 48, 49, 50, 51, 52, 53, 54, 55, 56, 57, 58, 59, 60, 61, 62, 63, 64, 65, 66, 67, 68, 69, 70, 71, 72, 73, 74, 75, 76, 77, 78, 79, 80, 81, 82, 83, 84, 85, 86, 87, 88, 89, 90, 91, 92, 93, 94] (by decide +kernel) (by decide +kernel))
set_option maxRecDepth 20000 in
theorem gm_X12_role_X12_isObject : GoodIn wm_X12_role (wsV RX12 180 RX12 yX12_isObject wm_X12_isObject) := goodIn_app (goodIn_of _ (by decide +kernel)) (goodIn_r _ [24, 25, 2, 3, 4, 5, 26, 27, 28, 29, 30, 31, 32, 33, 34, 35, 36, 37, 38, 39, 40, 41, 42, 43, 44, 45, 46, 47, 48, 49, 50, 51, 52, 53, 54, 55, 56, 57, 58, 59, 60, 61, 62, 63, 64, 65, 66, 67, 68, 69, 70, 71, 72, 73, 74, 75, 76, 77, 78, 79, 80, 81, 82, 83, 84, 85, 86, 87, 88, 89, 90, 91, 92, 93, 94] (by decide +kernel) (by decide +kernel))
set_option maxHeartbeats 4000000 in
set_option maxRecDepth 100000 in
theorem s_X12_role (l : Launch) (D : va_G) (sz : Nat) (o : Nat) (a : Nat → Nat) (t : Nat → ClassId) (i : Nat → Int32) (q : Int64) (c : Nat → Nat → Int32) (d : Nat → Nat → Int64) (w : Int32) (n1 : Int32) (w2 : Int32) (hI : mInv i c) : Met l yX12_role wm_X12_role ({ frames := 2, cells := 0, slots := 0, locals := 46 }) (va_Pc [.ref o, .int w, .int n1, .int w2] (pB D sz (mW o a t i q c d) (mT t))) (va_Qi (fun (r : Int32) (u : MS) => True ∧ mInv u.1 u.2.2.1 ∧ (∀ k, k ∉ ([0] : List Nat) → u.1 k = i k) ∧ (∀ k, k ∉ ([1, 67] : List Nat) → u.2.2.1 k = c k)) (oC D (va_A (mW o a t i q c d) sz) (fun u : MS => mW o a t u.1 u.2.1 u.2.2.1 u.2.2.2) (fun _ => [])) (va_A (mW o a t i q c d) sz)) 0 0 (va_A (mW o a t i q c d) sz) := by
  refine Met.ofW (cc := cX12_role) (maxL := 4) (ret := (some .int)) (by decide) rfl ?_
  intro p e s m args below meth cd s₁ B hml hv
  obtain ⟨rfl, hsz, hP, hK, hD0⟩ := hv
  have hx := B.exec
  have hb := B.bytes
  have hr := B.returns
  have hts := atoms_spec (ws := wm_X12_role) B.pre
  have hown : s.vm.findClass RX12 = some m.cls := findClass_of_methodNamed B.named
  have hlocks := B.notSynchronized
  subst hsz
  have hD := hD0.self (sz := s.heap.size)
  generalize hAe : va_A (mW o a t i q c d) s.heap.size = A at hD ⊢
  have hA : ∀ q : Nat, s.heap.size ≤ q → A q := fun q h => by rw [← hAe]; exact Or.inr h
  have hS : va_S A s.heap s.heap [] := va_S.rf
  have hfi : ∀ k, k ∉ ([0] : List Nat) → i k = i k := fun _ _ => rfl
  have hfc : ∀ k, k ∉ ([1, 67] : List Nat) → c k = c k := fun _ _ => rfl
  have hl := lv_entry ([.ref o, .int w, .int n1, .int w2]) (n := 4) (Nat.le_of_ble_eq_true rfl)
  rw [lg_entry_eq]
  generalize (lg_sl ([.ref o, .int w, .int n1, .int w2]) ++ List.replicate (4 - (lg_sl ([.ref o, .int w, .int n1, .int w2])).length) Slot.unset).toArray = ls at hl ⊢
  have hl : lv_has ls 4 [(0, .ref o), (1, .int w), (2, .int n1), (3, .int w2)] := hl
  refine lv_iload_n hx hb dX12_role_0 rfl (lv_at hl 1 rfl) ?_
  refine lv_i2l (v := w.toInt64) hx hb dX12_role_1 rfl ?_
  refine lv_lconst (v := 0) hx hb dX12_role_2 (by decide) ?_
  refine lv_aload_n hx hb dX12_role_3 rfl (lv_at hl 0 rfl) ?_
  refine mget_64 (v := (i 64)) rfl hx hb hts (fun _ h => List.mem_cons_of_mem _ (List.mem_append_right _ h)) hown hK hP (hts (.fieldLink RX12 450 "TalePlayModel" "casts" "I") (by decide +kernel)) dX12_role_4 ?_
  have rb64_i : 0 ≤ (i 64).toInt ∧ (i 64).toInt ≤ 10 := hI.1 64
  refine lv_iconst (v := 1) hx hb dX12_role_7 (by decide) ?_
  refine lv_isub hx hb dX12_role_8 ?_
  refine lv_topi (fun x1 ex1 => ?_)
  have tx1 := ti_sub (a := (i 64).toInt) (b := 1) ex1 rfl (by decide) (by omega) (by omega)
  refine lv_i2l (v := x1.toInt64) hx hb dX12_role_9 rfl ?_
  have hPc := hP.sub (ws' := []) [] rfl
  have hKc := hK.sub (tys' := []) [] rfl
  refine ro_calli (va_runS (As := [.long w.toInt64, .long 0, .long x1.toInt64]) (rest := []) ⟨hx, hb, hml, hown, hts⟩ (c_X12_in l D s.heap.size w.toInt64 0 x1.toInt64 w.toInt 0 ((i 64).toInt - 1) ((Int32.toInt_toInt64 w).trans rfl) (by decide) ((Int32.toInt_toInt64 x1).trans tx1)) (va_cwS 3 hts gm_X12_role_X12_in rfl rfl rfl (by decide +kernel) ⟨Nat.le_of_ble_eq_true rfl, Nat.le_of_ble_eq_true rfl⟩) (pA_S hKc hPc) rfl rfl hl.1 rfl (lv_room (Nat.le_of_ble_eq_true rfl)) dX12_role_10 ⟨Nat.le_of_ble_eq_true rfl, Nat.le_of_ble_eq_true rfl⟩) hS hA hP (fun r2 u2 H locs hw2 hP hS => ?_)
  have hw2 : r2 = if (0 ≤ w.toInt ∧ w.toInt ≤ ((i 64).toInt - 1)) then 1 else 0 := hw2
  refine lv_if_eq (tgt := 30) hx hb dX12_role_13 (by decide) (fun c3 => ?_) (fun c3 => ?_)
  · have f3 := fl_f hw2 c3
    refine lv_iconst (v := (-1)) hx hb dX12_role_30 (by decide) ?_
    exact rw_iret (i, q, c, d) hx hb hr hlocks hS (hK.sub (tys' := []) [] rfl) hP hD dX12_role_31 ⟨trivial, hI, hfi, hfc⟩
  · have f3 := fl_t hw2 c3
    refine lv_iload_n hx hb dX12_role_16 rfl (lv_at hl 3 rfl) ?_
    refine lv_bipush (v := (-9)) hx hb dX12_role_17 (by decide) ?_
    have jn4 : (w2.toInt = -9 ∨ (0 ≤ w2.toInt ∧ w2.toInt ≤ 29)) → ∀ (H : Heap) (locs : List Loc) (ls : Array Slot), va_P D vwCl (mW o a t i q c d) H → va_D A (mW o a t i q c d) → va_S A s.heap H locs → lv_has ls 4 [(0, .ref o), (1, .int w), (2, .int n1), (3, .int w2)] → W p l e (headSpec wm_X12_role ({ frames := 2, cells := 0, slots := 0, locals := 46 })).room s m ([.ref o, .int w, .int n1, .int w2] : List Value).toArray below meth cd H locs 0 0 (MQ below (va_Qi (fun (r : Int32) (u : MS) => True ∧ mInv u.1 u.2.2.1 ∧ (∀ k, k ∉ ([0] : List Nat) → u.1 k = i k) ∧ (∀ k, k ∉ ([1, 67] : List Nat) → u.2.2.1 k = c k)) (oC D A (fun u : MS => mW o a t u.1 u.2.1 u.2.2.1 u.2.2.2) (fun _ => [])) A) ([.ref o, .int w, .int n1, .int w2] : List Value).toArray s 0 0 A) (F0 m 32 ls []) := by
      intro hz4_0 H locs ls hP hD hS hl
      refine lv_iload_n hx hb dX12_role_32 rfl (lv_at hl 3 rfl) ?_
      refine lv_bipush (v := (-9)) hx hb dX12_role_33 (by decide) ?_
      have jn5 : ∀ (H : Heap) (locs : List Loc) (ls : Array Slot), va_P D vwCl (mW o a t i q c d) H → va_D A (mW o a t i q c d) → va_S A s.heap H locs → lv_has ls 4 [(0, .ref o), (1, .int w), (2, .int n1), (3, .int w2)] → W p l e (headSpec wm_X12_role ({ frames := 2, cells := 0, slots := 0, locals := 46 })).room s m ([.ref o, .int w, .int n1, .int w2] : List Value).toArray below meth cd H locs 0 0 (MQ below (va_Qi (fun (r : Int32) (u : MS) => True ∧ mInv u.1 u.2.2.1 ∧ (∀ k, k ∉ ([0] : List Nat) → u.1 k = i k) ∧ (∀ k, k ∉ ([1, 67] : List Nat) → u.2.2.1 k = c k)) (oC D A (fun u : MS => mW o a t u.1 u.2.1 u.2.2.1 u.2.2.2) (fun _ => [])) A) ([.ref o, .int w, .int n1, .int w2] : List Value).toArray s 0 0 A) (F0 m 53 ls []) := by
        intro H locs ls hP hD hS hl
        refine lv_iload_n hx hb dX12_role_53 rfl (lv_at hl 2 rfl) ?_
        refine lv_i2l (v := n1.toInt64) hx hb dX12_role_54 rfl ?_
        refine lv_lconst (v := 0) hx hb dX12_role_55 (by decide) ?_
        refine lv_aload_n hx hb dX12_role_56 rfl (lv_at hl 0 rfl) ?_
        refine mget_66 hx hb hts (fun _ h => List.mem_cons_of_mem _ (List.mem_append_right _ h)) hown hK hP (hts (.fieldLink RX12 142 "TalePlayModel" "castMany" "[I") (by decide +kernel)) dX12_role_57 ?_
        refine lv_iload_n hx hb dX12_role_60 rfl (lv_at hl 1 rfl) ?_
        refine mld_66 hx hb hK hP (vp_in_iff.mpr (by have h9 : w.toInt = w.toInt := rfl; omega)) dX12_role_61 (fun x6 ex6 => ?_)
        have rx6 : 0 ≤ x6.toInt ∧ x6.toInt ≤ 12 := by rw [ex6]; exact hI.2 66 _
        refine lv_iconst (v := 1) hx hb dX12_role_62 (by decide) ?_
        refine lv_isub hx hb dX12_role_63 ?_
        refine lv_topi (fun x7 ex7 => ?_)
        have tx7 := ti_sub (a := x6.toInt) (b := 1) ex7 rfl (by decide) (by omega) (by omega)
        refine lv_i2l (v := x7.toInt64) hx hb dX12_role_64 rfl ?_
        have hPc := hP.sub (ws' := []) [] rfl
        have hKc := hK.sub (tys' := []) [] rfl
        refine ro_calli (va_runS (As := [.long n1.toInt64, .long 0, .long x7.toInt64]) (rest := []) ⟨hx, hb, hml, hown, hts⟩ (c_X12_in l D H.size n1.toInt64 0 x7.toInt64 n1.toInt 0 (x6.toInt - 1) ((Int32.toInt_toInt64 n1).trans rfl) (by decide) ((Int32.toInt_toInt64 x7).trans tx7)) (va_cwS 3 hts gm_X12_role_X12_in rfl rfl rfl (by decide +kernel) ⟨Nat.le_of_ble_eq_true rfl, Nat.le_of_ble_eq_true rfl⟩) (pA_S hKc hPc) rfl rfl hl.1 rfl (lv_room (Nat.le_of_ble_eq_true rfl)) dX12_role_65 ⟨Nat.le_of_ble_eq_true rfl, Nat.le_of_ble_eq_true rfl⟩) hS hA hP (fun r8 u8 H locs hw8 hP hS => ?_)
        have hw8 : r8 = if (0 ≤ n1.toInt ∧ n1.toInt ≤ (x6.toInt - 1)) then 1 else 0 := hw8
        refine lv_if_ne (tgt := 77) hx hb dX12_role_68 (by decide) (fun c9 => ?_) (fun c9 => ?_)
        · have f9 := fl_t hw8 c9
          refine lv_iload_n hx hb dX12_role_77 rfl (lv_at hl 3 rfl) ?_
          refine lv_bipush (v := (-9)) hx hb dX12_role_78 (by decide) ?_
          have jn10 : ∀ (H : Heap) (locs : List Loc) (ls : Array Slot), va_P D vwCl (mW o a t i q c d) H → va_D A (mW o a t i q c d) → va_S A s.heap H locs → lv_has ls 4 [(0, .ref o), (1, .int w), (2, .int n1), (3, .int w2)] → W p l e (headSpec wm_X12_role ({ frames := 2, cells := 0, slots := 0, locals := 46 })).room s m ([.ref o, .int w, .int n1, .int w2] : List Value).toArray below meth cd H locs 0 0 (MQ below (va_Qi (fun (r : Int32) (u : MS) => True ∧ mInv u.1 u.2.2.1 ∧ (∀ k, k ∉ ([0] : List Nat) → u.1 k = i k) ∧ (∀ k, k ∉ ([1, 67] : List Nat) → u.2.2.1 k = c k)) (oC D A (fun u : MS => mW o a t u.1 u.2.1 u.2.2.1 u.2.2.2) (fun _ => [])) A) ([.ref o, .int w, .int n1, .int w2] : List Value).toArray s 0 0 A) (F0 m 104 ls []) := by
            intro H locs ls hP hD hS hl
            refine lv_aload_n hx hb dX12_role_104 rfl (lv_at hl 0 rfl) ?_
            refine mget_67 hx hb hts (fun _ h => List.mem_cons_of_mem _ (List.mem_append_right _ h)) hown hK hP (hts (.fieldLink RX12 145 "TalePlayModel" "roles" "[I") (by decide +kernel)) dX12_role_105 ?_
            refine lv_bipush (v := 12) hx hb dX12_role_108 (by decide) ?_
            refine lv_iload_n hx hb dX12_role_110 rfl (lv_at hl 1 rfl) ?_
            refine lv_imul hx hb dX12_role_111 ?_
            refine lv_topi (fun x11 ex11 => ?_)
            have tx11 := ti_mul (a := 12) (b := w.toInt) ex11 (by decide) rfl (by omega) (by omega)
            refine lv_iload_n hx hb dX12_role_112 rfl (lv_at hl 2 rfl) ?_
            refine lv_iadd hx hb dX12_role_113 ?_
            refine lv_topi (fun x12 ex12 => ?_)
            have tx12 := ti_add (a := (12 * w.toInt)) (b := n1.toInt) ex12 tx11 rfl (by omega) (by omega)
            refine lv_iload_n hx hb dX12_role_114 rfl (lv_at hl 3 rfl) ?_
            refine mst_67 hx hb hK hP hD hS (vp_in_iff.mpr (by have h9 : x12.toInt = ((12 * w.toInt) + n1.toInt) := tx12; omega)) dX12_role_115 (fun H locs hP hD hS => ?_)
            have hI := mInv_c hI (k := 67) (j := (x12 : Int32).toNatClampNeg) (x := w2) (show (w2 : Int32).toInt = -9 ∨ (0 ≤ (w2 : Int32).toInt ∧ (w2 : Int32).toInt ≤ 29) from by omega)
            have hfc := fr_c hfc (k := 67) (j := (x12 : Int32).toNatClampNeg) (x := w2) (by decide)
            refine lv_iconst (v := 1) hx hb dX12_role_116 (by decide) ?_
            exact rw_iret (i, q, (updA c 67 (x12 : Int32).toNatClampNeg w2), d) hx hb hr hlocks hS (hK.sub (tys' := []) [] rfl) hP hD dX12_role_117 ⟨trivial, hI, hfi, hfc⟩
          refine lv_icmp_eq (tgt := 104) hx hb dX12_role_80 (by decide) (fun c13 => ?_) (fun c13 => ?_)
          · have f13 := (ti_eq (a := w2.toInt) (b := (-9)) rfl (by decide)).mp c13
            exact jn10    _ _ _ hP hD hS (lv_sub hl [0, 1, 2, 3] rfl)
          · have f13 := mt (ti_eq (a := w2.toInt) (b := (-9)) rfl (by decide)).mpr c13
            refine lv_aload_n hx hb dX12_role_83 rfl (lv_at hl 0 rfl) ?_
            refine lv_iload_n hx hb dX12_role_84 rfl (lv_at hl 3 rfl) ?_
            refine lv_aload_n hx hb dX12_role_85 rfl (lv_at hl 0 rfl) ?_
            refine mget_65 hx hb hts (fun _ h => List.mem_cons_of_mem _ (List.mem_append_right _ h)) hown hK hP (hts (.fieldLink RX12 139 "TalePlayModel" "castSort" "[I") (by decide +kernel)) dX12_role_86 ?_
            refine lv_iload_n hx hb dX12_role_89 rfl (lv_at hl 1 rfl) ?_
            refine mld_65 hx hb hK hP (vp_in_iff.mpr (by have h9 : w.toInt = w.toInt := rfl; omega)) dX12_role_90 (fun x14 ex14 => ?_)
            have rx14 : 0 ≤ x14.toInt ∧ x14.toInt ≤ 5 := by rw [ex14]; exact hI.2 65 _
            refine ro_calli (va_runV (As := [.int w2, .int x14]) (rest := []) ⟨hx, hb, hml, hown, hts⟩ (s_X12_isOf l D H.size o a t i q c d w2 x14 hI (by omega)) (cwV 2 hts gm_X12_role_X12_isOf rfl rfl rfl (by decide +kernel) ⟨Nat.le_of_ble_eq_true rfl, Nat.le_of_ble_eq_true rfl⟩) (pA_V hK hP (ci := 12) (q0 := 0) rfl rfl) rfl rfl hl.1 rfl (lv_room (Nat.le_of_ble_eq_true rfl)) dX12_role_91 ⟨Nat.le_of_ble_eq_true rfl, Nat.le_of_ble_eq_true rfl⟩) hS hA hP (fun r15 u15 H locs hw15 hP hS => ?_)
            have hw15 : 0 ≤ r15.toInt ∧ r15.toInt ≤ 1 := hw15
            refine lv_if_ne (tgt := 104) hx hb dX12_role_94 (by decide) (fun c16 => ?_) (fun c16 => ?_)
            · have f16 := mt (ti_eq (a := r15.toInt) (b := 0) rfl (by decide)).mpr c16
              exact jn10    _ _ _ hP hD hS (lv_sub hl [0, 1, 2, 3] rfl)
            · have f16 := (ti_eq (a := r15.toInt) (b := 0) rfl (by decide)).mp c16
              refine lv_aload_n hx hb dX12_role_97 rfl (lv_at hl 0 rfl) ?_
              refine lv_bipush (v := 6) hx hb dX12_role_98 (by decide) ?_
              refine al_calli (va_runV (As := [.int 6]) (rest := []) ⟨hx, hb, hml, hown, hts⟩ (s_X12_meets l D H.size o a t i q c d 6 hI (by have h90 : (6 : Int32).toInt = 6 := (by decide); omega)) (cwV 1 hts gm_X12_role_X12_meets rfl rfl rfl (by decide +kernel) ⟨Nat.le_of_ble_eq_true rfl, Nat.le_of_ble_eq_true rfl⟩) (pB_V hK hP hD (ci := 12) (q0 := 0) rfl rfl) rfl rfl hl.1 rfl (lv_room (Nat.le_of_ble_eq_true rfl)) dX12_role_100 ⟨Nat.le_of_ble_eq_true rfl, Nat.le_of_ble_eq_true rfl⟩) hS hA hP hD (fun r17 u17 H locs hw17 hP hD hS => ?_)
              obtain ⟨i17, q17, c17, d17⟩ := u17
              have hw17 : r17 = (-3) ∧ mInv i17 c17 ∧ (∀ k, k ∉ ([0] : List Nat) → i17 k = i k) ∧ (∀ k, k ∉ ([1] : List Nat) → c17 k = c k) := hw17
              obtain ⟨hw17, hI, hei17, hec17⟩ := hw17
              have hfi := fr_t hfi hei17 (by decide)
              have hfc := fr_t hfc hec17 (by decide)
              have hP : va_P D vwCl (mW o a t i17 q17 c17 d17) H := hP
              have hD : va_D A (mW o a t i17 q17 c17 d17) := hD
              have hw17 : r17 = (-3) := hw17
              subst hw17
              exact rw_iret (i17, q17, c17, d17) hx hb hr hlocks hS (hK.sub (tys' := []) [] rfl) hP hD dX12_role_103 ⟨trivial, hI, hfi, hfc⟩
        · have f9 := fl_f hw8 c9
          refine lv_aload_n hx hb dX12_role_71 rfl (lv_at hl 0 rfl) ?_
          refine lv_iconst (v := 2) hx hb dX12_role_72 (by decide) ?_
          refine al_calli (va_runV (As := [.int 2]) (rest := []) ⟨hx, hb, hml, hown, hts⟩ (s_X12_meets l D H.size o a t i q c d 2 hI (by have h90 : (2 : Int32).toInt = 2 := (by decide); omega)) (cwV 1 hts gm_X12_role_X12_meets rfl rfl rfl (by decide +kernel) ⟨Nat.le_of_ble_eq_true rfl, Nat.le_of_ble_eq_true rfl⟩) (pB_V hK hP hD (ci := 12) (q0 := 0) rfl rfl) rfl rfl hl.1 rfl (lv_room (Nat.le_of_ble_eq_true rfl)) dX12_role_73 ⟨Nat.le_of_ble_eq_true rfl, Nat.le_of_ble_eq_true rfl⟩) hS hA hP hD (fun r18 u18 H locs hw18 hP hD hS => ?_)
          obtain ⟨i18, q18, c18, d18⟩ := u18
          have hw18 : r18 = (-3) ∧ mInv i18 c18 ∧ (∀ k, k ∉ ([0] : List Nat) → i18 k = i k) ∧ (∀ k, k ∉ ([1] : List Nat) → c18 k = c k) := hw18
          obtain ⟨hw18, hI, hei18, hec18⟩ := hw18
          have hfi := fr_t hfi hei18 (by decide)
          have hfc := fr_t hfc hec18 (by decide)
          have hP : va_P D vwCl (mW o a t i18 q18 c18 d18) H := hP
          have hD : va_D A (mW o a t i18 q18 c18 d18) := hD
          have hw18 : r18 = (-3) := hw18
          subst hw18
          exact rw_iret (i18, q18, c18, d18) hx hb hr hlocks hS (hK.sub (tys' := []) [] rfl) hP hD dX12_role_76 ⟨trivial, hI, hfi, hfc⟩
      refine lv_icmp_eq (tgt := 53) hx hb dX12_role_35 (by decide) (fun c19 => ?_) (fun c19 => ?_)
      · have f19 := (ti_eq (a := w2.toInt) (b := (-9)) rfl (by decide)).mp c19
        exact jn5    _ _ _ hP hD hS (lv_sub hl [0, 1, 2, 3] rfl)
      · have f19 := mt (ti_eq (a := w2.toInt) (b := (-9)) rfl (by decide)).mpr c19
        refine lv_aload_n hx hb dX12_role_38 rfl (lv_at hl 0 rfl) ?_
        refine lv_iload_n hx hb dX12_role_39 rfl (lv_at hl 3 rfl) ?_
        refine lv_iconst (v := 0) hx hb dX12_role_40 (by decide) ?_
        refine ro_calli (va_runV (As := [.int w2, .int 0]) (rest := []) ⟨hx, hb, hml, hown, hts⟩ (s_X12_isOf l D H.size o a t i q c d w2 0 hI (by have h91 : (0 : Int32).toInt = 0 := (by decide); omega)) (cwV 2 hts gm_X12_role_X12_isOf rfl rfl rfl (by decide +kernel) ⟨Nat.le_of_ble_eq_true rfl, Nat.le_of_ble_eq_true rfl⟩) (pA_V hK hP (ci := 12) (q0 := 0) rfl rfl) rfl rfl hl.1 rfl (lv_room (Nat.le_of_ble_eq_true rfl)) dX12_role_41 ⟨Nat.le_of_ble_eq_true rfl, Nat.le_of_ble_eq_true rfl⟩) hS hA hP (fun r20 u20 H locs hw20 hP hS => ?_)
        have hw20 : 0 ≤ r20.toInt ∧ r20.toInt ≤ 1 := hw20
        refine lv_if_eq (tgt := 53) hx hb dX12_role_44 (by decide) (fun c21 => ?_) (fun c21 => ?_)
        · have f21 := (ti_eq (a := r20.toInt) (b := 0) rfl (by decide)).mp c21
          exact jn5    _ _ _ hP hD hS (lv_sub hl [0, 1, 2, 3] rfl)
        · have f21 := mt (ti_eq (a := r20.toInt) (b := 0) rfl (by decide)).mpr c21
          refine lv_aload_n hx hb dX12_role_47 rfl (lv_at hl 0 rfl) ?_
          refine lv_iconst (v := 3) hx hb dX12_role_48 (by decide) ?_
          refine al_calli (va_runV (As := [.int 3]) (rest := []) ⟨hx, hb, hml, hown, hts⟩ (s_X12_meets l D H.size o a t i q c d 3 hI (by have h90 : (3 : Int32).toInt = 3 := (by decide); omega)) (cwV 1 hts gm_X12_role_X12_meets rfl rfl rfl (by decide +kernel) ⟨Nat.le_of_ble_eq_true rfl, Nat.le_of_ble_eq_true rfl⟩) (pB_V hK hP hD (ci := 12) (q0 := 0) rfl rfl) rfl rfl hl.1 rfl (lv_room (Nat.le_of_ble_eq_true rfl)) dX12_role_49 ⟨Nat.le_of_ble_eq_true rfl, Nat.le_of_ble_eq_true rfl⟩) hS hA hP hD (fun r22 u22 H locs hw22 hP hD hS => ?_)
          obtain ⟨i22, q22, c22, d22⟩ := u22
          have hw22 : r22 = (-3) ∧ mInv i22 c22 ∧ (∀ k, k ∉ ([0] : List Nat) → i22 k = i k) ∧ (∀ k, k ∉ ([1] : List Nat) → c22 k = c k) := hw22
          obtain ⟨hw22, hI, hei22, hec22⟩ := hw22
          have hfi := fr_t hfi hei22 (by decide)
          have hfc := fr_t hfc hec22 (by decide)
          have hP : va_P D vwCl (mW o a t i22 q22 c22 d22) H := hP
          have hD : va_D A (mW o a t i22 q22 c22 d22) := hD
          have hw22 : r22 = (-3) := hw22
          subst hw22
          exact rw_iret (i22, q22, c22, d22) hx hb hr hlocks hS (hK.sub (tys' := []) [] rfl) hP hD dX12_role_52 ⟨trivial, hI, hfi, hfc⟩
    refine lv_icmp_eq (tgt := 32) hx hb dX12_role_19 (by decide) (fun c23 => ?_) (fun c23 => ?_)
    · have f23 := (ti_eq (a := w2.toInt) (b := (-9)) rfl (by decide)).mp c23
      exact jn4   (show w2.toInt = -9 ∨ (0 ≤ w2.toInt ∧ w2.toInt ≤ 29) from by omega) _ _ _ hP hD hS (lv_sub hl [0, 1, 2, 3] rfl)
    · have f23 := mt (ti_eq (a := w2.toInt) (b := (-9)) rfl (by decide)).mpr c23
      refine lv_aload_n hx hb dX12_role_22 rfl (lv_at hl 0 rfl) ?_
      refine lv_iload_n hx hb dX12_role_23 rfl (lv_at hl 3 rfl) ?_
      have rb5_i : 0 ≤ (i 5).toInt ∧ (i 5).toInt ≤ 30 := hI.1 5
      refine ro_calli (va_runV (As := [.int w2]) (rest := []) ⟨hx, hb, hml, hown, hts⟩ (s_X12_isObject l D H.size o a t i q c d w2 hI ) (cwV 1 hts gm_X12_role_X12_isObject rfl rfl rfl (by decide +kernel) ⟨Nat.le_of_ble_eq_true rfl, Nat.le_of_ble_eq_true rfl⟩) (pA_V hK hP (ci := 12) (q0 := 0) rfl rfl) rfl rfl hl.1 rfl (lv_room (Nat.le_of_ble_eq_true rfl)) dX12_role_24 ⟨Nat.le_of_ble_eq_true rfl, Nat.le_of_ble_eq_true rfl⟩) hS hA hP (fun r24 u24 H locs hw24 hP hS => ?_)
      have hw24 : r24 = if (0 ≤ w2.toInt ∧ w2.toInt ≤ (i 5).toInt - 1) then 1 else 0 := hw24
      refine lv_if_ne (tgt := 32) hx hb dX12_role_27 (by decide) (fun c25 => ?_) (fun c25 => ?_)
      · have f25 := fl_t hw24 c25
        exact jn4   (show w2.toInt = -9 ∨ (0 ≤ w2.toInt ∧ w2.toInt ≤ 29) from by omega) _ _ _ hP hD hS (lv_sub hl [0, 1, 2, 3] rfl)
      · have f25 := fl_f hw24 c25
        refine lv_iconst (v := (-1)) hx hb dX12_role_30 (by decide) ?_
        exact rw_iret (i, q, c, d) hx hb hr hlocks hS (hK.sub (tys' := []) [] rfl) hP hD dX12_role_31 ⟨trivial, hI, hfi, hfc⟩

def wm_X12_who : List Cond := .code yX12_who cX12_who 3 (some .int) :: (([.fieldLink RX12 450 "TalePlayModel" "casts" "I", .methodLink RX12 166 yX12_in, .static yX12_in, .initialized RX12, .code yX12_in cX12_in 6 (some .boolean), .fieldLink RX12 142 "TalePlayModel" "castMany" "[I", .fieldLink RX12 145 "TalePlayModel" "roles" "[I", .methodLink RX12 233 yX12_meets, .instanceMethod yX12_meets, .selects RX12 yX12_meets yX12_meets, .code yX12_meets cX12_meets 2 (some .int), .fieldLink RX12 161 "TalePlayModel" "latest" "I", .fieldLink RX12 7 "TalePlayModel" "came" "[I"] : List Cond) ++ wsX120)
set_option maxRecDepth 20000 in
theorem gm_X12_who_X12_in : GoodIn wm_X12_who (va_wsS RX12 166 yX12_in wm_X12_in) := goodIn_app (goodIn_of _ (by decide +kernel)) (goodIn_r _ [5] (by decide +kernel) (by decide +kernel))
set_option maxRecDepth 20000 in
theorem gm_X12_who_X12_meets : GoodIn wm_X12_who (wsV RX12 233 RX12 yX12_meets wm_X12_meets) := goodIn_app (goodIn_of _ (by decide +kernel)) (goodIn_r _ [11, 12, 13, 14, 15, 16, 17, 18, 19, 20, 21, 22, 23, 24, 25, 26, 27, 28, 29, 30, 31, 32, 33, 34, 35, 36, 37, 38, 39, 40, 41, 42, 43, 44, 45, 46, 47, 48, 49, 50, 51, 52, 53, 54, 55, 56, 57, 58, 59, 60, 61, 62, 63, 64, 65, 66, 67, 68, 69, 70, 71, 72, 73, 74, 75, 76, 77, 78, 79, 80, 81, 82] (by decide +kernel) (by decide +kernel))
set_option maxHeartbeats 4000000 in
set_option maxRecDepth 100000 in
theorem s_X12_who (l : Launch) (D : va_G) (sz : Nat) (o : Nat) (a : Nat → Nat) (t : Nat → ClassId) (i : Nat → Int32) (q : Int64) (c : Nat → Nat → Int32) (d : Nat → Nat → Int64) (w : Int32) (n1 : Int32) (hI : mInv i c) : Met l yX12_who wm_X12_who ({ frames := 1, cells := 0, slots := 0, locals := 25 }) (va_Pc [.ref o, .int w, .int n1] (pB D sz (mW o a t i q c d) (mT t))) (va_Qi (fun (r : Int32) (u : MS) => True ∧ mInv u.1 u.2.2.1 ∧ (∀ k, k ∉ ([0] : List Nat) → u.1 k = i k) ∧ (∀ k, k ∉ ([1] : List Nat) → u.2.2.1 k = c k)) (oC D (va_A (mW o a t i q c d) sz) (fun u : MS => mW o a t u.1 u.2.1 u.2.2.1 u.2.2.2) (fun _ => [])) (va_A (mW o a t i q c d) sz)) 0 0 (va_A (mW o a t i q c d) sz) := by
  refine Met.ofW (cc := cX12_who) (maxL := 3) (ret := (some .int)) (by decide) rfl ?_
  intro p e s m args below meth cd s₁ B hml hv
  obtain ⟨rfl, hsz, hP, hK, hD0⟩ := hv
  have hx := B.exec
  have hb := B.bytes
  have hr := B.returns
  have hts := atoms_spec (ws := wm_X12_who) B.pre
  have hown : s.vm.findClass RX12 = some m.cls := findClass_of_methodNamed B.named
  have hlocks := B.notSynchronized
  subst hsz
  have hD := hD0.self (sz := s.heap.size)
  generalize hAe : va_A (mW o a t i q c d) s.heap.size = A at hD ⊢
  have hA : ∀ q : Nat, s.heap.size ≤ q → A q := fun q h => by rw [← hAe]; exact Or.inr h
  have hS : va_S A s.heap s.heap [] := va_S.rf
  have hfi : ∀ k, k ∉ ([0] : List Nat) → i k = i k := fun _ _ => rfl
  have hfc : ∀ k, k ∉ ([1] : List Nat) → c k = c k := fun _ _ => rfl
  have hl := lv_entry ([.ref o, .int w, .int n1]) (n := 3) (Nat.le_of_ble_eq_true rfl)
  rw [lg_entry_eq]
  generalize (lg_sl ([.ref o, .int w, .int n1]) ++ List.replicate (3 - (lg_sl ([.ref o, .int w, .int n1])).length) Slot.unset).toArray = ls at hl ⊢
  have hl : lv_has ls 3 [(0, .ref o), (1, .int w), (2, .int n1)] := hl
  refine lv_iload_n hx hb dX12_who_0 rfl (lv_at hl 1 rfl) ?_
  refine lv_i2l (v := w.toInt64) hx hb dX12_who_1 rfl ?_
  refine lv_lconst (v := 0) hx hb dX12_who_2 (by decide) ?_
  refine lv_aload_n hx hb dX12_who_3 rfl (lv_at hl 0 rfl) ?_
  refine mget_64 (v := (i 64)) rfl hx hb hts (fun _ h => List.mem_cons_of_mem _ (List.mem_append_right _ h)) hown hK hP (hts (.fieldLink RX12 450 "TalePlayModel" "casts" "I") (by decide +kernel)) dX12_who_4 ?_
  have rb64_i : 0 ≤ (i 64).toInt ∧ (i 64).toInt ≤ 10 := hI.1 64
  refine lv_iconst (v := 1) hx hb dX12_who_7 (by decide) ?_
  refine lv_isub hx hb dX12_who_8 ?_
  refine lv_topi (fun x1 ex1 => ?_)
  have tx1 := ti_sub (a := (i 64).toInt) (b := 1) ex1 rfl (by decide) (by omega) (by omega)
  refine lv_i2l (v := x1.toInt64) hx hb dX12_who_9 rfl ?_
  have hPc := hP.sub (ws' := []) [] rfl
  have hKc := hK.sub (tys' := []) [] rfl
  refine ro_calli (va_runS (As := [.long w.toInt64, .long 0, .long x1.toInt64]) (rest := []) ⟨hx, hb, hml, hown, hts⟩ (c_X12_in l D s.heap.size w.toInt64 0 x1.toInt64 w.toInt 0 ((i 64).toInt - 1) ((Int32.toInt_toInt64 w).trans rfl) (by decide) ((Int32.toInt_toInt64 x1).trans tx1)) (va_cwS 3 hts gm_X12_who_X12_in rfl rfl rfl (by decide +kernel) ⟨Nat.le_of_ble_eq_true rfl, Nat.le_of_ble_eq_true rfl⟩) (pA_S hKc hPc) rfl rfl hl.1 rfl (lv_room (Nat.le_of_ble_eq_true rfl)) dX12_who_10 ⟨Nat.le_of_ble_eq_true rfl, Nat.le_of_ble_eq_true rfl⟩) hS hA hP (fun r2 u2 H locs hw2 hP hS => ?_)
  have hw2 : r2 = if (0 ≤ w.toInt ∧ w.toInt ≤ ((i 64).toInt - 1)) then 1 else 0 := hw2
  refine lv_if_ne (tgt := 18) hx hb dX12_who_13 (by decide) (fun c3 => ?_) (fun c3 => ?_)
  · have f3 := fl_t hw2 c3
    refine lv_iload_n hx hb dX12_who_18 rfl (lv_at hl 2 rfl) ?_
    refine lv_i2l (v := n1.toInt64) hx hb dX12_who_19 rfl ?_
    refine lv_lconst (v := 0) hx hb dX12_who_20 (by decide) ?_
    refine lv_aload_n hx hb dX12_who_21 rfl (lv_at hl 0 rfl) ?_
    refine mget_66 hx hb hts (fun _ h => List.mem_cons_of_mem _ (List.mem_append_right _ h)) hown hK hP (hts (.fieldLink RX12 142 "TalePlayModel" "castMany" "[I") (by decide +kernel)) dX12_who_22 ?_
    refine lv_iload_n hx hb dX12_who_25 rfl (lv_at hl 1 rfl) ?_
    refine mld_66 hx hb hK hP (vp_in_iff.mpr (by have h9 : w.toInt = w.toInt := rfl; omega)) dX12_who_26 (fun x4 ex4 => ?_)
    have rx4 : 0 ≤ x4.toInt ∧ x4.toInt ≤ 12 := by rw [ex4]; exact hI.2 66 _
    refine lv_iconst (v := 1) hx hb dX12_who_27 (by decide) ?_
    refine lv_isub hx hb dX12_who_28 ?_
    refine lv_topi (fun x5 ex5 => ?_)
    have tx5 := ti_sub (a := x4.toInt) (b := 1) ex5 rfl (by decide) (by omega) (by omega)
    refine lv_i2l (v := x5.toInt64) hx hb dX12_who_29 rfl ?_
    have hPc := hP.sub (ws' := []) [] rfl
    have hKc := hK.sub (tys' := []) [] rfl
    refine ro_calli (va_runS (As := [.long n1.toInt64, .long 0, .long x5.toInt64]) (rest := []) ⟨hx, hb, hml, hown, hts⟩ (c_X12_in l D H.size n1.toInt64 0 x5.toInt64 n1.toInt 0 (x4.toInt - 1) ((Int32.toInt_toInt64 n1).trans rfl) (by decide) ((Int32.toInt_toInt64 x5).trans tx5)) (va_cwS 3 hts gm_X12_who_X12_in rfl rfl rfl (by decide +kernel) ⟨Nat.le_of_ble_eq_true rfl, Nat.le_of_ble_eq_true rfl⟩) (pA_S hKc hPc) rfl rfl hl.1 rfl (lv_room (Nat.le_of_ble_eq_true rfl)) dX12_who_30 ⟨Nat.le_of_ble_eq_true rfl, Nat.le_of_ble_eq_true rfl⟩) hS hA hP (fun r6 u6 H locs hw6 hP hS => ?_)
    have hw6 : r6 = if (0 ≤ n1.toInt ∧ n1.toInt ≤ (x4.toInt - 1)) then 1 else 0 := hw6
    refine lv_if_ne (tgt := 42) hx hb dX12_who_33 (by decide) (fun c7 => ?_) (fun c7 => ?_)
    · have f7 := fl_t hw6 c7
      refine lv_aload_n hx hb dX12_who_42 rfl (lv_at hl 0 rfl) ?_
      refine mget_67 hx hb hts (fun _ h => List.mem_cons_of_mem _ (List.mem_append_right _ h)) hown hK hP (hts (.fieldLink RX12 145 "TalePlayModel" "roles" "[I") (by decide +kernel)) dX12_who_43 ?_
      refine lv_bipush (v := 12) hx hb dX12_who_46 (by decide) ?_
      refine lv_iload_n hx hb dX12_who_48 rfl (lv_at hl 1 rfl) ?_
      refine lv_imul hx hb dX12_who_49 ?_
      refine lv_topi (fun x8 ex8 => ?_)
      have tx8 := ti_mul (a := 12) (b := w.toInt) ex8 (by decide) rfl (by omega) (by omega)
      refine lv_iload_n hx hb dX12_who_50 rfl (lv_at hl 2 rfl) ?_
      refine lv_iadd hx hb dX12_who_51 ?_
      refine lv_topi (fun x9 ex9 => ?_)
      have tx9 := ti_add (a := (12 * w.toInt)) (b := n1.toInt) ex9 tx8 rfl (by omega) (by omega)
      refine mld_67 hx hb hK hP (vp_in_iff.mpr (by have h9 : x9.toInt = ((12 * w.toInt) + n1.toInt) := tx9; omega)) dX12_who_52 (fun x10 ex10 => ?_)
      have rx10 : x10.toInt = -9 ∨ (0 ≤ x10.toInt ∧ x10.toInt ≤ 29) := by rw [ex10]; exact hI.2 67 _
      refine lv_bipush (v := (-9)) hx hb dX12_who_53 (by decide) ?_
      refine lv_icmp_ne (tgt := 66) hx hb dX12_who_55 (by decide) (fun c11 => ?_) (fun c11 => ?_)
      · have f11 := mt (ti_eq (a := x10.toInt) (b := (-9)) rfl (by decide)).mpr c11
        refine lv_aload_n hx hb dX12_who_66 rfl (lv_at hl 0 rfl) ?_
        refine mget_67 hx hb hts (fun _ h => List.mem_cons_of_mem _ (List.mem_append_right _ h)) hown hK hP (hts (.fieldLink RX12 145 "TalePlayModel" "roles" "[I") (by decide +kernel)) dX12_who_67 ?_
        refine lv_bipush (v := 12) hx hb dX12_who_70 (by decide) ?_
        refine lv_iload_n hx hb dX12_who_72 rfl (lv_at hl 1 rfl) ?_
        refine lv_imul hx hb dX12_who_73 ?_
        refine lv_topi (fun x12 ex12 => ?_)
        have tx12 := ti_mul (a := 12) (b := w.toInt) ex12 (by decide) rfl (by omega) (by omega)
        refine lv_iload_n hx hb dX12_who_74 rfl (lv_at hl 2 rfl) ?_
        refine lv_iadd hx hb dX12_who_75 ?_
        refine lv_topi (fun x13 ex13 => ?_)
        have tx13 := ti_add (a := (12 * w.toInt)) (b := n1.toInt) ex13 tx12 rfl (by omega) (by omega)
        refine mld_67 hx hb hK hP (vp_in_iff.mpr (by have h9 : x13.toInt = ((12 * w.toInt) + n1.toInt) := tx13; omega)) dX12_who_76 (fun x14 ex14 => ?_)
        have rx14 : x14.toInt = -9 ∨ (0 ≤ x14.toInt ∧ x14.toInt ≤ 29) := by rw [ex14]; exact hI.2 67 _
        exact rw_iret (i, q, c, d) hx hb hr hlocks hS (hK.sub (tys' := []) [] rfl) hP hD dX12_who_77 ⟨trivial, hI, hfi, hfc⟩
      · have f11 := (ti_eq (a := x10.toInt) (b := (-9)) rfl (by decide)).mp c11
        refine lv_aload_n hx hb dX12_who_58 rfl (lv_at hl 0 rfl) ?_
        refine lv_iconst (v := 1) hx hb dX12_who_59 (by decide) ?_
        refine al_calli (va_runV (As := [.int 1]) (rest := []) ⟨hx, hb, hml, hown, hts⟩ (s_X12_meets l D H.size o a t i q c d 1 hI (by have h90 : (1 : Int32).toInt = 1 := (by decide); omega)) (cwV 1 hts gm_X12_who_X12_meets rfl rfl rfl (by decide +kernel) ⟨Nat.le_of_ble_eq_true rfl, Nat.le_of_ble_eq_true rfl⟩) (pB_V hK hP hD (ci := 12) (q0 := 0) rfl rfl) rfl rfl hl.1 rfl (lv_room (Nat.le_of_ble_eq_true rfl)) dX12_who_60 ⟨Nat.le_of_ble_eq_true rfl, Nat.le_of_ble_eq_true rfl⟩) hS hA hP hD (fun r15 u15 H locs hw15 hP hD hS => ?_)
        obtain ⟨i15, q15, c15, d15⟩ := u15
        have hw15 : r15 = (-3) ∧ mInv i15 c15 ∧ (∀ k, k ∉ ([0] : List Nat) → i15 k = i k) ∧ (∀ k, k ∉ ([1] : List Nat) → c15 k = c k) := hw15
        obtain ⟨hw15, hI, hei15, hec15⟩ := hw15
        have hfi := fr_t hfi hei15 (by decide)
        have hfc := fr_t hfc hec15 (by decide)
        have hP : va_P D vwCl (mW o a t i15 q15 c15 d15) H := hP
        have hD : va_D A (mW o a t i15 q15 c15 d15) := hD
        have hw15 : r15 = (-3) := hw15
        subst hw15
        refine lv_goto (tgt := 77) hx hb dX12_who_63 (by decide) ?_
        exact rw_iret (i15, q15, c15, d15) hx hb hr hlocks hS (hK.sub (tys' := []) [] rfl) hP hD dX12_who_77 ⟨trivial, hI, hfi, hfc⟩
    · have f7 := fl_f hw6 c7
      refine lv_aload_n hx hb dX12_who_36 rfl (lv_at hl 0 rfl) ?_
      refine lv_iconst (v := 2) hx hb dX12_who_37 (by decide) ?_
      refine al_calli (va_runV (As := [.int 2]) (rest := []) ⟨hx, hb, hml, hown, hts⟩ (s_X12_meets l D H.size o a t i q c d 2 hI (by have h90 : (2 : Int32).toInt = 2 := (by decide); omega)) (cwV 1 hts gm_X12_who_X12_meets rfl rfl rfl (by decide +kernel) ⟨Nat.le_of_ble_eq_true rfl, Nat.le_of_ble_eq_true rfl⟩) (pB_V hK hP hD (ci := 12) (q0 := 0) rfl rfl) rfl rfl hl.1 rfl (lv_room (Nat.le_of_ble_eq_true rfl)) dX12_who_38 ⟨Nat.le_of_ble_eq_true rfl, Nat.le_of_ble_eq_true rfl⟩) hS hA hP hD (fun r16 u16 H locs hw16 hP hD hS => ?_)
      obtain ⟨i16, q16, c16, d16⟩ := u16
      have hw16 : r16 = (-3) ∧ mInv i16 c16 ∧ (∀ k, k ∉ ([0] : List Nat) → i16 k = i k) ∧ (∀ k, k ∉ ([1] : List Nat) → c16 k = c k) := hw16
      obtain ⟨hw16, hI, hei16, hec16⟩ := hw16
      have hfi := fr_t hfi hei16 (by decide)
      have hfc := fr_t hfc hec16 (by decide)
      have hP : va_P D vwCl (mW o a t i16 q16 c16 d16) H := hP
      have hD : va_D A (mW o a t i16 q16 c16 d16) := hD
      have hw16 : r16 = (-3) := hw16
      subst hw16
      exact rw_iret (i16, q16, c16, d16) hx hb hr hlocks hS (hK.sub (tys' := []) [] rfl) hP hD dX12_who_41 ⟨trivial, hI, hfi, hfc⟩
  · have f3 := fl_f hw2 c3
    refine lv_iconst (v := (-1)) hx hb dX12_who_16 (by decide) ?_
    exact rw_iret (i, q, c, d) hx hb hr hlocks hS (hK.sub (tys' := []) [] rfl) hP hD dX12_who_17 ⟨trivial, hI, hfi, hfc⟩

def wm_X12_count : List Cond := .code yX12_count cX12_count 2 (some .int) :: (([.fieldLink RX12 151 "TalePlayModel" "kinds" "I", .fieldLink RX12 177 "TalePlayModel" "objects" "I", .methodLink RX12 248 yX12_saidMany, .instanceMethod yX12_saidMany, .selects RX12 yX12_saidMany yX12_saidMany, .initialized RX12, .code yX12_saidMany cX12_saidMany 3 (some .int), .fieldLink RX12 202 "TalePlayModel" "sentences" "I", .fieldLink RX12 37 "TalePlayModel" "isSaid" "[Z", .fieldLink RX12 450 "TalePlayModel" "casts" "I", .fieldLink RX12 291 "TalePlayModel" "turns" "I", .fieldLink RX12 155 "TalePlayModel" "player" "I", .fieldLink RX12 158 "TalePlayModel" "soughtMany" "I"] : List Cond) ++ wsX120)
set_option maxRecDepth 20000 in
theorem gm_X12_count_X12_saidMany : GoodIn wm_X12_count (wsV RX12 248 RX12 yX12_saidMany wm_X12_saidMany) := goodIn_app (goodIn_of _ (by decide +kernel)) (goodIn_r _ [7, 8, 9, 14, 15, 16, 17, 18, 19, 20, 21, 22, 23, 24, 25, 26, 27, 28, 29, 30, 31, 32, 33, 34, 35, 36, 37, 38, 39, 40, 41, 42, 43, 44, 45, 46, 47, 48, 49, 50, 51, 52, 53, 54, 55, 56, 57, 58, 59, 60, 61, 62, 63, 64, 65, 66, 67, 68, 69, 70, 71, 72, 73, 74, 75, 76, 77, 78, 79, 80, 81, 82] (by decide +kernel) (by decide +kernel))
set_option maxHeartbeats 4000000 in
set_option maxRecDepth 100000 in
theorem s_X12_count (l : Launch) (D : va_G) (sz : Nat) (o : Nat) (a : Nat → Nat) (t : Nat → ClassId) (i : Nat → Int32) (q : Int64) (c : Nat → Nat → Int32) (d : Nat → Nat → Int64) (w : Int32) (hI : mInv i c) : Met l yX12_count wm_X12_count ({ frames := 1, cells := 0, slots := 0, locals := 22 }) (va_Pc [.ref o, .int w] (pA D sz (mW o a t i q c d) (mT t))) (va_Qi (fun (r : Int32) (_ : Unit) => True) oA (ro sz)) 0 0 (ro sz) := by
  refine Met.ofW (cc := cX12_count) (maxL := 2) (ret := (some .int)) (by decide) rfl ?_
  intro p e s m args below meth cd s₁ B hml hv
  obtain ⟨rfl, hsz, hP, hK⟩ := hv
  have hx := B.exec
  have hb := B.bytes
  have hr := B.returns
  have hts := atoms_spec (ws := wm_X12_count) B.pre
  have hown : s.vm.findClass RX12 = some m.cls := findClass_of_methodNamed B.named
  have hlocks := B.notSynchronized
  subst hsz
  have hA : ∀ q : Nat, s.heap.size ≤ q → ro s.heap.size q := fun _ h => h
  have hS : va_S (ro s.heap.size) s.heap s.heap [] := va_S.rf
  have hl := lv_entry ([.ref o, .int w]) (n := 2) (Nat.le_of_ble_eq_true rfl)
  rw [lg_entry_eq]
  generalize (lg_sl ([.ref o, .int w]) ++ List.replicate (2 - (lg_sl ([.ref o, .int w])).length) Slot.unset).toArray = ls at hl ⊢
  have hl : lv_has ls 2 [(0, .ref o), (1, .int w)] := hl
  refine lv_iload_n hx hb dX12_count_0 rfl (lv_at hl 1 rfl) ?_
  rcases (show (w.toInt < 0 ∨ 7 < w.toInt) ∨ w.toInt = 0 ∨ w.toInt = 1 ∨ w.toInt = 2 ∨ w.toInt = 3 ∨ w.toInt = 4 ∨ w.toInt = 5 ∨ w.toInt = 6 ∨ w.toInt = 7 by omega) with f1 | f1 | f1 | f1 | f1 | f1 | f1 | f1 | f1
  · refine lv_tableOut (tgt := 88) hx hb dX12_count_1 f1 (by decide) ?_
    refine lv_iconst (v := (-1)) hx hb dX12_count_88 (by decide) ?_
    exact ro_iret hx hb hr hlocks hS dX12_count_89 trivial
  · refine lv_tableIn (off := 47) (tgt := 48) hx hb dX12_count_1 (by omega) (by omega) (by rw [f1]; rfl) (by decide) ?_
    refine lv_aload_n hx hb dX12_count_48 rfl (lv_at hl 0 rfl) ?_
    refine mget_2 (v := (i 2)) rfl hx hb hts (fun _ h => List.mem_cons_of_mem _ (List.mem_append_right _ h)) hown hK hP (hts (.fieldLink RX12 151 "TalePlayModel" "kinds" "I") (by decide +kernel)) dX12_count_49 ?_
    have rb2_i : 6 ≤ (i 2).toInt ∧ (i 2).toInt ≤ 24 := hI.1 2
    exact ro_iret hx hb hr hlocks hS dX12_count_52 trivial
  · refine lv_tableIn (off := 52) (tgt := 53) hx hb dX12_count_1 (by omega) (by omega) (by rw [f1]; rfl) (by decide) ?_
    refine lv_aload_n hx hb dX12_count_53 rfl (lv_at hl 0 rfl) ?_
    refine mget_5 (v := (i 5)) rfl hx hb hts (fun _ h => List.mem_cons_of_mem _ (List.mem_append_right _ h)) hown hK hP (hts (.fieldLink RX12 177 "TalePlayModel" "objects" "I") (by decide +kernel)) dX12_count_54 ?_
    have rb5_i : 0 ≤ (i 5).toInt ∧ (i 5).toInt ≤ 30 := hI.1 5
    exact ro_iret hx hb hr hlocks hS dX12_count_57 trivial
  · refine lv_tableIn (off := 57) (tgt := 58) hx hb dX12_count_1 (by omega) (by omega) (by rw [f1]; rfl) (by decide) ?_
    refine lv_aload_n hx hb dX12_count_58 rfl (lv_at hl 0 rfl) ?_
    refine ro_calli (va_runV (As := []) (rest := []) ⟨hx, hb, hml, hown, hts⟩ (s_X12_saidMany l D s.heap.size o a t i q c d  hI ) (cwV 0 hts gm_X12_count_X12_saidMany rfl rfl rfl (by decide +kernel) ⟨Nat.le_of_ble_eq_true rfl, Nat.le_of_ble_eq_true rfl⟩) (pA_V hK hP (ci := 12) (q0 := 0) rfl rfl) rfl rfl hl.1 rfl (lv_room (Nat.le_of_ble_eq_true rfl)) dX12_count_59 ⟨Nat.le_of_ble_eq_true rfl, Nat.le_of_ble_eq_true rfl⟩) hS hA hP (fun r2 u2 H locs hw2 hP hS => ?_)
    have hw2 : 0 ≤ r2.toInt ∧ r2.toInt ≤ 200 := hw2
    exact ro_iret hx hb hr hlocks hS dX12_count_62 trivial
  · refine lv_tableIn (off := 62) (tgt := 63) hx hb dX12_count_1 (by omega) (by omega) (by rw [f1]; rfl) (by decide) ?_
    refine lv_aload_n hx hb dX12_count_63 rfl (lv_at hl 0 rfl) ?_
    refine mget_8 (v := (i 8)) rfl hx hb hts (fun _ h => List.mem_cons_of_mem _ (List.mem_append_right _ h)) hown hK hP (hts (.fieldLink RX12 202 "TalePlayModel" "sentences" "I") (by decide +kernel)) dX12_count_64 ?_
    have rb8_i : 0 ≤ (i 8).toInt ∧ (i 8).toInt ≤ 200 := hI.1 8
    exact ro_iret hx hb hr hlocks hS dX12_count_67 trivial
  · refine lv_tableIn (off := 67) (tgt := 68) hx hb dX12_count_1 (by omega) (by omega) (by rw [f1]; rfl) (by decide) ?_
    refine lv_aload_n hx hb dX12_count_68 rfl (lv_at hl 0 rfl) ?_
    refine mget_64 (v := (i 64)) rfl hx hb hts (fun _ h => List.mem_cons_of_mem _ (List.mem_append_right _ h)) hown hK hP (hts (.fieldLink RX12 450 "TalePlayModel" "casts" "I") (by decide +kernel)) dX12_count_69 ?_
    have rb64_i : 0 ≤ (i 64).toInt ∧ (i 64).toInt ≤ 10 := hI.1 64
    exact ro_iret hx hb hr hlocks hS dX12_count_72 trivial
  · refine lv_tableIn (off := 72) (tgt := 73) hx hb dX12_count_1 (by omega) (by omega) (by rw [f1]; rfl) (by decide) ?_
    refine lv_aload_n hx hb dX12_count_73 rfl (lv_at hl 0 rfl) ?_
    refine mget_27 (v := (i 27)) rfl hx hb hts (fun _ h => List.mem_cons_of_mem _ (List.mem_append_right _ h)) hown hK hP (hts (.fieldLink RX12 291 "TalePlayModel" "turns" "I") (by decide +kernel)) dX12_count_74 ?_
    have rb27_i : 0 ≤ (i 27).toInt ∧ (i 27).toInt ≤ 100 := hI.1 27
    exact ro_iret hx hb hr hlocks hS dX12_count_77 trivial
  · refine lv_tableIn (off := 77) (tgt := 78) hx hb dX12_count_1 (by omega) (by omega) (by rw [f1]; rfl) (by decide) ?_
    refine lv_aload_n hx hb dX12_count_78 rfl (lv_at hl 0 rfl) ?_
    refine mget_22 (v := (i 22)) rfl hx hb hts (fun _ h => List.mem_cons_of_mem _ (List.mem_append_right _ h)) hown hK hP (hts (.fieldLink RX12 155 "TalePlayModel" "player" "I") (by decide +kernel)) dX12_count_79 ?_
    have rb22_i : (i 22).toInt = -9 ∨ (0 ≤ (i 22).toInt ∧ (i 22).toInt ≤ 29) := hI.1 22
    exact ro_iret hx hb hr hlocks hS dX12_count_82 trivial
  · refine lv_tableIn (off := 82) (tgt := 83) hx hb dX12_count_1 (by omega) (by omega) (by rw [f1]; rfl) (by decide) ?_
    refine lv_aload_n hx hb dX12_count_83 rfl (lv_at hl 0 rfl) ?_
    refine mget_57 (v := (i 57)) rfl hx hb hts (fun _ h => List.mem_cons_of_mem _ (List.mem_append_right _ h)) hown hK hP (hts (.fieldLink RX12 158 "TalePlayModel" "soughtMany" "I") (by decide +kernel)) dX12_count_84 ?_
    have rb57_i : (i 57).toInt = -9 ∨ (0 ≤ (i 57).toInt ∧ (i 57).toInt ≤ 300) := hI.1 57
    exact ro_iret hx hb hr hlocks hS dX12_count_87 trivial

