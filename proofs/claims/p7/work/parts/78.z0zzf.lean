set_option maxHeartbeats 4000000 in
set_option maxRecDepth 100000 in
theorem s_X12_lacks_q (l : Launch) (D : va_G) (sz : Nat) (o : Nat) (a : Nat → Nat) (t : Nat → ClassId) (i : Nat → Int32) (q : Int64) (c : Nat → Nat → Int32) (d : Nat → Nat → Int64) (w : Int32) (s1 : Int32) (n1 : Int32) (hI : mInv i c) (hw : 0 ≤ w.toInt ∧ w.toInt ≤ 29) : Met l yX12_lacks wm_X12_lacks ({ frames := 1, cells := 0, slots := 0, locals := 25 }) (va_Pc [.ref o, .int w, .int s1, .int n1] (pA D sz (mW o a t i q c d) (mT t))) (va_Qi (fun (r : Int32) (_ : Unit) => (((r.toInt = 1 ∨ r.toInt = 2 ∨ r.toInt = 3) ∧ ¬ (¬ (c 63 w.toNatClampNeg).toInt = 0 ∧ (c 60 w.toNatClampNeg).toInt = s1.toInt ∧ 0 ≤ n1.toInt ∧ n1.toInt < (c 61 w.toNatClampNeg).toInt)) ∨ (r.toInt = 0 ∧ ¬ (c 63 w.toNatClampNeg).toInt = 0 ∧ (c 60 w.toNatClampNeg).toInt = s1.toInt ∧ 0 ≤ n1.toInt ∧ n1.toInt < (c 61 w.toNatClampNeg).toInt ∧ n1.toInt ≤ 11))) oA (ro sz)) 0 0 (ro sz) := by
  refine Met.ofW (cc := cX12_lacks) (maxL := 4) (ret := (some .int)) (by decide +kernel) rfl ?_
  intro p e s m args below meth cd s₁ B hml hv
  obtain ⟨rfl, hsz, hP, hK⟩ := hv
  have hx := B.exec
  have hb := B.bytes
  have hr := B.returns
  have hts := atoms_spec (ws := wm_X12_lacks) B.pre
  have hown : s.vm.findClass RX12 = some m.cls := findClass_of_methodNamed B.named
  have hlocks := B.notSynchronized
  subst hsz
  have hA : ∀ q : Nat, s.heap.size ≤ q → ro s.heap.size q := fun _ h => h
  have hS : va_S (ro s.heap.size) s.heap s.heap [] := va_S.rf
  have hl := lv_entry ([.ref o, .int w, .int s1, .int n1]) (n := 4) (Nat.le_of_ble_eq_true rfl)
  rw [lg_entry_eq]
  generalize (lg_sl ([.ref o, .int w, .int s1, .int n1]) ++ List.replicate (4 - (lg_sl ([.ref o, .int w, .int s1, .int n1])).length) Slot.unset).toArray = ls at hl ⊢
  have hl : lv_has ls 4 [(0, .ref o), (1, .int w), (2, .int s1), (3, .int n1)] := hl
  refine lv_aload_n hx hb dX12_lacks_0 rfl (lv_at hl 0 rfl) ?_
  refine mget_63 hx hb hts (fun _ h => List.mem_cons_of_mem _ (List.mem_append_right _ h)) hown hK hP (hts (.fieldLink RX12 136 "TalePlayModel" "hasLine" "[Z") (List.mem_cons_of_mem _ (List.mem_append_left _ (List.mem_of_getElem? (i := 0) rfl)))) dX12_lacks_1 ?_
  refine lv_iload_n hx hb dX12_lacks_4 rfl (lv_at hl 1 rfl) ?_
  refine mld_63 hx hb hK hP (vp_in_iff.mpr (by have h9 : w.toInt = w.toInt := rfl; omega)) dX12_lacks_5 (fun x1 ex1 => ?_)
  have rx1 : 0 ≤ x1.toInt ∧ x1.toInt ≤ 1 := by rw [ex1]; exact hI.2 63 _
  have gx1 : (c 63 (w : Int32).toNatClampNeg).toInt = x1.toInt := by rw [ex1]
  refine lv_if_ne (tgt := 13) hx hb dX12_lacks_6 (by decide +kernel) (fun c2 => ?_) (fun c2 => ?_)
  · have f2 := mt (ti_eq (a := x1.toInt) (b := 0) rfl (by decide +kernel)).mpr c2
    refine lv_aload_n hx hb dX12_lacks_13 rfl (lv_at hl 0 rfl) ?_
    refine mget_60 hx hb hts (fun _ h => List.mem_cons_of_mem _ (List.mem_append_right _ h)) hown hK hP (hts (.fieldLink RX12 126 "TalePlayModel" "lineSort" "[I") (List.mem_cons_of_mem _ (List.mem_append_left _ (List.mem_of_getElem? (i := 1) rfl)))) dX12_lacks_14 ?_
    refine lv_iload_n hx hb dX12_lacks_17 rfl (lv_at hl 1 rfl) ?_
    refine mld_60 hx hb hK hP (vp_in_iff.mpr (by have h9 : w.toInt = w.toInt := rfl; omega)) dX12_lacks_18 (fun x3 ex3 => ?_)
    have rx3 : 0 ≤ x3.toInt ∧ x3.toInt ≤ 3 := by rw [ex3]; exact hI.2 60 _
    have gx3 : (c 60 (w : Int32).toNatClampNeg).toInt = x3.toInt := by rw [ex3]
    refine lv_iload_n hx hb dX12_lacks_19 rfl (lv_at hl 2 rfl) ?_
    refine lv_icmp_eq (tgt := 27) hx hb dX12_lacks_20 (by decide +kernel) (fun c4 => ?_) (fun c4 => ?_)
    · have f4 := (ti_eq (a := x3.toInt) (b := s1.toInt) rfl rfl).mp c4
      refine lv_iload_n hx hb dX12_lacks_27 rfl (lv_at hl 3 rfl) ?_
      refine lv_i2l (v := n1.toInt64) hx hb dX12_lacks_28 rfl ?_
      refine lv_lconst (v := 0) hx hb dX12_lacks_29 (by decide +kernel) ?_
      refine lv_aload_n hx hb dX12_lacks_30 rfl (lv_at hl 0 rfl) ?_
      refine mget_61 hx hb hts (fun _ h => List.mem_cons_of_mem _ (List.mem_append_right _ h)) hown hK hP (hts (.fieldLink RX12 129 "TalePlayModel" "lineMany" "[I") (List.mem_cons_of_mem _ (List.mem_append_left _ (List.mem_of_getElem? (i := 2) rfl)))) dX12_lacks_31 ?_
      refine lv_iload_n hx hb dX12_lacks_34 rfl (lv_at hl 1 rfl) ?_
      refine mld_61 hx hb hK hP (vp_in_iff.mpr (by have h9 : w.toInt = w.toInt := rfl; omega)) dX12_lacks_35 (fun x5 ex5 => ?_)
      have rx5 : 0 ≤ x5.toInt ∧ x5.toInt ≤ 12 := by rw [ex5]; exact hI.2 61 _
      have gx5 : (c 61 (w : Int32).toNatClampNeg).toInt = x5.toInt := by rw [ex5]
      refine lv_iconst (v := 1) hx hb dX12_lacks_36 (by decide +kernel) ?_
      refine lv_isub hx hb dX12_lacks_37 ?_
      refine lv_topi (fun x6 ex6 => ?_)
      have tx6 := ti_sub (a := x5.toInt) (b := 1) ex6 rfl (by decide +kernel) (by omega) (by omega)
      refine lv_i2l (v := x6.toInt64) hx hb dX12_lacks_38 rfl ?_
      have hPc := hP.sub (ws' := []) [] rfl
      have hKc := hK.sub (tys' := []) [] rfl
      refine ro_calli (va_runS (As := [.long n1.toInt64, .long 0, .long x6.toInt64]) (rest := []) ⟨hx, hb, hml, hown, hts⟩ (c_X12_in l D s.heap.size n1.toInt64 0 x6.toInt64 n1.toInt 0 (x5.toInt - 1) ((Int32.toInt_toInt64 n1).trans rfl) (by decide +kernel) ((Int32.toInt_toInt64 x6).trans tx6)) (va_cwS 3 hts gm_X12_lacks_X12_in rfl rfl rfl (by decide +kernel) ⟨Nat.le_of_ble_eq_true rfl, Nat.le_of_ble_eq_true rfl⟩) (pA_S hKc hPc) rfl rfl hl.1 rfl (lv_room (Nat.le_of_ble_eq_true rfl)) dX12_lacks_39 ⟨Nat.le_of_ble_eq_true rfl, Nat.le_of_ble_eq_true rfl⟩) hS hA hP (fun r7 u7 H locs hw7 hP hS => ?_)
      have hw7 : r7 = if (0 ≤ n1.toInt ∧ n1.toInt ≤ (x5.toInt - 1)) then 1 else 0 := hw7
      refine lv_if_ne (tgt := 49) hx hb dX12_lacks_42 (by decide +kernel) (fun c8 => ?_) (fun c8 => ?_)
      · have f8 := fl_t hw7 c8
        refine lv_iconst (v := 0) hx hb dX12_lacks_49 (by decide +kernel) ?_
        exact ro_iret hx hb hr hlocks hS dX12_lacks_50 (show (((0 : Int32).toInt = 1 ∨ (0 : Int32).toInt = 2 ∨ (0 : Int32).toInt = 3) ∧ ¬ (¬ (c 63 w.toNatClampNeg).toInt = 0 ∧ (c 60 w.toNatClampNeg).toInt = s1.toInt ∧ 0 ≤ n1.toInt ∧ n1.toInt < (c 61 w.toNatClampNeg).toInt)) ∨ ((0 : Int32).toInt = 0 ∧ ¬ (c 63 w.toNatClampNeg).toInt = 0 ∧ (c 60 w.toNatClampNeg).toInt = s1.toInt ∧ 0 ≤ n1.toInt ∧ n1.toInt < (c 61 w.toNatClampNeg).toInt ∧ n1.toInt ≤ 11) from by have h9 : (0 : Int32).toInt = 0 := (by decide +kernel); omega)
      · have f8 := fl_f hw7 c8
        refine lv_iconst (v := 2) hx hb dX12_lacks_45 (by decide +kernel) ?_
        refine lv_goto (tgt := 50) hx hb dX12_lacks_46 (by decide +kernel) ?_
        exact ro_iret hx hb hr hlocks hS dX12_lacks_50 (show (((2 : Int32).toInt = 1 ∨ (2 : Int32).toInt = 2 ∨ (2 : Int32).toInt = 3) ∧ ¬ (¬ (c 63 w.toNatClampNeg).toInt = 0 ∧ (c 60 w.toNatClampNeg).toInt = s1.toInt ∧ 0 ≤ n1.toInt ∧ n1.toInt < (c 61 w.toNatClampNeg).toInt)) ∨ ((2 : Int32).toInt = 0 ∧ ¬ (c 63 w.toNatClampNeg).toInt = 0 ∧ (c 60 w.toNatClampNeg).toInt = s1.toInt ∧ 0 ≤ n1.toInt ∧ n1.toInt < (c 61 w.toNatClampNeg).toInt ∧ n1.toInt ≤ 11) from by have h9 : (2 : Int32).toInt = 2 := (by decide +kernel); omega)
    · have f4 := mt (ti_eq (a := x3.toInt) (b := s1.toInt) rfl rfl).mpr c4
      refine lv_iconst (v := 3) hx hb dX12_lacks_23 (by decide +kernel) ?_
      refine lv_goto (tgt := 50) hx hb dX12_lacks_24 (by decide +kernel) ?_
      exact ro_iret hx hb hr hlocks hS dX12_lacks_50 (show (((3 : Int32).toInt = 1 ∨ (3 : Int32).toInt = 2 ∨ (3 : Int32).toInt = 3) ∧ ¬ (¬ (c 63 w.toNatClampNeg).toInt = 0 ∧ (c 60 w.toNatClampNeg).toInt = s1.toInt ∧ 0 ≤ n1.toInt ∧ n1.toInt < (c 61 w.toNatClampNeg).toInt)) ∨ ((3 : Int32).toInt = 0 ∧ ¬ (c 63 w.toNatClampNeg).toInt = 0 ∧ (c 60 w.toNatClampNeg).toInt = s1.toInt ∧ 0 ≤ n1.toInt ∧ n1.toInt < (c 61 w.toNatClampNeg).toInt ∧ n1.toInt ≤ 11) from by have h9 : (3 : Int32).toInt = 3 := (by decide +kernel); omega)
  · have f2 := (ti_eq (a := x1.toInt) (b := 0) rfl (by decide +kernel)).mp c2
    refine lv_iconst (v := 1) hx hb dX12_lacks_9 (by decide +kernel) ?_
    refine lv_goto (tgt := 50) hx hb dX12_lacks_10 (by decide +kernel) ?_
    exact ro_iret hx hb hr hlocks hS dX12_lacks_50 (show (((1 : Int32).toInt = 1 ∨ (1 : Int32).toInt = 2 ∨ (1 : Int32).toInt = 3) ∧ ¬ (¬ (c 63 w.toNatClampNeg).toInt = 0 ∧ (c 60 w.toNatClampNeg).toInt = s1.toInt ∧ 0 ≤ n1.toInt ∧ n1.toInt < (c 61 w.toNatClampNeg).toInt)) ∨ ((1 : Int32).toInt = 0 ∧ ¬ (c 63 w.toNatClampNeg).toInt = 0 ∧ (c 60 w.toNatClampNeg).toInt = s1.toInt ∧ 0 ≤ n1.toInt ∧ n1.toInt < (c 61 w.toNatClampNeg).toInt ∧ n1.toInt ≤ 11) from by have h9 : (1 : Int32).toInt = 1 := (by decide +kernel); omega)

set_option maxHeartbeats 4000000 in
set_option maxRecDepth 100000 in
theorem s_X12_put_q (l : Launch) (D : va_G) (sz : Nat) (o : Nat) (a : Nat → Nat) (t : Nat → ClassId) (i : Nat → Int32) (q : Int64) (c : Nat → Nat → Int32) (d : Nat → Nat → Int64) (w : Int32) (s1 : Int32) (n1 : Int32) (v1 : Int64) (hI : mInv i c) : Met l yX12_put wm_X12_put ({ frames := 2, cells := 0, slots := 0, locals := 48 }) (va_Pc [.ref o, .int w, .int s1, .int n1, .long v1] (pB D sz (mW o a t i q c d) (mT t))) (va_Qi (fun (r : Int32) (u : MS) => True ∧ mInv u.1 u.2.2.1 ∧ (∀ k, k ∉ ([0] : List Nat) → u.1 k = i k) ∧ (∀ k, k ∉ ([1] : List Nat) → u.2.2.1 k = c k) ∧ ((¬ (0 ≤ w.toInt ∧ w.toInt < (i 5).toInt ∧ 0 ≤ s1.toInt ∧ s1.toInt ≤ 3) ∧ r.toInt = -1) ∨ (0 ≤ w.toInt ∧ w.toInt < (i 5).toInt ∧ 0 ≤ s1.toInt ∧ s1.toInt ≤ 3 ∧ ¬ (¬ (c 63 w.toNatClampNeg).toInt = 0 ∧ (c 60 w.toNatClampNeg).toInt = s1.toInt ∧ 0 ≤ n1.toInt ∧ n1.toInt < (c 61 w.toNatClampNeg).toInt) ∧ r.toInt = -3) ∨ (0 ≤ w.toInt ∧ w.toInt < (i 5).toInt ∧ 0 ≤ s1.toInt ∧ s1.toInt ≤ 3 ∧ ¬ (c 63 w.toNatClampNeg).toInt = 0 ∧ (c 60 w.toNatClampNeg).toInt = s1.toInt ∧ 0 ≤ n1.toInt ∧ n1.toInt < (c 61 w.toNatClampNeg).toInt ∧ r.toInt = 1)) ∧ (PuR r.toInt (u.2.2.2 62) (d 62) (w.toInt * 12 + n1.toInt).toNat (cutV s1.toInt v1)) ∧ (q = u.2.1)) (oC D (va_A (mW o a t i q c d) sz) (fun u : MS => mW o a t u.1 u.2.1 u.2.2.1 u.2.2.2) (fun _ => [])) (va_A (mW o a t i q c d) sz)) 0 0 (va_A (mW o a t i q c d) sz) := by
  refine Met.ofW (cc := cX12_put) (maxL := 7) (ret := (some .int)) (by decide +kernel) rfl ?_
  intro p e s m args below meth cd s₁ B hml hv
  obtain ⟨rfl, hsz, hP, hK, hD0⟩ := hv
  have hx := B.exec
  have hb := B.bytes
  have hr := B.returns
  have hts := atoms_spec (ws := wm_X12_put) B.pre
  have hown : s.vm.findClass RX12 = some m.cls := findClass_of_methodNamed B.named
  have hlocks := B.notSynchronized
  subst hsz
  have hD := hD0.self (sz := s.heap.size)
  generalize hAe : va_A (mW o a t i q c d) s.heap.size = A at hD ⊢
  have hA : ∀ q : Nat, s.heap.size ≤ q → A q := fun q h => by rw [← hAe]; exact Or.inr h
  have hS : va_S A s.heap s.heap [] := va_S.rf
  have hfi : ∀ k, k ∉ ([] : List Nat) → i k = i k := fun _ _ => rfl
  have hfc : ∀ k, k ∉ ([] : List Nat) → c k = c k := fun _ _ => rfl
  have hl := lv_entry ([.ref o, .int w, .int s1, .int n1, .long v1]) (n := 7) (Nat.le_of_ble_eq_true rfl)
  rw [lg_entry_eq]
  generalize (lg_sl ([.ref o, .int w, .int s1, .int n1, .long v1]) ++ List.replicate (7 - (lg_sl ([.ref o, .int w, .int s1, .int n1, .long v1])).length) Slot.unset).toArray = ls at hl ⊢
  have hl : lv_has ls 7 [(0, .ref o), (1, .int w), (2, .int s1), (3, .int n1), (4, .long v1)] := hl
  have rb5_i : 0 ≤ (i 5).toInt ∧ (i 5).toInt ≤ 30 := hI.1 5
  refine lv_aload_n hx hb dX12_put_0 rfl (lv_at hl 0 rfl) ?_
  refine lv_iload_n hx hb dX12_put_1 rfl (lv_at hl 1 rfl) ?_
  refine ro_calli (va_runV (As := [.int w]) (rest := []) ⟨hx, hb, hml, hown, hts⟩ (s_X12_isObject l D s.heap.size o a t i q c d w hI ) (cwV 1 hts gm_X12_put_X12_isObject rfl rfl rfl (by decide +kernel) ⟨Nat.le_of_ble_eq_true rfl, Nat.le_of_ble_eq_true rfl⟩) (pA_V hK hP (ci := 12) (q0 := 0) rfl rfl) rfl rfl hl.1 rfl (lv_room (Nat.le_of_ble_eq_true rfl)) dX12_put_2 ⟨Nat.le_of_ble_eq_true rfl, Nat.le_of_ble_eq_true rfl⟩) hS hA hP (fun r1 u1 H locs hw1 hP hS => ?_)
  have hw1 : r1 = if (0 ≤ w.toInt ∧ w.toInt ≤ (i 5).toInt - 1) then 1 else 0 := hw1
  refine lv_if_eq (tgt := 20) hx hb dX12_put_5 (by decide +kernel) (fun c2 => ?_) (fun c2 => ?_)
  · have f2 := fl_f hw1 c2
    refine lv_iconst (v := (-1)) hx hb dX12_put_20 (by decide +kernel) ?_
    exact rw_iret (i, q, c, d) hx hb hr hlocks hS (hK.sub (tys' := []) [] rfl) hP hD dX12_put_21 ⟨trivial, hI, fr_w hfi (by decide +kernel), fr_w hfc (by decide +kernel), (show (¬ (0 ≤ w.toInt ∧ w.toInt < (i 5).toInt ∧ 0 ≤ s1.toInt ∧ s1.toInt ≤ 3) ∧ ((-1) : Int32).toInt = -1) ∨ (0 ≤ w.toInt ∧ w.toInt < (i 5).toInt ∧ 0 ≤ s1.toInt ∧ s1.toInt ≤ 3 ∧ ¬ (¬ (c 63 w.toNatClampNeg).toInt = 0 ∧ (c 60 w.toNatClampNeg).toInt = s1.toInt ∧ 0 ≤ n1.toInt ∧ n1.toInt < (c 61 w.toNatClampNeg).toInt) ∧ ((-1) : Int32).toInt = -3) ∨ (0 ≤ w.toInt ∧ w.toInt < (i 5).toInt ∧ 0 ≤ s1.toInt ∧ s1.toInt ≤ 3 ∧ ¬ (c 63 w.toNatClampNeg).toInt = 0 ∧ (c 60 w.toNatClampNeg).toInt = s1.toInt ∧ 0 ≤ n1.toInt ∧ n1.toInt < (c 61 w.toNatClampNeg).toInt ∧ ((-1) : Int32).toInt = 1) from by have h50 : ((-1) : Int32).toInt = -1 := (by decide +kernel); omega), (show PuR ((-1) : Int32).toInt (d 62) (d 62) (w.toInt * 12 + n1.toInt).toNat (cutV s1.toInt v1) from Or.inr ⟨by decide, rfl⟩), rfl⟩
  · have f2 := fl_t hw1 c2
    refine lv_iload_n hx hb dX12_put_8 rfl (lv_at hl 2 rfl) ?_
    refine lv_i2l (v := s1.toInt64) hx hb dX12_put_9 rfl ?_
    refine lv_lconst (v := 0) hx hb dX12_put_10 (by decide +kernel) ?_
    refine lv_ldc2 (v := 3) hx hb hown (hts (.constantLong RX12 279 (3)) (List.mem_cons_of_mem _ (List.mem_append_left _ (List.mem_append_left _ (List.mem_of_getElem? (i := 9) rfl))))) dX12_put_11 ?_
    have hPc := hP.sub (ws' := []) [] rfl
    have hKc := hK.sub (tys' := []) [] rfl
    refine ro_calli (va_runS (As := [.long s1.toInt64, .long 0, .long 3]) (rest := []) ⟨hx, hb, hml, hown, hts⟩ (c_X12_in l D H.size s1.toInt64 0 3 s1.toInt 0 3 ((Int32.toInt_toInt64 s1).trans rfl) (by decide +kernel) (by decide +kernel)) (va_cwS 3 hts gm_X12_put_X12_in rfl rfl rfl (by decide +kernel) ⟨Nat.le_of_ble_eq_true rfl, Nat.le_of_ble_eq_true rfl⟩) (pA_S hKc hPc) rfl rfl hl.1 rfl (lv_room (Nat.le_of_ble_eq_true rfl)) dX12_put_14 ⟨Nat.le_of_ble_eq_true rfl, Nat.le_of_ble_eq_true rfl⟩) hS hA hP (fun r3 u3 H locs hw3 hP hS => ?_)
    have hw3 : r3 = if (0 ≤ s1.toInt ∧ s1.toInt ≤ 3) then 1 else 0 := hw3
    refine lv_if_ne (tgt := 22) hx hb dX12_put_17 (by decide +kernel) (fun c4 => ?_) (fun c4 => ?_)
    · have f4 := fl_t hw3 c4
      refine lv_aload_n hx hb dX12_put_22 rfl (lv_at hl 0 rfl) ?_
      refine lv_iload_n hx hb dX12_put_23 rfl (lv_at hl 1 rfl) ?_
      refine lv_iload_n hx hb dX12_put_24 rfl (lv_at hl 2 rfl) ?_
      refine lv_iload_n hx hb dX12_put_25 rfl (lv_at hl 3 rfl) ?_
      refine ro_calli (va_runV (As := [.int w, .int s1, .int n1]) (rest := []) ⟨hx, hb, hml, hown, hts⟩ (s_X12_lacks_q l D H.size o a t i q c d w s1 n1 hI (show 0 ≤ w.toInt ∧ w.toInt ≤ 29 from by omega)) (cwV 3 hts gm_X12_put_X12_lacks rfl rfl rfl (by decide +kernel) ⟨Nat.le_of_ble_eq_true rfl, Nat.le_of_ble_eq_true rfl⟩) (pA_V hK hP (ci := 12) (q0 := 0) rfl rfl) rfl rfl hl.1 rfl (lv_room (Nat.le_of_ble_eq_true rfl)) dX12_put_26 ⟨Nat.le_of_ble_eq_true rfl, Nat.le_of_ble_eq_true rfl⟩) hS hA hP (fun r5 u5 H locs hw5 hP hS => ?_)
      have hw5 : (((r5.toInt = 1 ∨ r5.toInt = 2 ∨ r5.toInt = 3) ∧ ¬ (¬ (c 63 w.toNatClampNeg).toInt = 0 ∧ (c 60 w.toNatClampNeg).toInt = s1.toInt ∧ 0 ≤ n1.toInt ∧ n1.toInt < (c 61 w.toNatClampNeg).toInt)) ∨ (r5.toInt = 0 ∧ ¬ (c 63 w.toNatClampNeg).toInt = 0 ∧ (c 60 w.toNatClampNeg).toInt = s1.toInt ∧ 0 ≤ n1.toInt ∧ n1.toInt < (c 61 w.toNatClampNeg).toInt ∧ n1.toInt ≤ 11)) := hw5
      refine lv_istore (lv' := [(6, .int r5), (0, .ref o), (1, .int w), (2, .int s1), (3, .int n1), (4, .long v1)]) hx hb dX12_put_29 hl (by decide +kernel) rfl (fun ls hl => ?_)
      refine lv_iload hx hb dX12_put_31 (lv_at hl 0 rfl) ?_
      refine lv_if_le (tgt := 43) hx hb dX12_put_33 (by decide +kernel) (fun c6 => ?_) (fun c6 => ?_)
      · have f6 := (ti_le (a := r5.toInt) (b := 0) rfl (by decide +kernel)).mp c6
        refine lv_aload_n hx hb dX12_put_43 rfl (lv_at hl 1 rfl) ?_
        refine mget_62 hx hb hts (fun _ h => List.mem_cons_of_mem _ (List.mem_append_right _ h)) hown hK hP (hts (.fieldLink RX12 132 "TalePlayModel" "items" "[J") (List.mem_cons_of_mem _ (List.mem_append_left _ (List.mem_append_right _ (List.mem_of_getElem? (i := 1) rfl))))) dX12_put_44 ?_
        refine lv_bipush (v := 12) hx hb dX12_put_47 (by decide +kernel) ?_
        refine lv_iload_n hx hb dX12_put_49 rfl (lv_at hl 2 rfl) ?_
        refine lv_imul hx hb dX12_put_50 ?_
        refine lv_topi (fun x7 ex7 => ?_)
        have tx7 := ti_mul (a := 12) (b := w.toInt) ex7 (by decide +kernel) rfl (by omega) (by omega)
        refine lv_iload_n hx hb dX12_put_51 rfl (lv_at hl 4 rfl) ?_
        refine lv_iadd hx hb dX12_put_52 ?_
        refine lv_topi (fun x8 ex8 => ?_)
        have tx8 := ti_add (a := (12 * w.toInt)) (b := n1.toInt) ex8 tx7 rfl (by omega) (by omega)
        refine lv_iload_n hx hb dX12_put_53 rfl (lv_at hl 3 rfl) ?_
        refine lv_lload hx hb dX12_put_54 (lv_at hl 5 rfl) ?_
        have hPc := hP.sub (ws' := []) [] rfl
        have hKc := hK.sub (tys' := []) [] rfl
        refine ro_calll (va_runS (As := [.int s1, .long v1]) (rest := [.int x8, .ref (a 62)]) ⟨hx, hb, hml, hown, hts⟩ (c_X12_cut_q l D H.size s1 v1) (va_cwS 2 hts gm_X12_put_X12_cut rfl rfl rfl (by decide +kernel) ⟨Nat.le_of_ble_eq_true rfl, Nat.le_of_ble_eq_true rfl⟩) (pA_S hKc hPc) rfl rfl hl.1 rfl (lv_room (Nat.le_of_ble_eq_true rfl)) dX12_put_56 ⟨Nat.le_of_ble_eq_true rfl, Nat.le_of_ble_eq_true rfl⟩) hS hA hP (fun r9 u9 H locs hw9 hP hS => ?_)
        have hw9 : r9 = cutV s1.toInt v1 := hw9
        refine mst_62 hx hb hK hP hD hS (vp_in_iff.mpr (by have h9 : x8.toInt = ((12 * w.toInt) + n1.toInt) := tx8; omega)) dX12_put_59 (fun H locs hP hD hS => ?_)
        refine lv_iconst (v := 1) hx hb dX12_put_60 (by decide +kernel) ?_
        exact rw_iret (i, q, c, (updD d 62 (x8 : Int32).toNatClampNeg r9)) hx hb hr hlocks hS (hK.sub (tys' := []) [] rfl) hP hD dX12_put_61 ⟨trivial, hI, fr_w hfi (by decide +kernel), fr_w hfc (by decide +kernel), (show (¬ (0 ≤ w.toInt ∧ w.toInt < (i 5).toInt ∧ 0 ≤ s1.toInt ∧ s1.toInt ≤ 3) ∧ (1 : Int32).toInt = -1) ∨ (0 ≤ w.toInt ∧ w.toInt < (i 5).toInt ∧ 0 ≤ s1.toInt ∧ s1.toInt ≤ 3 ∧ ¬ (¬ (c 63 w.toNatClampNeg).toInt = 0 ∧ (c 60 w.toNatClampNeg).toInt = s1.toInt ∧ 0 ≤ n1.toInt ∧ n1.toInt < (c 61 w.toNatClampNeg).toInt) ∧ (1 : Int32).toInt = -3) ∨ (0 ≤ w.toInt ∧ w.toInt < (i 5).toInt ∧ 0 ≤ s1.toInt ∧ s1.toInt ≤ 3 ∧ ¬ (c 63 w.toNatClampNeg).toInt = 0 ∧ (c 60 w.toNatClampNeg).toInt = s1.toInt ∧ 0 ≤ n1.toInt ∧ n1.toInt < (c 61 w.toNatClampNeg).toInt ∧ (1 : Int32).toInt = 1) from by have h50 : (1 : Int32).toInt = 1 := (by decide +kernel); omega), (show PuR (1 : Int32).toInt ((updD d 62 (x8 : Int32).toNatClampNeg r9) 62) (d 62) (w.toInt * 12 + n1.toInt).toNat (cutV s1.toInt v1) from Or.inl ⟨by decide, by show vp_updL (d 62) (x8 : Int32).toNatClampNeg r9 = _; rw [cl_t (show (x8 : Int32).toInt = w.toInt * 12 + n1.toInt from by have h9 : x8.toInt = ((12 * w.toInt) + n1.toInt) := tx8; omega), hw9]⟩), rfl⟩
      · have f6 := mt (ti_le (a := r5.toInt) (b := 0) rfl (by decide +kernel)).mpr c6
        refine lv_aload_n hx hb dX12_put_36 rfl (lv_at hl 1 rfl) ?_
        refine lv_iload hx hb dX12_put_37 (lv_at hl 0 rfl) ?_
        refine al_calli (va_runV (As := [.int r5]) (rest := []) ⟨hx, hb, hml, hown, hts⟩ (s_X12_meets l D H.size o a t i q c d r5 hI (show 1 ≤ r5.toInt ∧ r5.toInt ≤ 6 from by omega)) (cwV 1 hts gm_X12_put_X12_meets rfl rfl rfl (by decide +kernel) ⟨Nat.le_of_ble_eq_true rfl, Nat.le_of_ble_eq_true rfl⟩) (pB_V hK hP hD (ci := 12) (q0 := 0) rfl rfl) rfl rfl hl.1 rfl (lv_room (Nat.le_of_ble_eq_true rfl)) dX12_put_39 ⟨Nat.le_of_ble_eq_true rfl, Nat.le_of_ble_eq_true rfl⟩) hS hA hP hD (fun r10 u10 H locs hv10 hP hD hS => ?_)
        obtain ⟨i10, q10, c10, d10⟩ := u10
        have hw10 : r10 = (-3) ∧ mInv i10 c10 ∧ (∀ k, k ∉ ([0] : List Nat) → i10 k = i k) ∧ (∀ k, k ∉ ([1] : List Nat) → c10 k = c k) ∧ (q = q10) ∧ (d = d10) := hv10
        clear hv10
        obtain ⟨hw10, hI, hei10, hec10, hq10_q, hq10_d⟩ := hw10
        subst hq10_q
        subst hq10_d
        have hfi : ∀ k, k ∉ ([0] : List Nat) → i10 k = i k := fr_z hfi hei10 (by decide +kernel) (by decide +kernel)
        have hfc : ∀ k, k ∉ ([1] : List Nat) → c10 k = c k := fr_z hfc hec10 (by decide +kernel) (by decide +kernel)
        have hP : va_P D vwCl (mW o a t i10 q c10 d) H := hP
        have hD : va_D A (mW o a t i10 q c10 d) := hD
        have hw10 : r10 = (-3) := hw10
        subst hw10
        exact rw_iret (i10, q, c10, d) hx hb hr hlocks hS (hK.sub (tys' := []) [] rfl) hP hD dX12_put_42 ⟨trivial, hI, fr_w hfi (by decide +kernel), fr_w hfc (by decide +kernel), (show (¬ (0 ≤ w.toInt ∧ w.toInt < (i 5).toInt ∧ 0 ≤ s1.toInt ∧ s1.toInt ≤ 3) ∧ ((-3) : Int32).toInt = -1) ∨ (0 ≤ w.toInt ∧ w.toInt < (i 5).toInt ∧ 0 ≤ s1.toInt ∧ s1.toInt ≤ 3 ∧ ¬ (¬ (c 63 w.toNatClampNeg).toInt = 0 ∧ (c 60 w.toNatClampNeg).toInt = s1.toInt ∧ 0 ≤ n1.toInt ∧ n1.toInt < (c 61 w.toNatClampNeg).toInt) ∧ ((-3) : Int32).toInt = -3) ∨ (0 ≤ w.toInt ∧ w.toInt < (i 5).toInt ∧ 0 ≤ s1.toInt ∧ s1.toInt ≤ 3 ∧ ¬ (c 63 w.toNatClampNeg).toInt = 0 ∧ (c 60 w.toNatClampNeg).toInt = s1.toInt ∧ 0 ≤ n1.toInt ∧ n1.toInt < (c 61 w.toNatClampNeg).toInt ∧ ((-3) : Int32).toInt = 1) from by have h50 : ((-3) : Int32).toInt = -3 := (by decide +kernel); omega), (show PuR ((-3) : Int32).toInt (d 62) (d 62) (w.toInt * 12 + n1.toInt).toNat (cutV s1.toInt v1) from Or.inr ⟨by decide, rfl⟩), rfl⟩
    · have f4 := fl_f hw3 c4
      refine lv_iconst (v := (-1)) hx hb dX12_put_20 (by decide +kernel) ?_
      exact rw_iret (i, q, c, d) hx hb hr hlocks hS (hK.sub (tys' := []) [] rfl) hP hD dX12_put_21 ⟨trivial, hI, fr_w hfi (by decide +kernel), fr_w hfc (by decide +kernel), (show (¬ (0 ≤ w.toInt ∧ w.toInt < (i 5).toInt ∧ 0 ≤ s1.toInt ∧ s1.toInt ≤ 3) ∧ ((-1) : Int32).toInt = -1) ∨ (0 ≤ w.toInt ∧ w.toInt < (i 5).toInt ∧ 0 ≤ s1.toInt ∧ s1.toInt ≤ 3 ∧ ¬ (¬ (c 63 w.toNatClampNeg).toInt = 0 ∧ (c 60 w.toNatClampNeg).toInt = s1.toInt ∧ 0 ≤ n1.toInt ∧ n1.toInt < (c 61 w.toNatClampNeg).toInt) ∧ ((-1) : Int32).toInt = -3) ∨ (0 ≤ w.toInt ∧ w.toInt < (i 5).toInt ∧ 0 ≤ s1.toInt ∧ s1.toInt ≤ 3 ∧ ¬ (c 63 w.toNatClampNeg).toInt = 0 ∧ (c 60 w.toNatClampNeg).toInt = s1.toInt ∧ 0 ≤ n1.toInt ∧ n1.toInt < (c 61 w.toNatClampNeg).toInt ∧ ((-1) : Int32).toInt = 1) from by have h50 : ((-1) : Int32).toInt = -1 := (by decide +kernel); omega), (show PuR ((-1) : Int32).toInt (d 62) (d 62) (w.toInt * 12 + n1.toInt).toNat (cutV s1.toInt v1) from Or.inr ⟨by decide, rfl⟩), rfl⟩

set_option maxHeartbeats 4000000 in
set_option maxRecDepth 100000 in
theorem s_X12_item_q (l : Launch) (D : va_G) (sz : Nat) (o : Nat) (a : Nat → Nat) (t : Nat → ClassId) (i : Nat → Int32) (q : Int64) (c : Nat → Nat → Int32) (d : Nat → Nat → Int64) (w : Int32) (s1 : Int32) (n1 : Int32) (hI : mInv i c) : Met l yX12_item wm_X12_item ({ frames := 2, cells := 0, slots := 0, locals := 48 }) (va_Pc [.ref o, .int w, .int s1, .int n1] (pB D sz (mW o a t i q c d) (mT t))) (va_Qi (fun (r : Int32) (u : MS) => True ∧ mInv u.1 u.2.2.1 ∧ (∀ k, k ∉ ([0] : List Nat) → u.1 k = i k) ∧ (∀ k, k ∉ ([1] : List Nat) → u.2.2.1 k = c k) ∧ ((¬ (0 ≤ w.toInt ∧ w.toInt < (i 5).toInt ∧ 0 ≤ s1.toInt ∧ s1.toInt ≤ 3) ∧ r.toInt = -1) ∨ (0 ≤ w.toInt ∧ w.toInt < (i 5).toInt ∧ 0 ≤ s1.toInt ∧ s1.toInt ≤ 3 ∧ ¬ (¬ (c 63 w.toNatClampNeg).toInt = 0 ∧ (c 60 w.toNatClampNeg).toInt = s1.toInt ∧ 0 ≤ n1.toInt ∧ n1.toInt < (c 61 w.toNatClampNeg).toInt) ∧ r.toInt = -3) ∨ (0 ≤ w.toInt ∧ w.toInt < (i 5).toInt ∧ 0 ≤ s1.toInt ∧ s1.toInt ≤ 3 ∧ ¬ (c 63 w.toNatClampNeg).toInt = 0 ∧ (c 60 w.toNatClampNeg).toInt = s1.toInt ∧ 0 ≤ n1.toInt ∧ n1.toInt < (c 61 w.toNatClampNeg).toInt ∧ r.toInt = 1)) ∧ (QbR r.toInt u.2.1 q ((d 62) (w.toInt * 12 + n1.toInt).toNat)) ∧ (d = u.2.2.2)) (oC D (va_A (mW o a t i q c d) sz) (fun u : MS => mW o a t u.1 u.2.1 u.2.2.1 u.2.2.2) (fun _ => [])) (va_A (mW o a t i q c d) sz)) 0 0 (va_A (mW o a t i q c d) sz) := by
  refine Met.ofW (cc := cX12_item) (maxL := 5) (ret := (some .int)) (by decide +kernel) rfl ?_
  intro p e s m args below meth cd s₁ B hml hv
  obtain ⟨rfl, hsz, hP, hK, hD0⟩ := hv
  have hx := B.exec
  have hb := B.bytes
  have hr := B.returns
  have hts := atoms_spec (ws := wm_X12_item) B.pre
  have hown : s.vm.findClass RX12 = some m.cls := findClass_of_methodNamed B.named
  have hlocks := B.notSynchronized
  subst hsz
  have hD := hD0.self (sz := s.heap.size)
  generalize hAe : va_A (mW o a t i q c d) s.heap.size = A at hD ⊢
  have hA : ∀ q : Nat, s.heap.size ≤ q → A q := fun q h => by rw [← hAe]; exact Or.inr h
  have hS : va_S A s.heap s.heap [] := va_S.rf
  have hfi : ∀ k, k ∉ ([] : List Nat) → i k = i k := fun _ _ => rfl
  have hfc : ∀ k, k ∉ ([] : List Nat) → c k = c k := fun _ _ => rfl
  have hl := lv_entry ([.ref o, .int w, .int s1, .int n1]) (n := 5) (Nat.le_of_ble_eq_true rfl)
  rw [lg_entry_eq]
  generalize (lg_sl ([.ref o, .int w, .int s1, .int n1]) ++ List.replicate (5 - (lg_sl ([.ref o, .int w, .int s1, .int n1])).length) Slot.unset).toArray = ls at hl ⊢
  have hl : lv_has ls 5 [(0, .ref o), (1, .int w), (2, .int s1), (3, .int n1)] := hl
  have rb5_i : 0 ≤ (i 5).toInt ∧ (i 5).toInt ≤ 30 := hI.1 5
  refine lv_aload_n hx hb dX12_item_0 rfl (lv_at hl 0 rfl) ?_
  refine lv_iload_n hx hb dX12_item_1 rfl (lv_at hl 1 rfl) ?_
  refine ro_calli (va_runV (As := [.int w]) (rest := []) ⟨hx, hb, hml, hown, hts⟩ (s_X12_isObject l D s.heap.size o a t i q c d w hI ) (cwV 1 hts gm_X12_item_X12_isObject rfl rfl rfl (by decide +kernel) ⟨Nat.le_of_ble_eq_true rfl, Nat.le_of_ble_eq_true rfl⟩) (pA_V hK hP (ci := 12) (q0 := 0) rfl rfl) rfl rfl hl.1 rfl (lv_room (Nat.le_of_ble_eq_true rfl)) dX12_item_2 ⟨Nat.le_of_ble_eq_true rfl, Nat.le_of_ble_eq_true rfl⟩) hS hA hP (fun r1 u1 H locs hw1 hP hS => ?_)
  have hw1 : r1 = if (0 ≤ w.toInt ∧ w.toInt ≤ (i 5).toInt - 1) then 1 else 0 := hw1
  refine lv_if_eq (tgt := 20) hx hb dX12_item_5 (by decide +kernel) (fun c2 => ?_) (fun c2 => ?_)
  · have f2 := fl_f hw1 c2
    refine lv_iconst (v := (-1)) hx hb dX12_item_20 (by decide +kernel) ?_
    exact rw_iret (i, q, c, d) hx hb hr hlocks hS (hK.sub (tys' := []) [] rfl) hP hD dX12_item_21 ⟨trivial, hI, fr_w hfi (by decide +kernel), fr_w hfc (by decide +kernel), (show (¬ (0 ≤ w.toInt ∧ w.toInt < (i 5).toInt ∧ 0 ≤ s1.toInt ∧ s1.toInt ≤ 3) ∧ ((-1) : Int32).toInt = -1) ∨ (0 ≤ w.toInt ∧ w.toInt < (i 5).toInt ∧ 0 ≤ s1.toInt ∧ s1.toInt ≤ 3 ∧ ¬ (¬ (c 63 w.toNatClampNeg).toInt = 0 ∧ (c 60 w.toNatClampNeg).toInt = s1.toInt ∧ 0 ≤ n1.toInt ∧ n1.toInt < (c 61 w.toNatClampNeg).toInt) ∧ ((-1) : Int32).toInt = -3) ∨ (0 ≤ w.toInt ∧ w.toInt < (i 5).toInt ∧ 0 ≤ s1.toInt ∧ s1.toInt ≤ 3 ∧ ¬ (c 63 w.toNatClampNeg).toInt = 0 ∧ (c 60 w.toNatClampNeg).toInt = s1.toInt ∧ 0 ≤ n1.toInt ∧ n1.toInt < (c 61 w.toNatClampNeg).toInt ∧ ((-1) : Int32).toInt = 1) from by have h50 : ((-1) : Int32).toInt = -1 := (by decide +kernel); omega), (show QbR ((-1) : Int32).toInt q q ((d 62) (w.toInt * 12 + n1.toInt).toNat) from Or.inr ⟨by decide, rfl⟩), rfl⟩
  · have f2 := fl_t hw1 c2
    refine lv_iload_n hx hb dX12_item_8 rfl (lv_at hl 2 rfl) ?_
    refine lv_i2l (v := s1.toInt64) hx hb dX12_item_9 rfl ?_
    refine lv_lconst (v := 0) hx hb dX12_item_10 (by decide +kernel) ?_
    refine lv_ldc2 (v := 3) hx hb hown (hts (.constantLong RX12 279 (3)) (List.mem_cons_of_mem _ (List.mem_append_left _ (List.mem_append_left _ (List.mem_of_getElem? (i := 9) rfl))))) dX12_item_11 ?_
    have hPc := hP.sub (ws' := []) [] rfl
    have hKc := hK.sub (tys' := []) [] rfl
    refine ro_calli (va_runS (As := [.long s1.toInt64, .long 0, .long 3]) (rest := []) ⟨hx, hb, hml, hown, hts⟩ (c_X12_in l D H.size s1.toInt64 0 3 s1.toInt 0 3 ((Int32.toInt_toInt64 s1).trans rfl) (by decide +kernel) (by decide +kernel)) (va_cwS 3 hts gm_X12_item_X12_in rfl rfl rfl (by decide +kernel) ⟨Nat.le_of_ble_eq_true rfl, Nat.le_of_ble_eq_true rfl⟩) (pA_S hKc hPc) rfl rfl hl.1 rfl (lv_room (Nat.le_of_ble_eq_true rfl)) dX12_item_14 ⟨Nat.le_of_ble_eq_true rfl, Nat.le_of_ble_eq_true rfl⟩) hS hA hP (fun r3 u3 H locs hw3 hP hS => ?_)
    have hw3 : r3 = if (0 ≤ s1.toInt ∧ s1.toInt ≤ 3) then 1 else 0 := hw3
    refine lv_if_ne (tgt := 22) hx hb dX12_item_17 (by decide +kernel) (fun c4 => ?_) (fun c4 => ?_)
    · have f4 := fl_t hw3 c4
      refine lv_aload_n hx hb dX12_item_22 rfl (lv_at hl 0 rfl) ?_
      refine lv_iload_n hx hb dX12_item_23 rfl (lv_at hl 1 rfl) ?_
      refine lv_iload_n hx hb dX12_item_24 rfl (lv_at hl 2 rfl) ?_
      refine lv_iload_n hx hb dX12_item_25 rfl (lv_at hl 3 rfl) ?_
      refine ro_calli (va_runV (As := [.int w, .int s1, .int n1]) (rest := []) ⟨hx, hb, hml, hown, hts⟩ (s_X12_lacks_q l D H.size o a t i q c d w s1 n1 hI (show 0 ≤ w.toInt ∧ w.toInt ≤ 29 from by omega)) (cwV 3 hts gm_X12_item_X12_lacks rfl rfl rfl (by decide +kernel) ⟨Nat.le_of_ble_eq_true rfl, Nat.le_of_ble_eq_true rfl⟩) (pA_V hK hP (ci := 12) (q0 := 0) rfl rfl) rfl rfl hl.1 rfl (lv_room (Nat.le_of_ble_eq_true rfl)) dX12_item_26 ⟨Nat.le_of_ble_eq_true rfl, Nat.le_of_ble_eq_true rfl⟩) hS hA hP (fun r5 u5 H locs hw5 hP hS => ?_)
      have hw5 : (((r5.toInt = 1 ∨ r5.toInt = 2 ∨ r5.toInt = 3) ∧ ¬ (¬ (c 63 w.toNatClampNeg).toInt = 0 ∧ (c 60 w.toNatClampNeg).toInt = s1.toInt ∧ 0 ≤ n1.toInt ∧ n1.toInt < (c 61 w.toNatClampNeg).toInt)) ∨ (r5.toInt = 0 ∧ ¬ (c 63 w.toNatClampNeg).toInt = 0 ∧ (c 60 w.toNatClampNeg).toInt = s1.toInt ∧ 0 ≤ n1.toInt ∧ n1.toInt < (c 61 w.toNatClampNeg).toInt ∧ n1.toInt ≤ 11)) := hw5
      refine lv_istore (lv' := [(4, .int r5), (0, .ref o), (1, .int w), (2, .int s1), (3, .int n1)]) hx hb dX12_item_29 hl (by decide +kernel) rfl (fun ls hl => ?_)
      refine lv_iload hx hb dX12_item_31 (lv_at hl 0 rfl) ?_
      refine lv_if_le (tgt := 43) hx hb dX12_item_33 (by decide +kernel) (fun c6 => ?_) (fun c6 => ?_)
      · have f6 := (ti_le (a := r5.toInt) (b := 0) rfl (by decide +kernel)).mp c6
        refine lv_aload_n hx hb dX12_item_43 rfl (lv_at hl 1 rfl) ?_
        refine lv_aload_n hx hb dX12_item_44 rfl (lv_at hl 1 rfl) ?_
        refine mget_62 hx hb hts (fun _ h => List.mem_cons_of_mem _ (List.mem_append_right _ h)) hown hK hP (hts (.fieldLink RX12 132 "TalePlayModel" "items" "[J") (List.mem_cons_of_mem _ (List.mem_append_left _ (List.mem_append_right _ (List.mem_of_getElem? (i := 1) rfl))))) dX12_item_45 ?_
        refine lv_bipush (v := 12) hx hb dX12_item_48 (by decide +kernel) ?_
        refine lv_iload_n hx hb dX12_item_50 rfl (lv_at hl 2 rfl) ?_
        refine lv_imul hx hb dX12_item_51 ?_
        refine lv_topi (fun x7 ex7 => ?_)
        have tx7 := ti_mul (a := 12) (b := w.toInt) ex7 (by decide +kernel) rfl (by omega) (by omega)
        refine lv_iload_n hx hb dX12_item_52 rfl (lv_at hl 4 rfl) ?_
        refine lv_iadd hx hb dX12_item_53 ?_
        refine lv_topi (fun x8 ex8 => ?_)
        have tx8 := ti_add (a := (12 * w.toInt)) (b := n1.toInt) ex8 tx7 rfl (by omega) (by omega)
        refine mld_62 hx hb hK hP (vp_in_iff.mpr (by have h9 : x8.toInt = ((12 * w.toInt) + n1.toInt) := tx8; omega)) dX12_item_54 (fun x9 ex9 => ?_)
        refine mput_37 hx hb hts (fun _ h => List.mem_cons_of_mem _ (List.mem_append_right _ h)) hown hK hP hD hS (hts (.fieldLink RX12 318 "TalePlayModel" "asked" "J") (List.mem_cons_of_mem _ (List.mem_append_left _ (List.mem_append_right _ (List.mem_of_getElem? (i := 2) rfl))))) rfl rfl dX12_item_55 (fun H locs hP hD hS => ?_)
        refine lv_iconst (v := 1) hx hb dX12_item_58 (by decide +kernel) ?_
        exact rw_iret (i, x9, c, d) hx hb hr hlocks hS (hK.sub (tys' := []) [] rfl) hP hD dX12_item_59 ⟨trivial, hI, fr_w hfi (by decide +kernel), fr_w hfc (by decide +kernel), (show (¬ (0 ≤ w.toInt ∧ w.toInt < (i 5).toInt ∧ 0 ≤ s1.toInt ∧ s1.toInt ≤ 3) ∧ (1 : Int32).toInt = -1) ∨ (0 ≤ w.toInt ∧ w.toInt < (i 5).toInt ∧ 0 ≤ s1.toInt ∧ s1.toInt ≤ 3 ∧ ¬ (¬ (c 63 w.toNatClampNeg).toInt = 0 ∧ (c 60 w.toNatClampNeg).toInt = s1.toInt ∧ 0 ≤ n1.toInt ∧ n1.toInt < (c 61 w.toNatClampNeg).toInt) ∧ (1 : Int32).toInt = -3) ∨ (0 ≤ w.toInt ∧ w.toInt < (i 5).toInt ∧ 0 ≤ s1.toInt ∧ s1.toInt ≤ 3 ∧ ¬ (c 63 w.toNatClampNeg).toInt = 0 ∧ (c 60 w.toNatClampNeg).toInt = s1.toInt ∧ 0 ≤ n1.toInt ∧ n1.toInt < (c 61 w.toNatClampNeg).toInt ∧ (1 : Int32).toInt = 1) from by have h50 : (1 : Int32).toInt = 1 := (by decide +kernel); omega), (show QbR (1 : Int32).toInt x9 q ((d 62) (w.toInt * 12 + n1.toInt).toNat) from Or.inl ⟨by decide, by rw [ex9, cl_t (show (x8 : Int32).toInt = w.toInt * 12 + n1.toInt from by have h9 : x8.toInt = ((12 * w.toInt) + n1.toInt) := tx8; omega)]⟩), rfl⟩
      · have f6 := mt (ti_le (a := r5.toInt) (b := 0) rfl (by decide +kernel)).mpr c6
        refine lv_aload_n hx hb dX12_item_36 rfl (lv_at hl 1 rfl) ?_
        refine lv_iload hx hb dX12_item_37 (lv_at hl 0 rfl) ?_
        refine al_calli (va_runV (As := [.int r5]) (rest := []) ⟨hx, hb, hml, hown, hts⟩ (s_X12_meets l D H.size o a t i q c d r5 hI (show 1 ≤ r5.toInt ∧ r5.toInt ≤ 6 from by omega)) (cwV 1 hts gm_X12_item_X12_meets rfl rfl rfl (by decide +kernel) ⟨Nat.le_of_ble_eq_true rfl, Nat.le_of_ble_eq_true rfl⟩) (pB_V hK hP hD (ci := 12) (q0 := 0) rfl rfl) rfl rfl hl.1 rfl (lv_room (Nat.le_of_ble_eq_true rfl)) dX12_item_39 ⟨Nat.le_of_ble_eq_true rfl, Nat.le_of_ble_eq_true rfl⟩) hS hA hP hD (fun r10 u10 H locs hv10 hP hD hS => ?_)
        obtain ⟨i10, q10, c10, d10⟩ := u10
        have hw10 : r10 = (-3) ∧ mInv i10 c10 ∧ (∀ k, k ∉ ([0] : List Nat) → i10 k = i k) ∧ (∀ k, k ∉ ([1] : List Nat) → c10 k = c k) ∧ (q = q10) ∧ (d = d10) := hv10
        clear hv10
        obtain ⟨hw10, hI, hei10, hec10, hq10_q, hq10_d⟩ := hw10
        subst hq10_q
        subst hq10_d
        have hfi : ∀ k, k ∉ ([0] : List Nat) → i10 k = i k := fr_z hfi hei10 (by decide +kernel) (by decide +kernel)
        have hfc : ∀ k, k ∉ ([1] : List Nat) → c10 k = c k := fr_z hfc hec10 (by decide +kernel) (by decide +kernel)
        have hP : va_P D vwCl (mW o a t i10 q c10 d) H := hP
        have hD : va_D A (mW o a t i10 q c10 d) := hD
        have hw10 : r10 = (-3) := hw10
        subst hw10
        exact rw_iret (i10, q, c10, d) hx hb hr hlocks hS (hK.sub (tys' := []) [] rfl) hP hD dX12_item_42 ⟨trivial, hI, fr_w hfi (by decide +kernel), fr_w hfc (by decide +kernel), (show (¬ (0 ≤ w.toInt ∧ w.toInt < (i 5).toInt ∧ 0 ≤ s1.toInt ∧ s1.toInt ≤ 3) ∧ ((-3) : Int32).toInt = -1) ∨ (0 ≤ w.toInt ∧ w.toInt < (i 5).toInt ∧ 0 ≤ s1.toInt ∧ s1.toInt ≤ 3 ∧ ¬ (¬ (c 63 w.toNatClampNeg).toInt = 0 ∧ (c 60 w.toNatClampNeg).toInt = s1.toInt ∧ 0 ≤ n1.toInt ∧ n1.toInt < (c 61 w.toNatClampNeg).toInt) ∧ ((-3) : Int32).toInt = -3) ∨ (0 ≤ w.toInt ∧ w.toInt < (i 5).toInt ∧ 0 ≤ s1.toInt ∧ s1.toInt ≤ 3 ∧ ¬ (c 63 w.toNatClampNeg).toInt = 0 ∧ (c 60 w.toNatClampNeg).toInt = s1.toInt ∧ 0 ≤ n1.toInt ∧ n1.toInt < (c 61 w.toNatClampNeg).toInt ∧ ((-3) : Int32).toInt = 1) from by have h50 : ((-3) : Int32).toInt = -3 := (by decide +kernel); omega), (show QbR ((-3) : Int32).toInt q q ((d 62) (w.toInt * 12 + n1.toInt).toNat) from Or.inr ⟨by decide, rfl⟩), rfl⟩
    · have f4 := fl_f hw3 c4
      refine lv_iconst (v := (-1)) hx hb dX12_item_20 (by decide +kernel) ?_
      exact rw_iret (i, q, c, d) hx hb hr hlocks hS (hK.sub (tys' := []) [] rfl) hP hD dX12_item_21 ⟨trivial, hI, fr_w hfi (by decide +kernel), fr_w hfc (by decide +kernel), (show (¬ (0 ≤ w.toInt ∧ w.toInt < (i 5).toInt ∧ 0 ≤ s1.toInt ∧ s1.toInt ≤ 3) ∧ ((-1) : Int32).toInt = -1) ∨ (0 ≤ w.toInt ∧ w.toInt < (i 5).toInt ∧ 0 ≤ s1.toInt ∧ s1.toInt ≤ 3 ∧ ¬ (¬ (c 63 w.toNatClampNeg).toInt = 0 ∧ (c 60 w.toNatClampNeg).toInt = s1.toInt ∧ 0 ≤ n1.toInt ∧ n1.toInt < (c 61 w.toNatClampNeg).toInt) ∧ ((-1) : Int32).toInt = -3) ∨ (0 ≤ w.toInt ∧ w.toInt < (i 5).toInt ∧ 0 ≤ s1.toInt ∧ s1.toInt ≤ 3 ∧ ¬ (c 63 w.toNatClampNeg).toInt = 0 ∧ (c 60 w.toNatClampNeg).toInt = s1.toInt ∧ 0 ≤ n1.toInt ∧ n1.toInt < (c 61 w.toNatClampNeg).toInt ∧ ((-1) : Int32).toInt = 1) from by have h50 : ((-1) : Int32).toInt = -1 := (by decide +kernel); omega), (show QbR ((-1) : Int32).toInt q q ((d 62) (w.toInt * 12 + n1.toInt).toNat) from Or.inr ⟨by decide, rfl⟩), rfl⟩

