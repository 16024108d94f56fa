set_option maxHeartbeats 4000000 in
set_option maxRecDepth 100000 in
theorem s_X12_back_t (l : Launch) (D : va_G) (sz : Nat) (o : Nat) (a : Nat → Nat) (t : Nat → ClassId) (i : Nat → Int32) (q : Int64) (c : Nat → Nat → Int32) (d : Nat → Nat → Int64) (hI : mInv i c) (hs_S : SJ (c 3) (c 6) (c 9) (c 10) (c 11) (c 13) (i 2).toInt (i 5).toInt (i 8).toInt) (hs_J : TJ (c 3) (c 6) (c 23) (c 24) (c 29) (c 30) (i 5).toInt (i 22).toInt (i 27).toInt) : Met l yX12_back wm_X12_back ({ frames := 0, cells := 0, slots := 0, locals := 0 }) (va_Pc [.ref o] (pB D sz (mW o a t i q c d) (mT t))) (va_Qi (fun (r : Int32) (u : MS) => True ∧ mInv u.1 u.2.2.1 ∧ (∀ k, k ∉ ([27] : List Nat) → u.1 k = i k) ∧ (∀ k, k ∉ ([23, 24, 25, 26] : List Nat) → u.2.2.1 k = c k) ∧ (SJ (u.2.2.1 3) (u.2.2.1 6) (u.2.2.1 9) (u.2.2.1 10) (u.2.2.1 11) (u.2.2.1 13) (u.1 2).toInt (u.1 5).toInt (u.1 8).toInt) ∧ (TJ (u.2.2.1 3) (u.2.2.1 6) (u.2.2.1 23) (u.2.2.1 24) (u.2.2.1 29) (u.2.2.1 30) (u.1 5).toInt (u.1 22).toInt (u.1 27).toInt) ∧ ((¬ (¬ (i 22).toInt = -9 ∧ ¬ (i 27).toInt = 0) ∧ r.toInt = -5) ∨ ((¬ (i 22).toInt = -9 ∧ ¬ (i 27).toInt = 0) ∧ r.toInt = (i 27).toInt - 1)) ∧ (AsR (¬ (i 22).toInt = -9 ∧ ¬ (i 27).toInt = 0) (GB (u.2.2.1 23) (u.2.2.1 24) (c 29) (c 30) ((i 27).toInt - 1).toNat 30 ∧ GB (u.2.2.1 25) (u.2.2.1 26) (c 31) (c 32) ((i 27).toInt - 1).toNat 30 ∧ (u.1 27).toInt = (i 27).toInt - 1 ∧ (u.1 22) = (i 22)) ((u.2.2.1 23) = (c 23) ∧ (u.2.2.1 24) = (c 24) ∧ (u.2.2.1 25) = (c 25) ∧ (u.2.2.1 26) = (c 26) ∧ (u.1 27) = (i 27) ∧ (u.1 22) = (i 22)))) (oC D (va_A (mW o a t i q c d) sz) (fun u : MS => mW o a t u.1 u.2.1 u.2.2.1 u.2.2.2) (fun _ => [])) (va_A (mW o a t i q c d) sz)) 0 0 (va_A (mW o a t i q c d) sz) := by
  refine Met.ofW (cc := cX12_back) (maxL := 2) (ret := (some .int)) (by decide +kernel) rfl ?_
  intro p e s m args below meth cd s₁ B hml hv
  obtain ⟨rfl, hsz, hP, hK, hD0⟩ := hv
  have hx := B.exec
  have hb := B.bytes
  have hr := B.returns
  have hts := atoms_spec (ws := wm_X12_back) B.pre
  have hown : s.vm.findClass RX12 = some m.cls := findClass_of_methodNamed B.named
  have hlocks := B.notSynchronized
  subst hsz
  have hD := hD0.self (sz := s.heap.size)
  generalize hAe : va_A (mW o a t i q c d) s.heap.size = A at hD ⊢
  have hA : ∀ q : Nat, s.heap.size ≤ q → A q := fun q h => by rw [← hAe]; exact Or.inr h
  have hS : va_S A s.heap s.heap [] := va_S.rf
  have hfi : ∀ k, k ∉ ([] : List Nat) → i k = i k := fun _ _ => rfl
  have hfc : ∀ k, k ∉ ([] : List Nat) → c k = c k := fun _ _ => rfl
  have hl := lv_entry ([.ref o]) (n := 2) (Nat.le_of_ble_eq_true rfl)
  rw [lg_entry_eq]
  generalize (lg_sl ([.ref o]) ++ List.replicate (2 - (lg_sl ([.ref o])).length) Slot.unset).toArray = ls at hl ⊢
  have hl : lv_has ls 2 [(0, .ref o)] := hl
  have rb5_i : 0 ≤ (i 5).toInt ∧ (i 5).toInt ≤ 30 := hI.1 5
  have rb22_i : (i 22).toInt = -9 ∨ (0 ≤ (i 22).toInt ∧ (i 22).toInt ≤ 29) := hI.1 22
  have rb27_i : 0 ≤ (i 27).toInt ∧ (i 27).toInt ≤ 100 := hI.1 27
  refine lv_aload_n hx hb dX12_back_0 rfl (lv_at hl 0 rfl) ?_
  refine mget_22 (v := (i 22)) rfl hx hb hts (fun _ h => List.mem_cons_of_mem _ (List.mem_append_right _ h)) hown hK hP (hts (.fieldLink RX12 155 "TalePlayModel" "player" "I") (List.mem_cons_of_mem _ (List.mem_append_left _ (List.mem_of_getElem? (i := 0) rfl)))) dX12_back_1 ?_
  refine lv_bipush (v := (-9)) hx hb dX12_back_4 (by decide +kernel) ?_
  refine lv_icmp_eq (tgt := 16) hx hb dX12_back_6 (by decide +kernel) (fun c1 => ?_) (fun c1 => ?_)
  · have f1 := (ti_eq (a := (i 22).toInt) (b := (-9)) rfl (by decide +kernel)).mp c1
    refine lv_bipush (v := (-5)) hx hb dX12_back_16 (by decide +kernel) ?_
    exact rw_iret (i, q, c, d) hx hb hr hlocks hS (hK.sub (tys' := []) [] rfl) hP hD dX12_back_18 ⟨trivial, hI, fr_w hfi (by decide +kernel), fr_w hfc (by decide +kernel), (show SJ (c 3) (c 6) (c 9) (c 10) (c 11) (c 13) ((i 2) : Int32).toInt ((i 5) : Int32).toInt ((i 8) : Int32).toInt from hs_S), (show TJ (c 3) (c 6) (c 23) (c 24) (c 29) (c 30) ((i 5) : Int32).toInt ((i 22) : Int32).toInt ((i 27) : Int32).toInt from hs_J), (show (¬ (¬ (i 22).toInt = -9 ∧ ¬ (i 27).toInt = 0) ∧ ((-5) : Int32).toInt = -5) ∨ ((¬ (i 22).toInt = -9 ∧ ¬ (i 27).toInt = 0) ∧ ((-5) : Int32).toInt = (i 27).toInt - 1) from Or.inl ⟨by omega, by decide⟩), (show AsR (¬ (i 22).toInt = -9 ∧ ¬ (i 27).toInt = 0) (GB (c 23) (c 24) (c 29) (c 30) ((i 27).toInt - 1).toNat 30 ∧ GB (c 25) (c 26) (c 31) (c 32) ((i 27).toInt - 1).toNat 30 ∧ ((i 27) : Int32).toInt = (i 27).toInt - 1 ∧ ((i 22) : Int32) = (i 22)) ((c 23) = (c 23) ∧ (c 24) = (c 24) ∧ (c 25) = (c 25) ∧ (c 26) = (c 26) ∧ ((i 27) : Int32) = (i 27) ∧ ((i 22) : Int32) = (i 22)) from Or.inl ⟨by omega, rfl, rfl, rfl, rfl, rfl, rfl⟩)⟩
  · have f1 := mt (ti_eq (a := (i 22).toInt) (b := (-9)) rfl (by decide +kernel)).mpr c1
    refine lv_aload_n hx hb dX12_back_9 rfl (lv_at hl 0 rfl) ?_
    refine mget_27 (v := (i 27)) rfl hx hb hts (fun _ h => List.mem_cons_of_mem _ (List.mem_append_right _ h)) hown hK hP (hts (.fieldLink RX12 291 "TalePlayModel" "turns" "I") (List.mem_cons_of_mem _ (List.mem_append_left _ (List.mem_of_getElem? (i := 1) rfl)))) dX12_back_10 ?_
    refine lv_if_ne (tgt := 19) hx hb dX12_back_13 (by decide +kernel) (fun c2 => ?_) (fun c2 => ?_)
    · have f2 := mt (ti_eq (a := (i 27).toInt) (b := 0) rfl (by decide +kernel)).mpr c2
      refine lv_aload_n hx hb dX12_back_19 rfl (lv_at hl 0 rfl) ?_
      refine lv_dup hx hb dX12_back_20 rfl ?_
      refine mget_27 (v := (i 27)) rfl hx hb hts (fun _ h => List.mem_cons_of_mem _ (List.mem_append_right _ h)) hown hK hP (hts (.fieldLink RX12 291 "TalePlayModel" "turns" "I") (List.mem_cons_of_mem _ (List.mem_append_left _ (List.mem_of_getElem? (i := 1) rfl)))) dX12_back_21 ?_
      refine lv_iconst (v := 1) hx hb dX12_back_24 (by decide +kernel) ?_
      refine lv_isub hx hb dX12_back_25 ?_
      refine lv_topi (fun x3 ex3 => ?_)
      have tx3 := ti_sub (a := (i 27).toInt) (b := 1) ex3 rfl (by decide +kernel) (by omega) (by omega)
      refine mput_27 hx hb hts (fun _ h => List.mem_cons_of_mem _ (List.mem_append_right _ h)) hown hK hP hD hS (hts (.fieldLink RX12 291 "TalePlayModel" "turns" "I") (List.mem_cons_of_mem _ (List.mem_append_left _ (List.mem_of_getElem? (i := 1) rfl)))) rfl rfl dX12_back_26 (fun H locs hP hD hS => ?_)
      have hI := mInv_i hI (k := 27) (v := x3) (show 0 ≤ (x3 : Int32).toInt ∧ (x3 : Int32).toInt ≤ 100 from by have h9 : x3.toInt = ((i 27).toInt - 1) := tx3; omega)
      have hfi : ∀ k, k ∉ ([27] : List Nat) → (upd i 27 x3) k = i k := fr_iz hfi (by decide +kernel) (by decide +kernel)
      refine lv_iconst (v := 0) hx hb dX12_back_29 (by decide +kernel) ?_
      refine lv_istore_n (lv' := [(1, .int 0), (0, .ref o)]) hx hb dX12_back_30 rfl hl (by decide +kernel) rfl (fun ls hl => ?_)
      have lp4 : ∀ (fu : Nat) (i4 : Nat → Int32) (q4 : Int64) (c4 : Nat → Nat → Int32) (d4 : Nat → Nat → Int64) (y4_1 : Int32), mInv i4 c4 → (∀ k, k ∉ ([27] : List Nat) → i4 k = i k) → (∀ k, k ∉ ([23, 24, 25, 26] : List Nat) → c4 k = c k) → (0 ≤ y4_1.toInt ∧ y4_1.toInt ≤ 30) → (GB (c4 23) (c4 24) (c 29) (c 30) x3.toInt.toNat y4_1.toInt) → (((i4 27) : Int32).toInt = x3.toInt) → (GB (c4 25) (c4 26) (c 31) (c 32) x3.toInt.toNat y4_1.toInt) → (30 - y4_1.toInt).toNat < fu → ∀ (H : Heap) (locs : List Loc) (ls : Array Slot), va_P D vwCl (mW o a t i4 q4 c4 d4) H → va_D A (mW o a t i4 q4 c4 d4) → va_S A s.heap H locs → lv_has ls 2 [(1, .int y4_1), (0, .ref o)] → W p l e (headSpec wm_X12_back ({ frames := 0, cells := 0, slots := 0, locals := 0 })).room s m ([.ref o] : List Value).toArray below meth cd H locs 0 0 (MQ below (va_Qi (fun (r : Int32) (u : MS) => True ∧ mInv u.1 u.2.2.1 ∧ (∀ k, k ∉ ([27] : List Nat) → u.1 k = i k) ∧ (∀ k, k ∉ ([23, 24, 25, 26] : List Nat) → u.2.2.1 k = c k) ∧ (SJ (u.2.2.1 3) (u.2.2.1 6) (u.2.2.1 9) (u.2.2.1 10) (u.2.2.1 11) (u.2.2.1 13) (u.1 2).toInt (u.1 5).toInt (u.1 8).toInt) ∧ (TJ (u.2.2.1 3) (u.2.2.1 6) (u.2.2.1 23) (u.2.2.1 24) (u.2.2.1 29) (u.2.2.1 30) (u.1 5).toInt (u.1 22).toInt (u.1 27).toInt) ∧ ((¬ (¬ (i 22).toInt = -9 ∧ ¬ (i 27).toInt = 0) ∧ r.toInt = -5) ∨ ((¬ (i 22).toInt = -9 ∧ ¬ (i 27).toInt = 0) ∧ r.toInt = (i 27).toInt - 1)) ∧ (AsR (¬ (i 22).toInt = -9 ∧ ¬ (i 27).toInt = 0) (GB (u.2.2.1 23) (u.2.2.1 24) (c 29) (c 30) ((i 27).toInt - 1).toNat 30 ∧ GB (u.2.2.1 25) (u.2.2.1 26) (c 31) (c 32) ((i 27).toInt - 1).toNat 30 ∧ (u.1 27).toInt = (i 27).toInt - 1 ∧ (u.1 22) = (i 22)) ((u.2.2.1 23) = (c 23) ∧ (u.2.2.1 24) = (c 24) ∧ (u.2.2.1 25) = (c 25) ∧ (u.2.2.1 26) = (c 26) ∧ (u.1 27) = (i 27) ∧ (u.1 22) = (i 22)))) (oC D A (fun u : MS => mW o a t u.1 u.2.1 u.2.2.1 u.2.2.2) (fun _ => [])) A) ([.ref o] : List Value).toArray s 0 0 A) (F0 m 31 ls []) := by
        intro fu
        induction fu with
        | zero => intro i4 q4 c4 d4 y4_1 hI hfi hfc hy4_1 hz4_0 hz4_1 hz4_2 hm; exact absurd hm (Nat.not_lt_zero _)
        | succ fu ih =>
          intro i4 q4 c4 d4 y4_1 hI hfi hfc hy4_1 hz4_0 hz4_1 hz4_2 hm H locs ls hP hD hS hl
          have ih4 := ih
          refine lv_iload_n hx hb dX12_back_31 rfl (lv_at hl 0 rfl) ?_
          refine lv_bipush (v := 30) hx hb dX12_back_32 (by decide +kernel) ?_
          refine lv_icmp_ge (tgt := 123) hx hb dX12_back_34 (by decide +kernel) (fun c5 => ?_) (fun c5 => ?_)
          · have f5 := (ti_le (a := 30) (b := y4_1.toInt) (by decide +kernel) rfl).mp c5
            refine lv_aload_n hx hb dX12_back_123 rfl (lv_at hl 1 rfl) ?_
            refine mget_27 (v := (i4 27)) rfl hx hb hts (fun _ h => List.mem_cons_of_mem _ (List.mem_append_right _ h)) hown hK hP (hts (.fieldLink RX12 291 "TalePlayModel" "turns" "I") (List.mem_cons_of_mem _ (List.mem_append_left _ (List.mem_of_getElem? (i := 1) rfl)))) dX12_back_124 ?_
            have rb27_i4 : 0 ≤ (i4 27).toInt ∧ (i4 27).toInt ≤ 100 := hI.1 27
            exact rw_iret (i4, q4, c4, d4) hx hb hr hlocks hS (hK.sub (tys' := []) [] rfl) hP hD dX12_back_127 ⟨trivial, hI, fr_w hfi (by decide +kernel), fr_w hfc (by decide +kernel), (show SJ (c4 3) (c4 6) (c4 9) (c4 10) (c4 11) (c4 13) ((i4 2) : Int32).toInt ((i4 5) : Int32).toInt ((i4 8) : Int32).toInt from by rw [show c4 3 = c 3 from hfc 3 (by decide +kernel), show c4 6 = c 6 from hfc 6 (by decide +kernel), show c4 9 = c 9 from hfc 9 (by decide +kernel), show c4 10 = c 10 from hfc 10 (by decide +kernel), show c4 11 = c 11 from hfc 11 (by decide +kernel), show c4 13 = c 13 from hfc 13 (by decide +kernel), show i4 2 = i 2 from hfi 2 (by decide +kernel), show i4 5 = i 5 from hfi 5 (by decide +kernel), show i4 8 = i 8 from hfi 8 (by decide +kernel)]; exact hs_S), (show TJ (c4 3) (c4 6) (c4 23) (c4 24) (c4 29) (c4 30) ((i4 5) : Int32).toInt ((i4 22) : Int32).toInt ((i4 27) : Int32).toInt from by rw [show c4 3 = c 3 from hfc 3 (by decide +kernel), show c4 6 = c 6 from hfc 6 (by decide +kernel), show c4 29 = c 29 from hfc 29 (by decide +kernel), show c4 30 = c 30 from hfc 30 (by decide +kernel), show i4 5 = i 5 from hfi 5 (by decide +kernel), show i4 22 = i 22 from hfi 22 (by decide +kernel)]; exact TJ_back (x := y4_1) (t := x3) hs_J (by omega) (by have h9 := tx3; omega) (by omega) hz4_0 (by omega) (by omega)), (show (¬ (¬ (i 22).toInt = -9 ∧ ¬ (i 27).toInt = 0) ∧ ((i4 27) : Int32).toInt = -5) ∨ ((¬ (i 22).toInt = -9 ∧ ¬ (i 27).toInt = 0) ∧ ((i4 27) : Int32).toInt = (i 27).toInt - 1) from Or.inr ⟨by omega, by have h9 := hz4_1; have h8 := tx3; omega⟩), (show AsR (¬ (i 22).toInt = -9 ∧ ¬ (i 27).toInt = 0) (GB (c4 23) (c4 24) (c 29) (c 30) ((i 27).toInt - 1).toNat 30 ∧ GB (c4 25) (c4 26) (c 31) (c 32) ((i 27).toInt - 1).toNat 30 ∧ ((i4 27) : Int32).toInt = (i 27).toInt - 1 ∧ ((i4 22) : Int32) = (i 22)) ((c4 23) = (c 23) ∧ (c4 24) = (c 24) ∧ (c4 25) = (c 25) ∧ (c4 26) = (c 26) ∧ ((i4 27) : Int32) = (i 27) ∧ ((i4 22) : Int32) = (i 22)) from Or.inr ⟨by omega, by have h9 := hz4_0; rw [show y4_1.toInt = 30 by omega, show x3.toInt = (i 27).toInt - 1 from by have h8 := tx3; omega] at h9; exact h9, by have h9 := hz4_2; rw [show y4_1.toInt = 30 by omega, show x3.toInt = (i 27).toInt - 1 from by have h8 := tx3; omega] at h9; exact h9, by have h9 := hz4_1; have h8 := tx3; omega, hfi 22 (by decide +kernel)⟩)⟩
          · have f5 := mt (ti_le (a := 30) (b := y4_1.toInt) (by decide +kernel) rfl).mpr c5
            have hfc0 := hfc
            refine lv_aload_n hx hb dX12_back_37 rfl (lv_at hl 1 rfl) ?_
            refine mget_23 hx hb hts (fun _ h => List.mem_cons_of_mem _ (List.mem_append_right _ h)) hown hK hP (hts (.fieldLink RX12 50 "TalePlayModel" "nForm" "[I") (List.mem_cons_of_mem _ (List.mem_append_left _ (List.mem_of_getElem? (i := 2) rfl)))) dX12_back_38 ?_
            refine lv_iload_n hx hb dX12_back_41 rfl (lv_at hl 0 rfl) ?_
            refine lv_aload_n hx hb dX12_back_42 rfl (lv_at hl 1 rfl) ?_
            refine mget_29 hx hb hts (fun _ h => List.mem_cons_of_mem _ (List.mem_append_right _ h)) hown hK hP (hts (.fieldLink RX12 65 "TalePlayModel" "wasForm" "[I") (List.mem_cons_of_mem _ (List.mem_append_left _ (List.mem_of_getElem? (i := 3) rfl)))) dX12_back_43 ?_
            refine lv_bipush (v := 30) hx hb dX12_back_46 (by decide +kernel) ?_
            refine lv_aload_n hx hb dX12_back_48 rfl (lv_at hl 1 rfl) ?_
            refine mget_27 (v := (i4 27)) rfl hx hb hts (fun _ h => List.mem_cons_of_mem _ (List.mem_append_right _ h)) hown hK hP (hts (.fieldLink RX12 291 "TalePlayModel" "turns" "I") (List.mem_cons_of_mem _ (List.mem_append_left _ (List.mem_of_getElem? (i := 1) rfl)))) dX12_back_49 ?_
            have rb27_i4 : 0 ≤ (i4 27).toInt ∧ (i4 27).toInt ≤ 100 := hI.1 27
            refine lv_imul hx hb dX12_back_52 ?_
            refine lv_topi (fun x6 ex6 => ?_)
            have tx6 := ti_mul (a := 30) (b := (i4 27).toInt) ex6 (by decide +kernel) rfl (by omega) (by omega)
            refine lv_iload_n hx hb dX12_back_53 rfl (lv_at hl 0 rfl) ?_
            refine lv_iadd hx hb dX12_back_54 ?_
            refine lv_topi (fun x7 ex7 => ?_)
            have tx7 := ti_add (a := (30 * (i4 27).toInt)) (b := y4_1.toInt) ex7 tx6 rfl (by omega) (by omega)
            refine mld_29 hx hb hK hP (vp_in_iff.mpr (by have h9 : x7.toInt = ((30 * (i4 27).toInt) + y4_1.toInt) := tx7; omega)) dX12_back_55 (fun x8 ex8 => ?_)
            have rx8 : x8.toInt = -9 ∨ (0 ≤ x8.toInt ∧ x8.toInt ≤ 4) := by rw [ex8]; exact hI.2 29 _
            refine mst_23 hx hb hK hP hD hS (vp_in_iff.mpr (by have h9 : y4_1.toInt = y4_1.toInt := rfl; omega)) dX12_back_56 (fun H locs hP hD hS => ?_)
            have hI := mInv_c hI (k := 23) (j := (y4_1 : Int32).toNatClampNeg) (x := x8) (show (x8 : Int32).toInt = -9 ∨ (0 ≤ (x8 : Int32).toInt ∧ (x8 : Int32).toInt ≤ 4) from by omega)
            have hfc := fr_c hfc (k := 23) (j := (y4_1 : Int32).toNatClampNeg) (x := x8) (by decide +kernel)
            refine lv_aload_n hx hb dX12_back_57 rfl (lv_at hl 1 rfl) ?_
            refine mget_24 hx hb hts (fun _ h => List.mem_cons_of_mem _ (List.mem_append_right _ h)) hown hK hP (hts (.fieldLink RX12 53 "TalePlayModel" "nAt" "[I") (List.mem_cons_of_mem _ (List.mem_append_left _ (List.mem_of_getElem? (i := 4) rfl)))) dX12_back_58 ?_
            refine lv_iload_n hx hb dX12_back_61 rfl (lv_at hl 0 rfl) ?_
            refine lv_aload_n hx hb dX12_back_62 rfl (lv_at hl 1 rfl) ?_
            refine mget_30 hx hb hts (fun _ h => List.mem_cons_of_mem _ (List.mem_append_right _ h)) hown hK hP (hts (.fieldLink RX12 68 "TalePlayModel" "wasAt" "[I") (List.mem_cons_of_mem _ (List.mem_append_left _ (List.mem_of_getElem? (i := 5) rfl)))) dX12_back_63 ?_
            refine lv_bipush (v := 30) hx hb dX12_back_66 (by decide +kernel) ?_
            refine lv_aload_n hx hb dX12_back_68 rfl (lv_at hl 1 rfl) ?_
            refine mget_27 (v := (i4 27)) rfl hx hb hts (fun _ h => List.mem_cons_of_mem _ (List.mem_append_right _ h)) hown hK hP (hts (.fieldLink RX12 291 "TalePlayModel" "turns" "I") (List.mem_cons_of_mem _ (List.mem_append_left _ (List.mem_of_getElem? (i := 1) rfl)))) dX12_back_69 ?_
            refine lv_imul hx hb dX12_back_72 ?_
            refine lv_topi (fun x9 ex9 => ?_)
            have tx9 := ti_mul (a := 30) (b := (i4 27).toInt) ex9 (by decide +kernel) rfl (by omega) (by omega)
            refine lv_iload_n hx hb dX12_back_73 rfl (lv_at hl 0 rfl) ?_
            refine lv_iadd hx hb dX12_back_74 ?_
            refine lv_topi (fun x10 ex10 => ?_)
            have tx10 := ti_add (a := (30 * (i4 27).toInt)) (b := y4_1.toInt) ex10 tx9 rfl (by omega) (by omega)
            refine mld_30 hx hb hK hP (vp_in_iff.mpr (by have h9 : x10.toInt = ((30 * (i4 27).toInt) + y4_1.toInt) := tx10; omega)) dX12_back_75 (fun x11 ex11 => ?_)
            have rx11 : x11.toInt = -9 ∨ (0 ≤ x11.toInt ∧ x11.toInt ≤ 29) := by rw [ex11]; exact hI.2 30 _
            refine mst_24 hx hb hK hP hD hS (vp_in_iff.mpr (by have h9 : y4_1.toInt = y4_1.toInt := rfl; omega)) dX12_back_76 (fun H locs hP hD hS => ?_)
            have hI := mInv_c hI (k := 24) (j := (y4_1 : Int32).toNatClampNeg) (x := x11) (show (x11 : Int32).toInt = -9 ∨ (0 ≤ (x11 : Int32).toInt ∧ (x11 : Int32).toInt ≤ 29) from by omega)
            have hfc := fr_c hfc (k := 24) (j := (y4_1 : Int32).toNatClampNeg) (x := x11) (by decide +kernel)
            refine lv_aload_n hx hb dX12_back_77 rfl (lv_at hl 1 rfl) ?_
            refine mget_25 hx hb hts (fun _ h => List.mem_cons_of_mem _ (List.mem_append_right _ h)) hown hK hP (hts (.fieldLink RX12 56 "TalePlayModel" "nOpen" "[Z") (List.mem_cons_of_mem _ (List.mem_append_left _ (List.mem_of_getElem? (i := 6) rfl)))) dX12_back_78 ?_
            refine lv_iload_n hx hb dX12_back_81 rfl (lv_at hl 0 rfl) ?_
            refine lv_aload_n hx hb dX12_back_82 rfl (lv_at hl 1 rfl) ?_
            refine mget_31 hx hb hts (fun _ h => List.mem_cons_of_mem _ (List.mem_append_right _ h)) hown hK hP (hts (.fieldLink RX12 71 "TalePlayModel" "wasOpen" "[Z") (List.mem_cons_of_mem _ (List.mem_append_left _ (List.mem_of_getElem? (i := 7) rfl)))) dX12_back_83 ?_
            refine lv_bipush (v := 30) hx hb dX12_back_86 (by decide +kernel) ?_
            refine lv_aload_n hx hb dX12_back_88 rfl (lv_at hl 1 rfl) ?_
            refine mget_27 (v := (i4 27)) rfl hx hb hts (fun _ h => List.mem_cons_of_mem _ (List.mem_append_right _ h)) hown hK hP (hts (.fieldLink RX12 291 "TalePlayModel" "turns" "I") (List.mem_cons_of_mem _ (List.mem_append_left _ (List.mem_of_getElem? (i := 1) rfl)))) dX12_back_89 ?_
            refine lv_imul hx hb dX12_back_92 ?_
            refine lv_topi (fun x12 ex12 => ?_)
            have tx12 := ti_mul (a := 30) (b := (i4 27).toInt) ex12 (by decide +kernel) rfl (by omega) (by omega)
            refine lv_iload_n hx hb dX12_back_93 rfl (lv_at hl 0 rfl) ?_
            refine lv_iadd hx hb dX12_back_94 ?_
            refine lv_topi (fun x13 ex13 => ?_)
            have tx13 := ti_add (a := (30 * (i4 27).toInt)) (b := y4_1.toInt) ex13 tx12 rfl (by omega) (by omega)
            refine mld_31 hx hb hK hP (vp_in_iff.mpr (by have h9 : x13.toInt = ((30 * (i4 27).toInt) + y4_1.toInt) := tx13; omega)) dX12_back_95 (fun x14 ex14 => ?_)
            have rx14 : 0 ≤ x14.toInt ∧ x14.toInt ≤ 1 := by rw [ex14]; exact hI.2 31 _
            refine mst_25 hx hb hK hP hD hS (vp_in_iff.mpr (by have h9 : y4_1.toInt = y4_1.toInt := rfl; omega)) (nb_z (show 0 ≤ (x14 : Int32).toInt ∧ (x14 : Int32).toInt ≤ 1 from by omega)) dX12_back_96 (fun H locs hP hD hS => ?_)
            have hI := mInv_c hI (k := 25) (j := (y4_1 : Int32).toNatClampNeg) (x := x14) (show 0 ≤ (x14 : Int32).toInt ∧ (x14 : Int32).toInt ≤ 1 from by omega)
            have hfc := fr_c hfc (k := 25) (j := (y4_1 : Int32).toNatClampNeg) (x := x14) (by decide +kernel)
            refine lv_aload_n hx hb dX12_back_97 rfl (lv_at hl 1 rfl) ?_
            refine mget_26 hx hb hts (fun _ h => List.mem_cons_of_mem _ (List.mem_append_right _ h)) hown hK hP (hts (.fieldLink RX12 59 "TalePlayModel" "nLocked" "[Z") (List.mem_cons_of_mem _ (List.mem_append_left _ (List.mem_of_getElem? (i := 8) rfl)))) dX12_back_98 ?_
            refine lv_iload_n hx hb dX12_back_101 rfl (lv_at hl 0 rfl) ?_
            refine lv_aload_n hx hb dX12_back_102 rfl (lv_at hl 1 rfl) ?_
            refine mget_32 hx hb hts (fun _ h => List.mem_cons_of_mem _ (List.mem_append_right _ h)) hown hK hP (hts (.fieldLink RX12 74 "TalePlayModel" "wasLocked" "[Z") (List.mem_cons_of_mem _ (List.mem_append_left _ (List.mem_of_getElem? (i := 9) rfl)))) dX12_back_103 ?_
            refine lv_bipush (v := 30) hx hb dX12_back_106 (by decide +kernel) ?_
            refine lv_aload_n hx hb dX12_back_108 rfl (lv_at hl 1 rfl) ?_
            refine mget_27 (v := (i4 27)) rfl hx hb hts (fun _ h => List.mem_cons_of_mem _ (List.mem_append_right _ h)) hown hK hP (hts (.fieldLink RX12 291 "TalePlayModel" "turns" "I") (List.mem_cons_of_mem _ (List.mem_append_left _ (List.mem_of_getElem? (i := 1) rfl)))) dX12_back_109 ?_
            refine lv_imul hx hb dX12_back_112 ?_
            refine lv_topi (fun x15 ex15 => ?_)
            have tx15 := ti_mul (a := 30) (b := (i4 27).toInt) ex15 (by decide +kernel) rfl (by omega) (by omega)
            refine lv_iload_n hx hb dX12_back_113 rfl (lv_at hl 0 rfl) ?_
            refine lv_iadd hx hb dX12_back_114 ?_
            refine lv_topi (fun x16 ex16 => ?_)
            have tx16 := ti_add (a := (30 * (i4 27).toInt)) (b := y4_1.toInt) ex16 tx15 rfl (by omega) (by omega)
            refine mld_32 hx hb hK hP (vp_in_iff.mpr (by have h9 : x16.toInt = ((30 * (i4 27).toInt) + y4_1.toInt) := tx16; omega)) dX12_back_115 (fun x17 ex17 => ?_)
            have rx17 : 0 ≤ x17.toInt ∧ x17.toInt ≤ 1 := by rw [ex17]; exact hI.2 32 _
            refine mst_26 hx hb hK hP hD hS (vp_in_iff.mpr (by have h9 : y4_1.toInt = y4_1.toInt := rfl; omega)) (nb_z (show 0 ≤ (x17 : Int32).toInt ∧ (x17 : Int32).toInt ≤ 1 from by omega)) dX12_back_116 (fun H locs hP hD hS => ?_)
            have hI := mInv_c hI (k := 26) (j := (y4_1 : Int32).toNatClampNeg) (x := x17) (show 0 ≤ (x17 : Int32).toInt ∧ (x17 : Int32).toInt ≤ 1 from by omega)
            have hfc := fr_c hfc (k := 26) (j := (y4_1 : Int32).toNatClampNeg) (x := x17) (by decide +kernel)
            obtain ⟨x18, ex18⟩ : ∃ y : Int32, y = y4_1 + 1 := ⟨_, rfl⟩
            have tx18 := ti_add (a := y4_1.toInt) (b := 1) ex18 rfl (by decide +kernel) (by omega) (by omega)
            refine lv_iinc (v := x18) (lv' := [(1, .int x18), (0, .ref o)]) hx hb dX12_back_117 hl (k := 0) rfl (by rw [ex18]; rfl) (by decide +kernel) rfl (fun ls hl => ?_)
            refine lv_goto (tgt := 31) hx hb dX12_back_120 (by decide +kernel) ?_
            exact ih4 i4 q4 (updA (updA (updA (updA c4 23 (y4_1 : Int32).toNatClampNeg x8) 24 (y4_1 : Int32).toNatClampNeg x11) 25 (y4_1 : Int32).toNatClampNeg x14) 26 (y4_1 : Int32).toNatClampNeg x17) d4 x18 hI (fr_w hfi (by decide +kernel)) (fr_w hfc (by decide +kernel)) (show 0 ≤ x18.toInt ∧ x18.toInt ≤ 30 from by have h50 : x18.toInt = (y4_1.toInt + 1) := tx18; omega) (show GB ((updA (updA (updA (updA c4 23 (y4_1 : Int32).toNatClampNeg x8) 24 (y4_1 : Int32).toNatClampNeg x11) 25 (y4_1 : Int32).toNatClampNeg x14) 26 (y4_1 : Int32).toNatClampNeg x17) 23) ((updA (updA (updA (updA c4 23 (y4_1 : Int32).toNatClampNeg x8) 24 (y4_1 : Int32).toNatClampNeg x11) 25 (y4_1 : Int32).toNatClampNeg x14) 26 (y4_1 : Int32).toNatClampNeg x17) 24) (c 29) (c 30) x3.toInt.toNat x18.toInt from GB_a (T := x3) (a := x7) (b := x10) hz4_0 (by omega) (by omega) tx18 (by have h9 := tx7; omega) (by have h9 := tx10; omega) (Eq.trans (show x8 = c4 29 _ from ex8) (congrFun (hfc0 29 (by decide +kernel)) _)) (Eq.trans (show x11 = c4 30 _ from ex11) (congrFun (hfc0 30 (by decide +kernel)) _))) (show ((i4 27) : Int32).toInt = x3.toInt from by have h50 : x18.toInt = (y4_1.toInt + 1) := tx18; omega) (show GB ((updA (updA (updA (updA c4 23 (y4_1 : Int32).toNatClampNeg x8) 24 (y4_1 : Int32).toNatClampNeg x11) 25 (y4_1 : Int32).toNatClampNeg x14) 26 (y4_1 : Int32).toNatClampNeg x17) 25) ((updA (updA (updA (updA c4 23 (y4_1 : Int32).toNatClampNeg x8) 24 (y4_1 : Int32).toNatClampNeg x11) 25 (y4_1 : Int32).toNatClampNeg x14) 26 (y4_1 : Int32).toNatClampNeg x17) 26) (c 31) (c 32) x3.toInt.toNat x18.toInt from GB_a (T := x3) (a := x13) (b := x16) hz4_2 (by omega) (by omega) tx18 (by have h9 := tx13; omega) (by have h9 := tx16; omega) (Eq.trans (show x14 = c4 31 _ from ex14) (congrFun (hfc0 31 (by decide +kernel)) _)) (Eq.trans (show x17 = c4 32 _ from ex17) (congrFun (hfc0 32 (by decide +kernel)) _))) (by have h50 : x18.toInt = (y4_1.toInt + 1) := tx18; omega) _ _ _ hP hD hS (lv_sub hl [0, 1] rfl)
      exact lp4 _ (upd i 27 x3) q c d (0 : Int32) hI (fr_w hfi (by decide +kernel)) (fr_w hfc (by decide +kernel)) (show 0 ≤ (0 : Int32).toInt ∧ (0 : Int32).toInt ≤ 30 from by have h50 : (0 : Int32).toInt = 0 := (by decide +kernel); have h60 : x3.toInt = ((i 27).toInt - 1) := tx3; omega) (show GB (c 23) (c 24) (c 29) (c 30) x3.toInt.toNat (0 : Int32).toInt from GB_0 (by decide +kernel)) (show (x3 : Int32).toInt = x3.toInt from by have h50 : (0 : Int32).toInt = 0 := (by decide +kernel); have h60 : x3.toInt = ((i 27).toInt - 1) := tx3; omega) (show GB (c 25) (c 26) (c 31) (c 32) x3.toInt.toNat (0 : Int32).toInt from GB_0 (by decide +kernel)) (Nat.lt_succ_self _) _ _ _ hP hD hS (lv_sub hl [0, 1] rfl)
    · have f2 := (ti_eq (a := (i 27).toInt) (b := 0) rfl (by decide +kernel)).mp c2
      refine lv_bipush (v := (-5)) hx hb dX12_back_16 (by decide +kernel) ?_
      exact rw_iret (i, q, c, d) hx hb hr hlocks hS (hK.sub (tys' := []) [] rfl) hP hD dX12_back_18 ⟨trivial, hI, fr_w hfi (by decide +kernel), fr_w hfc (by decide +kernel), (show SJ (c 3) (c 6) (c 9) (c 10) (c 11) (c 13) ((i 2) : Int32).toInt ((i 5) : Int32).toInt ((i 8) : Int32).toInt from hs_S), (show TJ (c 3) (c 6) (c 23) (c 24) (c 29) (c 30) ((i 5) : Int32).toInt ((i 22) : Int32).toInt ((i 27) : Int32).toInt from hs_J), (show (¬ (¬ (i 22).toInt = -9 ∧ ¬ (i 27).toInt = 0) ∧ ((-5) : Int32).toInt = -5) ∨ ((¬ (i 22).toInt = -9 ∧ ¬ (i 27).toInt = 0) ∧ ((-5) : Int32).toInt = (i 27).toInt - 1) from Or.inl ⟨by omega, by decide⟩), (show AsR (¬ (i 22).toInt = -9 ∧ ¬ (i 27).toInt = 0) (GB (c 23) (c 24) (c 29) (c 30) ((i 27).toInt - 1).toNat 30 ∧ GB (c 25) (c 26) (c 31) (c 32) ((i 27).toInt - 1).toNat 30 ∧ ((i 27) : Int32).toInt = (i 27).toInt - 1 ∧ ((i 22) : Int32) = (i 22)) ((c 23) = (c 23) ∧ (c 24) = (c 24) ∧ (c 25) = (c 25) ∧ (c 26) = (c 26) ∧ ((i 27) : Int32) = (i 27) ∧ ((i 22) : Int32) = (i 22)) from Or.inl ⟨by omega, rfl, rfl, rfl, rfl, rfl, rfl⟩)⟩

