set_option maxHeartbeats 4000000 in
set_option maxRecDepth 100000 in
theorem s_X12_cast_e (l : Launch) (D : va_G) (sz : Nat) (o : Nat) (a : Nat → Nat) (t : Nat → ClassId) (i : Nat → Int32) (q : Int64) (c : Nat → Nat → Int32) (d : Nat → Nat → Int64) (s1 : Int32) (n1 : Int32) (hI : mInv i c) : Met l yX12_cast wm_X12_cast ({ frames := 1, cells := 0, slots := 0, locals := 25 }) (va_Pc [.ref o, .int s1, .int n1] (pB D sz (mW o a t i q c d) (mT t))) (va_Qi (fun (r : Int32) (u : MS) => True ∧ mInv u.1 u.2.2.1 ∧ (∀ k, k ∉ ([0, 64] : List Nat) → u.1 k = i k) ∧ (∀ k, k ∉ ([1, 65, 66, 67] : List Nat) → u.2.2.1 k = c k) ∧ ((¬ (1 ≤ s1.toInt ∧ s1.toInt ≤ 5 ∧ n1.toInt ≤ 12) ∧ r.toInt = -1 ∧ (u.1 64).toInt = (i 64).toInt) ∨ (1 ≤ s1.toInt ∧ s1.toInt ≤ 5 ∧ n1.toInt ≤ 12 ∧ 10 ≤ (i 64).toInt ∧ r.toInt = -2 ∧ (u.1 64).toInt = (i 64).toInt) ∨ (1 ≤ s1.toInt ∧ s1.toInt ≤ 5 ∧ n1.toInt ≤ 12 ∧ (i 64).toInt ≤ 9 ∧ n1.toInt < 0 ∧ r.toInt = -3 ∧ (u.1 64).toInt = (i 64).toInt) ∨ (1 ≤ s1.toInt ∧ s1.toInt ≤ 5 ∧ n1.toInt ≤ 12 ∧ (i 64).toInt ≤ 9 ∧ 0 ≤ n1.toInt ∧ r.toInt = (i 64).toInt ∧ (u.1 64).toInt = (i 64).toInt + 1))) (oC D (va_A (mW o a t i q c d) sz) (fun u : MS => mW o a t u.1 u.2.1 u.2.2.1 u.2.2.2) (fun _ => [])) (va_A (mW o a t i q c d) sz)) 0 0 (va_A (mW o a t i q c d) sz) := by
  refine Met.ofW (cc := cX12_cast) (maxL := 4) (ret := (some .int)) (by decide +kernel) rfl ?_
  intro p e s m args below meth cd s₁ B hml hv
  obtain ⟨rfl, hsz, hP, hK, hD0⟩ := hv
  have hx := B.exec
  have hb := B.bytes
  have hr := B.returns
  have hts := atoms_spec (ws := wm_X12_cast) B.pre
  have hown : s.vm.findClass RX12 = some m.cls := findClass_of_methodNamed B.named
  have hlocks := B.notSynchronized
  subst hsz
  have hD := hD0.self (sz := s.heap.size)
  generalize hAe : va_A (mW o a t i q c d) s.heap.size = A at hD ⊢
  have hA : ∀ q : Nat, s.heap.size ≤ q → A q := fun q h => by rw [← hAe]; exact Or.inr h
  have hS : va_S A s.heap s.heap [] := va_S.rf
  have hfi : ∀ k, k ∉ ([] : List Nat) → i k = i k := fun _ _ => rfl
  have hfc : ∀ k, k ∉ ([] : List Nat) → c k = c k := fun _ _ => rfl
  have hl := lv_entry ([.ref o, .int s1, .int n1]) (n := 4) (Nat.le_of_ble_eq_true rfl)
  rw [lg_entry_eq]
  generalize (lg_sl ([.ref o, .int s1, .int n1]) ++ List.replicate (4 - (lg_sl ([.ref o, .int s1, .int n1])).length) Slot.unset).toArray = ls at hl ⊢
  have hl : lv_has ls 4 [(0, .ref o), (1, .int s1), (2, .int n1)] := hl
  have rb64_i : 0 ≤ (i 64).toInt ∧ (i 64).toInt ≤ 10 := hI.1 64
  refine lv_iload_n hx hb dX12_cast_0 rfl (lv_at hl 1 rfl) ?_
  refine lv_i2l (v := s1.toInt64) hx hb dX12_cast_1 rfl ?_
  refine lv_lconst (v := 1) hx hb dX12_cast_2 (by decide +kernel) ?_
  refine lv_ldc2 (v := 5) hx hb hown (hts (.constantLong RX12 170 (5)) (List.mem_cons_of_mem _ (List.mem_append_left _ (List.mem_of_getElem? (i := 0) rfl)))) dX12_cast_3 ?_
  have hPc := hP.sub (ws' := []) [] rfl
  have hKc := hK.sub (tys' := []) [] rfl
  refine ro_calli (va_runS (As := [.long s1.toInt64, .long 1, .long 5]) (rest := []) ⟨hx, hb, hml, hown, hts⟩ (c_X12_in l D s.heap.size s1.toInt64 1 5 s1.toInt 1 5 ((Int32.toInt_toInt64 s1).trans rfl) (by decide +kernel) (by decide +kernel)) (va_cwS 3 hts gm_X12_cast_X12_in rfl rfl rfl (by decide +kernel) ⟨Nat.le_of_ble_eq_true rfl, Nat.le_of_ble_eq_true rfl⟩) (pA_S hKc hPc) rfl rfl hl.1 rfl (lv_room (Nat.le_of_ble_eq_true rfl)) dX12_cast_6 ⟨Nat.le_of_ble_eq_true rfl, Nat.le_of_ble_eq_true rfl⟩) hS hA hP (fun r1 u1 H locs hw1 hP hS => ?_)
  have hw1 : r1 = if (1 ≤ s1.toInt ∧ s1.toInt ≤ 5) then 1 else 0 := hw1
  refine lv_if_eq (tgt := 18) hx hb dX12_cast_9 (by decide +kernel) (fun c2 => ?_) (fun c2 => ?_)
  · have f2 := fl_f hw1 c2
    refine lv_iconst (v := (-1)) hx hb dX12_cast_18 (by decide +kernel) ?_
    exact rw_iret (i, q, c, d) hx hb hr hlocks hS (hK.sub (tys' := []) [] rfl) hP hD dX12_cast_19 ⟨trivial, hI, fr_w hfi (by decide +kernel), fr_w hfc (by decide +kernel), (show (¬ (1 ≤ s1.toInt ∧ s1.toInt ≤ 5 ∧ n1.toInt ≤ 12) ∧ ((-1) : Int32).toInt = -1 ∧ ((i 64) : Int32).toInt = (i 64).toInt) ∨ (1 ≤ s1.toInt ∧ s1.toInt ≤ 5 ∧ n1.toInt ≤ 12 ∧ 10 ≤ (i 64).toInt ∧ ((-1) : Int32).toInt = -2 ∧ ((i 64) : Int32).toInt = (i 64).toInt) ∨ (1 ≤ s1.toInt ∧ s1.toInt ≤ 5 ∧ n1.toInt ≤ 12 ∧ (i 64).toInt ≤ 9 ∧ n1.toInt < 0 ∧ ((-1) : Int32).toInt = -3 ∧ ((i 64) : Int32).toInt = (i 64).toInt) ∨ (1 ≤ s1.toInt ∧ s1.toInt ≤ 5 ∧ n1.toInt ≤ 12 ∧ (i 64).toInt ≤ 9 ∧ 0 ≤ n1.toInt ∧ ((-1) : Int32).toInt = (i 64).toInt ∧ ((i 64) : Int32).toInt = (i 64).toInt + 1) from by have h54 : ((-1) : Int32).toInt = -1 := (by decide +kernel); omega)⟩
  · have f2 := fl_t hw1 c2
    refine lv_iload_n hx hb dX12_cast_12 rfl (lv_at hl 2 rfl) ?_
    refine lv_bipush (v := 12) hx hb dX12_cast_13 (by decide +kernel) ?_
    refine lv_icmp_le (tgt := 20) hx hb dX12_cast_15 (by decide +kernel) (fun c3 => ?_) (fun c3 => ?_)
    · have f3 := (ti_le (a := n1.toInt) (b := 12) rfl (by decide +kernel)).mp c3
      refine lv_aload_n hx hb dX12_cast_20 rfl (lv_at hl 0 rfl) ?_
      refine mget_64 (v := (i 64)) rfl hx hb hts (fun _ h => List.mem_cons_of_mem _ (List.mem_append_right _ h)) hown hK hP (hts (.fieldLink RX12 450 "TalePlayModel" "casts" "I") (List.mem_cons_of_mem _ (List.mem_append_left _ (List.mem_of_getElem? (i := 5) rfl)))) dX12_cast_21 ?_
      refine lv_bipush (v := 10) hx hb dX12_cast_24 (by decide +kernel) ?_
      refine lv_icmp_ne (tgt := 32) hx hb dX12_cast_26 (by decide +kernel) (fun c4 => ?_) (fun c4 => ?_)
      · have f4 := mt (ti_eq (a := (i 64).toInt) (b := 10) rfl (by decide +kernel)).mpr c4
        refine lv_iload_n hx hb dX12_cast_32 rfl (lv_at hl 2 rfl) ?_
        refine lv_if_ge (tgt := 42) hx hb dX12_cast_33 (by decide +kernel) (fun c5 => ?_) (fun c5 => ?_)
        · have f5 := (ti_le (a := 0) (b := n1.toInt) (by decide +kernel) rfl).mp c5
          refine lv_aload_n hx hb dX12_cast_42 rfl (lv_at hl 0 rfl) ?_
          refine mget_65 hx hb hts (fun _ h => List.mem_cons_of_mem _ (List.mem_append_right _ h)) hown hK hP (hts (.fieldLink RX12 139 "TalePlayModel" "castSort" "[I") (List.mem_cons_of_mem _ (List.mem_append_left _ (List.mem_of_getElem? (i := 6) rfl)))) dX12_cast_43 ?_
          refine lv_aload_n hx hb dX12_cast_46 rfl (lv_at hl 0 rfl) ?_
          refine mget_64 (v := (i 64)) rfl hx hb hts (fun _ h => List.mem_cons_of_mem _ (List.mem_append_right _ h)) hown hK hP (hts (.fieldLink RX12 450 "TalePlayModel" "casts" "I") (List.mem_cons_of_mem _ (List.mem_append_left _ (List.mem_of_getElem? (i := 5) rfl)))) dX12_cast_47 ?_
          refine lv_iload_n hx hb dX12_cast_50 rfl (lv_at hl 1 rfl) ?_
          refine mst_65 hx hb hK hP hD hS (vp_in_iff.mpr (by have h9 : (i 64).toInt = (i 64).toInt := rfl; omega)) dX12_cast_51 (fun H locs hP hD hS => ?_)
          have hI := mInv_c hI (k := 65) (j := ((i 64) : Int32).toNatClampNeg) (x := s1) (show 0 ≤ (s1 : Int32).toInt ∧ (s1 : Int32).toInt ≤ 5 from by omega)
          have hfc : ∀ k, k ∉ ([65] : List Nat) → (updA c 65 ((i 64) : Int32).toNatClampNeg s1) k = c k := fr_cz hfc (by decide +kernel) (by decide +kernel)
          refine lv_aload_n hx hb dX12_cast_52 rfl (lv_at hl 0 rfl) ?_
          refine mget_66 hx hb hts (fun _ h => List.mem_cons_of_mem _ (List.mem_append_right _ h)) hown hK hP (hts (.fieldLink RX12 142 "TalePlayModel" "castMany" "[I") (List.mem_cons_of_mem _ (List.mem_append_left _ (List.mem_of_getElem? (i := 7) rfl)))) dX12_cast_53 ?_
          refine lv_aload_n hx hb dX12_cast_56 rfl (lv_at hl 0 rfl) ?_
          refine mget_64 (v := (i 64)) rfl hx hb hts (fun _ h => List.mem_cons_of_mem _ (List.mem_append_right _ h)) hown hK hP (hts (.fieldLink RX12 450 "TalePlayModel" "casts" "I") (List.mem_cons_of_mem _ (List.mem_append_left _ (List.mem_of_getElem? (i := 5) rfl)))) dX12_cast_57 ?_
          refine lv_iload_n hx hb dX12_cast_60 rfl (lv_at hl 2 rfl) ?_
          refine mst_66 hx hb hK hP hD hS (vp_in_iff.mpr (by have h9 : (i 64).toInt = (i 64).toInt := rfl; omega)) dX12_cast_61 (fun H locs hP hD hS => ?_)
          have hI := mInv_c hI (k := 66) (j := ((i 64) : Int32).toNatClampNeg) (x := n1) (show 0 ≤ (n1 : Int32).toInt ∧ (n1 : Int32).toInt ≤ 12 from by omega)
          have hfc : ∀ k, k ∉ ([65, 66] : List Nat) → (updA (updA c 65 ((i 64) : Int32).toNatClampNeg s1) 66 ((i 64) : Int32).toNatClampNeg n1) k = c k := fr_cz hfc (by decide +kernel) (by decide +kernel)
          refine lv_iconst (v := 0) hx hb dX12_cast_62 (by decide +kernel) ?_
          refine lv_istore_n (lv' := [(3, .int 0), (0, .ref o), (1, .int s1), (2, .int n1)]) hx hb dX12_cast_63 rfl hl (by decide +kernel) rfl (fun ls hl => ?_)
          have lp6 : ∀ (fu : Nat) (i6 : Nat → Int32) (q6 : Int64) (c6 : Nat → Nat → Int32) (d6 : Nat → Nat → Int64) (y6_3 : Int32), mInv i6 c6 → (∀ k, k ∉ ([] : List Nat) → i6 k = i k) → (∀ k, k ∉ ([65, 66, 67] : List Nat) → c6 k = c k) → (0 ≤ y6_3.toInt ∧ y6_3.toInt ≤ 12) → (((i6 64) : Int32).toInt = (i 64).toInt) → (12 - y6_3.toInt).toNat < fu → ∀ (H : Heap) (locs : List Loc) (ls : Array Slot), va_P D vwCl (mW o a t i6 q6 c6 d6) H → va_D A (mW o a t i6 q6 c6 d6) → va_S A s.heap H locs → lv_has ls 4 [(3, .int y6_3), (0, .ref o), (1, .int s1), (2, .int n1)] → W p l e (headSpec wm_X12_cast ({ frames := 1, cells := 0, slots := 0, locals := 25 })).room s m ([.ref o, .int s1, .int n1] : List Value).toArray below meth cd H locs 0 0 (MQ below (va_Qi (fun (r : Int32) (u : MS) => True ∧ mInv u.1 u.2.2.1 ∧ (∀ k, k ∉ ([0, 64] : List Nat) → u.1 k = i k) ∧ (∀ k, k ∉ ([1, 65, 66, 67] : List Nat) → u.2.2.1 k = c k) ∧ ((¬ (1 ≤ s1.toInt ∧ s1.toInt ≤ 5 ∧ n1.toInt ≤ 12) ∧ r.toInt = -1 ∧ (u.1 64).toInt = (i 64).toInt) ∨ (1 ≤ s1.toInt ∧ s1.toInt ≤ 5 ∧ n1.toInt ≤ 12 ∧ 10 ≤ (i 64).toInt ∧ r.toInt = -2 ∧ (u.1 64).toInt = (i 64).toInt) ∨ (1 ≤ s1.toInt ∧ s1.toInt ≤ 5 ∧ n1.toInt ≤ 12 ∧ (i 64).toInt ≤ 9 ∧ n1.toInt < 0 ∧ r.toInt = -3 ∧ (u.1 64).toInt = (i 64).toInt) ∨ (1 ≤ s1.toInt ∧ s1.toInt ≤ 5 ∧ n1.toInt ≤ 12 ∧ (i 64).toInt ≤ 9 ∧ 0 ≤ n1.toInt ∧ r.toInt = (i 64).toInt ∧ (u.1 64).toInt = (i 64).toInt + 1))) (oC D A (fun u : MS => mW o a t u.1 u.2.1 u.2.2.1 u.2.2.2) (fun _ => [])) A) ([.ref o, .int s1, .int n1] : List Value).toArray s 0 0 A) (F0 m 64 ls []) := by
            intro fu
            induction fu with
            | zero => intro i6 q6 c6 d6 y6_3 hI hfi hfc hy6_3 hz6_0 hm; exact absurd hm (Nat.not_lt_zero _)
            | succ fu ih =>
              intro i6 q6 c6 d6 y6_3 hI hfi hfc hy6_3 hz6_0 hm H locs ls hP hD hS hl
              have ih6 := ih
              refine lv_iload_n hx hb dX12_cast_64 rfl (lv_at hl 0 rfl) ?_
              refine lv_bipush (v := 12) hx hb dX12_cast_65 (by decide +kernel) ?_
              refine lv_icmp_ge (tgt := 92) hx hb dX12_cast_67 (by decide +kernel) (fun c7 => ?_) (fun c7 => ?_)
              · have f7 := (ti_le (a := 12) (b := y6_3.toInt) (by decide +kernel) rfl).mp c7
                refine lv_aload_n hx hb dX12_cast_92 rfl (lv_at hl 1 rfl) ?_
                refine lv_dup hx hb dX12_cast_93 rfl ?_
                refine mget_64 (v := (i6 64)) rfl hx hb hts (fun _ h => List.mem_cons_of_mem _ (List.mem_append_right _ h)) hown hK hP (hts (.fieldLink RX12 450 "TalePlayModel" "casts" "I") (List.mem_cons_of_mem _ (List.mem_append_left _ (List.mem_of_getElem? (i := 5) rfl)))) dX12_cast_94 ?_
                have rb64_i6 : 0 ≤ (i6 64).toInt ∧ (i6 64).toInt ≤ 10 := hI.1 64
                have re64_i6 : (i6 64).toInt = (i 64).toInt := congrArg Int32.toInt (hfi 64 (by decide +kernel))
                refine lv_iconst (v := 1) hx hb dX12_cast_97 (by decide +kernel) ?_
                refine lv_iadd hx hb dX12_cast_98 ?_
                refine lv_topi (fun x8 ex8 => ?_)
                have tx8 := ti_add (a := (i6 64).toInt) (b := 1) ex8 rfl (by decide +kernel) (by omega) (by omega)
                refine mput_64 hx hb hts (fun _ h => List.mem_cons_of_mem _ (List.mem_append_right _ h)) hown hK hP hD hS (hts (.fieldLink RX12 450 "TalePlayModel" "casts" "I") (List.mem_cons_of_mem _ (List.mem_append_left _ (List.mem_of_getElem? (i := 5) rfl)))) rfl rfl dX12_cast_99 (fun H locs hP hD hS => ?_)
                have hI := mInv_i hI (k := 64) (v := x8) (show 0 ≤ (x8 : Int32).toInt ∧ (x8 : Int32).toInt ≤ 10 from by have h9 : x8.toInt = ((i6 64).toInt + 1) := tx8; omega)
                have hfi : ∀ k, k ∉ ([64] : List Nat) → (upd i6 64 x8) k = i k := fr_iz hfi (by decide +kernel) (by decide +kernel)
                refine lv_aload_n hx hb dX12_cast_102 rfl (lv_at hl 1 rfl) ?_
                refine mget_64 (i := (upd i6 64 x8)) (v := x8) rfl hx hb hts (fun _ h => List.mem_cons_of_mem _ (List.mem_append_right _ h)) hown hK hP (hts (.fieldLink RX12 450 "TalePlayModel" "casts" "I") (List.mem_cons_of_mem _ (List.mem_append_left _ (List.mem_of_getElem? (i := 5) rfl)))) dX12_cast_103 ?_
                refine lv_iconst (v := 1) hx hb dX12_cast_106 (by decide +kernel) ?_
                refine lv_isub hx hb dX12_cast_107 ?_
                refine lv_topi (fun x9 ex9 => ?_)
                have tx9 := ti_sub (a := ((i6 64).toInt + 1)) (b := 1) ex9 tx8 (by decide +kernel) (by omega) (by omega)
                exact rw_iret ((upd i6 64 x8), q6, c6, d6) hx hb hr hlocks hS (hK.sub (tys' := []) [] rfl) hP hD dX12_cast_108 ⟨trivial, hI, fr_w hfi (by decide +kernel), fr_w hfc (by decide +kernel), (show (¬ (1 ≤ s1.toInt ∧ s1.toInt ≤ 5 ∧ n1.toInt ≤ 12) ∧ (x9 : Int32).toInt = -1 ∧ (x8 : Int32).toInt = (i 64).toInt) ∨ (1 ≤ s1.toInt ∧ s1.toInt ≤ 5 ∧ n1.toInt ≤ 12 ∧ 10 ≤ (i 64).toInt ∧ (x9 : Int32).toInt = -2 ∧ (x8 : Int32).toInt = (i 64).toInt) ∨ (1 ≤ s1.toInt ∧ s1.toInt ≤ 5 ∧ n1.toInt ≤ 12 ∧ (i 64).toInt ≤ 9 ∧ n1.toInt < 0 ∧ (x9 : Int32).toInt = -3 ∧ (x8 : Int32).toInt = (i 64).toInt) ∨ (1 ≤ s1.toInt ∧ s1.toInt ≤ 5 ∧ n1.toInt ≤ 12 ∧ (i 64).toInt ≤ 9 ∧ 0 ≤ n1.toInt ∧ (x9 : Int32).toInt = (i 64).toInt ∧ (x8 : Int32).toInt = (i 64).toInt + 1) from by have h50 : x8.toInt = ((i6 64).toInt + 1) := tx8; have h51 : x8.toInt = ((i6 64).toInt + 1) := tx8; have h52 : x8.toInt = ((i6 64).toInt + 1) := tx8; have h53 : x8.toInt = ((i6 64).toInt + 1) := tx8; have h54 : x9.toInt = (((i6 64).toInt + 1) - 1) := tx9; omega)⟩
              · have f7 := mt (ti_le (a := 12) (b := y6_3.toInt) (by decide +kernel) rfl).mpr c7
                refine lv_aload_n hx hb dX12_cast_70 rfl (lv_at hl 1 rfl) ?_
                refine mget_67 hx hb hts (fun _ h => List.mem_cons_of_mem _ (List.mem_append_right _ h)) hown hK hP (hts (.fieldLink RX12 145 "TalePlayModel" "roles" "[I") (List.mem_cons_of_mem _ (List.mem_append_left _ (List.mem_of_getElem? (i := 8) rfl)))) dX12_cast_71 ?_
                refine lv_bipush (v := 12) hx hb dX12_cast_74 (by decide +kernel) ?_
                refine lv_aload_n hx hb dX12_cast_76 rfl (lv_at hl 1 rfl) ?_
                refine mget_64 (v := (i6 64)) rfl hx hb hts (fun _ h => List.mem_cons_of_mem _ (List.mem_append_right _ h)) hown hK hP (hts (.fieldLink RX12 450 "TalePlayModel" "casts" "I") (List.mem_cons_of_mem _ (List.mem_append_left _ (List.mem_of_getElem? (i := 5) rfl)))) dX12_cast_77 ?_
                have rb64_i6 : 0 ≤ (i6 64).toInt ∧ (i6 64).toInt ≤ 10 := hI.1 64
                have re64_i6 : (i6 64).toInt = (i 64).toInt := congrArg Int32.toInt (hfi 64 (by decide +kernel))
                refine lv_imul hx hb dX12_cast_80 ?_
                refine lv_topi (fun x10 ex10 => ?_)
                have tx10 := ti_mul (a := 12) (b := (i6 64).toInt) ex10 (by decide +kernel) rfl (by omega) (by omega)
                refine lv_iload_n hx hb dX12_cast_81 rfl (lv_at hl 0 rfl) ?_
                refine lv_iadd hx hb dX12_cast_82 ?_
                refine lv_topi (fun x11 ex11 => ?_)
                have tx11 := ti_add (a := (12 * (i6 64).toInt)) (b := y6_3.toInt) ex11 tx10 rfl (by omega) (by omega)
                refine lv_bipush (v := (-9)) hx hb dX12_cast_83 (by decide +kernel) ?_
                refine mst_67 hx hb hK hP hD hS (vp_in_iff.mpr (by have h9 : x11.toInt = ((12 * (i6 64).toInt) + y6_3.toInt) := tx11; omega)) dX12_cast_85 (fun H locs hP hD hS => ?_)
                have hI := mInv_c hI (k := 67) (j := (x11 : Int32).toNatClampNeg) (x := (-9)) (show ((-9) : Int32).toInt = -9 ∨ (0 ≤ ((-9) : Int32).toInt ∧ ((-9) : Int32).toInt ≤ 29) from by have h9 : ((-9) : Int32).toInt = -9 := (by decide +kernel); omega)
                have hfc := fr_c hfc (k := 67) (j := (x11 : Int32).toNatClampNeg) (x := (-9)) (by decide +kernel)
                obtain ⟨x12, ex12⟩ : ∃ y : Int32, y = y6_3 + 1 := ⟨_, rfl⟩
                have tx12 := ti_add (a := y6_3.toInt) (b := 1) ex12 rfl (by decide +kernel) (by omega) (by omega)
                refine lv_iinc (v := x12) (lv' := [(3, .int x12), (0, .ref o), (1, .int s1), (2, .int n1)]) hx hb dX12_cast_86 hl (k := 0) rfl (by rw [ex12]; rfl) (by decide +kernel) rfl (fun ls hl => ?_)
                refine lv_goto (tgt := 64) hx hb dX12_cast_89 (by decide +kernel) ?_
                exact ih6 i6 q6 (updA c6 67 (x11 : Int32).toNatClampNeg (-9)) d6 x12 hI (fr_w hfi (by decide +kernel)) (fr_w hfc (by decide +kernel)) (show 0 ≤ x12.toInt ∧ x12.toInt ≤ 12 from by have h50 : x12.toInt = (y6_3.toInt + 1) := tx12; omega) (show ((i6 64) : Int32).toInt = (i 64).toInt from by have h50 : x12.toInt = (y6_3.toInt + 1) := tx12; omega) (by have h50 : x12.toInt = (y6_3.toInt + 1) := tx12; omega) _ _ _ hP hD hS (lv_sub hl [0, 1, 2, 3] rfl)
          exact lp6 _ i q (updA (updA c 65 ((i 64) : Int32).toNatClampNeg s1) 66 ((i 64) : Int32).toNatClampNeg n1) d (0 : Int32) hI (fr_w hfi (by decide +kernel)) (fr_w hfc (by decide +kernel)) (show 0 ≤ (0 : Int32).toInt ∧ (0 : Int32).toInt ≤ 12 from by have h50 : (0 : Int32).toInt = 0 := (by decide +kernel); omega) (show ((i 64) : Int32).toInt = (i 64).toInt from by have h50 : (0 : Int32).toInt = 0 := (by decide +kernel); omega) (Nat.lt_succ_self _) _ _ _ hP hD hS (lv_sub hl [0, 1, 2, 3] rfl)
        · have f5 := mt (ti_le (a := 0) (b := n1.toInt) (by decide +kernel) rfl).mpr c5
          refine lv_aload_n hx hb dX12_cast_36 rfl (lv_at hl 0 rfl) ?_
          refine lv_iconst (v := 5) hx hb dX12_cast_37 (by decide +kernel) ?_
          refine al_calli (va_runV (As := [.int 5]) (rest := []) ⟨hx, hb, hml, hown, hts⟩ (s_X12_meets l D H.size o a t i q c d 5 hI (show 1 ≤ 5 ∧ 5 ≤ 6 from by have h90 : (5 : Int32).toInt = 5 := (by decide +kernel); omega)) (cwV 1 hts gm_X12_cast_X12_meets rfl rfl rfl (by decide +kernel) ⟨Nat.le_of_ble_eq_true rfl, Nat.le_of_ble_eq_true rfl⟩) (pB_V hK hP hD (ci := 12) (q0 := 0) rfl rfl) rfl rfl hl.1 rfl (lv_room (Nat.le_of_ble_eq_true rfl)) dX12_cast_38 ⟨Nat.le_of_ble_eq_true rfl, Nat.le_of_ble_eq_true rfl⟩) hS hA hP hD (fun r13 u13 H locs hw13 hP hD hS => ?_)
          obtain ⟨i13, q13, c13, d13⟩ := u13
          have hw13 : r13 = (-3) ∧ mInv i13 c13 ∧ (∀ k, k ∉ ([0] : List Nat) → i13 k = i k) ∧ (∀ k, k ∉ ([1] : List Nat) → c13 k = c k) := hw13
          obtain ⟨hw13, hI, hei13, hec13⟩ := hw13
          have hfi : ∀ k, k ∉ ([0] : List Nat) → i13 k = i k := fr_z hfi hei13 (by decide +kernel) (by decide +kernel)
          have hfc : ∀ k, k ∉ ([1] : List Nat) → c13 k = c k := fr_z hfc hec13 (by decide +kernel) (by decide +kernel)
          have hP : va_P D vwCl (mW o a t i13 q13 c13 d13) H := hP
          have hD : va_D A (mW o a t i13 q13 c13 d13) := hD
          have hw13 : r13 = (-3) := hw13
          subst hw13
          have hmd9 : (i13 64).toInt = (i 64).toInt := by rw [show i13 64 = i 64 from hfi 64 (by decide +kernel)]
          exact rw_iret (i13, q13, c13, d13) hx hb hr hlocks hS (hK.sub (tys' := []) [] rfl) hP hD dX12_cast_41 ⟨trivial, hI, fr_w hfi (by decide +kernel), fr_w hfc (by decide +kernel), (show (¬ (1 ≤ s1.toInt ∧ s1.toInt ≤ 5 ∧ n1.toInt ≤ 12) ∧ ((-3) : Int32).toInt = -1 ∧ ((i13 64) : Int32).toInt = (i 64).toInt) ∨ (1 ≤ s1.toInt ∧ s1.toInt ≤ 5 ∧ n1.toInt ≤ 12 ∧ 10 ≤ (i 64).toInt ∧ ((-3) : Int32).toInt = -2 ∧ ((i13 64) : Int32).toInt = (i 64).toInt) ∨ (1 ≤ s1.toInt ∧ s1.toInt ≤ 5 ∧ n1.toInt ≤ 12 ∧ (i 64).toInt ≤ 9 ∧ n1.toInt < 0 ∧ ((-3) : Int32).toInt = -3 ∧ ((i13 64) : Int32).toInt = (i 64).toInt) ∨ (1 ≤ s1.toInt ∧ s1.toInt ≤ 5 ∧ n1.toInt ≤ 12 ∧ (i 64).toInt ≤ 9 ∧ 0 ≤ n1.toInt ∧ ((-3) : Int32).toInt = (i 64).toInt ∧ ((i13 64) : Int32).toInt = (i 64).toInt + 1) from by have h54 : ((-3) : Int32).toInt = -3 := (by decide +kernel); omega)⟩
      · have f4 := (ti_eq (a := (i 64).toInt) (b := 10) rfl (by decide +kernel)).mp c4
        refine lv_bipush (v := (-2)) hx hb dX12_cast_29 (by decide +kernel) ?_
        exact rw_iret (i, q, c, d) hx hb hr hlocks hS (hK.sub (tys' := []) [] rfl) hP hD dX12_cast_31 ⟨trivial, hI, fr_w hfi (by decide +kernel), fr_w hfc (by decide +kernel), (show (¬ (1 ≤ s1.toInt ∧ s1.toInt ≤ 5 ∧ n1.toInt ≤ 12) ∧ ((-2) : Int32).toInt = -1 ∧ ((i 64) : Int32).toInt = (i 64).toInt) ∨ (1 ≤ s1.toInt ∧ s1.toInt ≤ 5 ∧ n1.toInt ≤ 12 ∧ 10 ≤ (i 64).toInt ∧ ((-2) : Int32).toInt = -2 ∧ ((i 64) : Int32).toInt = (i 64).toInt) ∨ (1 ≤ s1.toInt ∧ s1.toInt ≤ 5 ∧ n1.toInt ≤ 12 ∧ (i 64).toInt ≤ 9 ∧ n1.toInt < 0 ∧ ((-2) : Int32).toInt = -3 ∧ ((i 64) : Int32).toInt = (i 64).toInt) ∨ (1 ≤ s1.toInt ∧ s1.toInt ≤ 5 ∧ n1.toInt ≤ 12 ∧ (i 64).toInt ≤ 9 ∧ 0 ≤ n1.toInt ∧ ((-2) : Int32).toInt = (i 64).toInt ∧ ((i 64) : Int32).toInt = (i 64).toInt + 1) from by have h54 : ((-2) : Int32).toInt = -2 := (by decide +kernel); omega)⟩
    · have f3 := mt (ti_le (a := n1.toInt) (b := 12) rfl (by decide +kernel)).mpr c3
      refine lv_iconst (v := (-1)) hx hb dX12_cast_18 (by decide +kernel) ?_
      exact rw_iret (i, q, c, d) hx hb hr hlocks hS (hK.sub (tys' := []) [] rfl) hP hD dX12_cast_19 ⟨trivial, hI, fr_w hfi (by decide +kernel), fr_w hfc (by decide +kernel), (show (¬ (1 ≤ s1.toInt ∧ s1.toInt ≤ 5 ∧ n1.toInt ≤ 12) ∧ ((-1) : Int32).toInt = -1 ∧ ((i 64) : Int32).toInt = (i 64).toInt) ∨ (1 ≤ s1.toInt ∧ s1.toInt ≤ 5 ∧ n1.toInt ≤ 12 ∧ 10 ≤ (i 64).toInt ∧ ((-1) : Int32).toInt = -2 ∧ ((i 64) : Int32).toInt = (i 64).toInt) ∨ (1 ≤ s1.toInt ∧ s1.toInt ≤ 5 ∧ n1.toInt ≤ 12 ∧ (i 64).toInt ≤ 9 ∧ n1.toInt < 0 ∧ ((-1) : Int32).toInt = -3 ∧ ((i 64) : Int32).toInt = (i 64).toInt) ∨ (1 ≤ s1.toInt ∧ s1.toInt ≤ 5 ∧ n1.toInt ≤ 12 ∧ (i 64).toInt ≤ 9 ∧ 0 ≤ n1.toInt ∧ ((-1) : Int32).toInt = (i 64).toInt ∧ ((i 64) : Int32).toInt = (i 64).toInt + 1) from by have h54 : ((-1) : Int32).toInt = -1 := (by decide +kernel); omega)⟩

def wm_X10_changeStandard_e : List Cond := .code yX10_changeStandard cX10_changeStandard 5 (some .int) :: (([.fieldLink RX10 18 "TalePlay$World" "standards" "[I"] : List Cond) ++ wsX100)
set_option maxHeartbeats 4000000 in
set_option maxRecDepth 100000 in
theorem x_X10_changeStandard_e (l : Launch) (D : va_G) (sz : Nat) (sk : Value) (a : Nat → Nat) (t : Nat → ClassId) (i : Nat → Int32) (q : Int64) (c : Nat → Nat → Int32) (d : Nat → Nat → Int64) (k1 : Int32) (f : Int32) (v1 : Int32) (hI : xInv i c) (hk1 : 0 ≤ k1.toInt ∧ k1.toInt ≤ 23) (hf : 0 ≤ f.toInt ∧ f.toInt ≤ 5) (hv : v1.toInt = -9 ∨ (0 ≤ v1.toInt ∧ v1.toInt ≤ 1)) : Met l yX10_changeStandard wm_X10_changeStandard_e ({ frames := 0, cells := 0, slots := 0, locals := 0 }) (va_Pc [.ref (a 104), .int k1, .int f, .int v1] (yB (a 186) D sz (xwT sk a t i q c d) (xtT t))) (va_Qi (fun (r : Int32) (u : MS) => True ∧ xInv u.1 u.2.2.1 ∧ (∀ k, k ∉ ([] : List Nat) → u.1 k = i k) ∧ (∀ k, k ∉ ([107] : List Nat) → u.2.2.1 k = c k) ∧ (r = (c 107 (k1.toInt * 6 + f.toInt).toNat)) ∧ ((u.2.2.1 107) = upd (c 107) (k1.toInt * 6 + f.toInt).toNat v1)) (oC D (va_A (xwT sk a t i q c d) sz) (fun u : MS => xwT sk a t u.1 u.2.1 u.2.2.1 u.2.2.2) (fun _ => [])) (va_A (xwT sk a t i q c d) sz)) 0 0 (va_A (xwT sk a t i q c d) sz) := by
  refine Met.ofW (cc := cX10_changeStandard) (maxL := 5) (ret := (some .int)) (by decide +kernel) rfl ?_
  intro p e s m args below meth cd s₁ B hml hv
  obtain ⟨rfl, ⟨hsz, hP, hK, hD0⟩, hN, hZ, hBW⟩ := hv
  have hx := B.exec
  have hb := B.bytes
  have hr := B.returns
  have hts := atoms_spec (ws := wm_X10_changeStandard_e) B.pre
  have hown : s.vm.findClass RX10 = some m.cls := findClass_of_methodNamed B.named
  have hlocks := B.notSynchronized
  subst hsz
  have hD := hD0.self (sz := s.heap.size)
  have hZ := xZ_A hZ hP hBW
  generalize hAe : va_A (xwT sk a t i q c d) s.heap.size = A at hD hZ ⊢
  have hA : ∀ q : Nat, s.heap.size ≤ q → A q := fun q h => by rw [← hAe]; exact Or.inr h
  have hS : va_S A s.heap s.heap [] := va_S.rf
  have hfi : ∀ k, k ∉ ([] : List Nat) → i k = i k := fun _ _ => rfl
  have hfc : ∀ k, k ∉ ([] : List Nat) → c k = c k := fun _ _ => rfl
  have hl := lv_entry ([.ref (a 104), .int k1, .int f, .int v1]) (n := 5) (Nat.le_of_ble_eq_true rfl)
  rw [lg_entry_eq]
  generalize (lg_sl ([.ref (a 104), .int k1, .int f, .int v1]) ++ List.replicate (5 - (lg_sl ([.ref (a 104), .int k1, .int f, .int v1])).length) Slot.unset).toArray = ls at hl ⊢
  have hl : lv_has ls 5 [(0, .ref (a 104)), (1, .int k1), (2, .int f), (3, .int v1)] := hl
  refine lv_aload_n hx hb dX10_changeStandard_0 rfl (lv_at hl 0 rfl) ?_
  refine xgT_W_standards hx hb hts (fun _ h => List.mem_cons_of_mem _ (List.mem_append_right _ h)) hown hK hP (hts (.fieldLink RX10 18 "TalePlay$World" "standards" "[I") (List.mem_cons_of_mem _ (List.mem_append_left _ (List.mem_of_getElem? (i := 0) rfl)))) dX10_changeStandard_1 ?_
  refine lv_iload_n hx hb dX10_changeStandard_4 rfl (lv_at hl 1 rfl) ?_
  refine lv_bipush (v := 6) hx hb dX10_changeStandard_5 (by decide +kernel) ?_
  refine lv_imul hx hb dX10_changeStandard_7 ?_
  refine lv_topi (fun x1 ex1 => ?_)
  have tx1 := ti_mul (a := k1.toInt) (b := 6) ex1 rfl (by decide +kernel) (by omega) (by omega)
  refine lv_iload_n hx hb dX10_changeStandard_8 rfl (lv_at hl 2 rfl) ?_
  refine lv_iadd hx hb dX10_changeStandard_9 ?_
  refine lv_topi (fun x2 ex2 => ?_)
  have tx2 := ti_add (a := (k1.toInt * 6)) (b := f.toInt) ex2 tx1 rfl (by omega) (by omega)
  refine xlT_107 hx hb hK hP (vp_in_iff.mpr (by have h9 : x2.toInt = ((k1.toInt * 6) + f.toInt) := tx2; omega)) dX10_changeStandard_10 (fun x3 ex3 => ?_)
  have rx3 : x3.toInt = -9 ∨ (0 ≤ x3.toInt ∧ x3.toInt ≤ 1) := by rw [ex3]; exact hI.2 107 _
  refine lv_istore (lv' := [(4, .int x3), (0, .ref (a 104)), (1, .int k1), (2, .int f), (3, .int v1)]) hx hb dX10_changeStandard_11 hl (by decide +kernel) rfl (fun ls hl => ?_)
  refine lv_aload_n hx hb dX10_changeStandard_13 rfl (lv_at hl 1 rfl) ?_
  refine xgT_W_standards hx hb hts (fun _ h => List.mem_cons_of_mem _ (List.mem_append_right _ h)) hown hK hP (hts (.fieldLink RX10 18 "TalePlay$World" "standards" "[I") (List.mem_cons_of_mem _ (List.mem_append_left _ (List.mem_of_getElem? (i := 0) rfl)))) dX10_changeStandard_14 ?_
  refine lv_iload_n hx hb dX10_changeStandard_17 rfl (lv_at hl 2 rfl) ?_
  refine lv_bipush (v := 6) hx hb dX10_changeStandard_18 (by decide +kernel) ?_
  refine lv_imul hx hb dX10_changeStandard_20 ?_
  refine lv_topi (fun x4 ex4 => ?_)
  have tx4 := ti_mul (a := k1.toInt) (b := 6) ex4 rfl (by decide +kernel) (by omega) (by omega)
  refine lv_iload_n hx hb dX10_changeStandard_21 rfl (lv_at hl 3 rfl) ?_
  refine lv_iadd hx hb dX10_changeStandard_22 ?_
  refine lv_topi (fun x5 ex5 => ?_)
  have tx5 := ti_add (a := (k1.toInt * 6)) (b := f.toInt) ex5 tx4 rfl (by omega) (by omega)
  refine lv_iload_n hx hb dX10_changeStandard_23 rfl (lv_at hl 4 rfl) ?_
  refine xsT_107 hx hb hK hP hD hS (vp_in_iff.mpr (by have h9 : x5.toInt = ((k1.toInt * 6) + f.toInt) := tx5; omega)) dX10_changeStandard_24 (fun H locs hP hD hS => ?_)
  have hI := xInv_c hI (k := 107) (j := (x5 : Int32).toNatClampNeg) (x := v1) (show (v1 : Int32).toInt = -9 ∨ (0 ≤ (v1 : Int32).toInt ∧ (v1 : Int32).toInt ≤ 1) from by omega)
  have hfc : ∀ k, k ∉ ([107] : List Nat) → (updA c 107 (x5 : Int32).toNatClampNeg v1) k = c k := fr_cz hfc (by decide +kernel) (by decide +kernel)
  refine lv_iload hx hb dX10_changeStandard_25 (lv_at hl 0 rfl) ?_
  exact rw_iret (i, q, (updA c 107 (x5 : Int32).toNatClampNeg v1), d) hx hb hr hlocks hS (hK.sub (tys' := []) [] rfl) hP hD dX10_changeStandard_27 ⟨trivial, hI, fr_w hfi (by decide +kernel), fr_w hfc (by decide +kernel), (show (x3 : Int32) = (c 107 (k1.toInt * 6 + f.toInt).toNat) from (ix_n (f := c 107) (s := x2) (show (x2 : Int32).toInt = k1.toInt * 6 + f.toInt from by omega) ex3).symm), (show ((updA c 107 (x5 : Int32).toNatClampNeg v1) 107) = upd (c 107) (k1.toInt * 6 + f.toInt).toNat v1 from by show upd (c 107) (x5 : Int32).toNatClampNeg v1 = _; rw [cl_t (show (x5 : Int32).toInt = (k1.toInt * 6 + f.toInt) from by omega)])⟩

def wm_X11_standard_e : List Cond := .code yX11_standard cX11_standard 4 (some .int) :: ((([.fieldLink RX11 10 "TalePlay" "world" "LTalePlay$World;", .methodLink RX11 80 yX10_hasKind, .instanceMethod yX10_hasKind, .selects RX10 yX10_hasKind yX10_hasKind, .initialized RX10, .code yX10_hasKind cX10_hasKind 2 (some .boolean), .fieldLink RX10 33 "TalePlay$World" "kinds" "I", .methodLink RX11 91 yX11_isBelow, .static yX11_isBelow, .initialized RX11, .code yX11_isBelow cX11_isBelow 2 (some .boolean), .fieldLink RX11 46 "TalePlay" "tale" "LTalePlay$Tale;", .methodLink RX11 95 yX9_end, .instanceMethod yX9_end, .selects RX9 yX9_end yX9_end, .initialized RX9] : List Cond) ++ ([.code yX9_end cX9_end 1 none, .fieldLink RX9 72 "TalePlay$Tale" "there" "Z", .fieldLink RX9 77 "TalePlay$Tale" "turns" "I", .methodLink RX11 98 yX10_changeStandard, .instanceMethod yX10_changeStandard, .selects RX10 yX10_changeStandard yX10_changeStandard, .code yX10_changeStandard cX10_changeStandard 5 (some .int), .fieldLink RX10 18 "TalePlay$World" "standards" "[I"] : List Cond)) ++ wsX110 ++ wsX100 ++ wsX90)
set_option maxRecDepth 20000 in
theorem gm_X11_standard_e_X10_hasKind_80 : GoodIn wm_X11_standard_e (wsV RX11 80 RX10 yX10_hasKind wm_X10_hasKind) := goodIn_w (List.forall_mem_append.mpr ⟨List.forall_mem_cons.mpr ⟨List.mem_cons_of_mem _ (List.mem_append_left _ (List.mem_append_left _ (List.mem_append_left _ (List.mem_append_left _ (List.mem_of_getElem? (i := 1) rfl))))), List.forall_mem_cons.mpr ⟨List.mem_cons_of_mem _ (List.mem_append_left _ (List.mem_append_left _ (List.mem_append_left _ (List.mem_append_left _ (List.mem_of_getElem? (i := 2) rfl))))), List.forall_mem_cons.mpr ⟨List.mem_cons_of_mem _ (List.mem_append_left _ (List.mem_append_left _ (List.mem_append_left _ (List.mem_append_left _ (List.mem_of_getElem? (i := 3) rfl))))), List.forall_mem_cons.mpr ⟨List.mem_cons_of_mem _ (List.mem_append_left _ (List.mem_append_left _ (List.mem_append_left _ (List.mem_append_left _ (List.mem_of_getElem? (i := 4) rfl))))), (fun _ h => absurd h List.not_mem_nil)⟩⟩⟩⟩, List.forall_mem_cons.mpr ⟨List.mem_cons_of_mem _ (List.mem_append_left _ (List.mem_append_left _ (List.mem_append_left _ (List.mem_append_left _ (List.mem_of_getElem? (i := 5) rfl))))), List.forall_mem_append.mpr ⟨List.forall_mem_cons.mpr ⟨List.mem_cons_of_mem _ (List.mem_append_left _ (List.mem_append_left _ (List.mem_append_left _ (List.mem_append_left _ (List.mem_of_getElem? (i := 6) rfl))))), (fun _ h => absurd h List.not_mem_nil)⟩, (fun _ h => List.mem_cons_of_mem _ (List.mem_append_left _ (List.mem_append_right _ h)))⟩⟩⟩) (by decide +kernel)
set_option maxRecDepth 20000 in
theorem gm_X11_standard_e_X11_isBelow_91 : GoodIn wm_X11_standard_e (va_wsS RX11 91 yX11_isBelow wm_X11_isBelow) := goodIn_w (List.forall_mem_append.mpr ⟨List.forall_mem_cons.mpr ⟨List.mem_cons_of_mem _ (List.mem_append_left _ (List.mem_append_left _ (List.mem_append_left _ (List.mem_append_left _ (List.mem_of_getElem? (i := 7) rfl))))), List.forall_mem_cons.mpr ⟨List.mem_cons_of_mem _ (List.mem_append_left _ (List.mem_append_left _ (List.mem_append_left _ (List.mem_append_left _ (List.mem_of_getElem? (i := 8) rfl))))), List.forall_mem_cons.mpr ⟨List.mem_cons_of_mem _ (List.mem_append_left _ (List.mem_append_left _ (List.mem_append_left _ (List.mem_append_left _ (List.mem_of_getElem? (i := 9) rfl))))), (fun _ h => absurd h List.not_mem_nil)⟩⟩⟩, List.forall_mem_cons.mpr ⟨List.mem_cons_of_mem _ (List.mem_append_left _ (List.mem_append_left _ (List.mem_append_left _ (List.mem_append_left _ (List.mem_of_getElem? (i := 10) rfl))))), (fun _ h => absurd h List.not_mem_nil)⟩⟩) (by decide +kernel)
set_option maxRecDepth 20000 in
theorem gm_X11_standard_e_X9_end_95 : GoodIn wm_X11_standard_e (wsV RX11 95 RX9 yX9_end wm_X9_end) := goodIn_w (List.forall_mem_append.mpr ⟨List.forall_mem_cons.mpr ⟨List.mem_cons_of_mem _ (List.mem_append_left _ (List.mem_append_left _ (List.mem_append_left _ (List.mem_append_left _ (List.mem_of_getElem? (i := 12) rfl))))), List.forall_mem_cons.mpr ⟨List.mem_cons_of_mem _ (List.mem_append_left _ (List.mem_append_left _ (List.mem_append_left _ (List.mem_append_left _ (List.mem_of_getElem? (i := 13) rfl))))), List.forall_mem_cons.mpr ⟨List.mem_cons_of_mem _ (List.mem_append_left _ (List.mem_append_left _ (List.mem_append_left _ (List.mem_append_left _ (List.mem_of_getElem? (i := 14) rfl))))), List.forall_mem_cons.mpr ⟨List.mem_cons_of_mem _ (List.mem_append_left _ (List.mem_append_left _ (List.mem_append_left _ (List.mem_append_left _ (List.mem_of_getElem? (i := 15) rfl))))), (fun _ h => absurd h List.not_mem_nil)⟩⟩⟩⟩, List.forall_mem_cons.mpr ⟨List.mem_cons_of_mem _ (List.mem_append_left _ (List.mem_append_left _ (List.mem_append_left _ (List.mem_append_right _ (List.mem_of_getElem? (i := 0) rfl))))), List.forall_mem_append.mpr ⟨List.forall_mem_cons.mpr ⟨List.mem_cons_of_mem _ (List.mem_append_left _ (List.mem_append_left _ (List.mem_append_left _ (List.mem_append_right _ (List.mem_of_getElem? (i := 1) rfl))))), List.forall_mem_cons.mpr ⟨List.mem_cons_of_mem _ (List.mem_append_left _ (List.mem_append_left _ (List.mem_append_left _ (List.mem_append_right _ (List.mem_of_getElem? (i := 2) rfl))))), (fun _ h => absurd h List.not_mem_nil)⟩⟩, (fun _ h => List.mem_cons_of_mem _ (List.mem_append_right _ h))⟩⟩⟩) (by decide +kernel)
set_option maxRecDepth 20000 in
theorem gm_X11_standard_e_X10_changeStandard_e_98 : GoodIn wm_X11_standard_e (wsV RX11 98 RX10 yX10_changeStandard wm_X10_changeStandard_e) := goodIn_w (List.forall_mem_append.mpr ⟨List.forall_mem_cons.mpr ⟨List.mem_cons_of_mem _ (List.mem_append_left _ (List.mem_append_left _ (List.mem_append_left _ (List.mem_append_right _ (List.mem_of_getElem? (i := 3) rfl))))), List.forall_mem_cons.mpr ⟨List.mem_cons_of_mem _ (List.mem_append_left _ (List.mem_append_left _ (List.mem_append_left _ (List.mem_append_right _ (List.mem_of_getElem? (i := 4) rfl))))), List.forall_mem_cons.mpr ⟨List.mem_cons_of_mem _ (List.mem_append_left _ (List.mem_append_left _ (List.mem_append_left _ (List.mem_append_right _ (List.mem_of_getElem? (i := 5) rfl))))), List.forall_mem_cons.mpr ⟨List.mem_cons_of_mem _ (List.mem_append_left _ (List.mem_append_left _ (List.mem_append_left _ (List.mem_append_left _ (List.mem_of_getElem? (i := 4) rfl))))), (fun _ h => absurd h List.not_mem_nil)⟩⟩⟩⟩, List.forall_mem_cons.mpr ⟨List.mem_cons_of_mem _ (List.mem_append_left _ (List.mem_append_left _ (List.mem_append_left _ (List.mem_append_right _ (List.mem_of_getElem? (i := 6) rfl))))), List.forall_mem_append.mpr ⟨List.forall_mem_cons.mpr ⟨List.mem_cons_of_mem _ (List.mem_append_left _ (List.mem_append_left _ (List.mem_append_left _ (List.mem_append_right _ (List.mem_of_getElem? (i := 7) rfl))))), (fun _ h => absurd h List.not_mem_nil)⟩, (fun _ h => List.mem_cons_of_mem _ (List.mem_append_left _ (List.mem_append_right _ h)))⟩⟩⟩) (by decide +kernel)
set_option maxHeartbeats 4000000 in
set_option maxRecDepth 100000 in
theorem x_X11_standard_e (l : Launch) (D : va_G) (sz : Nat) (sk : Value) (a : Nat → Nat) (t : Nat → ClassId) (i : Nat → Int32) (q : Int64) (c : Nat → Nat → Int32) (d : Nat → Nat → Int64) (k1 : Int32) (f : Int32) (v1 : Int32) (hI : xInv i c) : Met l yX11_standard wm_X11_standard_e ({ frames := 1, cells := 0, slots := 0, locals := 24 }) (va_Pc [.ref (a 100), .int k1, .int f, .int v1] (yB (a 186) D sz (xwT sk a t i q c d) (xtT t))) (va_Qi (fun (r : Int32) (u : MS) => True ∧ xInv u.1 u.2.2.1 ∧ (∀ k, k ∉ ([146, 148] : List Nat) → u.1 k = i k) ∧ (∀ k, k ∉ ([107] : List Nat) → u.2.2.1 k = c k) ∧ (xEn (i 146) (i 148) (u.1 146) (u.1 148)) ∧ (StR (c 107) k1 f v1 (i 110).toInt r) ∧ (StU (c 107) (u.2.2.1 107) k1 f v1 (i 110).toInt) ∧ (EnW (¬ StB k1 f v1 (i 110).toInt) (i 146) (i 148) (u.1 146) (u.1 148))) (oC D (va_A (xwT sk a t i q c d) sz) (fun u : MS => xwT sk a t u.1 u.2.1 u.2.2.1 u.2.2.2) (fun _ => [])) (va_A (xwT sk a t i q c d) sz)) 0 0 (va_A (xwT sk a t i q c d) sz) := by
  refine Met.ofW (cc := cX11_standard) (maxL := 4) (ret := (some .int)) (by decide +kernel) rfl ?_
  intro p e s m args below meth cd s₁ B hml hv
  obtain ⟨rfl, ⟨hsz, hP, hK, hD0⟩, hN, hZ, hBW⟩ := hv
  have hx := B.exec
  have hb := B.bytes
  have hr := B.returns
  have hts := atoms_spec (ws := wm_X11_standard_e) B.pre
  have hown : s.vm.findClass RX11 = some m.cls := findClass_of_methodNamed B.named
  have hlocks := B.notSynchronized
  subst hsz
  have hD := hD0.self (sz := s.heap.size)
  have hZ := xZ_A hZ hP hBW
  generalize hAe : va_A (xwT sk a t i q c d) s.heap.size = A at hD hZ ⊢
  have hA : ∀ q : Nat, s.heap.size ≤ q → A q := fun q h => by rw [← hAe]; exact Or.inr h
  have hS : va_S A s.heap s.heap [] := va_S.rf
  have hfi : ∀ k, k ∉ ([] : List Nat) → i k = i k := fun _ _ => rfl
  have hfc : ∀ k, k ∉ ([] : List Nat) → c k = c k := fun _ _ => rfl
  have hl := lv_entry ([.ref (a 100), .int k1, .int f, .int v1]) (n := 4) (Nat.le_of_ble_eq_true rfl)
  rw [lg_entry_eq]
  generalize (lg_sl ([.ref (a 100), .int k1, .int f, .int v1]) ++ List.replicate (4 - (lg_sl ([.ref (a 100), .int k1, .int f, .int v1])).length) Slot.unset).toArray = ls at hl ⊢
  have hl : lv_has ls 4 [(0, .ref (a 100)), (1, .int k1), (2, .int f), (3, .int v1)] := hl
  have rb110_i : 6 ≤ (i 110).toInt ∧ (i 110).toInt ≤ 24 := hI.1 110
  refine lv_aload_n hx hb dX11_standard_0 rfl (lv_at hl 0 rfl) ?_
  refine xgT_X_world hx hb hts (fun _ h => List.mem_cons_of_mem _ (List.mem_append_left _ (List.mem_append_left _ (List.mem_append_right _ h)))) hown hK hP (hts (.fieldLink RX11 10 "TalePlay" "world" "LTalePlay$World;") (List.mem_cons_of_mem _ (List.mem_append_left _ (List.mem_append_left _ (List.mem_append_left _ (List.mem_append_left _ (List.mem_of_getElem? (i := 0) rfl))))))) dX11_standard_1 ?_
  refine lv_iload_n hx hb dX11_standard_4 rfl (lv_at hl 1 rfl) ?_
  refine ro_calli (va_runV (As := [.int k1]) (rest := []) ⟨hx, hb, hml, hown, hts⟩ (x_X10_hasKind l D s.heap.size .null a t i q c d k1 hI ) (cwV 1 hts gm_X11_standard_e_X10_hasKind_80 rfl rfl rfl (by decide +kernel) ⟨Nat.le_of_ble_eq_true rfl, Nat.le_of_ble_eq_true rfl⟩) (yA_V hN (xZ_k hZ hS hA) (xkT_W hK) (xuT_W (sk := sk) hP) (ci := 10) (q0 := 0) rfl rfl) rfl rfl hl.1 rfl (lv_room (Nat.le_of_ble_eq_true rfl)) dX11_standard_5 ⟨Nat.le_of_ble_eq_true rfl, Nat.le_of_ble_eq_true rfl⟩) hS hA hP (fun r1 u1 H locs hw1 hP hS => ?_)
  have hw1 : r1 = if (0 ≤ k1.toInt ∧ k1.toInt < (i 110).toInt) then 1 else 0 := hw1
  refine lv_if_eq (tgt := 35) hx hb dX11_standard_8 (by decide +kernel) (fun c2 => ?_) (fun c2 => ?_)
  · have f2 := fl_f hw1 c2
    refine lv_iconst (v := (-1)) hx hb dX11_standard_35 (by decide +kernel) ?_
    exact rw_iret (i, q, c, d) hx hb hr hlocks hS (hK.sub (tys' := []) [] rfl) hP hD dX11_standard_36 ⟨trivial, hI, fr_w hfi (by decide +kernel), fr_w hfc (by decide +kernel), (show xEn (i 146) (i 148) ((i 146) : Int32) ((i 148) : Int32) from Or.inr ⟨rfl, rfl⟩), (show StR (c 107) k1 f v1 (i 110).toInt ((-1) : Int32) from Or.inl ⟨by unfold StB; omega, by decide⟩), (show StU (c 107) (c 107) k1 f v1 (i 110).toInt from Or.inl ⟨by unfold StB; omega, rfl⟩), (show EnW (¬ StB k1 f v1 (i 110).toInt) (i 146) (i 148) ((i 146) : Int32) ((i 148) : Int32) from Or.inl ⟨by unfold StB; omega, rfl, rfl⟩)⟩
  · have f2 := fl_t hw1 c2
    refine lv_iload_n hx hb dX11_standard_11 rfl (lv_at hl 2 rfl) ?_
    refine lv_bipush (v := 6) hx hb dX11_standard_12 (by decide +kernel) ?_
    have hPc := hP.sub (ws' := []) [] rfl
    have hKc := hK.sub (tys' := []) [] rfl
    refine ro_calli (va_runS (As := [.int f, .int 6]) (rest := []) ⟨hx, hb, hml, hown, hts⟩ (c_X11_isBelow l D H.size f 6 f.toInt 6 rfl (by decide +kernel)) (va_cwS 2 hts gm_X11_standard_e_X11_isBelow_91 rfl rfl rfl (by decide +kernel) ⟨Nat.le_of_ble_eq_true rfl, Nat.le_of_ble_eq_true rfl⟩) (pA_S hKc hPc) rfl rfl hl.1 rfl (lv_room (Nat.le_of_ble_eq_true rfl)) dX11_standard_14 ⟨Nat.le_of_ble_eq_true rfl, Nat.le_of_ble_eq_true rfl⟩) hS hA hP (fun r4 u4 H locs hw4 hP hS => ?_)
    have hw4 : r4 = if (0 ≤ f.toInt ∧ f.toInt < 6) then 1 else 0 := hw4
    refine lv_if_eq (tgt := 35) hx hb dX11_standard_17 (by decide +kernel) (fun c5 => ?_) (fun c5 => ?_)
    · have f5 := fl_f hw4 c5
      refine lv_iconst (v := (-1)) hx hb dX11_standard_35 (by decide +kernel) ?_
      exact rw_iret (i, q, c, d) hx hb hr hlocks hS (hK.sub (tys' := []) [] rfl) hP hD dX11_standard_36 ⟨trivial, hI, fr_w hfi (by decide +kernel), fr_w hfc (by decide +kernel), (show xEn (i 146) (i 148) ((i 146) : Int32) ((i 148) : Int32) from Or.inr ⟨rfl, rfl⟩), (show StR (c 107) k1 f v1 (i 110).toInt ((-1) : Int32) from Or.inl ⟨by unfold StB; omega, by decide⟩), (show StU (c 107) (c 107) k1 f v1 (i 110).toInt from Or.inl ⟨by unfold StB; omega, rfl⟩), (show EnW (¬ StB k1 f v1 (i 110).toInt) (i 146) (i 148) ((i 146) : Int32) ((i 148) : Int32) from Or.inl ⟨by unfold StB; omega, rfl, rfl⟩)⟩
    · have f5 := fl_t hw4 c5
      refine lv_iload_n hx hb dX11_standard_20 rfl (lv_at hl 3 rfl) ?_
      refine lv_if_eq (tgt := 37) hx hb dX11_standard_21 (by decide +kernel) (fun c6 => ?_) (fun c6 => ?_)
      · have f6 := (ti_eq (a := v1.toInt) (b := 0) rfl (by decide +kernel)).mp c6
        refine lv_aload_n hx hb dX11_standard_37 rfl (lv_at hl 0 rfl) ?_
        refine xgT_X_tale hx hb hts (fun _ h => List.mem_cons_of_mem _ (List.mem_append_left _ (List.mem_append_left _ (List.mem_append_right _ h)))) hown hK hP (hts (.fieldLink RX11 46 "TalePlay" "tale" "LTalePlay$Tale;") (List.mem_cons_of_mem _ (List.mem_append_left _ (List.mem_append_left _ (List.mem_append_left _ (List.mem_append_left _ (List.mem_of_getElem? (i := 11) rfl))))))) dX11_standard_38 ?_
        refine al_callv (va_runV (As := []) (rest := []) ⟨hx, hb, hml, hown, hts⟩ (x_X9_end l D H.size sk a t i q c d  hI ) (cwV 0 hts gm_X11_standard_e_X9_end_95 rfl rfl rfl (by decide +kernel) ⟨Nat.le_of_ble_eq_true rfl, Nat.le_of_ble_eq_true rfl⟩) (yB_V hN (xZ_k hZ hS hA) (xZ_n hZ hD) hK hP hD (ci := 9) (q0 := 33) rfl rfl) rfl rfl hl.1 rfl (lv_room (Nat.le_of_ble_eq_true rfl)) dX11_standard_41 ⟨Nat.le_of_ble_eq_true rfl, Nat.le_of_ble_eq_true rfl⟩) hS hA hP hD (fun u7 H locs hw7 hP hD hS => ?_)
        obtain ⟨i7, q7, c7, d7⟩ := u7
        have hw7 : True ∧ xInv i7 c7 ∧ (∀ k, k ∉ ([146, 148] : List Nat) → i7 k = i k) ∧ (∀ k, k ∉ ([] : List Nat) → c7 k = c k) ∧ ((i7 146).toInt = 0) ∧ ((i7 148).toInt = 0) := hw7
        obtain ⟨hw7, hI, hei7, hec7, hxp7_0, hxp7_1⟩ := hw7
        have hxp7_0 : (i7 146).toInt = 0 := hxp7_0
        have hxp7_1 : (i7 148).toInt = 0 := hxp7_1
        have hfi : ∀ k, k ∉ ([146, 148] : List Nat) → i7 k = i k := fr_z hfi hei7 (by decide +kernel) (by decide +kernel)
        have hfc : ∀ k, k ∉ ([] : List Nat) → c7 k = c k := fr_z hfc hec7 (by decide +kernel) (by decide +kernel)
        have hen : (i7 146).toInt = 0 := hxp7_0
        have hent : (i7 148).toInt = 0 := hxp7_1
        refine lv_aload_n hx hb dX11_standard_44 rfl (lv_at hl 0 rfl) ?_
        refine xgT_X_world hx hb hts (fun _ h => List.mem_cons_of_mem _ (List.mem_append_left _ (List.mem_append_left _ (List.mem_append_right _ h)))) hown hK hP (hts (.fieldLink RX11 10 "TalePlay" "world" "LTalePlay$World;") (List.mem_cons_of_mem _ (List.mem_append_left _ (List.mem_append_left _ (List.mem_append_left _ (List.mem_append_left _ (List.mem_of_getElem? (i := 0) rfl))))))) dX11_standard_45 ?_
        refine lv_iload_n hx hb dX11_standard_48 rfl (lv_at hl 1 rfl) ?_
        refine lv_iload_n hx hb dX11_standard_49 rfl (lv_at hl 2 rfl) ?_
        refine lv_iload_n hx hb dX11_standard_50 rfl (lv_at hl 3 rfl) ?_
        refine al_calli (va_runV (As := [.int k1, .int f, .int v1]) (rest := []) ⟨hx, hb, hml, hown, hts⟩ (x_X10_changeStandard_e l D H.size sk a t i7 q7 c7 d7 k1 f v1 hI (show 0 ≤ k1.toInt ∧ k1.toInt ≤ 23 from by omega) (show 0 ≤ f.toInt ∧ f.toInt ≤ 5 from by omega) (show v1.toInt = -9 ∨ (0 ≤ v1.toInt ∧ v1.toInt ≤ 1) from by omega)) (cwV 3 hts gm_X11_standard_e_X10_changeStandard_e_98 rfl rfl rfl (by decide +kernel) ⟨Nat.le_of_ble_eq_true rfl, Nat.le_of_ble_eq_true rfl⟩) (yB_V hN (xZ_k hZ hS hA) (xZ_n hZ hD) hK hP hD (ci := 10) (q0 := 2) rfl rfl) rfl rfl hl.1 rfl (lv_room (Nat.le_of_ble_eq_true rfl)) dX11_standard_51 ⟨Nat.le_of_ble_eq_true rfl, Nat.le_of_ble_eq_true rfl⟩) hS hA hP hD (fun r8 u8 H locs hw8 hP hD hS => ?_)
        obtain ⟨i8, q8, c8, d8⟩ := u8
        have hw8 : True ∧ xInv i8 c8 ∧ (∀ k, k ∉ ([] : List Nat) → i8 k = i7 k) ∧ (∀ k, k ∉ ([107] : List Nat) → c8 k = c7 k) ∧ (r8 = (c7 107 (k1.toInt * 6 + f.toInt).toNat)) ∧ ((c8 107) = upd (c7 107) (k1.toInt * 6 + f.toInt).toNat v1) := hw8
        obtain ⟨hw8, hI, hei8, hec8, hxp8_0, hxp8_1⟩ := hw8
        have hxp8_0 : r8 = (c 107 (k1.toInt * 6 + f.toInt).toNat) := by have h9 := hxp8_0; rw [show c7 107 = c 107 from hfc 107 (by decide +kernel)] at h9; exact h9
        have hxp8_1 : (c8 107) = upd (c 107) (k1.toInt * 6 + f.toInt).toNat v1 := by have h9 := hxp8_1; rw [show c7 107 = c 107 from hfc 107 (by decide +kernel)] at h9; exact h9
        have hfi : ∀ k, k ∉ ([146, 148] : List Nat) → i8 k = i k := fr_z hfi hei8 (by decide +kernel) (by decide +kernel)
        have hfc : ∀ k, k ∉ ([107] : List Nat) → c8 k = c k := fr_z hfc hec8 (by decide +kernel) (by decide +kernel)
        have hen : ((i8 146) : Int32).toInt = 0 := by rw [show i8 146 = i7 146 from hei8 146 (by decide +kernel)]; exact hen
        have hent : ((i8 148) : Int32).toInt = 0 := by rw [show i8 148 = i7 148 from hei8 148 (by decide +kernel)]; exact hent
        exact rw_iret (i8, q8, c8, d8) hx hb hr hlocks hS (hK.sub (tys' := []) [] rfl) hP hD dX11_standard_54 ⟨trivial, hI, fr_w hfi (by decide +kernel), fr_w hfc (by decide +kernel), (show xEn (i 146) (i 148) ((i8 146) : Int32) ((i8 148) : Int32) from Or.inl hen), (show StR (c 107) k1 f v1 (i 110).toInt (r8 : Int32) from Or.inr ⟨by unfold StB; omega, hxp8_0⟩), (show StU (c 107) (c8 107) k1 f v1 (i 110).toInt from Or.inr ⟨by unfold StB; omega, hxp8_1⟩), (show EnW (¬ StB k1 f v1 (i 110).toInt) (i 146) (i 148) ((i8 146) : Int32) ((i8 148) : Int32) from Or.inr ⟨by unfold StB; omega, hen, hent⟩)⟩
      · have f6 := mt (ti_eq (a := v1.toInt) (b := 0) rfl (by decide +kernel)).mpr c6
        refine lv_iload_n hx hb dX11_standard_24 rfl (lv_at hl 3 rfl) ?_
        refine lv_iconst (v := 1) hx hb dX11_standard_25 (by decide +kernel) ?_
        refine lv_icmp_eq (tgt := 37) hx hb dX11_standard_26 (by decide +kernel) (fun c9 => ?_) (fun c9 => ?_)
        · have f9 := (ti_eq (a := v1.toInt) (b := 1) rfl (by decide +kernel)).mp c9
          refine lv_aload_n hx hb dX11_standard_37 rfl (lv_at hl 0 rfl) ?_
          refine xgT_X_tale hx hb hts (fun _ h => List.mem_cons_of_mem _ (List.mem_append_left _ (List.mem_append_left _ (List.mem_append_right _ h)))) hown hK hP (hts (.fieldLink RX11 46 "TalePlay" "tale" "LTalePlay$Tale;") (List.mem_cons_of_mem _ (List.mem_append_left _ (List.mem_append_left _ (List.mem_append_left _ (List.mem_append_left _ (List.mem_of_getElem? (i := 11) rfl))))))) dX11_standard_38 ?_
          refine al_callv (va_runV (As := []) (rest := []) ⟨hx, hb, hml, hown, hts⟩ (x_X9_end l D H.size sk a t i q c d  hI ) (cwV 0 hts gm_X11_standard_e_X9_end_95 rfl rfl rfl (by decide +kernel) ⟨Nat.le_of_ble_eq_true rfl, Nat.le_of_ble_eq_true rfl⟩) (yB_V hN (xZ_k hZ hS hA) (xZ_n hZ hD) hK hP hD (ci := 9) (q0 := 33) rfl rfl) rfl rfl hl.1 rfl (lv_room (Nat.le_of_ble_eq_true rfl)) dX11_standard_41 ⟨Nat.le_of_ble_eq_true rfl, Nat.le_of_ble_eq_true rfl⟩) hS hA hP hD (fun u10 H locs hw10 hP hD hS => ?_)
          obtain ⟨i10, q10, c10, d10⟩ := u10
          have hw10 : True ∧ xInv i10 c10 ∧ (∀ k, k ∉ ([146, 148] : List Nat) → i10 k = i k) ∧ (∀ k, k ∉ ([] : List Nat) → c10 k = c k) ∧ ((i10 146).toInt = 0) ∧ ((i10 148).toInt = 0) := hw10
          obtain ⟨hw10, hI, hei10, hec10, hxp10_0, hxp10_1⟩ := hw10
          have hxp10_0 : (i10 146).toInt = 0 := hxp10_0
          have hxp10_1 : (i10 148).toInt = 0 := hxp10_1
          have hfi : ∀ k, k ∉ ([146, 148] : List Nat) → i10 k = i k := fr_z hfi hei10 (by decide +kernel) (by decide +kernel)
          have hfc : ∀ k, k ∉ ([] : List Nat) → c10 k = c k := fr_z hfc hec10 (by decide +kernel) (by decide +kernel)
          have hen : (i10 146).toInt = 0 := hxp10_0
          have hent : (i10 148).toInt = 0 := hxp10_1
          refine lv_aload_n hx hb dX11_standard_44 rfl (lv_at hl 0 rfl) ?_
          refine xgT_X_world hx hb hts (fun _ h => List.mem_cons_of_mem _ (List.mem_append_left _ (List.mem_append_left _ (List.mem_append_right _ h)))) hown hK hP (hts (.fieldLink RX11 10 "TalePlay" "world" "LTalePlay$World;") (List.mem_cons_of_mem _ (List.mem_append_left _ (List.mem_append_left _ (List.mem_append_left _ (List.mem_append_left _ (List.mem_of_getElem? (i := 0) rfl))))))) dX11_standard_45 ?_
          refine lv_iload_n hx hb dX11_standard_48 rfl (lv_at hl 1 rfl) ?_
          refine lv_iload_n hx hb dX11_standard_49 rfl (lv_at hl 2 rfl) ?_
          refine lv_iload_n hx hb dX11_standard_50 rfl (lv_at hl 3 rfl) ?_
          refine al_calli (va_runV (As := [.int k1, .int f, .int v1]) (rest := []) ⟨hx, hb, hml, hown, hts⟩ (x_X10_changeStandard_e l D H.size sk a t i10 q10 c10 d10 k1 f v1 hI (show 0 ≤ k1.toInt ∧ k1.toInt ≤ 23 from by omega) (show 0 ≤ f.toInt ∧ f.toInt ≤ 5 from by omega) (show v1.toInt = -9 ∨ (0 ≤ v1.toInt ∧ v1.toInt ≤ 1) from by omega)) (cwV 3 hts gm_X11_standard_e_X10_changeStandard_e_98 rfl rfl rfl (by decide +kernel) ⟨Nat.le_of_ble_eq_true rfl, Nat.le_of_ble_eq_true rfl⟩) (yB_V hN (xZ_k hZ hS hA) (xZ_n hZ hD) hK hP hD (ci := 10) (q0 := 2) rfl rfl) rfl rfl hl.1 rfl (lv_room (Nat.le_of_ble_eq_true rfl)) dX11_standard_51 ⟨Nat.le_of_ble_eq_true rfl, Nat.le_of_ble_eq_true rfl⟩) hS hA hP hD (fun r11 u11 H locs hw11 hP hD hS => ?_)
          obtain ⟨i11, q11, c11, d11⟩ := u11
          have hw11 : True ∧ xInv i11 c11 ∧ (∀ k, k ∉ ([] : List Nat) → i11 k = i10 k) ∧ (∀ k, k ∉ ([107] : List Nat) → c11 k = c10 k) ∧ (r11 = (c10 107 (k1.toInt * 6 + f.toInt).toNat)) ∧ ((c11 107) = upd (c10 107) (k1.toInt * 6 + f.toInt).toNat v1) := hw11
          obtain ⟨hw11, hI, hei11, hec11, hxp11_0, hxp11_1⟩ := hw11
          have hxp11_0 : r11 = (c 107 (k1.toInt * 6 + f.toInt).toNat) := by have h9 := hxp11_0; rw [show c10 107 = c 107 from hfc 107 (by decide +kernel)] at h9; exact h9
          have hxp11_1 : (c11 107) = upd (c 107) (k1.toInt * 6 + f.toInt).toNat v1 := by have h9 := hxp11_1; rw [show c10 107 = c 107 from hfc 107 (by decide +kernel)] at h9; exact h9
          have hfi : ∀ k, k ∉ ([146, 148] : List Nat) → i11 k = i k := fr_z hfi hei11 (by decide +kernel) (by decide +kernel)
          have hfc : ∀ k, k ∉ ([107] : List Nat) → c11 k = c k := fr_z hfc hec11 (by decide +kernel) (by decide +kernel)
          have hen : ((i11 146) : Int32).toInt = 0 := by rw [show i11 146 = i10 146 from hei11 146 (by decide +kernel)]; exact hen
          have hent : ((i11 148) : Int32).toInt = 0 := by rw [show i11 148 = i10 148 from hei11 148 (by decide +kernel)]; exact hent
          exact rw_iret (i11, q11, c11, d11) hx hb hr hlocks hS (hK.sub (tys' := []) [] rfl) hP hD dX11_standard_54 ⟨trivial, hI, fr_w hfi (by decide +kernel), fr_w hfc (by decide +kernel), (show xEn (i 146) (i 148) ((i11 146) : Int32) ((i11 148) : Int32) from Or.inl hen), (show StR (c 107) k1 f v1 (i 110).toInt (r11 : Int32) from Or.inr ⟨by unfold StB; omega, hxp11_0⟩), (show StU (c 107) (c11 107) k1 f v1 (i 110).toInt from Or.inr ⟨by unfold StB; omega, hxp11_1⟩), (show EnW (¬ StB k1 f v1 (i 110).toInt) (i 146) (i 148) ((i11 146) : Int32) ((i11 148) : Int32) from Or.inr ⟨by unfold StB; omega, hen, hent⟩)⟩
        · have f9 := mt (ti_eq (a := v1.toInt) (b := 1) rfl (by decide +kernel)).mpr c9
          refine lv_iload_n hx hb dX11_standard_29 rfl (lv_at hl 3 rfl) ?_
          refine lv_bipush (v := (-9)) hx hb dX11_standard_30 (by decide +kernel) ?_
          refine lv_icmp_eq (tgt := 37) hx hb dX11_standard_32 (by decide +kernel) (fun c12 => ?_) (fun c12 => ?_)
          · have f12 := (ti_eq (a := v1.toInt) (b := (-9)) rfl (by decide +kernel)).mp c12
            refine lv_aload_n hx hb dX11_standard_37 rfl (lv_at hl 0 rfl) ?_
            refine xgT_X_tale hx hb hts (fun _ h => List.mem_cons_of_mem _ (List.mem_append_left _ (List.mem_append_left _ (List.mem_append_right _ h)))) hown hK hP (hts (.fieldLink RX11 46 "TalePlay" "tale" "LTalePlay$Tale;") (List.mem_cons_of_mem _ (List.mem_append_left _ (List.mem_append_left _ (List.mem_append_left _ (List.mem_append_left _ (List.mem_of_getElem? (i := 11) rfl))))))) dX11_standard_38 ?_
            refine al_callv (va_runV (As := []) (rest := []) ⟨hx, hb, hml, hown, hts⟩ (x_X9_end l D H.size sk a t i q c d  hI ) (cwV 0 hts gm_X11_standard_e_X9_end_95 rfl rfl rfl (by decide +kernel) ⟨Nat.le_of_ble_eq_true rfl, Nat.le_of_ble_eq_true rfl⟩) (yB_V hN (xZ_k hZ hS hA) (xZ_n hZ hD) hK hP hD (ci := 9) (q0 := 33) rfl rfl) rfl rfl hl.1 rfl (lv_room (Nat.le_of_ble_eq_true rfl)) dX11_standard_41 ⟨Nat.le_of_ble_eq_true rfl, Nat.le_of_ble_eq_true rfl⟩) hS hA hP hD (fun u13 H locs hw13 hP hD hS => ?_)
            obtain ⟨i13, q13, c13, d13⟩ := u13
            have hw13 : True ∧ xInv i13 c13 ∧ (∀ k, k ∉ ([146, 148] : List Nat) → i13 k = i k) ∧ (∀ k, k ∉ ([] : List Nat) → c13 k = c k) ∧ ((i13 146).toInt = 0) ∧ ((i13 148).toInt = 0) := hw13
            obtain ⟨hw13, hI, hei13, hec13, hxp13_0, hxp13_1⟩ := hw13
            have hxp13_0 : (i13 146).toInt = 0 := hxp13_0
            have hxp13_1 : (i13 148).toInt = 0 := hxp13_1
            have hfi : ∀ k, k ∉ ([146, 148] : List Nat) → i13 k = i k := fr_z hfi hei13 (by decide +kernel) (by decide +kernel)
            have hfc : ∀ k, k ∉ ([] : List Nat) → c13 k = c k := fr_z hfc hec13 (by decide +kernel) (by decide +kernel)
            have hen : (i13 146).toInt = 0 := hxp13_0
            have hent : (i13 148).toInt = 0 := hxp13_1
            refine lv_aload_n hx hb dX11_standard_44 rfl (lv_at hl 0 rfl) ?_
            refine xgT_X_world hx hb hts (fun _ h => List.mem_cons_of_mem _ (List.mem_append_left _ (List.mem_append_left _ (List.mem_append_right _ h)))) hown hK hP (hts (.fieldLink RX11 10 "TalePlay" "world" "LTalePlay$World;") (List.mem_cons_of_mem _ (List.mem_append_left _ (List.mem_append_left _ (List.mem_append_left _ (List.mem_append_left _ (List.mem_of_getElem? (i := 0) rfl))))))) dX11_standard_45 ?_
            refine lv_iload_n hx hb dX11_standard_48 rfl (lv_at hl 1 rfl) ?_
            refine lv_iload_n hx hb dX11_standard_49 rfl (lv_at hl 2 rfl) ?_
            refine lv_iload_n hx hb dX11_standard_50 rfl (lv_at hl 3 rfl) ?_
            refine al_calli (va_runV (As := [.int k1, .int f, .int v1]) (rest := []) ⟨hx, hb, hml, hown, hts⟩ (x_X10_changeStandard_e l D H.size sk a t i13 q13 c13 d13 k1 f v1 hI (show 0 ≤ k1.toInt ∧ k1.toInt ≤ 23 from by omega) (show 0 ≤ f.toInt ∧ f.toInt ≤ 5 from by omega) (show v1.toInt = -9 ∨ (0 ≤ v1.toInt ∧ v1.toInt ≤ 1) from by omega)) (cwV 3 hts gm_X11_standard_e_X10_changeStandard_e_98 rfl rfl rfl (by decide +kernel) ⟨Nat.le_of_ble_eq_true rfl, Nat.le_of_ble_eq_true rfl⟩) (yB_V hN (xZ_k hZ hS hA) (xZ_n hZ hD) hK hP hD (ci := 10) (q0 := 2) rfl rfl) rfl rfl hl.1 rfl (lv_room (Nat.le_of_ble_eq_true rfl)) dX11_standard_51 ⟨Nat.le_of_ble_eq_true rfl, Nat.le_of_ble_eq_true rfl⟩) hS hA hP hD (fun r14 u14 H locs hw14 hP hD hS => ?_)
            obtain ⟨i14, q14, c14, d14⟩ := u14
            have hw14 : True ∧ xInv i14 c14 ∧ (∀ k, k ∉ ([] : List Nat) → i14 k = i13 k) ∧ (∀ k, k ∉ ([107] : List Nat) → c14 k = c13 k) ∧ (r14 = (c13 107 (k1.toInt * 6 + f.toInt).toNat)) ∧ ((c14 107) = upd (c13 107) (k1.toInt * 6 + f.toInt).toNat v1) := hw14
            obtain ⟨hw14, hI, hei14, hec14, hxp14_0, hxp14_1⟩ := hw14
            have hxp14_0 : r14 = (c 107 (k1.toInt * 6 + f.toInt).toNat) := by have h9 := hxp14_0; rw [show c13 107 = c 107 from hfc 107 (by decide +kernel)] at h9; exact h9
            have hxp14_1 : (c14 107) = upd (c 107) (k1.toInt * 6 + f.toInt).toNat v1 := by have h9 := hxp14_1; rw [show c13 107 = c 107 from hfc 107 (by decide +kernel)] at h9; exact h9
            have hfi : ∀ k, k ∉ ([146, 148] : List Nat) → i14 k = i k := fr_z hfi hei14 (by decide +kernel) (by decide +kernel)
            have hfc : ∀ k, k ∉ ([107] : List Nat) → c14 k = c k := fr_z hfc hec14 (by decide +kernel) (by decide +kernel)
            have hen : ((i14 146) : Int32).toInt = 0 := by rw [show i14 146 = i13 146 from hei14 146 (by decide +kernel)]; exact hen
            have hent : ((i14 148) : Int32).toInt = 0 := by rw [show i14 148 = i13 148 from hei14 148 (by decide +kernel)]; exact hent
            exact rw_iret (i14, q14, c14, d14) hx hb hr hlocks hS (hK.sub (tys' := []) [] rfl) hP hD dX11_standard_54 ⟨trivial, hI, fr_w hfi (by decide +kernel), fr_w hfc (by decide +kernel), (show xEn (i 146) (i 148) ((i14 146) : Int32) ((i14 148) : Int32) from Or.inl hen), (show StR (c 107) k1 f v1 (i 110).toInt (r14 : Int32) from Or.inr ⟨by unfold StB; omega, hxp14_0⟩), (show StU (c 107) (c14 107) k1 f v1 (i 110).toInt from Or.inr ⟨by unfold StB; omega, hxp14_1⟩), (show EnW (¬ StB k1 f v1 (i 110).toInt) (i 146) (i 148) ((i14 146) : Int32) ((i14 148) : Int32) from Or.inr ⟨by unfold StB; omega, hen, hent⟩)⟩
          · have f12 := mt (ti_eq (a := v1.toInt) (b := (-9)) rfl (by decide +kernel)).mpr c12
            refine lv_iconst (v := (-1)) hx hb dX11_standard_35 (by decide +kernel) ?_
            exact rw_iret (i, q, c, d) hx hb hr hlocks hS (hK.sub (tys' := []) [] rfl) hP hD dX11_standard_36 ⟨trivial, hI, fr_w hfi (by decide +kernel), fr_w hfc (by decide +kernel), (show xEn (i 146) (i 148) ((i 146) : Int32) ((i 148) : Int32) from Or.inr ⟨rfl, rfl⟩), (show StR (c 107) k1 f v1 (i 110).toInt ((-1) : Int32) from Or.inl ⟨by unfold StB; omega, by decide⟩), (show StU (c 107) (c 107) k1 f v1 (i 110).toInt from Or.inl ⟨by unfold StB; omega, rfl⟩), (show EnW (¬ StB k1 f v1 (i 110).toInt) (i 146) (i 148) ((i 146) : Int32) ((i 148) : Int32) from Or.inl ⟨by unfold StB; omega, rfl, rfl⟩)⟩

set_option maxHeartbeats 4000000 in
set_option maxRecDepth 100000 in
theorem s_X12_standard_e (l : Launch) (D : va_G) (sz : Nat) (o : Nat) (a : Nat → Nat) (t : Nat → ClassId) (i : Nat → Int32) (q : Int64) (c : Nat → Nat → Int32) (d : Nat → Nat → Int64) (k1 : Int32) (f1 : Int32) (v1 : Int32) (hI : mInv i c) (hs_S : SJ (c 3) (c 6) (c 9) (c 10) (c 11) (c 13) (i 2).toInt (i 5).toInt (i 8).toInt) (hs_J : TJ (c 3) (c 6) (c 23) (c 24) (c 29) (c 30) (i 5).toInt (i 22).toInt (i 27).toInt) : Met l yX12_standard wm_X12_standard ({ frames := 1, cells := 0, slots := 0, locals := 25 }) (va_Pc [.ref o, .int k1, .int f1, .int v1] (pB D sz (mW o a t i q c d) (mT t))) (va_Qi (fun (r : Int32) (u : MS) => True ∧ mInv u.1 u.2.2.1 ∧ (∀ k, k ∉ ([22, 27] : List Nat) → u.1 k = i k) ∧ (∀ k, k ∉ ([4] : List Nat) → u.2.2.1 k = c k) ∧ (SJ (u.2.2.1 3) (u.2.2.1 6) (u.2.2.1 9) (u.2.2.1 10) (u.2.2.1 11) (u.2.2.1 13) (u.1 2).toInt (u.1 5).toInt (u.1 8).toInt) ∧ (TJ (u.2.2.1 3) (u.2.2.1 6) (u.2.2.1 23) (u.2.2.1 24) (u.2.2.1 29) (u.2.2.1 30) (u.1 5).toInt (u.1 22).toInt (u.1 27).toInt) ∧ (StR (c 4) k1 f1 v1 (i 2).toInt r) ∧ (StU (c 4) (u.2.2.1 4) k1 f1 v1 (i 2).toInt) ∧ (EnM (¬ StB k1 f1 v1 (i 2).toInt) (i 22) (i 27) (u.1 22) (u.1 27))) (oC D (va_A (mW o a t i q c d) sz) (fun u : MS => mW o a t u.1 u.2.1 u.2.2.1 u.2.2.2) (fun _ => [])) (va_A (mW o a t i q c d) sz)) 0 0 (va_A (mW o a t i q c d) sz) := by
  refine Met.ofW (cc := cX12_standard) (maxL := 5) (ret := (some .int)) (by decide +kernel) rfl ?_
  intro p e s m args below meth cd s₁ B hml hv
  obtain ⟨rfl, hsz, hP, hK, hD0⟩ := hv
  have hx := B.exec
  have hb := B.bytes
  have hr := B.returns
  have hts := atoms_spec (ws := wm_X12_standard) B.pre
  have hown : s.vm.findClass RX12 = some m.cls := findClass_of_methodNamed B.named
  have hlocks := B.notSynchronized
  subst hsz
  have hD := hD0.self (sz := s.heap.size)
  generalize hAe : va_A (mW o a t i q c d) s.heap.size = A at hD ⊢
  have hA : ∀ q : Nat, s.heap.size ≤ q → A q := fun q h => by rw [← hAe]; exact Or.inr h
  have hS : va_S A s.heap s.heap [] := va_S.rf
  have hfi : ∀ k, k ∉ ([] : List Nat) → i k = i k := fun _ _ => rfl
  have hfc : ∀ k, k ∉ ([] : List Nat) → c k = c k := fun _ _ => rfl
  have hl := lv_entry ([.ref o, .int k1, .int f1, .int v1]) (n := 5) (Nat.le_of_ble_eq_true rfl)
  rw [lg_entry_eq]
  generalize (lg_sl ([.ref o, .int k1, .int f1, .int v1]) ++ List.replicate (5 - (lg_sl ([.ref o, .int k1, .int f1, .int v1])).length) Slot.unset).toArray = ls at hl ⊢
  have hl : lv_has ls 5 [(0, .ref o), (1, .int k1), (2, .int f1), (3, .int v1)] := hl
  have rb2_i : 6 ≤ (i 2).toInt ∧ (i 2).toInt ≤ 24 := hI.1 2
  refine lv_iload_n hx hb dX12_standard_0 rfl (lv_at hl 1 rfl) ?_
  refine lv_i2l (v := k1.toInt64) hx hb dX12_standard_1 rfl ?_
  refine lv_lconst (v := 0) hx hb dX12_standard_2 (by decide +kernel) ?_
  refine lv_aload_n hx hb dX12_standard_3 rfl (lv_at hl 0 rfl) ?_
  refine mget_2 (v := (i 2)) rfl hx hb hts (fun _ h => List.mem_cons_of_mem _ (List.mem_append_right _ h)) hown hK hP (hts (.fieldLink RX12 151 "TalePlayModel" "kinds" "I") (List.mem_cons_of_mem _ (List.mem_append_left _ (List.mem_of_getElem? (i := 0) rfl)))) dX12_standard_4 ?_
  refine lv_iconst (v := 1) hx hb dX12_standard_7 (by decide +kernel) ?_
  refine lv_isub hx hb dX12_standard_8 ?_
  refine lv_topi (fun x1 ex1 => ?_)
  have tx1 := ti_sub (a := (i 2).toInt) (b := 1) ex1 rfl (by decide +kernel) (by omega) (by omega)
  refine lv_i2l (v := x1.toInt64) hx hb dX12_standard_9 rfl ?_
  have hPc := hP.sub (ws' := []) [] rfl
  have hKc := hK.sub (tys' := []) [] rfl
  refine ro_calli (va_runS (As := [.long k1.toInt64, .long 0, .long x1.toInt64]) (rest := []) ⟨hx, hb, hml, hown, hts⟩ (c_X12_in l D s.heap.size k1.toInt64 0 x1.toInt64 k1.toInt 0 ((i 2).toInt - 1) ((Int32.toInt_toInt64 k1).trans rfl) (by decide +kernel) ((Int32.toInt_toInt64 x1).trans tx1)) (va_cwS 3 hts gm_X12_standard_X12_in rfl rfl rfl (by decide +kernel) ⟨Nat.le_of_ble_eq_true rfl, Nat.le_of_ble_eq_true rfl⟩) (pA_S hKc hPc) rfl rfl hl.1 rfl (lv_room (Nat.le_of_ble_eq_true rfl)) dX12_standard_10 ⟨Nat.le_of_ble_eq_true rfl, Nat.le_of_ble_eq_true rfl⟩) hS hA hP (fun r2 u2 H locs hw2 hP hS => ?_)
  have hw2 : r2 = if (0 ≤ k1.toInt ∧ k1.toInt ≤ ((i 2).toInt - 1)) then 1 else 0 := hw2
  refine lv_if_eq (tgt := 44) hx hb dX12_standard_13 (by decide +kernel) (fun c3 => ?_) (fun c3 => ?_)
  · have f3 := fl_f hw2 c3
    refine lv_iconst (v := (-1)) hx hb dX12_standard_44 (by decide +kernel) ?_
    exact rw_iret (i, q, c, d) hx hb hr hlocks hS (hK.sub (tys' := []) [] rfl) hP hD dX12_standard_45 ⟨trivial, hI, fr_w hfi (by decide +kernel), fr_w hfc (by decide +kernel), (show SJ (c 3) (c 6) (c 9) (c 10) (c 11) (c 13) ((i 2) : Int32).toInt ((i 5) : Int32).toInt ((i 8) : Int32).toInt from hs_S), (show TJ (c 3) (c 6) (c 23) (c 24) (c 29) (c 30) ((i 5) : Int32).toInt ((i 22) : Int32).toInt ((i 27) : Int32).toInt from hs_J), (show StR (c 4) k1 f1 v1 (i 2).toInt ((-1) : Int32) from Or.inl ⟨by unfold StB; omega, by decide⟩), (show StU (c 4) (c 4) k1 f1 v1 (i 2).toInt from Or.inl ⟨by unfold StB; omega, rfl⟩), (show EnM (¬ StB k1 f1 v1 (i 2).toInt) (i 22) (i 27) ((i 22) : Int32) ((i 27) : Int32) from Or.inl ⟨by unfold StB; omega, rfl, rfl⟩)⟩
  · have f3 := fl_t hw2 c3
    refine lv_iload_n hx hb dX12_standard_16 rfl (lv_at hl 2 rfl) ?_
    refine lv_i2l (v := f1.toInt64) hx hb dX12_standard_17 rfl ?_
    refine lv_lconst (v := 0) hx hb dX12_standard_18 (by decide +kernel) ?_
    refine lv_ldc2 (v := 5) hx hb hown (hts (.constantLong RX12 170 (5)) (List.mem_cons_of_mem _ (List.mem_append_left _ (List.mem_of_getElem? (i := 5) rfl)))) dX12_standard_19 ?_
    have hPc := hP.sub (ws' := []) [] rfl
    have hKc := hK.sub (tys' := []) [] rfl
    refine ro_calli (va_runS (As := [.long f1.toInt64, .long 0, .long 5]) (rest := []) ⟨hx, hb, hml, hown, hts⟩ (c_X12_in l D H.size f1.toInt64 0 5 f1.toInt 0 5 ((Int32.toInt_toInt64 f1).trans rfl) (by decide +kernel) (by decide +kernel)) (va_cwS 3 hts gm_X12_standard_X12_in rfl rfl rfl (by decide +kernel) ⟨Nat.le_of_ble_eq_true rfl, Nat.le_of_ble_eq_true rfl⟩) (pA_S hKc hPc) rfl rfl hl.1 rfl (lv_room (Nat.le_of_ble_eq_true rfl)) dX12_standard_22 ⟨Nat.le_of_ble_eq_true rfl, Nat.le_of_ble_eq_true rfl⟩) hS hA hP (fun r4 u4 H locs hw4 hP hS => ?_)
    have hw4 : r4 = if (0 ≤ f1.toInt ∧ f1.toInt ≤ 5) then 1 else 0 := hw4
    refine lv_if_eq (tgt := 44) hx hb dX12_standard_25 (by decide +kernel) (fun c5 => ?_) (fun c5 => ?_)
    · have f5 := fl_f hw4 c5
      refine lv_iconst (v := (-1)) hx hb dX12_standard_44 (by decide +kernel) ?_
      exact rw_iret (i, q, c, d) hx hb hr hlocks hS (hK.sub (tys' := []) [] rfl) hP hD dX12_standard_45 ⟨trivial, hI, fr_w hfi (by decide +kernel), fr_w hfc (by decide +kernel), (show SJ (c 3) (c 6) (c 9) (c 10) (c 11) (c 13) ((i 2) : Int32).toInt ((i 5) : Int32).toInt ((i 8) : Int32).toInt from hs_S), (show TJ (c 3) (c 6) (c 23) (c 24) (c 29) (c 30) ((i 5) : Int32).toInt ((i 22) : Int32).toInt ((i 27) : Int32).toInt from hs_J), (show StR (c 4) k1 f1 v1 (i 2).toInt ((-1) : Int32) from Or.inl ⟨by unfold StB; omega, by decide⟩), (show StU (c 4) (c 4) k1 f1 v1 (i 2).toInt from Or.inl ⟨by unfold StB; omega, rfl⟩), (show EnM (¬ StB k1 f1 v1 (i 2).toInt) (i 22) (i 27) ((i 22) : Int32) ((i 27) : Int32) from Or.inl ⟨by unfold StB; omega, rfl, rfl⟩)⟩
    · have f5 := fl_t hw4 c5
      refine lv_iload_n hx hb dX12_standard_28 rfl (lv_at hl 3 rfl) ?_
      refine lv_i2l (v := v1.toInt64) hx hb dX12_standard_29 rfl ?_
      refine lv_lconst (v := 0) hx hb dX12_standard_30 (by decide +kernel) ?_
      refine lv_lconst (v := 1) hx hb dX12_standard_31 (by decide +kernel) ?_
      have hPc := hP.sub (ws' := []) [] rfl
      have hKc := hK.sub (tys' := []) [] rfl
      refine ro_calli (va_runS (As := [.long v1.toInt64, .long 0, .long 1]) (rest := []) ⟨hx, hb, hml, hown, hts⟩ (c_X12_in l D H.size v1.toInt64 0 1 v1.toInt 0 1 ((Int32.toInt_toInt64 v1).trans rfl) (by decide +kernel) (by decide +kernel)) (va_cwS 3 hts gm_X12_standard_X12_in rfl rfl rfl (by decide +kernel) ⟨Nat.le_of_ble_eq_true rfl, Nat.le_of_ble_eq_true rfl⟩) (pA_S hKc hPc) rfl rfl hl.1 rfl (lv_room (Nat.le_of_ble_eq_true rfl)) dX12_standard_32 ⟨Nat.le_of_ble_eq_true rfl, Nat.le_of_ble_eq_true rfl⟩) hS hA hP (fun r6 u6 H locs hw6 hP hS => ?_)
      have hw6 : r6 = if (0 ≤ v1.toInt ∧ v1.toInt ≤ 1) then 1 else 0 := hw6
      refine lv_if_ne (tgt := 46) hx hb dX12_standard_35 (by decide +kernel) (fun c7 => ?_) (fun c7 => ?_)
      · have f7 := fl_t hw6 c7
        refine lv_aload_n hx hb dX12_standard_46 rfl (lv_at hl 0 rfl) ?_
        refine mget_4 hx hb hts (fun _ h => List.mem_cons_of_mem _ (List.mem_append_right _ h)) hown hK hP (hts (.fieldLink RX12 16 "TalePlayModel" "defaults" "[I") (List.mem_cons_of_mem _ (List.mem_append_left _ (List.mem_of_getElem? (i := 6) rfl)))) dX12_standard_47 ?_
        refine lv_bipush (v := 6) hx hb dX12_standard_50 (by decide +kernel) ?_
        refine lv_iload_n hx hb dX12_standard_52 rfl (lv_at hl 1 rfl) ?_
        refine lv_imul hx hb dX12_standard_53 ?_
        refine lv_topi (fun x8 ex8 => ?_)
        have tx8 := ti_mul (a := 6) (b := k1.toInt) ex8 (by decide +kernel) rfl (by omega) (by omega)
        refine lv_iload_n hx hb dX12_standard_54 rfl (lv_at hl 2 rfl) ?_
        refine lv_iadd hx hb dX12_standard_55 ?_
        refine lv_topi (fun x9 ex9 => ?_)
        have tx9 := ti_add (a := (6 * k1.toInt)) (b := f1.toInt) ex9 tx8 rfl (by omega) (by omega)
        refine mld_4 hx hb hK hP (vp_in_iff.mpr (by have h9 : x9.toInt = ((6 * k1.toInt) + f1.toInt) := tx9; omega)) dX12_standard_56 (fun x10 ex10 => ?_)
        have rx10 : x10.toInt = -9 ∨ (0 ≤ x10.toInt ∧ x10.toInt ≤ 1) := by rw [ex10]; exact hI.2 4 _
        refine lv_istore (lv' := [(4, .int x10), (0, .ref o), (1, .int k1), (2, .int f1), (3, .int v1)]) hx hb dX12_standard_57 hl (by decide +kernel) rfl (fun ls hl => ?_)
        refine lv_aload_n hx hb dX12_standard_59 rfl (lv_at hl 1 rfl) ?_
        refine mget_4 hx hb hts (fun _ h => List.mem_cons_of_mem _ (List.mem_append_right _ h)) hown hK hP (hts (.fieldLink RX12 16 "TalePlayModel" "defaults" "[I") (List.mem_cons_of_mem _ (List.mem_append_left _ (List.mem_of_getElem? (i := 6) rfl)))) dX12_standard_60 ?_
        refine lv_bipush (v := 6) hx hb dX12_standard_63 (by decide +kernel) ?_
        refine lv_iload_n hx hb dX12_standard_65 rfl (lv_at hl 2 rfl) ?_
        refine lv_imul hx hb dX12_standard_66 ?_
        refine lv_topi (fun x11 ex11 => ?_)
        have tx11 := ti_mul (a := 6) (b := k1.toInt) ex11 (by decide +kernel) rfl (by omega) (by omega)
        refine lv_iload_n hx hb dX12_standard_67 rfl (lv_at hl 3 rfl) ?_
        refine lv_iadd hx hb dX12_standard_68 ?_
        refine lv_topi (fun x12 ex12 => ?_)
        have tx12 := ti_add (a := (6 * k1.toInt)) (b := f1.toInt) ex12 tx11 rfl (by omega) (by omega)
        refine lv_iload_n hx hb dX12_standard_69 rfl (lv_at hl 4 rfl) ?_
        refine mst_4 hx hb hK hP hD hS (vp_in_iff.mpr (by have h9 : x12.toInt = ((6 * k1.toInt) + f1.toInt) := tx12; omega)) dX12_standard_70 (fun H locs hP hD hS => ?_)
        have hI := mInv_c hI (k := 4) (j := (x12 : Int32).toNatClampNeg) (x := v1) (show (v1 : Int32).toInt = -9 ∨ (0 ≤ (v1 : Int32).toInt ∧ (v1 : Int32).toInt ≤ 1) from by omega)
        have hfc : ∀ k, k ∉ ([4] : List Nat) → (updA c 4 (x12 : Int32).toNatClampNeg v1) k = c k := fr_cz hfc (by decide +kernel) (by decide +kernel)
        refine lv_aload_n hx hb dX12_standard_71 rfl (lv_at hl 1 rfl) ?_
        refine al_callv (va_runV (As := []) (rest := []) ⟨hx, hb, hml, hown, hts⟩ (s_X12_endTale l D H.size o a t i q (updA c 4 (x12 : Int32).toNatClampNeg v1) d  hI ) (cwV 0 hts gm_X12_standard_X12_endTale rfl rfl rfl (by decide +kernel) ⟨Nat.le_of_ble_eq_true rfl, Nat.le_of_ble_eq_true rfl⟩) (pB_V hK hP hD (ci := 12) (q0 := 0) rfl rfl) rfl rfl hl.1 rfl (lv_room (Nat.le_of_ble_eq_true rfl)) dX12_standard_72 ⟨Nat.le_of_ble_eq_true rfl, Nat.le_of_ble_eq_true rfl⟩) hS hA hP hD (fun u13 H locs hw13 hP hD hS => ?_)
        obtain ⟨i13, q13, c13, d13⟩ := u13
        have hw13 : True ∧ mInv i13 c13 ∧ (∀ k, k ∉ ([22, 27] : List Nat) → i13 k = i k) ∧ (∀ k, k ∉ ([] : List Nat) → c13 k = (updA c 4 (x12 : Int32).toNatClampNeg v1) k) ∧ ((i13 22).toInt = -9) ∧ ((i13 27).toInt = 0) := hw13
        obtain ⟨hw13, hI, hei13, hec13, hxp13_0, hxp13_1⟩ := hw13
        have hxp13_0 : (i13 22).toInt = -9 := hxp13_0
        have hxp13_1 : (i13 27).toInt = 0 := hxp13_1
        have hfi : ∀ k, k ∉ ([22, 27] : List Nat) → i13 k = i k := fr_z hfi hei13 (by decide +kernel) (by decide +kernel)
        have hfc : ∀ k, k ∉ ([4] : List Nat) → c13 k = c k := fr_z hfc hec13 (by decide +kernel) (by decide +kernel)
        have hP : va_P D vwCl (mW o a t i13 q13 c13 d13) H := hP
        have hD : va_D A (mW o a t i13 q13 c13 d13) := hD
        refine lv_iload hx hb dX12_standard_75 (lv_at hl 0 rfl) ?_
        exact rw_iret (i13, q13, c13, d13) hx hb hr hlocks hS (hK.sub (tys' := []) [] rfl) hP hD dX12_standard_77 ⟨trivial, hI, fr_w hfi (by decide +kernel), fr_w hfc (by decide +kernel), (show SJ (c13 3) (c13 6) (c13 9) (c13 10) (c13 11) (c13 13) ((i13 2) : Int32).toInt ((i13 5) : Int32).toInt ((i13 8) : Int32).toInt from by rw [show c13 3 = (updA c 4 (x12 : Int32).toNatClampNeg v1) 3 from hec13 3 (by decide +kernel), show c13 6 = (updA c 4 (x12 : Int32).toNatClampNeg v1) 6 from hec13 6 (by decide +kernel), show c13 9 = (updA c 4 (x12 : Int32).toNatClampNeg v1) 9 from hec13 9 (by decide +kernel), show c13 10 = (updA c 4 (x12 : Int32).toNatClampNeg v1) 10 from hec13 10 (by decide +kernel), show c13 11 = (updA c 4 (x12 : Int32).toNatClampNeg v1) 11 from hec13 11 (by decide +kernel), show c13 13 = (updA c 4 (x12 : Int32).toNatClampNeg v1) 13 from hec13 13 (by decide +kernel), show i13 2 = i 2 from hei13 2 (by decide +kernel), show i13 5 = i 5 from hei13 5 (by decide +kernel), show i13 8 = i 8 from hei13 8 (by decide +kernel)]; show SJ (c 3) (c 6) (c 9) (c 10) (c 11) (c 13) (i 2).toInt (i 5).toInt (i 8).toInt; exact hs_S), (show TJ (c13 3) (c13 6) (c13 23) (c13 24) (c13 29) (c13 30) ((i13 5) : Int32).toInt ((i13 22) : Int32).toInt ((i13 27) : Int32).toInt from TJ_no hxp13_0), (show StR (c 4) k1 f1 v1 (i 2).toInt (x10 : Int32) from Or.inr ⟨by unfold StB; omega, (ix_n (f := c 4) (s := x9) (show (x9 : Int32).toInt = k1.toInt * 6 + f1.toInt from by omega) ex10).symm⟩), (show StU (c 4) (c13 4) k1 f1 v1 (i 2).toInt from Or.inr ⟨by unfold StB; omega, by rw [show c13 4 = (updA c 4 (x12 : Int32).toNatClampNeg v1) 4 from hec13 4 (by decide +kernel)]; show upd (c 4) (x12 : Int32).toNatClampNeg v1 = _; rw [cl_t (show (x12 : Int32).toInt = k1.toInt * 6 + f1.toInt from by omega)]⟩), (show EnM (¬ StB k1 f1 v1 (i 2).toInt) (i 22) (i 27) ((i13 22) : Int32) ((i13 27) : Int32) from Or.inr ⟨by unfold StB; omega, hxp13_0, hxp13_1⟩)⟩
      · have f7 := fl_f hw6 c7
        refine lv_iload_n hx hb dX12_standard_38 rfl (lv_at hl 3 rfl) ?_
        refine lv_bipush (v := (-9)) hx hb dX12_standard_39 (by decide +kernel) ?_
        refine lv_icmp_eq (tgt := 46) hx hb dX12_standard_41 (by decide +kernel) (fun c14 => ?_) (fun c14 => ?_)
        · have f14 := (ti_eq (a := v1.toInt) (b := (-9)) rfl (by decide +kernel)).mp c14
          refine lv_aload_n hx hb dX12_standard_46 rfl (lv_at hl 0 rfl) ?_
          refine mget_4 hx hb hts (fun _ h => List.mem_cons_of_mem _ (List.mem_append_right _ h)) hown hK hP (hts (.fieldLink RX12 16 "TalePlayModel" "defaults" "[I") (List.mem_cons_of_mem _ (List.mem_append_left _ (List.mem_of_getElem? (i := 6) rfl)))) dX12_standard_47 ?_
          refine lv_bipush (v := 6) hx hb dX12_standard_50 (by decide +kernel) ?_
          refine lv_iload_n hx hb dX12_standard_52 rfl (lv_at hl 1 rfl) ?_
          refine lv_imul hx hb dX12_standard_53 ?_
          refine lv_topi (fun x15 ex15 => ?_)
          have tx15 := ti_mul (a := 6) (b := k1.toInt) ex15 (by decide +kernel) rfl (by omega) (by omega)
          refine lv_iload_n hx hb dX12_standard_54 rfl (lv_at hl 2 rfl) ?_
          refine lv_iadd hx hb dX12_standard_55 ?_
          refine lv_topi (fun x16 ex16 => ?_)
          have tx16 := ti_add (a := (6 * k1.toInt)) (b := f1.toInt) ex16 tx15 rfl (by omega) (by omega)
          refine mld_4 hx hb hK hP (vp_in_iff.mpr (by have h9 : x16.toInt = ((6 * k1.toInt) + f1.toInt) := tx16; omega)) dX12_standard_56 (fun x17 ex17 => ?_)
          have rx17 : x17.toInt = -9 ∨ (0 ≤ x17.toInt ∧ x17.toInt ≤ 1) := by rw [ex17]; exact hI.2 4 _
          refine lv_istore (lv' := [(4, .int x17), (0, .ref o), (1, .int k1), (2, .int f1), (3, .int v1)]) hx hb dX12_standard_57 hl (by decide +kernel) rfl (fun ls hl => ?_)
          refine lv_aload_n hx hb dX12_standard_59 rfl (lv_at hl 1 rfl) ?_
          refine mget_4 hx hb hts (fun _ h => List.mem_cons_of_mem _ (List.mem_append_right _ h)) hown hK hP (hts (.fieldLink RX12 16 "TalePlayModel" "defaults" "[I") (List.mem_cons_of_mem _ (List.mem_append_left _ (List.mem_of_getElem? (i := 6) rfl)))) dX12_standard_60 ?_
          refine lv_bipush (v := 6) hx hb dX12_standard_63 (by decide +kernel) ?_
          refine lv_iload_n hx hb dX12_standard_65 rfl (lv_at hl 2 rfl) ?_
          refine lv_imul hx hb dX12_standard_66 ?_
          refine lv_topi (fun x18 ex18 => ?_)
          have tx18 := ti_mul (a := 6) (b := k1.toInt) ex18 (by decide +kernel) rfl (by omega) (by omega)
          refine lv_iload_n hx hb dX12_standard_67 rfl (lv_at hl 3 rfl) ?_
          refine lv_iadd hx hb dX12_standard_68 ?_
          refine lv_topi (fun x19 ex19 => ?_)
          have tx19 := ti_add (a := (6 * k1.toInt)) (b := f1.toInt) ex19 tx18 rfl (by omega) (by omega)
          refine lv_iload_n hx hb dX12_standard_69 rfl (lv_at hl 4 rfl) ?_
          refine mst_4 hx hb hK hP hD hS (vp_in_iff.mpr (by have h9 : x19.toInt = ((6 * k1.toInt) + f1.toInt) := tx19; omega)) dX12_standard_70 (fun H locs hP hD hS => ?_)
          have hI := mInv_c hI (k := 4) (j := (x19 : Int32).toNatClampNeg) (x := v1) (show (v1 : Int32).toInt = -9 ∨ (0 ≤ (v1 : Int32).toInt ∧ (v1 : Int32).toInt ≤ 1) from by omega)
          have hfc : ∀ k, k ∉ ([4] : List Nat) → (updA c 4 (x19 : Int32).toNatClampNeg v1) k = c k := fr_cz hfc (by decide +kernel) (by decide +kernel)
          refine lv_aload_n hx hb dX12_standard_71 rfl (lv_at hl 1 rfl) ?_
          refine al_callv (va_runV (As := []) (rest := []) ⟨hx, hb, hml, hown, hts⟩ (s_X12_endTale l D H.size o a t i q (updA c 4 (x19 : Int32).toNatClampNeg v1) d  hI ) (cwV 0 hts gm_X12_standard_X12_endTale rfl rfl rfl (by decide +kernel) ⟨Nat.le_of_ble_eq_true rfl, Nat.le_of_ble_eq_true rfl⟩) (pB_V hK hP hD (ci := 12) (q0 := 0) rfl rfl) rfl rfl hl.1 rfl (lv_room (Nat.le_of_ble_eq_true rfl)) dX12_standard_72 ⟨Nat.le_of_ble_eq_true rfl, Nat.le_of_ble_eq_true rfl⟩) hS hA hP hD (fun u20 H locs hw20 hP hD hS => ?_)
          obtain ⟨i20, q20, c20, d20⟩ := u20
          have hw20 : True ∧ mInv i20 c20 ∧ (∀ k, k ∉ ([22, 27] : List Nat) → i20 k = i k) ∧ (∀ k, k ∉ ([] : List Nat) → c20 k = (updA c 4 (x19 : Int32).toNatClampNeg v1) k) ∧ ((i20 22).toInt = -9) ∧ ((i20 27).toInt = 0) := hw20
          obtain ⟨hw20, hI, hei20, hec20, hxp20_0, hxp20_1⟩ := hw20
          have hxp20_0 : (i20 22).toInt = -9 := hxp20_0
          have hxp20_1 : (i20 27).toInt = 0 := hxp20_1
          have hfi : ∀ k, k ∉ ([22, 27] : List Nat) → i20 k = i k := fr_z hfi hei20 (by decide +kernel) (by decide +kernel)
          have hfc : ∀ k, k ∉ ([4] : List Nat) → c20 k = c k := fr_z hfc hec20 (by decide +kernel) (by decide +kernel)
          have hP : va_P D vwCl (mW o a t i20 q20 c20 d20) H := hP
          have hD : va_D A (mW o a t i20 q20 c20 d20) := hD
          refine lv_iload hx hb dX12_standard_75 (lv_at hl 0 rfl) ?_
          exact rw_iret (i20, q20, c20, d20) hx hb hr hlocks hS (hK.sub (tys' := []) [] rfl) hP hD dX12_standard_77 ⟨trivial, hI, fr_w hfi (by decide +kernel), fr_w hfc (by decide +kernel), (show SJ (c20 3) (c20 6) (c20 9) (c20 10) (c20 11) (c20 13) ((i20 2) : Int32).toInt ((i20 5) : Int32).toInt ((i20 8) : Int32).toInt from by rw [show c20 3 = (updA c 4 (x19 : Int32).toNatClampNeg v1) 3 from hec20 3 (by decide +kernel), show c20 6 = (updA c 4 (x19 : Int32).toNatClampNeg v1) 6 from hec20 6 (by decide +kernel), show c20 9 = (updA c 4 (x19 : Int32).toNatClampNeg v1) 9 from hec20 9 (by decide +kernel), show c20 10 = (updA c 4 (x19 : Int32).toNatClampNeg v1) 10 from hec20 10 (by decide +kernel), show c20 11 = (updA c 4 (x19 : Int32).toNatClampNeg v1) 11 from hec20 11 (by decide +kernel), show c20 13 = (updA c 4 (x19 : Int32).toNatClampNeg v1) 13 from hec20 13 (by decide +kernel), show i20 2 = i 2 from hei20 2 (by decide +kernel), show i20 5 = i 5 from hei20 5 (by decide +kernel), show i20 8 = i 8 from hei20 8 (by decide +kernel)]; show SJ (c 3) (c 6) (c 9) (c 10) (c 11) (c 13) (i 2).toInt (i 5).toInt (i 8).toInt; exact hs_S), (show TJ (c20 3) (c20 6) (c20 23) (c20 24) (c20 29) (c20 30) ((i20 5) : Int32).toInt ((i20 22) : Int32).toInt ((i20 27) : Int32).toInt from TJ_no hxp20_0), (show StR (c 4) k1 f1 v1 (i 2).toInt (x17 : Int32) from Or.inr ⟨by unfold StB; omega, (ix_n (f := c 4) (s := x16) (show (x16 : Int32).toInt = k1.toInt * 6 + f1.toInt from by omega) ex17).symm⟩), (show StU (c 4) (c20 4) k1 f1 v1 (i 2).toInt from Or.inr ⟨by unfold StB; omega, by rw [show c20 4 = (updA c 4 (x19 : Int32).toNatClampNeg v1) 4 from hec20 4 (by decide +kernel)]; show upd (c 4) (x19 : Int32).toNatClampNeg v1 = _; rw [cl_t (show (x19 : Int32).toInt = k1.toInt * 6 + f1.toInt from by omega)]⟩), (show EnM (¬ StB k1 f1 v1 (i 2).toInt) (i 22) (i 27) ((i20 22) : Int32) ((i20 27) : Int32) from Or.inr ⟨by unfold StB; omega, hxp20_0, hxp20_1⟩)⟩
        · have f14 := mt (ti_eq (a := v1.toInt) (b := (-9)) rfl (by decide +kernel)).mpr c14
          refine lv_iconst (v := (-1)) hx hb dX12_standard_44 (by decide +kernel) ?_
          exact rw_iret (i, q, c, d) hx hb hr hlocks hS (hK.sub (tys' := []) [] rfl) hP hD dX12_standard_45 ⟨trivial, hI, fr_w hfi (by decide +kernel), fr_w hfc (by decide +kernel), (show SJ (c 3) (c 6) (c 9) (c 10) (c 11) (c 13) ((i 2) : Int32).toInt ((i 5) : Int32).toInt ((i 8) : Int32).toInt from hs_S), (show TJ (c 3) (c 6) (c 23) (c 24) (c 29) (c 30) ((i 5) : Int32).toInt ((i 22) : Int32).toInt ((i 27) : Int32).toInt from hs_J), (show StR (c 4) k1 f1 v1 (i 2).toInt ((-1) : Int32) from Or.inl ⟨by unfold StB; omega, by decide⟩), (show StU (c 4) (c 4) k1 f1 v1 (i 2).toInt from Or.inl ⟨by unfold StB; omega, rfl⟩), (show EnM (¬ StB k1 f1 v1 (i 2).toInt) (i 22) (i 27) ((i 22) : Int32) ((i 27) : Int32) from Or.inl ⟨by unfold StB; omega, rfl, rfl⟩)⟩

