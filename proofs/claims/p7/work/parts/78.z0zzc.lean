set_option maxHeartbeats 4000000 in
set_option maxRecDepth 100000 in
theorem s_X12_line_q (l : Launch) (D : va_G) (sz : Nat) (o : Nat) (a : Nat → Nat) (t : Nat → ClassId) (i : Nat → Int32) (q : Int64) (c : Nat → Nat → Int32) (d : Nat → Nat → Int64) (w : Int32) (s1 : Int32) (n1 : Int32) (hI : mInv i c) : Met l yX12_line wm_X12_line ({ frames := 2, cells := 0, slots := 0, locals := 46 }) (va_Pc [.ref o, .int w, .int s1, .int n1] (pB D sz (mW o a t i q c d) (mT t))) (va_Qi (fun (r : Int32) (u : MS) => True ∧ mInv u.1 u.2.2.1 ∧ (∀ k, k ∉ ([0] : List Nat) → u.1 k = i k) ∧ (∀ k, k ∉ ([1, 60, 61, 63] : List Nat) → u.2.2.1 k = c k) ∧ ((¬ (0 ≤ w.toInt ∧ w.toInt < (i 5).toInt ∧ 0 ≤ s1.toInt ∧ s1.toInt ≤ 3 ∧ n1.toInt ≤ 12) ∧ r.toInt = -1) ∨ (0 ≤ w.toInt ∧ w.toInt < (i 5).toInt ∧ 0 ≤ s1.toInt ∧ s1.toInt ≤ 3 ∧ n1.toInt ≤ 12 ∧ n1.toInt < 0 ∧ r.toInt = -3) ∨ (0 ≤ w.toInt ∧ w.toInt < (i 5).toInt ∧ 0 ≤ s1.toInt ∧ s1.toInt ≤ 3 ∧ n1.toInt ≤ 12 ∧ 0 ≤ n1.toInt ∧ r.toInt = n1.toInt)) ∧ (LV (c 63) (c 60) (c 61) (u.2.2.1 63) (u.2.2.1 60) (u.2.2.1 61) w s1 n1 (i 5).toInt) ∧ (LzR (LB w s1 n1 (i 5).toInt) (d 62) (u.2.2.2 62) w.toInt) ∧ (q = u.2.1)) (oC D (va_A (mW o a t i q c d) sz) (fun u : MS => mW o a t u.1 u.2.1 u.2.2.1 u.2.2.2) (fun _ => [])) (va_A (mW o a t i q c d) sz)) 0 0 (va_A (mW o a t i q c d) sz) := by
  refine Met.ofW (cc := cX12_line) (maxL := 5) (ret := (some .int)) (by decide +kernel) rfl ?_
  intro p e s m args below meth cd s₁ B hml hv
  obtain ⟨rfl, hsz, hP, hK, hD0⟩ := hv
  have hx := B.exec
  have hb := B.bytes
  have hr := B.returns
  have hts := atoms_spec (ws := wm_X12_line) B.pre
  have hown : s.vm.findClass RX12 = some m.cls := findClass_of_methodNamed B.named
  have hlocks := B.notSynchronized
  subst hsz
  have hD := hD0.self (sz := s.heap.size)
  generalize hAe : va_A (mW o a t i q c d) s.heap.size = A at hD ⊢
  have hA : ∀ q : Nat, s.heap.size ≤ q → A q := fun q h => by rw [← hAe]; exact Or.inr h
  have hS : va_S A s.heap s.heap [] := va_S.rf
  have hfi : ∀ k, k ∉ ([] : List Nat) → i k = i k := fun _ _ => rfl
  have hfc : ∀ k, k ∉ ([] : List Nat) → c k = c k := fun _ _ => rfl
  have hl := lv_entry ([.ref o, .int w, .int s1, .int n1]) (n := 5) (Nat.le_of_ble_eq_true rfl)
  rw [lg_entry_eq]
  generalize (lg_sl ([.ref o, .int w, .int s1, .int n1]) ++ List.replicate (5 - (lg_sl ([.ref o, .int w, .int s1, .int n1])).length) Slot.unset).toArray = ls at hl ⊢
  have hl : lv_has ls 5 [(0, .ref o), (1, .int w), (2, .int s1), (3, .int n1)] := hl
  have rb5_i : 0 ≤ (i 5).toInt ∧ (i 5).toInt ≤ 30 := hI.1 5
  refine lv_aload_n hx hb dX12_line_0 rfl (lv_at hl 0 rfl) ?_
  refine lv_iload_n hx hb dX12_line_1 rfl (lv_at hl 1 rfl) ?_
  refine ro_calli (va_runV (As := [.int w]) (rest := []) ⟨hx, hb, hml, hown, hts⟩ (s_X12_isObject l D s.heap.size o a t i q c d w hI ) (cwV 1 hts gm_X12_line_X12_isObject rfl rfl rfl (by decide +kernel) ⟨Nat.le_of_ble_eq_true rfl, Nat.le_of_ble_eq_true rfl⟩) (pA_V hK hP (ci := 12) (q0 := 0) rfl rfl) rfl rfl hl.1 rfl (lv_room (Nat.le_of_ble_eq_true rfl)) dX12_line_2 ⟨Nat.le_of_ble_eq_true rfl, Nat.le_of_ble_eq_true rfl⟩) hS hA hP (fun r1 u1 H locs hw1 hP hS => ?_)
  have hw1 : r1 = if (0 ≤ w.toInt ∧ w.toInt ≤ (i 5).toInt - 1) then 1 else 0 := hw1
  refine lv_if_eq (tgt := 26) hx hb dX12_line_5 (by decide +kernel) (fun c2 => ?_) (fun c2 => ?_)
  · have f2 := fl_f hw1 c2
    refine lv_iconst (v := (-1)) hx hb dX12_line_26 (by decide +kernel) ?_
    exact rw_iret (i, q, c, d) hx hb hr hlocks hS (hK.sub (tys' := []) [] rfl) hP hD dX12_line_27 ⟨trivial, hI, fr_w hfi (by decide +kernel), fr_w hfc (by decide +kernel), (show (¬ (0 ≤ w.toInt ∧ w.toInt < (i 5).toInt ∧ 0 ≤ s1.toInt ∧ s1.toInt ≤ 3 ∧ n1.toInt ≤ 12) ∧ ((-1) : Int32).toInt = -1) ∨ (0 ≤ w.toInt ∧ w.toInt < (i 5).toInt ∧ 0 ≤ s1.toInt ∧ s1.toInt ≤ 3 ∧ n1.toInt ≤ 12 ∧ n1.toInt < 0 ∧ ((-1) : Int32).toInt = -3) ∨ (0 ≤ w.toInt ∧ w.toInt < (i 5).toInt ∧ 0 ≤ s1.toInt ∧ s1.toInt ≤ 3 ∧ n1.toInt ≤ 12 ∧ 0 ≤ n1.toInt ∧ ((-1) : Int32).toInt = n1.toInt) from by have h50 : ((-1) : Int32).toInt = -1 := (by decide +kernel); omega), (show LV (c 63) (c 60) (c 61) (c 63) (c 60) (c 61) w s1 n1 (i 5).toInt from Or.inl ⟨by unfold LB; omega, rfl, rfl, rfl⟩), (show LzR (LB w s1 n1 (i 5).toInt) (d 62) (d 62) w.toInt from Or.inl ⟨by unfold LB; omega, rfl⟩), rfl⟩
  · have f2 := fl_t hw1 c2
    refine lv_iload_n hx hb dX12_line_8 rfl (lv_at hl 2 rfl) ?_
    refine lv_i2l (v := s1.toInt64) hx hb dX12_line_9 rfl ?_
    refine lv_lconst (v := 0) hx hb dX12_line_10 (by decide +kernel) ?_
    refine lv_ldc2 (v := 3) hx hb hown (hts (.constantLong RX12 279 (3)) (List.mem_cons_of_mem _ (List.mem_append_left _ (List.mem_append_left _ (List.mem_of_getElem? (i := 9) rfl))))) dX12_line_11 ?_
    have hPc := hP.sub (ws' := []) [] rfl
    have hKc := hK.sub (tys' := []) [] rfl
    refine ro_calli (va_runS (As := [.long s1.toInt64, .long 0, .long 3]) (rest := []) ⟨hx, hb, hml, hown, hts⟩ (c_X12_in l D H.size s1.toInt64 0 3 s1.toInt 0 3 ((Int32.toInt_toInt64 s1).trans rfl) (by decide +kernel) (by decide +kernel)) (va_cwS 3 hts gm_X12_line_X12_in rfl rfl rfl (by decide +kernel) ⟨Nat.le_of_ble_eq_true rfl, Nat.le_of_ble_eq_true rfl⟩) (pA_S hKc hPc) rfl rfl hl.1 rfl (lv_room (Nat.le_of_ble_eq_true rfl)) dX12_line_14 ⟨Nat.le_of_ble_eq_true rfl, Nat.le_of_ble_eq_true rfl⟩) hS hA hP (fun r3 u3 H locs hw3 hP hS => ?_)
    have hw3 : r3 = if (0 ≤ s1.toInt ∧ s1.toInt ≤ 3) then 1 else 0 := hw3
    refine lv_if_eq (tgt := 26) hx hb dX12_line_17 (by decide +kernel) (fun c4 => ?_) (fun c4 => ?_)
    · have f4 := fl_f hw3 c4
      refine lv_iconst (v := (-1)) hx hb dX12_line_26 (by decide +kernel) ?_
      exact rw_iret (i, q, c, d) hx hb hr hlocks hS (hK.sub (tys' := []) [] rfl) hP hD dX12_line_27 ⟨trivial, hI, fr_w hfi (by decide +kernel), fr_w hfc (by decide +kernel), (show (¬ (0 ≤ w.toInt ∧ w.toInt < (i 5).toInt ∧ 0 ≤ s1.toInt ∧ s1.toInt ≤ 3 ∧ n1.toInt ≤ 12) ∧ ((-1) : Int32).toInt = -1) ∨ (0 ≤ w.toInt ∧ w.toInt < (i 5).toInt ∧ 0 ≤ s1.toInt ∧ s1.toInt ≤ 3 ∧ n1.toInt ≤ 12 ∧ n1.toInt < 0 ∧ ((-1) : Int32).toInt = -3) ∨ (0 ≤ w.toInt ∧ w.toInt < (i 5).toInt ∧ 0 ≤ s1.toInt ∧ s1.toInt ≤ 3 ∧ n1.toInt ≤ 12 ∧ 0 ≤ n1.toInt ∧ ((-1) : Int32).toInt = n1.toInt) from by have h50 : ((-1) : Int32).toInt = -1 := (by decide +kernel); omega), (show LV (c 63) (c 60) (c 61) (c 63) (c 60) (c 61) w s1 n1 (i 5).toInt from Or.inl ⟨by unfold LB; omega, rfl, rfl, rfl⟩), (show LzR (LB w s1 n1 (i 5).toInt) (d 62) (d 62) w.toInt from Or.inl ⟨by unfold LB; omega, rfl⟩), rfl⟩
    · have f4 := fl_t hw3 c4
      refine lv_iload_n hx hb dX12_line_20 rfl (lv_at hl 3 rfl) ?_
      refine lv_bipush (v := 12) hx hb dX12_line_21 (by decide +kernel) ?_
      refine lv_icmp_le (tgt := 28) hx hb dX12_line_23 (by decide +kernel) (fun c5 => ?_) (fun c5 => ?_)
      · have f5 := (ti_le (a := n1.toInt) (b := 12) rfl (by decide +kernel)).mp c5
        refine lv_iload_n hx hb dX12_line_28 rfl (lv_at hl 3 rfl) ?_
        refine lv_if_ge (tgt := 38) hx hb dX12_line_29 (by decide +kernel) (fun c6 => ?_) (fun c6 => ?_)
        · have f6 := (ti_le (a := 0) (b := n1.toInt) (by decide +kernel) rfl).mp c6
          refine lv_aload_n hx hb dX12_line_38 rfl (lv_at hl 0 rfl) ?_
          refine mget_63 hx hb hts (fun _ h => List.mem_cons_of_mem _ (List.mem_append_right _ h)) hown hK hP (hts (.fieldLink RX12 136 "TalePlayModel" "hasLine" "[Z") (List.mem_cons_of_mem _ (List.mem_append_left _ (List.mem_append_left _ (List.mem_of_getElem? (i := 10) rfl))))) dX12_line_39 ?_
          refine lv_iload_n hx hb dX12_line_42 rfl (lv_at hl 1 rfl) ?_
          refine lv_iconst (v := 1) hx hb dX12_line_43 (by decide +kernel) ?_
          refine mst_63 hx hb hK hP hD hS (vp_in_iff.mpr (by have h9 : w.toInt = w.toInt := rfl; omega)) (nb_z (show 0 ≤ (1 : Int32).toInt ∧ (1 : Int32).toInt ≤ 1 from by have h9 : (1 : Int32).toInt = 1 := (by decide +kernel); omega)) dX12_line_44 (fun H locs hP hD hS => ?_)
          have hI := mInv_c hI (k := 63) (j := (w : Int32).toNatClampNeg) (x := 1) (show 0 ≤ (1 : Int32).toInt ∧ (1 : Int32).toInt ≤ 1 from by have h9 : (1 : Int32).toInt = 1 := (by decide +kernel); omega)
          have hfc : ∀ k, k ∉ ([63] : List Nat) → (updA c 63 (w : Int32).toNatClampNeg 1) k = c k := fr_cz hfc (by decide +kernel) (by decide +kernel)
          refine lv_aload_n hx hb dX12_line_45 rfl (lv_at hl 0 rfl) ?_
          refine mget_60 hx hb hts (fun _ h => List.mem_cons_of_mem _ (List.mem_append_right _ h)) hown hK hP (hts (.fieldLink RX12 126 "TalePlayModel" "lineSort" "[I") (List.mem_cons_of_mem _ (List.mem_append_left _ (List.mem_append_left _ (List.mem_of_getElem? (i := 11) rfl))))) dX12_line_46 ?_
          refine lv_iload_n hx hb dX12_line_49 rfl (lv_at hl 1 rfl) ?_
          refine lv_iload_n hx hb dX12_line_50 rfl (lv_at hl 2 rfl) ?_
          refine mst_60 hx hb hK hP hD hS (vp_in_iff.mpr (by have h9 : w.toInt = w.toInt := rfl; omega)) dX12_line_51 (fun H locs hP hD hS => ?_)
          have hI := mInv_c hI (k := 60) (j := (w : Int32).toNatClampNeg) (x := s1) (show 0 ≤ (s1 : Int32).toInt ∧ (s1 : Int32).toInt ≤ 3 from by omega)
          have hfc : ∀ k, k ∉ ([60, 63] : List Nat) → (updA (updA c 63 (w : Int32).toNatClampNeg 1) 60 (w : Int32).toNatClampNeg s1) k = c k := fr_cz hfc (by decide +kernel) (by decide +kernel)
          refine lv_aload_n hx hb dX12_line_52 rfl (lv_at hl 0 rfl) ?_
          refine mget_61 hx hb hts (fun _ h => List.mem_cons_of_mem _ (List.mem_append_right _ h)) hown hK hP (hts (.fieldLink RX12 129 "TalePlayModel" "lineMany" "[I") (List.mem_cons_of_mem _ (List.mem_append_left _ (List.mem_append_left _ (List.mem_of_getElem? (i := 12) rfl))))) dX12_line_53 ?_
          refine lv_iload_n hx hb dX12_line_56 rfl (lv_at hl 1 rfl) ?_
          refine lv_iload_n hx hb dX12_line_57 rfl (lv_at hl 3 rfl) ?_
          refine mst_61 hx hb hK hP hD hS (vp_in_iff.mpr (by have h9 : w.toInt = w.toInt := rfl; omega)) dX12_line_58 (fun H locs hP hD hS => ?_)
          have hI := mInv_c hI (k := 61) (j := (w : Int32).toNatClampNeg) (x := n1) (show 0 ≤ (n1 : Int32).toInt ∧ (n1 : Int32).toInt ≤ 12 from by omega)
          have hfc : ∀ k, k ∉ ([60, 61, 63] : List Nat) → (updA (updA (updA c 63 (w : Int32).toNatClampNeg 1) 60 (w : Int32).toNatClampNeg s1) 61 (w : Int32).toNatClampNeg n1) k = c k := fr_cz hfc (by decide +kernel) (by decide +kernel)
          refine lv_iconst (v := 0) hx hb dX12_line_59 (by decide +kernel) ?_
          refine lv_istore (lv' := [(4, .int 0), (0, .ref o), (1, .int w), (2, .int s1), (3, .int n1)]) hx hb dX12_line_60 hl (by decide +kernel) rfl (fun ls hl => ?_)
          have lp7 : ∀ (fu : Nat) (i7 : Nat → Int32) (c7 : Nat → Nat → Int32) (d7 : Nat → Nat → Int64) (y7_4 : Int32), mInv i7 c7 → (∀ k, k ∉ ([] : List Nat) → i7 k = i k) → (∀ k, k ∉ ([60, 61, 63] : List Nat) → c7 k = c k) → (0 ≤ y7_4.toInt ∧ y7_4.toInt ≤ 12) → ((c7 63) = upd (c 63) w.toNatClampNeg 1) → ((c7 60) = upd (c 60) w.toNatClampNeg s1) → ((c7 61) = upd (c 61) w.toNatClampNeg n1) → (LzK (d 62) (d7 62) w.toInt y7_4.toInt) → (12 - y7_4.toInt).toNat < fu → ∀ (H : Heap) (locs : List Loc) (ls : Array Slot), va_P D vwCl (mW o a t i7 q c7 d7) H → va_D A (mW o a t i7 q c7 d7) → va_S A s.heap H locs → lv_has ls 5 [(4, .int y7_4), (0, .ref o), (1, .int w), (2, .int s1), (3, .int n1)] → W p l e (headSpec wm_X12_line ({ frames := 2, cells := 0, slots := 0, locals := 46 })).room s m ([.ref o, .int w, .int s1, .int n1] : List Value).toArray below meth cd H locs 0 0 (MQ below (va_Qi (fun (r : Int32) (u : MS) => True ∧ mInv u.1 u.2.2.1 ∧ (∀ k, k ∉ ([0] : List Nat) → u.1 k = i k) ∧ (∀ k, k ∉ ([1, 60, 61, 63] : List Nat) → u.2.2.1 k = c k) ∧ ((¬ (0 ≤ w.toInt ∧ w.toInt < (i 5).toInt ∧ 0 ≤ s1.toInt ∧ s1.toInt ≤ 3 ∧ n1.toInt ≤ 12) ∧ r.toInt = -1) ∨ (0 ≤ w.toInt ∧ w.toInt < (i 5).toInt ∧ 0 ≤ s1.toInt ∧ s1.toInt ≤ 3 ∧ n1.toInt ≤ 12 ∧ n1.toInt < 0 ∧ r.toInt = -3) ∨ (0 ≤ w.toInt ∧ w.toInt < (i 5).toInt ∧ 0 ≤ s1.toInt ∧ s1.toInt ≤ 3 ∧ n1.toInt ≤ 12 ∧ 0 ≤ n1.toInt ∧ r.toInt = n1.toInt)) ∧ (LV (c 63) (c 60) (c 61) (u.2.2.1 63) (u.2.2.1 60) (u.2.2.1 61) w s1 n1 (i 5).toInt) ∧ (LzR (LB w s1 n1 (i 5).toInt) (d 62) (u.2.2.2 62) w.toInt) ∧ (q = u.2.1)) (oC D A (fun u : MS => mW o a t u.1 u.2.1 u.2.2.1 u.2.2.2) (fun _ => [])) A) ([.ref o, .int w, .int s1, .int n1] : List Value).toArray s 0 0 A) (F0 m 62 ls []) := by
            intro fu
            induction fu with
            | zero => intro i7 c7 d7 y7_4 hI hfi hfc hy7_4 hz7_0 hz7_1 hz7_2 hz7_3 hm; exact absurd hm (Nat.not_lt_zero _)
            | succ fu ih =>
              intro i7 c7 d7 y7_4 hI hfi hfc hy7_4 hz7_0 hz7_1 hz7_2 hz7_3 hm H locs ls hP hD hS hl
              have ih7 := ih
              refine lv_iload hx hb dX12_line_62 (lv_at hl 0 rfl) ?_
              refine lv_bipush (v := 12) hx hb dX12_line_64 (by decide +kernel) ?_
              refine lv_icmp_ge (tgt := 88) hx hb dX12_line_66 (by decide +kernel) (fun c8 => ?_) (fun c8 => ?_)
              · have f8 := (ti_le (a := 12) (b := y7_4.toInt) (by decide +kernel) rfl).mp c8
                refine lv_iload_n hx hb dX12_line_88 rfl (lv_at hl 4 rfl) ?_
                exact rw_iret (i7, q, c7, d7) hx hb hr hlocks hS (hK.sub (tys' := []) [] rfl) hP hD dX12_line_89 ⟨trivial, hI, fr_w hfi (by decide +kernel), fr_w hfc (by decide +kernel), (show (¬ (0 ≤ w.toInt ∧ w.toInt < (i 5).toInt ∧ 0 ≤ s1.toInt ∧ s1.toInt ≤ 3 ∧ n1.toInt ≤ 12) ∧ (n1 : Int32).toInt = -1) ∨ (0 ≤ w.toInt ∧ w.toInt < (i 5).toInt ∧ 0 ≤ s1.toInt ∧ s1.toInt ≤ 3 ∧ n1.toInt ≤ 12 ∧ n1.toInt < 0 ∧ (n1 : Int32).toInt = -3) ∨ (0 ≤ w.toInt ∧ w.toInt < (i 5).toInt ∧ 0 ≤ s1.toInt ∧ s1.toInt ≤ 3 ∧ n1.toInt ≤ 12 ∧ 0 ≤ n1.toInt ∧ (n1 : Int32).toInt = n1.toInt) from by omega), (show LV (c 63) (c 60) (c 61) (c7 63) (c7 60) (c7 61) w s1 n1 (i 5).toInt from Or.inr ⟨by unfold LB; omega, hz7_0, hz7_1, hz7_2⟩), (show LzR (LB w s1 n1 (i 5).toInt) (d 62) (d7 62) w.toInt from Or.inr ⟨by unfold LB; omega, by rw [show (12 : Int) = y7_4.toInt by omega]; exact hz7_3⟩), rfl⟩
              · have f8 := mt (ti_le (a := 12) (b := y7_4.toInt) (by decide +kernel) rfl).mpr c8
                refine lv_aload_n hx hb dX12_line_69 rfl (lv_at hl 1 rfl) ?_
                refine mget_62 hx hb hts (fun _ h => List.mem_cons_of_mem _ (List.mem_append_right _ h)) hown hK hP (hts (.fieldLink RX12 132 "TalePlayModel" "items" "[J") (List.mem_cons_of_mem _ (List.mem_append_left _ (List.mem_append_left _ (List.mem_of_getElem? (i := 13) rfl))))) dX12_line_70 ?_
                refine lv_bipush (v := 12) hx hb dX12_line_73 (by decide +kernel) ?_
                refine lv_iload_n hx hb dX12_line_75 rfl (lv_at hl 2 rfl) ?_
                refine lv_imul hx hb dX12_line_76 ?_
                refine lv_topi (fun x9 ex9 => ?_)
                have tx9 := ti_mul (a := 12) (b := w.toInt) ex9 (by decide +kernel) rfl (by omega) (by omega)
                refine lv_iload hx hb dX12_line_77 (lv_at hl 0 rfl) ?_
                refine lv_iadd hx hb dX12_line_79 ?_
                refine lv_topi (fun x10 ex10 => ?_)
                have tx10 := ti_add (a := (12 * w.toInt)) (b := y7_4.toInt) ex10 tx9 rfl (by omega) (by omega)
                refine lv_lconst (v := 0) hx hb dX12_line_80 (by decide +kernel) ?_
                refine mst_62 hx hb hK hP hD hS (vp_in_iff.mpr (by have h9 : x10.toInt = ((12 * w.toInt) + y7_4.toInt) := tx10; omega)) dX12_line_81 (fun H locs hP hD hS => ?_)
                obtain ⟨x11, ex11⟩ : ∃ y : Int32, y = y7_4 + 1 := ⟨_, rfl⟩
                have tx11 := ti_add (a := y7_4.toInt) (b := 1) ex11 rfl (by decide +kernel) (by omega) (by omega)
                refine lv_iinc (v := x11) (lv' := [(4, .int x11), (0, .ref o), (1, .int w), (2, .int s1), (3, .int n1)]) hx hb dX12_line_82 hl (k := 0) rfl (by rw [ex11]; rfl) (by decide +kernel) rfl (fun ls hl => ?_)
                refine lv_goto (tgt := 62) hx hb dX12_line_85 (by decide +kernel) ?_
                exact ih7 i7 c7 (updD d7 62 (x10 : Int32).toNatClampNeg 0) x11 hI (fr_w hfi (by decide +kernel)) (fr_w hfc (by decide +kernel)) (show 0 ≤ x11.toInt ∧ x11.toInt ≤ 12 from by have h50 : x11.toInt = (y7_4.toInt + 1) := tx11; omega) (show (c7 63) = upd (c 63) w.toNatClampNeg 1 from hz7_0) (show (c7 60) = upd (c 60) w.toNatClampNeg s1 from hz7_1) (show (c7 61) = upd (c 61) w.toNatClampNeg n1 from hz7_2) (show LzK (d 62) ((updD d7 62 (x10 : Int32).toNatClampNeg 0) 62) w.toInt x11.toInt from LzK_s (x := y7_4) (z := x10) hz7_3 (by omega) (by omega) tx11 (by have h9 : x10.toInt = ((12 * w.toInt) + y7_4.toInt) := tx10; omega) rfl) (by have h50 : x11.toInt = (y7_4.toInt + 1) := tx11; omega) _ _ _ hP hD hS (lv_sub hl [0, 1, 2, 3, 4] rfl)
          exact lp7 _ i (updA (updA (updA c 63 (w : Int32).toNatClampNeg 1) 60 (w : Int32).toNatClampNeg s1) 61 (w : Int32).toNatClampNeg n1) d (0 : Int32) hI (fr_w hfi (by decide +kernel)) (fr_w hfc (by decide +kernel)) (show 0 ≤ (0 : Int32).toInt ∧ (0 : Int32).toInt ≤ 12 from by have h50 : (0 : Int32).toInt = 0 := (by decide +kernel); omega) (show ((updA (updA (updA c 63 (w : Int32).toNatClampNeg 1) 60 (w : Int32).toNatClampNeg s1) 61 (w : Int32).toNatClampNeg n1) 63) = upd (c 63) w.toNatClampNeg 1 from rfl) (show ((updA (updA (updA c 63 (w : Int32).toNatClampNeg 1) 60 (w : Int32).toNatClampNeg s1) 61 (w : Int32).toNatClampNeg n1) 60) = upd (c 60) w.toNatClampNeg s1 from rfl) (show ((updA (updA (updA c 63 (w : Int32).toNatClampNeg 1) 60 (w : Int32).toNatClampNeg s1) 61 (w : Int32).toNatClampNeg n1) 61) = upd (c 61) w.toNatClampNeg n1 from rfl) (show LzK (d 62) (d 62) w.toInt (0 : Int32).toInt from LzK_0) (Nat.lt_succ_self _) _ _ _ hP hD hS (lv_sub hl [0, 1, 2, 3, 4] rfl)
        · have f6 := mt (ti_le (a := 0) (b := n1.toInt) (by decide +kernel) rfl).mpr c6
          refine lv_aload_n hx hb dX12_line_32 rfl (lv_at hl 0 rfl) ?_
          refine lv_iconst (v := 5) hx hb dX12_line_33 (by decide +kernel) ?_
          refine al_calli (va_runV (As := [.int 5]) (rest := []) ⟨hx, hb, hml, hown, hts⟩ (s_X12_meets l D H.size o a t i q c d 5 hI (show 1 ≤ 5 ∧ 5 ≤ 6 from by have h90 : (5 : Int32).toInt = 5 := (by decide +kernel); omega)) (cwV 1 hts gm_X12_line_X12_meets rfl rfl rfl (by decide +kernel) ⟨Nat.le_of_ble_eq_true rfl, Nat.le_of_ble_eq_true rfl⟩) (pB_V hK hP hD (ci := 12) (q0 := 0) rfl rfl) rfl rfl hl.1 rfl (lv_room (Nat.le_of_ble_eq_true rfl)) dX12_line_34 ⟨Nat.le_of_ble_eq_true rfl, Nat.le_of_ble_eq_true rfl⟩) hS hA hP hD (fun r12 u12 H locs hv12 hP hD hS => ?_)
          obtain ⟨i12, q12, c12, d12⟩ := u12
          have hw12 : r12 = (-3) ∧ mInv i12 c12 ∧ (∀ k, k ∉ ([0] : List Nat) → i12 k = i k) ∧ (∀ k, k ∉ ([1] : List Nat) → c12 k = c k) ∧ (q = q12) ∧ (d = d12) := hv12
          clear hv12
          obtain ⟨hw12, hI, hei12, hec12, hq12_q, hq12_d⟩ := hw12
          subst hq12_q
          subst hq12_d
          have hfi : ∀ k, k ∉ ([0] : List Nat) → i12 k = i k := fr_z hfi hei12 (by decide +kernel) (by decide +kernel)
          have hfc : ∀ k, k ∉ ([1] : List Nat) → c12 k = c k := fr_z hfc hec12 (by decide +kernel) (by decide +kernel)
          have hP : va_P D vwCl (mW o a t i12 q c12 d) H := hP
          have hD : va_D A (mW o a t i12 q c12 d) := hD
          have hw12 : r12 = (-3) := hw12
          subst hw12
          exact rw_iret (i12, q, c12, d) hx hb hr hlocks hS (hK.sub (tys' := []) [] rfl) hP hD dX12_line_37 ⟨trivial, hI, fr_w hfi (by decide +kernel), fr_w hfc (by decide +kernel), (show (¬ (0 ≤ w.toInt ∧ w.toInt < (i 5).toInt ∧ 0 ≤ s1.toInt ∧ s1.toInt ≤ 3 ∧ n1.toInt ≤ 12) ∧ ((-3) : Int32).toInt = -1) ∨ (0 ≤ w.toInt ∧ w.toInt < (i 5).toInt ∧ 0 ≤ s1.toInt ∧ s1.toInt ≤ 3 ∧ n1.toInt ≤ 12 ∧ n1.toInt < 0 ∧ ((-3) : Int32).toInt = -3) ∨ (0 ≤ w.toInt ∧ w.toInt < (i 5).toInt ∧ 0 ≤ s1.toInt ∧ s1.toInt ≤ 3 ∧ n1.toInt ≤ 12 ∧ 0 ≤ n1.toInt ∧ ((-3) : Int32).toInt = n1.toInt) from by have h50 : ((-3) : Int32).toInt = -3 := (by decide +kernel); omega), (show LV (c 63) (c 60) (c 61) (c12 63) (c12 60) (c12 61) w s1 n1 (i 5).toInt from Or.inl ⟨by unfold LB; omega, hfc 63 (by decide +kernel), hfc 60 (by decide +kernel), hfc 61 (by decide +kernel)⟩), (show LzR (LB w s1 n1 (i 5).toInt) (d 62) (d 62) w.toInt from Or.inl ⟨by unfold LB; omega, rfl⟩), rfl⟩
      · have f5 := mt (ti_le (a := n1.toInt) (b := 12) rfl (by decide +kernel)).mpr c5
        refine lv_iconst (v := (-1)) hx hb dX12_line_26 (by decide +kernel) ?_
        exact rw_iret (i, q, c, d) hx hb hr hlocks hS (hK.sub (tys' := []) [] rfl) hP hD dX12_line_27 ⟨trivial, hI, fr_w hfi (by decide +kernel), fr_w hfc (by decide +kernel), (show (¬ (0 ≤ w.toInt ∧ w.toInt < (i 5).toInt ∧ 0 ≤ s1.toInt ∧ s1.toInt ≤ 3 ∧ n1.toInt ≤ 12) ∧ ((-1) : Int32).toInt = -1) ∨ (0 ≤ w.toInt ∧ w.toInt < (i 5).toInt ∧ 0 ≤ s1.toInt ∧ s1.toInt ≤ 3 ∧ n1.toInt ≤ 12 ∧ n1.toInt < 0 ∧ ((-1) : Int32).toInt = -3) ∨ (0 ≤ w.toInt ∧ w.toInt < (i 5).toInt ∧ 0 ≤ s1.toInt ∧ s1.toInt ≤ 3 ∧ n1.toInt ≤ 12 ∧ 0 ≤ n1.toInt ∧ ((-1) : Int32).toInt = n1.toInt) from by have h50 : ((-1) : Int32).toInt = -1 := (by decide +kernel); omega), (show LV (c 63) (c 60) (c 61) (c 63) (c 60) (c 61) w s1 n1 (i 5).toInt from Or.inl ⟨by unfold LB; omega, rfl, rfl, rfl⟩), (show LzR (LB w s1 n1 (i 5).toInt) (d 62) (d 62) w.toInt from Or.inl ⟨by unfold LB; omega, rfl⟩), rfl⟩

set_option maxHeartbeats 4000000 in
set_option maxRecDepth 100000 in
theorem c_X4_floatBits_q (l : Launch) (D : va_G) (sz : Nat) (v : Int32) : Met l yX4_floatBits wm_X4_floatBits ({ frames := 0, cells := 0, slots := 0, locals := 0 }) (va_Pc [.int v] (pA D sz [] [])) (va_Qi (fun (r : Int32) (_ : Unit) => r = flV v) oA (ro sz)) 0 0 (ro sz) := by
  refine Met.ofW (cc := cX4_floatBits) (maxL := 1) (ret := (some .int)) (by decide +kernel) rfl ?_
  intro p e s m args below meth c s₁ B hml hv
  obtain ⟨rfl, hsz, hP, hK⟩ := hv
  have hx := B.exec
  have hb := B.bytes
  have hr := B.returns
  have hts := atoms_spec (ws := wm_X4_floatBits) B.pre
  have hown : s.vm.findClass RX4 = some m.cls := findClass_of_methodNamed B.named
  have hlocks := B.notSynchronized
  subst hsz
  have hA : ∀ q : Nat, s.heap.size ≤ q → ro s.heap.size q := fun _ h => h
  have hS : va_S (ro s.heap.size) s.heap s.heap [] := va_S.rf
  have hP : va_P D vwCl [] s.heap := hP
  have hl := lv_entry ([.int v]) (n := 1) (Nat.le_of_ble_eq_true rfl)
  rw [lg_entry_eq]
  generalize (lg_sl ([.int v]) ++ List.replicate (1 - (lg_sl ([.int v])).length) Slot.unset).toArray = ls at hl ⊢
  have hl : lv_has ls 1 [(0, .int v)] := hl
  refine lv_iload_n hx hb dX4_floatBits_0 rfl (lv_at hl 0 rfl) ?_
  refine lv_ldc (v := 2147483647) hx hb hown (hts (.constant RX4 32 (2147483647)) (List.mem_cons_of_mem _ (List.mem_of_getElem? (i := 0) rfl))) dX4_floatBits_1 ?_
  refine lv_iand hx hb dX4_floatBits_3 ?_
  refine lv_topi (fun x1 ex1 => ?_)
  refine lv_ldc (v := 2139095040) hx hb hown (hts (.constant RX4 33 (2139095040)) (List.mem_cons_of_mem _ (List.mem_of_getElem? (i := 1) rfl))) dX4_floatBits_4 ?_
  refine lv_icmp_le (tgt := 14) hx hb dX4_floatBits_6 (by decide +kernel) (fun c2 => ?_) (fun c2 => ?_)
  · have f2 := (ti_le (a := x1.toInt) (b := 2139095040) rfl (by decide +kernel)).mp c2
    refine lv_iload_n hx hb dX4_floatBits_14 rfl (lv_at hl 0 rfl) ?_
    exact ro_iret hx hb hr hlocks hS dX4_floatBits_15 (show v = flV v from flV_n ex1 (by omega))
  · have f2 := mt (ti_le (a := x1.toInt) (b := 2139095040) rfl (by decide +kernel)).mpr c2
    refine lv_ldc (v := 2143289344) hx hb hown (hts (.constant RX4 34 (2143289344)) (List.mem_cons_of_mem _ (List.mem_of_getElem? (i := 2) rfl))) dX4_floatBits_9 ?_
    refine lv_goto (tgt := 15) hx hb dX4_floatBits_11 (by decide +kernel) ?_
    exact ro_iret hx hb hr hlocks hS dX4_floatBits_15 (show (2143289344 : Int32) = flV v from flV_y ex1 (by omega))

set_option maxHeartbeats 4000000 in
set_option maxRecDepth 100000 in
theorem c_X12_cut_q (l : Launch) (D : va_G) (sz : Nat) (s1 : Int32) (v : Int64) : Met l yX12_cut wm_X12_cut ({ frames := 0, cells := 0, slots := 0, locals := 0 }) (va_Pc [.int s1, .long v] (pA D sz [] [])) (va_Ql (fun (r : Int64) (_ : Unit) => r = cutV s1.toInt v) oA (ro sz)) 0 0 (ro sz) := by
  refine Met.ofW (cc := cX12_cut) (maxL := 4) (ret := (some .long)) (by decide +kernel) rfl ?_
  intro p e s m args below meth c s₁ B hml hv
  obtain ⟨rfl, hsz, hP, hK⟩ := hv
  have hx := B.exec
  have hb := B.bytes
  have hr := B.returns
  have hts := atoms_spec (ws := wm_X12_cut) B.pre
  have hown : s.vm.findClass RX12 = some m.cls := findClass_of_methodNamed B.named
  have hlocks := B.notSynchronized
  subst hsz
  have hA : ∀ q : Nat, s.heap.size ≤ q → ro s.heap.size q := fun _ h => h
  have hS : va_S (ro s.heap.size) s.heap s.heap [] := va_S.rf
  have hP : va_P D vwCl [] s.heap := hP
  have hl := lv_entry ([.int s1, .long v]) (n := 4) (Nat.le_of_ble_eq_true rfl)
  rw [lg_entry_eq]
  generalize (lg_sl ([.int s1, .long v]) ++ List.replicate (4 - (lg_sl ([.int s1, .long v])).length) Slot.unset).toArray = ls at hl ⊢
  have hl : lv_has ls 4 [(0, .int s1), (1, .long v)] := hl
  refine lv_iload_n hx hb dX12_cut_0 rfl (lv_at hl 0 rfl) ?_
  refine lv_if_ne (tgt := 9) hx hb dX12_cut_1 (by decide +kernel) (fun c1 => ?_) (fun c1 => ?_)
  · have f1 := mt (ti_eq (a := s1.toInt) (b := 0) rfl (by decide +kernel)).mpr c1
    refine lv_iload_n hx hb dX12_cut_9 rfl (lv_at hl 0 rfl) ?_
    refine lv_iconst (v := 1) hx hb dX12_cut_10 (by decide +kernel) ?_
    refine lv_icmp_ne (tgt := 18) hx hb dX12_cut_11 (by decide +kernel) (fun c2 => ?_) (fun c2 => ?_)
    · have f2 := mt (ti_eq (a := s1.toInt) (b := 1) rfl (by decide +kernel)).mpr c2
      refine lv_iload_n hx hb dX12_cut_18 rfl (lv_at hl 0 rfl) ?_
      refine lv_iconst (v := 2) hx hb dX12_cut_19 (by decide +kernel) ?_
      refine lv_icmp_ne (tgt := 46) hx hb dX12_cut_20 (by decide +kernel) (fun c3 => ?_) (fun c3 => ?_)
      · have f3 := mt (ti_eq (a := s1.toInt) (b := 2) rfl (by decide +kernel)).mpr c3
        refine lv_lload_n hx hb dX12_cut_46 rfl (lv_at hl 1 rfl) ?_
        exact ro_lret hx hb hr hlocks hS dX12_cut_47 (show v = cutV s1.toInt v from cut_3 (by omega) (by omega) (by omega))
      · have f3 := (ti_eq (a := s1.toInt) (b := 2) rfl (by decide +kernel)).mp c3
        refine lv_lload_n hx hb dX12_cut_23 rfl (lv_at hl 1 rfl) ?_
        refine lv_l2i (v := v.toInt32) hx hb dX12_cut_24 rfl ?_
        refine lv_topi (fun x4 ex4 => ?_)
        refine lv_istore_n (lv' := [(3, .int x4), (0, .int s1), (1, .long v)]) hx hb dX12_cut_25 rfl hl (by decide +kernel) rfl (fun ls hl => ?_)
        refine lv_iload_n hx hb dX12_cut_26 rfl (lv_at hl 0 rfl) ?_
        refine lv_ldcw (v := 2147483647) hx hb hown (hts (.constant RX12 439 (2147483647)) (List.mem_cons_of_mem _ (List.mem_of_getElem? (i := 0) rfl))) dX12_cut_27 ?_
        refine lv_iand hx hb dX12_cut_30 ?_
        refine lv_topi (fun x5 ex5 => ?_)
        refine lv_ldcw (v := 2139095040) hx hb hown (hts (.constant RX12 440 (2139095040)) (List.mem_cons_of_mem _ (List.mem_of_getElem? (i := 1) rfl))) dX12_cut_31 ?_
        refine lv_icmp_le (tgt := 43) hx hb dX12_cut_34 (by decide +kernel) (fun c6 => ?_) (fun c6 => ?_)
        · have f6 := (ti_le (a := x5.toInt) (b := 2139095040) rfl (by decide +kernel)).mp c6
          refine lv_iload_n hx hb dX12_cut_43 rfl (lv_at hl 0 rfl) ?_
          refine lv_i2l (v := x4.toInt64) hx hb dX12_cut_44 rfl ?_
          exact ro_lret hx hb hr hlocks hS dX12_cut_45 (show x4.toInt64 = cutV s1.toInt v from by first | exact cut_1 (by omega) ex4 | exact cut_2 (by omega) ex4 (flV_n ex5 (by omega)))
        · have f6 := mt (ti_le (a := x5.toInt) (b := 2139095040) rfl (by decide +kernel)).mpr c6
          refine lv_ldc2 (v := 2143289344) hx hb hown (hts (.constantLong RX12 441 (2143289344)) (List.mem_cons_of_mem _ (List.mem_of_getElem? (i := 2) rfl))) dX12_cut_37 ?_
          refine lv_goto (tgt := 45) hx hb dX12_cut_40 (by decide +kernel) ?_
          exact ro_lret hx hb hr hlocks hS dX12_cut_45 (show (2143289344 : Int64) = cutV s1.toInt v from cut_2 (by omega) ex4 (flV_y ex5 (by omega)))
    · have f2 := (ti_eq (a := s1.toInt) (b := 1) rfl (by decide +kernel)).mp c2
      refine lv_lload_n hx hb dX12_cut_14 rfl (lv_at hl 1 rfl) ?_
      refine lv_l2i (v := v.toInt32) hx hb dX12_cut_15 rfl ?_
      refine lv_topi (fun x7 ex7 => ?_)
      refine lv_i2l (v := x7.toInt64) hx hb dX12_cut_16 rfl ?_
      exact ro_lret hx hb hr hlocks hS dX12_cut_17 (show x7.toInt64 = cutV s1.toInt v from by first | exact cut_1 (by omega) ex7 | exact cut_2 (by omega) ex7 (flV_n ex5 (by omega)))
  · have f1 := (ti_eq (a := s1.toInt) (b := 0) rfl (by decide +kernel)).mp c1
    refine lv_lload_n hx hb dX12_cut_4 rfl (lv_at hl 1 rfl) ?_
    refine lv_l2i (v := v.toInt32) hx hb dX12_cut_5 rfl ?_
    refine lv_topi (fun x8 ex8 => ?_)
    refine lv_i2b (v := x8.toInt8.toInt32) hx hb dX12_cut_6 rfl ?_
    refine lv_topi (fun x9 ex9 => ?_)
    refine lv_i2l (v := x9.toInt64) hx hb dX12_cut_7 rfl ?_
    exact ro_lret hx hb hr hlocks hS dX12_cut_8 (show x9.toInt64 = cutV s1.toInt v from cut_0 (by omega) ex8 ex9)

def wm_X4_cutTo_eQ : List Cond := .code yX4_cutTo cX4_cutTo 4 (some .long) :: (([.methodLink RX4 28 yX4_floatBits, .static yX4_floatBits, .initialized RX4, .code yX4_floatBits cX4_floatBits 1 (some .int), .constant RX4 32 (2147483647), .constant RX4 33 (2139095040), .constant RX4 34 (2143289344)] : List Cond))
set_option maxRecDepth 20000 in
theorem gm_X4_cutTo_eQ_X4_floatBits_28 : GoodIn wm_X4_cutTo_eQ (va_wsS RX4 28 yX4_floatBits wm_X4_floatBits) := goodIn_w (List.forall_mem_append.mpr ⟨List.forall_mem_cons.mpr ⟨List.mem_cons_of_mem _ (List.mem_of_getElem? (i := 0) rfl), List.forall_mem_cons.mpr ⟨List.mem_cons_of_mem _ (List.mem_of_getElem? (i := 1) rfl), List.forall_mem_cons.mpr ⟨List.mem_cons_of_mem _ (List.mem_of_getElem? (i := 2) rfl), (fun _ h => absurd h List.not_mem_nil)⟩⟩⟩, List.forall_mem_cons.mpr ⟨List.mem_cons_of_mem _ (List.mem_of_getElem? (i := 3) rfl), List.forall_mem_cons.mpr ⟨List.mem_cons_of_mem _ (List.mem_of_getElem? (i := 4) rfl), List.forall_mem_cons.mpr ⟨List.mem_cons_of_mem _ (List.mem_of_getElem? (i := 5) rfl), List.forall_mem_cons.mpr ⟨List.mem_cons_of_mem _ (List.mem_of_getElem? (i := 6) rfl), (fun _ h => absurd h List.not_mem_nil)⟩⟩⟩⟩⟩) (by decide +kernel)
set_option maxHeartbeats 4000000 in
set_option maxRecDepth 100000 in
theorem x_X4_cutTo_eQ (l : Launch) (D : va_G) (sz : Nat) (sk : Value) (a : Nat → Nat) (t : Nat → ClassId) (i : Nat → Int32) (q : Int64) (c : Nat → Nat → Int32) (d : Nat → Nat → Int64) (s1 : Int32) (v1 : Int64) (hI : xInv i c) : Met l yX4_cutTo wm_X4_cutTo_eQ ({ frames := 1, cells := 0, slots := 0, locals := 20 }) (va_Pc [.ref (a 157), .int s1, .long v1] (yA (a 186) D sz (xwT sk a t i q c d) (xtT t))) (va_Ql (fun (r : Int64) (_ : Unit) => (True ∧ (r = cutV s1.toInt v1))) oA (ro sz)) 0 0 (ro sz) := by
  refine Met.ofW (cc := cX4_cutTo) (maxL := 4) (ret := (some .long)) (by decide +kernel) rfl ?_
  intro p e s m args below meth cd s₁ B hml hv
  obtain ⟨rfl, ⟨hsz, hP, hK⟩, hN, hZ⟩ := hv
  have hx := B.exec
  have hb := B.bytes
  have hr := B.returns
  have hts := atoms_spec (ws := wm_X4_cutTo_eQ) B.pre
  have hown : s.vm.findClass RX4 = some m.cls := findClass_of_methodNamed B.named
  have hlocks := B.notSynchronized
  subst hsz
  have hA : ∀ q : Nat, s.heap.size ≤ q → ro s.heap.size q := fun _ h => h
  have hS : va_S (ro s.heap.size) s.heap s.heap [] := va_S.rf
  have hl := lv_entry ([.ref (a 157), .int s1, .long v1]) (n := 4) (Nat.le_of_ble_eq_true rfl)
  rw [lg_entry_eq]
  generalize (lg_sl ([.ref (a 157), .int s1, .long v1]) ++ List.replicate (4 - (lg_sl ([.ref (a 157), .int s1, .long v1])).length) Slot.unset).toArray = ls at hl ⊢
  have hl : lv_has ls 4 [(0, .ref (a 157)), (1, .int s1), (2, .long v1)] := hl
  refine lv_iload_n hx hb dX4_cutTo_0 rfl (lv_at hl 1 rfl) ?_
  rcases (show (s1.toInt < 0 ∨ 2 < s1.toInt) ∨ s1.toInt = 0 ∨ s1.toInt = 1 ∨ s1.toInt = 2 by omega) with f1 | f1 | f1 | f1
  · refine lv_tableOut (tgt := 50) hx hb dX4_cutTo_1 f1 (by decide +kernel) ?_
    refine lv_lload_n hx hb dX4_cutTo_50 rfl (lv_at hl 2 rfl) ?_
    exact ro_lret hx hb hr hlocks hS dX4_cutTo_51 ⟨trivial, (show v1 = cutV s1.toInt v1 from cut_3 (by omega) (by omega) (by omega))⟩
  · refine lv_tableIn (off := 27) (tgt := 28) hx hb dX4_cutTo_1 (by omega) (by omega) (by rw [f1]; rfl) (by decide +kernel) ?_
    refine lv_lload_n hx hb dX4_cutTo_28 rfl (lv_at hl 2 rfl) ?_
    refine lv_l2i (v := v1.toInt32) hx hb dX4_cutTo_29 rfl ?_
    refine lv_topi (fun x2 ex2 => ?_)
    refine lv_i2b (v := x2.toInt8.toInt32) hx hb dX4_cutTo_30 rfl ?_
    refine lv_topi (fun x3 ex3 => ?_)
    refine lv_i2l (v := x3.toInt64) hx hb dX4_cutTo_31 rfl ?_
    refine lv_goto (tgt := 51) hx hb dX4_cutTo_32 (by decide +kernel) ?_
    exact ro_lret hx hb hr hlocks hS dX4_cutTo_51 ⟨trivial, (show x3.toInt64 = cutV s1.toInt v1 from cut_0 (by omega) ex2 ex3)⟩
  · refine lv_tableIn (off := 34) (tgt := 35) hx hb dX4_cutTo_1 (by omega) (by omega) (by rw [f1]; rfl) (by decide +kernel) ?_
    refine lv_lload_n hx hb dX4_cutTo_35 rfl (lv_at hl 2 rfl) ?_
    refine lv_l2i (v := v1.toInt32) hx hb dX4_cutTo_36 rfl ?_
    refine lv_topi (fun x4 ex4 => ?_)
    refine lv_i2l (v := x4.toInt64) hx hb dX4_cutTo_37 rfl ?_
    refine lv_goto (tgt := 51) hx hb dX4_cutTo_38 (by decide +kernel) ?_
    exact ro_lret hx hb hr hlocks hS dX4_cutTo_51 ⟨trivial, (show x4.toInt64 = cutV s1.toInt v1 from cut_1 (by omega) ex4)⟩
  · refine lv_tableIn (off := 40) (tgt := 41) hx hb dX4_cutTo_1 (by omega) (by omega) (by rw [f1]; rfl) (by decide +kernel) ?_
    refine lv_lload_n hx hb dX4_cutTo_41 rfl (lv_at hl 2 rfl) ?_
    refine lv_l2i (v := v1.toInt32) hx hb dX4_cutTo_42 rfl ?_
    refine lv_topi (fun x5 ex5 => ?_)
    have hPc := hP.sub (ws' := []) [] rfl
    have hKc := hK.sub (tys' := []) [] rfl
    refine ro_calli (va_runS (As := [.int x5]) (rest := []) ⟨hx, hb, hml, hown, hts⟩ (c_X4_floatBits_q l D s.heap.size x5) (va_cwS 1 hts gm_X4_cutTo_eQ_X4_floatBits_28 rfl rfl rfl (by decide +kernel) ⟨Nat.le_of_ble_eq_true rfl, Nat.le_of_ble_eq_true rfl⟩) (pA_S hKc hPc) rfl rfl hl.1 rfl (lv_room (Nat.le_of_ble_eq_true rfl)) dX4_cutTo_43 ⟨Nat.le_of_ble_eq_true rfl, Nat.le_of_ble_eq_true rfl⟩) hS hA hP (fun r7 u7 H locs hw7 hP hS => ?_)
    have hw7 : r7 = flV x5 := hw7
    refine lv_i2l (v := r7.toInt64) hx hb dX4_cutTo_46 rfl ?_
    refine lv_goto (tgt := 51) hx hb dX4_cutTo_47 (by decide +kernel) ?_
    exact ro_lret hx hb hr hlocks hS dX4_cutTo_51 ⟨trivial, (show r7.toInt64 = cutV s1.toInt v1 from cut_2 (by omega) ex5 hw7)⟩

def wm_X4_isOther_eQ : List Cond := .code yX4_isOther cX4_isOther 3 (some .boolean) :: (([.fieldLink RX4 9 "TalePlay$Lines" "sorts" "[I"] : List Cond) ++ wsX40)
set_option maxHeartbeats 4000000 in
set_option maxRecDepth 100000 in
theorem x_X4_isOther_eQ (l : Launch) (D : va_G) (sz : Nat) (sk : Value) (a : Nat → Nat) (t : Nat → ClassId) (i : Nat → Int32) (q : Int64) (c : Nat → Nat → Int32) (d : Nat → Nat → Int64) (w : Int32) (s1 : Int32) (hI : xInv i c) (hw : 0 ≤ w.toInt ∧ w.toInt ≤ 29) : Met l yX4_isOther wm_X4_isOther_eQ ({ frames := 0, cells := 0, slots := 0, locals := 0 }) (va_Pc [.ref (a 157), .int w, .int s1] (yA (a 186) D sz (xwT sk a t i q c d) (xtT t))) (va_Qi (fun (r : Int32) (_ : Unit) => ((r.toInt = 1 ∧ ¬ (c 158 w.toNatClampNeg).toInt = -9 ∧ ¬ (c 158 w.toNatClampNeg).toInt = s1.toInt) ∨ (r.toInt = 0 ∧ ((c 158 w.toNatClampNeg).toInt = -9 ∨ (c 158 w.toNatClampNeg).toInt = s1.toInt)))) oA (ro sz)) 0 0 (ro sz) := by
  refine Met.ofW (cc := cX4_isOther) (maxL := 3) (ret := (some .boolean)) (by decide +kernel) rfl ?_
  intro p e s m args below meth cd s₁ B hml hv
  obtain ⟨rfl, ⟨hsz, hP, hK⟩, hN, hZ⟩ := hv
  have hx := B.exec
  have hb := B.bytes
  have hr := B.returns
  have hts := atoms_spec (ws := wm_X4_isOther_eQ) B.pre
  have hown : s.vm.findClass RX4 = some m.cls := findClass_of_methodNamed B.named
  have hlocks := B.notSynchronized
  subst hsz
  have hA : ∀ q : Nat, s.heap.size ≤ q → ro s.heap.size q := fun _ h => h
  have hS : va_S (ro s.heap.size) s.heap s.heap [] := va_S.rf
  have hl := lv_entry ([.ref (a 157), .int w, .int s1]) (n := 3) (Nat.le_of_ble_eq_true rfl)
  rw [lg_entry_eq]
  generalize (lg_sl ([.ref (a 157), .int w, .int s1]) ++ List.replicate (3 - (lg_sl ([.ref (a 157), .int w, .int s1])).length) Slot.unset).toArray = ls at hl ⊢
  have hl : lv_has ls 3 [(0, .ref (a 157)), (1, .int w), (2, .int s1)] := hl
  refine lv_aload_n hx hb dX4_isOther_0 rfl (lv_at hl 0 rfl) ?_
  refine xgT_L_sorts hx hb hts (fun _ h => List.mem_cons_of_mem _ (List.mem_append_right _ h)) hown hK hP (hts (.fieldLink RX4 9 "TalePlay$Lines" "sorts" "[I") (List.mem_cons_of_mem _ (List.mem_append_left _ (List.mem_of_getElem? (i := 0) rfl)))) dX4_isOther_1 ?_
  refine lv_iload_n hx hb dX4_isOther_4 rfl (lv_at hl 1 rfl) ?_
  refine xlT_158 hx hb hK hP (vp_in_iff.mpr (by have h9 : w.toInt = w.toInt := rfl; omega)) dX4_isOther_5 (fun x1 ex1 => ?_)
  have rx1 : x1.toInt = -9 ∨ (0 ≤ x1.toInt ∧ x1.toInt ≤ 3) := by rw [ex1]; exact hI.2 158 _
  have gx1 : (c 158 (w : Int32).toNatClampNeg).toInt = x1.toInt := (congrArg Int32.toInt ex1).symm
  refine lv_bipush (v := (-9)) hx hb dX4_isOther_6 (by decide +kernel) ?_
  refine lv_icmp_eq (tgt := 25) hx hb dX4_isOther_8 (by decide +kernel) (fun c2 => ?_) (fun c2 => ?_)
  · have f2 := (ti_eq (a := x1.toInt) (b := (-9)) rfl (by decide +kernel)).mp c2
    refine lv_iconst (v := 0) hx hb dX4_isOther_25 (by decide +kernel) ?_
    exact ro_zret hx hb hr hlocks hS rfl dX4_isOther_26 (show ((0 : Int32).toInt = 1 ∧ ¬ (c 158 w.toNatClampNeg).toInt = -9 ∧ ¬ (c 158 w.toNatClampNeg).toInt = s1.toInt) ∨ ((0 : Int32).toInt = 0 ∧ ((c 158 w.toNatClampNeg).toInt = -9 ∨ (c 158 w.toNatClampNeg).toInt = s1.toInt)) from by have h9 : (0 : Int32).toInt = 0 := (by decide +kernel); omega)
  · have f2 := mt (ti_eq (a := x1.toInt) (b := (-9)) rfl (by decide +kernel)).mpr c2
    refine lv_aload_n hx hb dX4_isOther_11 rfl (lv_at hl 0 rfl) ?_
    refine xgT_L_sorts hx hb hts (fun _ h => List.mem_cons_of_mem _ (List.mem_append_right _ h)) hown hK hP (hts (.fieldLink RX4 9 "TalePlay$Lines" "sorts" "[I") (List.mem_cons_of_mem _ (List.mem_append_left _ (List.mem_of_getElem? (i := 0) rfl)))) dX4_isOther_12 ?_
    refine lv_iload_n hx hb dX4_isOther_15 rfl (lv_at hl 1 rfl) ?_
    refine xlT_158 hx hb hK hP (vp_in_iff.mpr (by have h9 : w.toInt = w.toInt := rfl; omega)) dX4_isOther_16 (fun x3 ex3 => ?_)
    have rx3 : x3.toInt = -9 ∨ (0 ≤ x3.toInt ∧ x3.toInt ≤ 3) := by rw [ex3]; exact hI.2 158 _
    have gx3 : (c 158 (w : Int32).toNatClampNeg).toInt = x3.toInt := (congrArg Int32.toInt ex3).symm
    refine lv_iload_n hx hb dX4_isOther_17 rfl (lv_at hl 2 rfl) ?_
    refine lv_icmp_eq (tgt := 25) hx hb dX4_isOther_18 (by decide +kernel) (fun c4 => ?_) (fun c4 => ?_)
    · have f4 := (ti_eq (a := x3.toInt) (b := s1.toInt) rfl rfl).mp c4
      refine lv_iconst (v := 0) hx hb dX4_isOther_25 (by decide +kernel) ?_
      exact ro_zret hx hb hr hlocks hS rfl dX4_isOther_26 (show ((0 : Int32).toInt = 1 ∧ ¬ (c 158 w.toNatClampNeg).toInt = -9 ∧ ¬ (c 158 w.toNatClampNeg).toInt = s1.toInt) ∨ ((0 : Int32).toInt = 0 ∧ ((c 158 w.toNatClampNeg).toInt = -9 ∨ (c 158 w.toNatClampNeg).toInt = s1.toInt)) from by have h9 : (0 : Int32).toInt = 0 := (by decide +kernel); omega)
    · have f4 := mt (ti_eq (a := x3.toInt) (b := s1.toInt) rfl rfl).mpr c4
      refine lv_iconst (v := 1) hx hb dX4_isOther_21 (by decide +kernel) ?_
      refine lv_goto (tgt := 26) hx hb dX4_isOther_22 (by decide +kernel) ?_
      exact ro_zret hx hb hr hlocks hS rfl dX4_isOther_26 (show ((1 : Int32).toInt = 1 ∧ ¬ (c 158 w.toNatClampNeg).toInt = -9 ∧ ¬ (c 158 w.toNatClampNeg).toInt = s1.toInt) ∨ ((1 : Int32).toInt = 0 ∧ ((c 158 w.toNatClampNeg).toInt = -9 ∨ (c 158 w.toNatClampNeg).toInt = s1.toInt)) from by have h9 : (1 : Int32).toInt = 1 := (by decide +kernel); omega)

