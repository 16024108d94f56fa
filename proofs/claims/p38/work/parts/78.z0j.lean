set_option maxHeartbeats 4000000 in
set_option maxRecDepth 100000 in
theorem s_X12_isKeyBarred_e (l : Launch) (D : va_G) (sz : Nat) (o : Nat) (a : Nat → Nat) (t : Nat → ClassId) (i : Nat → Int32) (q : Int64) (c : Nat → Nat → Int32) (d : Nat → Nat → Int64) (w2 : Int32) (hI : mInv i c) (hw2 : 0 ≤ w2.toInt ∧ w2.toInt ≤ 29) (hrm : (i 15).toInt = 0) : Met l yX12_isKeyBarred wm_X12_isKeyBarred ({ frames := 1, cells := 0, slots := 0, locals := 21 }) (va_Pc [.ref o, .int w2] (pB D sz (mW o a t i q c d) (mT t))) (va_Qi (fun (r : Int32) (u : MS) => ((0 ≤ r.toInt ∧ r.toInt ≤ 1) ∧ (Sm r (∃ s : Nat, (s : Int) < (i 8).toInt ∧ KB (c 9) (c 11) (c 13) w2.toInt s))) ∧ mInv u.1 u.2.2.1 ∧ (∀ k, k ∉ ([15] : List Nat) → u.1 k = i k) ∧ (∀ k, k ∉ ([14] : List Nat) → u.2.2.1 k = c k)) (oC D (va_A (mW o a t i q c d) sz) (fun u : MS => mW o a t u.1 u.2.1 u.2.2.1 u.2.2.2) (fun _ => [])) (va_A (mW o a t i q c d) sz)) 0 0 (va_A (mW o a t i q c d) sz) := by
  refine Met.ofW (cc := cX12_isKeyBarred) (maxL := 3) (ret := (some .boolean)) (by decide +kernel) rfl ?_
  intro p e s m args below meth cd s₁ B hml hv
  obtain ⟨rfl, hsz, hP, hK, hD0⟩ := hv
  have hx := B.exec
  have hb := B.bytes
  have hr := B.returns
  have hts := atoms_spec (ws := wm_X12_isKeyBarred) B.pre
  have hown : s.vm.findClass RX12 = some m.cls := findClass_of_methodNamed B.named
  have hlocks := B.notSynchronized
  subst hsz
  have hD := hD0.self (sz := s.heap.size)
  generalize hAe : va_A (mW o a t i q c d) s.heap.size = A at hD ⊢
  have hA : ∀ q : Nat, s.heap.size ≤ q → A q := fun q h => by rw [← hAe]; exact Or.inr h
  have hS : va_S A s.heap s.heap [] := va_S.rf
  have hfi : ∀ k, k ∉ ([] : List Nat) → i k = i k := fun _ _ => rfl
  have hfc : ∀ k, k ∉ ([] : List Nat) → c k = c k := fun _ _ => rfl
  have hl := lv_entry ([.ref o, .int w2]) (n := 3) (Nat.le_of_ble_eq_true rfl)
  rw [lg_entry_eq]
  generalize (lg_sl ([.ref o, .int w2]) ++ List.replicate (3 - (lg_sl ([.ref o, .int w2])).length) Slot.unset).toArray = ls at hl ⊢
  have hl : lv_has ls 3 [(0, .ref o), (1, .int w2)] := hl
  have rb8_i : 0 ≤ (i 8).toInt ∧ (i 8).toInt ≤ 200 := hI.1 8
  have rb15_i : 0 ≤ (i 15).toInt ∧ (i 15).toInt ≤ 200 := hI.1 15
  refine lv_iconst (v := 0) hx hb dX12_isKeyBarred_0 (by decide +kernel) ?_
  refine lv_istore_n (lv' := [(2, .int 0), (0, .ref o), (1, .int w2)]) hx hb dX12_isKeyBarred_1 rfl hl (by decide +kernel) rfl (fun ls hl => ?_)
  have lp1 : ∀ (fu : Nat) (i1 : Nat → Int32) (q1 : Int64) (c1 : Nat → Nat → Int32) (d1 : Nat → Nat → Int64) (y1_2 : Int32), mInv i1 c1 → (∀ k, k ∉ ([15] : List Nat) → i1 k = i k) → (∀ k, k ∉ ([14] : List Nat) → c1 k = c k) → (0 ≤ y1_2.toInt ∧ y1_2.toInt ≤ 200 ∧ y1_2.toInt ≤ (i 8).toInt) → (((i1 15) : Int32).toInt ≤ y1_2.toInt) → (CN (KB (c 9) (c 11) (c 13) w2.toInt) y1_2.toInt ((i1 15) : Int32).toInt) → (200 - y1_2.toInt).toNat < fu → ∀ (H : Heap) (locs : List Loc) (ls : Array Slot), va_P D vwCl (mW o a t i1 q1 c1 d1) H → va_D A (mW o a t i1 q1 c1 d1) → va_S A s.heap H locs → lv_has ls 3 [(2, .int y1_2), (0, .ref o), (1, .int w2)] → W p l e (headSpec wm_X12_isKeyBarred ({ frames := 1, cells := 0, slots := 0, locals := 21 })).room s m ([.ref o, .int w2] : List Value).toArray below meth cd H locs 0 0 (MQ below (va_Qi (fun (r : Int32) (u : MS) => ((0 ≤ r.toInt ∧ r.toInt ≤ 1) ∧ (Sm r (∃ s : Nat, (s : Int) < (i 8).toInt ∧ KB (c 9) (c 11) (c 13) w2.toInt s))) ∧ mInv u.1 u.2.2.1 ∧ (∀ k, k ∉ ([15] : List Nat) → u.1 k = i k) ∧ (∀ k, k ∉ ([14] : List Nat) → u.2.2.1 k = c k)) (oC D A (fun u : MS => mW o a t u.1 u.2.1 u.2.2.1 u.2.2.2) (fun _ => [])) A) ([.ref o, .int w2] : List Value).toArray s 0 0 A) (F0 m 2 ls []) := by
    intro fu
    induction fu with
    | zero => intro i1 q1 c1 d1 y1_2 hI hfi hfc hy1_2 hz1_0 hz1_1 hm; exact absurd hm (Nat.not_lt_zero _)
    | succ fu ih =>
      intro i1 q1 c1 d1 y1_2 hI hfi hfc hy1_2 hz1_0 hz1_1 hm H locs ls hP hD hS hl
      have ih1 := ih
      refine lv_iload_n hx hb dX12_isKeyBarred_2 rfl (lv_at hl 0 rfl) ?_
      refine lv_aload_n hx hb dX12_isKeyBarred_3 rfl (lv_at hl 1 rfl) ?_
      refine mget_8 (v := (i1 8)) rfl hx hb hts (fun _ h => List.mem_cons_of_mem _ (List.mem_append_right _ h)) hown hK hP (hts (.fieldLink RX12 202 "TalePlayModel" "sentences" "I") (List.mem_cons_of_mem _ (List.mem_append_left _ (List.mem_of_getElem? (i := 0) rfl)))) dX12_isKeyBarred_4 ?_
      have rb8_i1 : 0 ≤ (i1 8).toInt ∧ (i1 8).toInt ≤ 200 := hI.1 8
      have re8_i1 : (i1 8).toInt = (i 8).toInt := congrArg Int32.toInt (hfi 8 (by decide +kernel))
      refine lv_icmp_ge (tgt := 51) hx hb dX12_isKeyBarred_7 (by decide +kernel) (fun c2 => ?_) (fun c2 => ?_)
      · have f2 := (ti_le (a := (i1 8).toInt) (b := y1_2.toInt) rfl rfl).mp c2
        refine lv_aload_n hx hb dX12_isKeyBarred_51 rfl (lv_at hl 1 rfl) ?_
        refine mget_15 (v := (i1 15)) rfl hx hb hts (fun _ h => List.mem_cons_of_mem _ (List.mem_append_right _ h)) hown hK hP (hts (.fieldLink RX12 205 "TalePlayModel" "rowMany" "I") (List.mem_cons_of_mem _ (List.mem_append_left _ (List.mem_of_getElem? (i := 1) rfl)))) dX12_isKeyBarred_52 ?_
        have rb15_i1 : 0 ≤ (i1 15).toInt ∧ (i1 15).toInt ≤ 200 := hI.1 15
        refine lv_if_le (tgt := 62) hx hb dX12_isKeyBarred_55 (by decide +kernel) (fun c3 => ?_) (fun c3 => ?_)
        · have f3 := (ti_le (a := (i1 15).toInt) (b := 0) rfl (by decide +kernel)).mp c3
          refine lv_iconst (v := 0) hx hb dX12_isKeyBarred_62 (by decide +kernel) ?_
          exact rw_zret (i1, q1, c1, d1) hx hb hr hlocks hS (hK.sub (tys' := []) [] rfl) hP hD rfl dX12_isKeyBarred_63 ⟨⟨(show 0 ≤ (0 : Int32).toInt ∧ (0 : Int32).toInt ≤ 1 from by have h9 : (0 : Int32).toInt = 0 := (by decide +kernel); omega), (show Sm (0 : Int32) (∃ s : Nat, (s : Int) < (i 8).toInt ∧ KB (c 9) (c 11) (c 13) w2.toInt s) from sm_0 (by rw [show (i 8).toInt = y1_2.toInt by omega]; exact CN_z hz1_1 (by omega)))⟩, hI, fr_w hfi (by decide +kernel), fr_w hfc (by decide +kernel)⟩
        · have f3 := mt (ti_le (a := (i1 15).toInt) (b := 0) rfl (by decide +kernel)).mpr c3
          refine lv_iconst (v := 1) hx hb dX12_isKeyBarred_58 (by decide +kernel) ?_
          refine lv_goto (tgt := 63) hx hb dX12_isKeyBarred_59 (by decide +kernel) ?_
          exact rw_zret (i1, q1, c1, d1) hx hb hr hlocks hS (hK.sub (tys' := []) [] rfl) hP hD rfl dX12_isKeyBarred_63 ⟨⟨(show 0 ≤ (1 : Int32).toInt ∧ (1 : Int32).toInt ≤ 1 from by have h9 : (1 : Int32).toInt = 1 := (by decide +kernel); omega), (show Sm (1 : Int32) (∃ s : Nat, (s : Int) < (i 8).toInt ∧ KB (c 9) (c 11) (c 13) w2.toInt s) from sm_1 (by rw [show (i 8).toInt = y1_2.toInt by omega]; exact CN_p hz1_1 (by omega)))⟩, hI, fr_w hfi (by decide +kernel), fr_w hfc (by decide +kernel)⟩
      · have f2 := mt (ti_le (a := (i1 8).toInt) (b := y1_2.toInt) rfl rfl).mpr c2
        refine lv_aload_n hx hb dX12_isKeyBarred_10 rfl (lv_at hl 1 rfl) ?_
        refine mget_13 hx hb hts (fun _ h => List.mem_cons_of_mem _ (List.mem_append_right _ h)) hown hK hP (hts (.fieldLink RX12 37 "TalePlayModel" "isSaid" "[Z") (List.mem_cons_of_mem _ (List.mem_append_left _ (List.mem_of_getElem? (i := 2) rfl)))) dX12_isKeyBarred_11 ?_
        refine lv_iload_n hx hb dX12_isKeyBarred_14 rfl (lv_at hl 0 rfl) ?_
        refine mld_13 hx hb hK hP (vp_in_iff.mpr (by have h9 : y1_2.toInt = y1_2.toInt := rfl; omega)) dX12_isKeyBarred_15 (fun x4 ex4 => ?_)
        have rx4 : 0 ≤ x4.toInt ∧ x4.toInt ≤ 1 := by rw [ex4]; exact hI.2 13 _
        have gx4 : (c 13 (y1_2 : Int32).toNatClampNeg).toInt = x4.toInt := by rw [ex4, show c1 13 = c 13 from hfc 13 (by decide +kernel)]
        refine lv_if_eq (tgt := 45) hx hb dX12_isKeyBarred_16 (by decide +kernel) (fun c5 => ?_) (fun c5 => ?_)
        · have f5 := (ti_eq (a := x4.toInt) (b := 0) rfl (by decide +kernel)).mp c5
          obtain ⟨x6, ex6⟩ : ∃ y : Int32, y = y1_2 + 1 := ⟨_, rfl⟩
          have tx6 := ti_add (a := y1_2.toInt) (b := 1) ex6 rfl (by decide +kernel) (by omega) (by omega)
          refine lv_iinc (v := x6) (lv' := [(2, .int x6), (0, .ref o), (1, .int w2)]) hx hb dX12_isKeyBarred_45 hl (k := 0) rfl (by rw [ex6]; rfl) (by decide +kernel) rfl (fun ls hl => ?_)
          refine lv_goto (tgt := 2) hx hb dX12_isKeyBarred_48 (by decide +kernel) ?_
          exact ih1 i1 q1 c1 d1 x6 hI (fr_w hfi (by decide +kernel)) (fr_w hfc (by decide +kernel)) (show 0 ≤ x6.toInt ∧ x6.toInt ≤ 200 ∧ x6.toInt ≤ (i 8).toInt from by have h50 : x6.toInt = (y1_2.toInt + 1) := tx6; omega) (show ((i1 15) : Int32).toInt ≤ x6.toInt from by have h50 : x6.toInt = (y1_2.toInt + 1) := tx6; omega) (show CN (KB (c 9) (c 11) (c 13) w2.toInt) x6.toInt ((i1 15) : Int32).toInt from CN_n hz1_1 (by omega) (by unfold KB; omega) tx6) (by have h50 : x6.toInt = (y1_2.toInt + 1) := tx6; omega) _ _ _ hP hD hS (lv_sub hl [0, 1, 2] rfl)
        · have f5 := mt (ti_eq (a := x4.toInt) (b := 0) rfl (by decide +kernel)).mpr c5
          refine lv_aload_n hx hb dX12_isKeyBarred_19 rfl (lv_at hl 1 rfl) ?_
          refine mget_9 hx hb hts (fun _ h => List.mem_cons_of_mem _ (List.mem_append_right _ h)) hown hK hP (hts (.fieldLink RX12 25 "TalePlayModel" "form" "[I") (List.mem_cons_of_mem _ (List.mem_append_left _ (List.mem_of_getElem? (i := 3) rfl)))) dX12_isKeyBarred_20 ?_
          refine lv_iload_n hx hb dX12_isKeyBarred_23 rfl (lv_at hl 0 rfl) ?_
          refine mld_9 hx hb hK hP (vp_in_iff.mpr (by have h9 : y1_2.toInt = y1_2.toInt := rfl; omega)) dX12_isKeyBarred_24 (fun x7 ex7 => ?_)
          have rx7 : 0 ≤ x7.toInt ∧ x7.toInt ≤ 7 := by rw [ex7]; exact hI.2 9 _
          have gx7 : (c 9 (y1_2 : Int32).toNatClampNeg).toInt = x7.toInt := by rw [ex7, show c1 9 = c 9 from hfc 9 (by decide +kernel)]
          refine lv_bipush (v := 7) hx hb dX12_isKeyBarred_25 (by decide +kernel) ?_
          refine lv_icmp_ne (tgt := 45) hx hb dX12_isKeyBarred_27 (by decide +kernel) (fun c8 => ?_) (fun c8 => ?_)
          · have f8 := mt (ti_eq (a := x7.toInt) (b := 7) rfl (by decide +kernel)).mpr c8
            obtain ⟨x9, ex9⟩ : ∃ y : Int32, y = y1_2 + 1 := ⟨_, rfl⟩
            have tx9 := ti_add (a := y1_2.toInt) (b := 1) ex9 rfl (by decide +kernel) (by omega) (by omega)
            refine lv_iinc (v := x9) (lv' := [(2, .int x9), (0, .ref o), (1, .int w2)]) hx hb dX12_isKeyBarred_45 hl (k := 0) rfl (by rw [ex9]; rfl) (by decide +kernel) rfl (fun ls hl => ?_)
            refine lv_goto (tgt := 2) hx hb dX12_isKeyBarred_48 (by decide +kernel) ?_
            exact ih1 i1 q1 c1 d1 x9 hI (fr_w hfi (by decide +kernel)) (fr_w hfc (by decide +kernel)) (show 0 ≤ x9.toInt ∧ x9.toInt ≤ 200 ∧ x9.toInt ≤ (i 8).toInt from by have h50 : x9.toInt = (y1_2.toInt + 1) := tx9; omega) (show ((i1 15) : Int32).toInt ≤ x9.toInt from by have h50 : x9.toInt = (y1_2.toInt + 1) := tx9; omega) (show CN (KB (c 9) (c 11) (c 13) w2.toInt) x9.toInt ((i1 15) : Int32).toInt from CN_n hz1_1 (by omega) (by unfold KB; omega) tx9) (by have h50 : x9.toInt = (y1_2.toInt + 1) := tx9; omega) _ _ _ hP hD hS (lv_sub hl [0, 1, 2] rfl)
          · have f8 := (ti_eq (a := x7.toInt) (b := 7) rfl (by decide +kernel)).mp c8
            refine lv_aload_n hx hb dX12_isKeyBarred_30 rfl (lv_at hl 1 rfl) ?_
            refine mget_11 hx hb hts (fun _ h => List.mem_cons_of_mem _ (List.mem_append_right _ h)) hown hK hP (hts (.fieldLink RX12 31 "TalePlayModel" "middle" "[I") (List.mem_cons_of_mem _ (List.mem_append_left _ (List.mem_of_getElem? (i := 4) rfl)))) dX12_isKeyBarred_31 ?_
            refine lv_iload_n hx hb dX12_isKeyBarred_34 rfl (lv_at hl 0 rfl) ?_
            refine mld_11 hx hb hK hP (vp_in_iff.mpr (by have h9 : y1_2.toInt = y1_2.toInt := rfl; omega)) dX12_isKeyBarred_35 (fun x10 ex10 => ?_)
            have rx10 : 0 ≤ x10.toInt ∧ x10.toInt ≤ 29 := by rw [ex10]; exact hI.2 11 _
            have gx10 : (c 11 (y1_2 : Int32).toNatClampNeg).toInt = x10.toInt := by rw [ex10, show c1 11 = c 11 from hfc 11 (by decide +kernel)]
            refine lv_iload_n hx hb dX12_isKeyBarred_36 rfl (lv_at hl 2 rfl) ?_
            refine lv_icmp_ne (tgt := 45) hx hb dX12_isKeyBarred_37 (by decide +kernel) (fun c11 => ?_) (fun c11 => ?_)
            · have f11 := mt (ti_eq (a := x10.toInt) (b := w2.toInt) rfl rfl).mpr c11
              obtain ⟨x12, ex12⟩ : ∃ y : Int32, y = y1_2 + 1 := ⟨_, rfl⟩
              have tx12 := ti_add (a := y1_2.toInt) (b := 1) ex12 rfl (by decide +kernel) (by omega) (by omega)
              refine lv_iinc (v := x12) (lv' := [(2, .int x12), (0, .ref o), (1, .int w2)]) hx hb dX12_isKeyBarred_45 hl (k := 0) rfl (by rw [ex12]; rfl) (by decide +kernel) rfl (fun ls hl => ?_)
              refine lv_goto (tgt := 2) hx hb dX12_isKeyBarred_48 (by decide +kernel) ?_
              exact ih1 i1 q1 c1 d1 x12 hI (fr_w hfi (by decide +kernel)) (fr_w hfc (by decide +kernel)) (show 0 ≤ x12.toInt ∧ x12.toInt ≤ 200 ∧ x12.toInt ≤ (i 8).toInt from by have h50 : x12.toInt = (y1_2.toInt + 1) := tx12; omega) (show ((i1 15) : Int32).toInt ≤ x12.toInt from by have h50 : x12.toInt = (y1_2.toInt + 1) := tx12; omega) (show CN (KB (c 9) (c 11) (c 13) w2.toInt) x12.toInt ((i1 15) : Int32).toInt from CN_n hz1_1 (by omega) (by unfold KB; omega) tx12) (by have h50 : x12.toInt = (y1_2.toInt + 1) := tx12; omega) _ _ _ hP hD hS (lv_sub hl [0, 1, 2] rfl)
            · have f11 := (ti_eq (a := x10.toInt) (b := w2.toInt) rfl rfl).mp c11
              refine lv_aload_n hx hb dX12_isKeyBarred_40 rfl (lv_at hl 1 rfl) ?_
              refine lv_iload_n hx hb dX12_isKeyBarred_41 rfl (lv_at hl 0 rfl) ?_
              have rb15_i1 : 0 ≤ (i1 15).toInt ∧ (i1 15).toInt ≤ 200 := hI.1 15
              refine al_callv (va_runV (As := [.int y1_2]) (rest := []) ⟨hx, hb, hml, hown, hts⟩ (s_X12_clashes l D H.size o a t i1 q1 c1 d1 y1_2 hI (show 0 ≤ y1_2.toInt ∧ y1_2.toInt ≤ 199 from by omega) (show ((i1 15) : Int32).toInt ≤ 199 from by omega)) (cwV 1 hts gm_X12_isKeyBarred_X12_clashes rfl rfl rfl (by decide +kernel) ⟨Nat.le_of_ble_eq_true rfl, Nat.le_of_ble_eq_true rfl⟩) (pB_V hK hP hD (ci := 12) (q0 := 0) rfl rfl) rfl rfl hl.1 rfl (lv_room (Nat.le_of_ble_eq_true rfl)) dX12_isKeyBarred_42 ⟨Nat.le_of_ble_eq_true rfl, Nat.le_of_ble_eq_true rfl⟩) hS hA hP hD (fun u13 H locs hw13 hP hD hS => ?_)
              obtain ⟨i13, q13, c13, d13⟩ := u13
              have hw13 : True ∧ mInv i13 c13 ∧ (∀ k, k ∉ ([15] : List Nat) → i13 k = i1 k) ∧ (∀ k, k ∉ ([14] : List Nat) → c13 k = c1 k) ∧ ((i13 15).toInt = (i1 15).toInt + 1) := hw13
              obtain ⟨hw13, hI, hei13, hec13, hxp13_0⟩ := hw13
              have hxp13_0 : (i13 15).toInt = (i1 15).toInt + 1 := hxp13_0
              have hfi : ∀ k, k ∉ ([15] : List Nat) → i13 k = i k := fr_z hfi hei13 (by decide +kernel) (by decide +kernel)
              have hfc : ∀ k, k ∉ ([14] : List Nat) → c13 k = c k := fr_z hfc hec13 (by decide +kernel) (by decide +kernel)
              have hP : va_P D vwCl (mW o a t i13 q13 c13 d13) H := hP
              have hD : va_D A (mW o a t i13 q13 c13 d13) := hD
              obtain ⟨x14, ex14⟩ : ∃ y : Int32, y = y1_2 + 1 := ⟨_, rfl⟩
              have tx14 := ti_add (a := y1_2.toInt) (b := 1) ex14 rfl (by decide +kernel) (by omega) (by omega)
              refine lv_iinc (v := x14) (lv' := [(2, .int x14), (0, .ref o), (1, .int w2)]) hx hb dX12_isKeyBarred_45 hl (k := 0) rfl (by rw [ex14]; rfl) (by decide +kernel) rfl (fun ls hl => ?_)
              refine lv_goto (tgt := 2) hx hb dX12_isKeyBarred_48 (by decide +kernel) ?_
              exact ih1 i13 q13 c13 d13 x14 hI (fr_w hfi (by decide +kernel)) (fr_w hfc (by decide +kernel)) (show 0 ≤ x14.toInt ∧ x14.toInt ≤ 200 ∧ x14.toInt ≤ (i 8).toInt from by have h50 : x14.toInt = (y1_2.toInt + 1) := tx14; omega) (show ((i13 15) : Int32).toInt ≤ x14.toInt from by have h50 : x14.toInt = (y1_2.toInt + 1) := tx14; omega) (show CN (KB (c 9) (c 11) (c 13) w2.toInt) x14.toInt ((i13 15) : Int32).toInt from CN_y hz1_1 (by omega) (by unfold KB; omega) tx14 (Or.inl hxp13_0)) (by have h50 : x14.toInt = (y1_2.toInt + 1) := tx14; omega) _ _ _ hP hD hS (lv_sub hl [0, 1, 2] rfl)
  exact lp1 _ i q c d (0 : Int32) hI (fr_w hfi (by decide +kernel)) (fr_w hfc (by decide +kernel)) (show 0 ≤ (0 : Int32).toInt ∧ (0 : Int32).toInt ≤ 200 ∧ (0 : Int32).toInt ≤ (i 8).toInt from by have h50 : (0 : Int32).toInt = 0 := (by decide +kernel); omega) (show ((i 15) : Int32).toInt ≤ (0 : Int32).toInt from by have h50 : (0 : Int32).toInt = 0 := (by decide +kernel); omega) (show CN (KB (c 9) (c 11) (c 13) w2.toInt) (0 : Int32).toInt ((i 15) : Int32).toInt from CN_0 (by decide +kernel) (by omega)) (Nat.lt_succ_self _) _ _ _ hP hD hS (lv_sub hl [0, 1, 2] rfl)

