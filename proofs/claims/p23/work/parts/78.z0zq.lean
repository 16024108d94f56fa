set_option maxHeartbeats 4000000 in
set_option maxRecDepth 100000 in
theorem s_X12_roomOf_t (l : Launch) (D : va_G) (sz : Nat) (o : Nat) (a : Nat → Nat) (t : Nat → ClassId) (i : Nat → Int32) (q : Int64) (c : Nat → Nat → Int32) (d : Nat → Nat → Int64) (w : Int32) (hI : mInv i c) (hw : 0 ≤ w.toInt ∧ w.toInt < (i 5).toInt) (hs_T : TI (i 5).toInt (fun z => Kd (c 3) (c 6) z 0) (i 22).toInt (c 23) (c 24)) : Met l yX12_roomOf wm_X12_roomOf ({ frames := 1, cells := 0, slots := 0, locals := 23 }) (va_Pc [.ref o, .int w] (pA D sz (mW o a t i q c d) (mT t))) (va_Qi (fun (r : Int32) (_ : Unit) => ((r.toInt = -9 ∨ (0 ≤ r.toInt ∧ r.toInt ≤ 29)) ∧ (RmS (nF (i 5).toInt (c 23) (c 24)) (RmM (c 3) (c 6) (i 5).toInt) w.toInt r.toInt))) oA (ro sz)) 0 0 (ro sz) := by
  refine Met.ofW (cc := cX12_roomOf) (maxL := 3) (ret := (some .int)) (by decide +kernel) rfl ?_
  intro p e s m args below meth cd s₁ B hml hv
  obtain ⟨rfl, hsz, hP, hK⟩ := hv
  have hx := B.exec
  have hb := B.bytes
  have hr := B.returns
  have hts := atoms_spec (ws := wm_X12_roomOf) B.pre
  have hown : s.vm.findClass RX12 = some m.cls := findClass_of_methodNamed B.named
  have hlocks := B.notSynchronized
  subst hsz
  have hA : ∀ q : Nat, s.heap.size ≤ q → ro s.heap.size q := fun _ h => h
  have hS : va_S (ro s.heap.size) s.heap s.heap [] := va_S.rf
  have hl := lv_entry ([.ref o, .int w]) (n := 3) (Nat.le_of_ble_eq_true rfl)
  rw [lg_entry_eq]
  generalize (lg_sl ([.ref o, .int w]) ++ List.replicate (3 - (lg_sl ([.ref o, .int w])).length) Slot.unset).toArray = ls at hl ⊢
  have hl : lv_has ls 3 [(0, .ref o), (1, .int w)] := hl
  have rb5_i : 0 ≤ (i 5).toInt ∧ (i 5).toInt ≤ 30 := hI.1 5
  have rb22_i : (i 22).toInt = -9 ∨ (0 ≤ (i 22).toInt ∧ (i 22).toInt ≤ 29) := hI.1 22
  have hTt := hs_T
  obtain ⟨⟨hp0, hp1, hp2⟩, hT2, hT3, ⟨rk, hrk⟩, rr, hq0, hq1, hq2, hq3⟩ := hTt
  have hsp : Sp (nF (i 5).toInt (c 23) (c 24)) := nF_Sp (by omega) hT2
  have hpl := TI_p hs_T
  have hpa : 0 ≤ (c 24 (i 22).toNatClampNeg).toInt ∧ (c 24 (i 22).toNatClampNeg).toInt < (i 5).toInt := hT2 _ hp0 hp1 hpl
  refine lv_iload_n hx hb dX12_roomOf_0 rfl (lv_at hl 1 rfl) ?_
  refine lv_istore_n (lv' := [(2, .int w), (0, .ref o), (1, .int w)]) hx hb dX12_roomOf_1 rfl hl (by decide +kernel) rfl (fun ls hl => ?_)
  have lp1 : ∀ (fu : Nat) (y1_2 : Int32), (0 ≤ y1_2.toInt ∧ y1_2.toInt ≤ 29) → (y1_2.toInt < (i 5).toInt) → (∀ t : Int, (RmM (c 3) (c 6) (i 5).toInt) t → (Ch (nF (i 5).toInt (c 23) (c 24)) w.toInt t ↔ Ch (nF (i 5).toInt (c 23) (c 24)) y1_2.toInt t)) → rk y1_2.toInt < fu → ∀ (H : Heap) (locs : List Loc) (ls : Array Slot), va_P D vwCl (mW o a t i q c d) H → va_S (ro s.heap.size) s.heap H locs → lv_has ls 3 [(2, .int y1_2), (0, .ref o), (1, .int w)] → W p l e (headSpec wm_X12_roomOf ({ frames := 1, cells := 0, slots := 0, locals := 23 })).room s m ([.ref o, .int w] : List Value).toArray below meth cd H locs 0 0 (MQ below (va_Qi (fun (r : Int32) (_ : Unit) => ((r.toInt = -9 ∨ (0 ≤ r.toInt ∧ r.toInt ≤ 29)) ∧ (RmS (nF (i 5).toInt (c 23) (c 24)) (RmM (c 3) (c 6) (i 5).toInt) w.toInt r.toInt))) oA (ro s.heap.size)) ([.ref o, .int w] : List Value).toArray s 0 0 (ro s.heap.size)) (F0 m 2 ls []) := by
    intro fu
    induction fu with
    | zero => intro y1_2 hy1_2 hz1_0 hz1_1 hm; exact absurd hm (Nat.not_lt_zero _)
    | succ fu ih =>
      intro y1_2 hy1_2 hz1_0 hz1_1 hm H locs ls hP hS hl
      have ih1 := ih
      refine lv_aload_n hx hb dX12_roomOf_2 rfl (lv_at hl 1 rfl) ?_
      refine lv_iload_n hx hb dX12_roomOf_3 rfl (lv_at hl 0 rfl) ?_
      refine lv_iconst (v := 0) hx hb dX12_roomOf_4 (by decide +kernel) ?_
      refine ro_calli (va_runV (As := [.int y1_2, .int 0]) (rest := []) ⟨hx, hb, hml, hown, hts⟩ (s_X12_isOf l D H.size o a t i q c d y1_2 0 hI (show 0 ≤ y1_2.toInt ∧ y1_2.toInt ≤ 29 from by have h91 : (0 : Int32).toInt = 0 := (by decide +kernel); omega) (show 0 ≤ 0 from by decide +kernel)) (cwV 2 hts gm_X12_roomOf_X12_isOf rfl rfl rfl (by decide +kernel) ⟨Nat.le_of_ble_eq_true rfl, Nat.le_of_ble_eq_true rfl⟩) (pA_V hK hP (ci := 12) (q0 := 0) rfl rfl) rfl rfl hl.1 rfl (lv_room (Nat.le_of_ble_eq_true rfl)) dX12_roomOf_5 ⟨Nat.le_of_ble_eq_true rfl, Nat.le_of_ble_eq_true rfl⟩) hS hA hP (fun r2 u2 H locs hw2 hP hS => ?_)
      have hw2 : ((0 ≤ r2.toInt ∧ r2.toInt ≤ 1) ∧ (Sm r2 (Kd (c 3) (c 6) y1_2.toInt 0))) := hw2
      obtain ⟨hw2, hr2_0⟩ := hw2
      have hr2_0 : Sm r2 (Kd (c 3) (c 6) y1_2.toInt 0) := hr2_0
      refine lv_if_ne (tgt := 35) hx hb dX12_roomOf_8 (by decide +kernel) (fun c3 => ?_) (fun c3 => ?_)
      · have f3 := mt (ti_eq (a := r2.toInt) (b := 0) rfl (by decide +kernel)).mpr c3
        have s3 := sm_t hr2_0 c3
        refine lv_iload_n hx hb dX12_roomOf_35 rfl (lv_at hl 0 rfl) ?_
        exact ro_iret hx hb hr hlocks hS dX12_roomOf_36 ⟨(show y1_2.toInt = -9 ∨ (0 ≤ y1_2.toInt ∧ y1_2.toInt ≤ 29) from by omega), (show RmS (nF (i 5).toInt (c 23) (c 24)) (RmM (c 3) (c 6) (i 5).toInt) w.toInt y1_2.toInt from Or.inl ⟨by omega, (hz1_1 _ (show (RmM (c 3) (c 6) (i 5).toInt) y1_2.toInt from ⟨by omega, by omega, (kS_k hI (by omega) (by omega)).mp s3⟩)).mpr Ch_rf, (show (RmM (c 3) (c 6) (i 5).toInt) y1_2.toInt from ⟨by omega, by omega, (kS_k hI (by omega) (by omega)).mp s3⟩)⟩)⟩
      · have f3 := (ti_eq (a := r2.toInt) (b := 0) rfl (by decide +kernel)).mp c3
        have s3 := sm_f hr2_0 c3
        have hNR := s3
        refine lv_aload_n hx hb dX12_roomOf_11 rfl (lv_at hl 1 rfl) ?_
        refine mget_23 hx hb hts (fun _ h => List.mem_cons_of_mem _ (List.mem_append_right _ h)) hown hK hP (hts (.fieldLink RX12 50 "TalePlayModel" "nForm" "[I") (List.mem_cons_of_mem _ (List.mem_append_left _ (List.mem_of_getElem? (i := 7) rfl)))) dX12_roomOf_12 ?_
        refine lv_iload_n hx hb dX12_roomOf_15 rfl (lv_at hl 0 rfl) ?_
        refine mld_23 hx hb hK hP (vp_in_iff.mpr (by have h9 : y1_2.toInt = y1_2.toInt := rfl; omega)) dX12_roomOf_16 (fun x4 ex4 => ?_)
        have rx4 : x4.toInt = -9 ∨ (0 ≤ x4.toInt ∧ x4.toInt ≤ 4) := by rw [ex4]; exact hI.2 23 _
        refine lv_bipush (v := (-9)) hx hb dX12_roomOf_17 (by decide +kernel) ?_
        refine lv_icmp_ne (tgt := 25) hx hb dX12_roomOf_19 (by decide +kernel) (fun c5 => ?_) (fun c5 => ?_)
        · have f5 := mt (ti_eq (a := x4.toInt) (b := (-9)) rfl (by decide +kernel)).mpr c5
          refine lv_aload_n hx hb dX12_roomOf_25 rfl (lv_at hl 1 rfl) ?_
          refine mget_24 hx hb hts (fun _ h => List.mem_cons_of_mem _ (List.mem_append_right _ h)) hown hK hP (hts (.fieldLink RX12 53 "TalePlayModel" "nAt" "[I") (List.mem_cons_of_mem _ (List.mem_append_left _ (List.mem_of_getElem? (i := 8) rfl)))) dX12_roomOf_26 ?_
          refine lv_iload_n hx hb dX12_roomOf_29 rfl (lv_at hl 0 rfl) ?_
          refine mld_24 hx hb hK hP (vp_in_iff.mpr (by have h9 : y1_2.toInt = y1_2.toInt := rfl; omega)) dX12_roomOf_30 (fun x6 ex6 => ?_)
          have rx6 : x6.toInt = -9 ∨ (0 ≤ x6.toInt ∧ x6.toInt ≤ 29) := by rw [ex6]; exact hI.2 24 _
          obtain ⟨hn, hax, hbx⟩ := T_st hT2 (y := y1_2) (by omega) ex4 (by omega) ex6
          have hk := hrk.2 y1_2.toInt (by omega) (by omega) (by rw [hn]; omega)
          rw [hn] at hk
          refine lv_istore_n (lv' := [(2, .int x6), (0, .ref o), (1, .int w)]) hx hb dX12_roomOf_31 rfl hl (by decide +kernel) rfl (fun ls hl => ?_)
          refine lv_goto (tgt := 2) hx hb dX12_roomOf_32 (by decide +kernel) ?_
          exact ih1 x6 (show 0 ≤ x6.toInt ∧ x6.toInt ≤ 29 from by omega) (show x6.toInt < (i 5).toInt from by omega) (show ∀ t : Int, (RmM (c 3) (c 6) (i 5).toInt) t → (Ch (nF (i 5).toInt (c 23) (c 24)) w.toInt t ↔ Ch (nF (i 5).toInt (c 23) (c 24)) x6.toInt t) from fun t9 h9 => (hz1_1 t9 h9).trans (by rw [Ch_nx (f := (nF (i 5).toInt (c 23) (c 24))) (x := y1_2.toInt) (fun e9 => hNR (by rw [e9]; exact (kS_k hI (by omega) (by omega)).mpr h9.2.2)), hn])) (by omega) _ _ _ hP hS (lv_sub hl [0, 1, 2] rfl)
        · have f5 := (ti_eq (a := x4.toInt) (b := (-9)) rfl (by decide +kernel)).mp c5
          refine lv_bipush (v := (-9)) hx hb dX12_roomOf_22 (by decide +kernel) ?_
          exact ro_iret hx hb hr hlocks hS dX12_roomOf_24 ⟨(show ((-9) : Int32).toInt = -9 ∨ (0 ≤ ((-9) : Int32).toInt ∧ ((-9) : Int32).toInt ≤ 29) from by decide +kernel), (show RmS (nF (i 5).toInt (c 23) (c 24)) (RmM (c 3) (c 6) (i 5).toInt) w.toInt ((-9) : Int32).toInt from Or.inr ⟨by decide, fun t9 h9 h8 => by have h7 := (hz1_1 t9 h9).mp h8; rw [Ch_nx (f := (nF (i 5).toInt (c 23) (c 24))) (x := y1_2.toInt) (fun e9 => hNR (by rw [e9]; exact (kS_k hI (by omega) (by omega)).mpr h9.2.2)), nF_no ex4 (by omega)] at h7; have h6 := Ch_nd hsp.1 h7; have h5 := h9.1; omega⟩)⟩
  exact lp1 _ w (show 0 ≤ w.toInt ∧ w.toInt ≤ 29 from by omega) (show w.toInt < (i 5).toInt from by omega) (show ∀ t : Int, (RmM (c 3) (c 6) (i 5).toInt) t → (Ch (nF (i 5).toInt (c 23) (c 24)) w.toInt t ↔ Ch (nF (i 5).toInt (c 23) (c 24)) w.toInt t) from fun _ _ => Iff.rfl) (Nat.lt_succ_self _) _ _ _ hP hS (lv_sub hl [0, 1, 2] rfl)

set_option maxHeartbeats 4000000 in
set_option maxRecDepth 100000 in
theorem s_X12_told_t (l : Launch) (D : va_G) (sz : Nat) (o : Nat) (a : Nat → Nat) (t : Nat → ClassId) (i : Nat → Int32) (q : Int64) (c : Nat → Nat → Int32) (d : Nat → Nat → Int64) (w : Int32) (w1 : Int32) (hI : mInv i c) (hw : 0 ≤ w.toInt ∧ w.toInt < (i 5).toInt) (hs_T : TI (i 5).toInt (fun z => Kd (c 3) (c 6) z 0) (i 22).toInt (c 23) (c 24)) (hw1 : 0 ≤ w1.toInt ∧ w1.toInt ≤ 6) : Met l yX12_told wm_X12_told ({ frames := 2, cells := 0, slots := 0, locals := 45 }) (va_Pc [.ref o, .int w, .int w1] (pA D sz (mW o a t i q c d) (mT t))) (va_Qi (fun (r : Int32) (_ : Unit) => (True ∧ (NwR w1.toInt r.toInt (c 23 w.toInt.toNat).toInt (c 24 w.toInt.toNat).toInt ((zM (c 3) (c 6) (i 5).toInt) w.toInt = 2 ∨ (zM (c 3) (c 6) (i 5).toInt) w.toInt = 3) ((bM (c 25)) w.toInt) ((bM (c 26)) w.toInt) (c 43 w.toInt.toNat).toInt (c 44 w.toInt.toNat).toInt (fun z => RmS (nF (i 5).toInt (c 23) (c 24)) (RmM (c 3) (c 6) (i 5).toInt) w.toInt z)))) oA (ro sz)) 0 0 (ro sz) := by
  refine Met.ofW (cc := cX12_told) (maxL := 3) (ret := (some .int)) (by decide +kernel) rfl ?_
  intro p e s m args below meth cd s₁ B hml hv
  obtain ⟨rfl, hsz, hP, hK⟩ := hv
  have hx := B.exec
  have hb := B.bytes
  have hr := B.returns
  have hts := atoms_spec (ws := wm_X12_told) B.pre
  have hown : s.vm.findClass RX12 = some m.cls := findClass_of_methodNamed B.named
  have hlocks := B.notSynchronized
  subst hsz
  have hA : ∀ q : Nat, s.heap.size ≤ q → ro s.heap.size q := fun _ h => h
  have hS : va_S (ro s.heap.size) s.heap s.heap [] := va_S.rf
  have hl := lv_entry ([.ref o, .int w, .int w1]) (n := 3) (Nat.le_of_ble_eq_true rfl)
  rw [lg_entry_eq]
  generalize (lg_sl ([.ref o, .int w, .int w1]) ++ List.replicate (3 - (lg_sl ([.ref o, .int w, .int w1])).length) Slot.unset).toArray = ls at hl ⊢
  have hl : lv_has ls 3 [(0, .ref o), (1, .int w), (2, .int w1)] := hl
  have rb5_i : 0 ≤ (i 5).toInt ∧ (i 5).toInt ≤ 30 := hI.1 5
  have hzw := zM_i (pa := c 3) (ko := c 6) (N := (i 5).toInt) (x := w.toInt) (by omega)
  refine lv_iload_n hx hb dX12_told_0 rfl (lv_at hl 2 rfl) ?_
  rcases (show (w1.toInt < 0 ∨ 5 < w1.toInt) ∨ w1.toInt = 0 ∨ w1.toInt = 1 ∨ w1.toInt = 2 ∨ w1.toInt = 3 ∨ w1.toInt = 4 ∨ w1.toInt = 5 by omega) with f1 | f1 | f1 | f1 | f1 | f1 | f1
  · refine lv_tableOut (tgt := 140) hx hb dX12_told_1 f1 (by decide +kernel) ?_
    refine lv_aload_n hx hb dX12_told_140 rfl (lv_at hl 0 rfl) ?_
    refine lv_iload_n hx hb dX12_told_141 rfl (lv_at hl 1 rfl) ?_
    have rb22_i : (i 22).toInt = -9 ∨ (0 ≤ (i 22).toInt ∧ (i 22).toInt ≤ 29) := hI.1 22
    refine ro_calli (va_runV (As := [.int w]) (rest := []) ⟨hx, hb, hml, hown, hts⟩ (s_X12_roomOf_t l D s.heap.size o a t i q c d w hI (show 0 ≤ w.toInt ∧ w.toInt < ((i 5) : Int32).toInt from by omega) hs_T) (cwV 1 hts gm_X12_told_X12_roomOf rfl rfl rfl (by decide +kernel) ⟨Nat.le_of_ble_eq_true rfl, Nat.le_of_ble_eq_true rfl⟩) (pA_V hK hP (ci := 12) (q0 := 0) rfl rfl) rfl rfl hl.1 rfl (lv_room (Nat.le_of_ble_eq_true rfl)) dX12_told_142 ⟨Nat.le_of_ble_eq_true rfl, Nat.le_of_ble_eq_true rfl⟩) hS hA hP (fun r2 u2 H locs hw2 hP hS => ?_)
    have hw2 : ((r2.toInt = -9 ∨ (0 ≤ r2.toInt ∧ r2.toInt ≤ 29)) ∧ (RmS (nF (i 5).toInt (c 23) (c 24)) (RmM (c 3) (c 6) (i 5).toInt) w.toInt r2.toInt)) := hw2
    obtain ⟨hw2, hr2_0⟩ := hw2
    have hr2_0 : RmS (nF (i 5).toInt (c 23) (c 24)) (RmM (c 3) (c 6) (i 5).toInt) w.toInt r2.toInt := hr2_0
    exact ro_iret hx hb hr hlocks hS dX12_told_145 ⟨trivial, (show NwR w1.toInt r2.toInt (c 23 w.toInt.toNat).toInt (c 24 w.toInt.toNat).toInt ((zM (c 3) (c 6) (i 5).toInt) w.toInt = 2 ∨ (zM (c 3) (c 6) (i 5).toInt) w.toInt = 3) ((bM (c 25)) w.toInt) ((bM (c 26)) w.toInt) (c 43 w.toInt.toNat).toInt (c 44 w.toInt.toNat).toInt (fun z => RmS (nF (i 5).toInt (c 23) (c 24)) (RmM (c 3) (c 6) (i 5).toInt) w.toInt z) from Or.inr ⟨by omega, hr2_0⟩)⟩
  · refine lv_tableIn (off := 39) (tgt := 40) hx hb dX12_told_1 (by omega) (by omega) (by rw [f1]; rfl) (by decide +kernel) ?_
    refine lv_aload_n hx hb dX12_told_40 rfl (lv_at hl 0 rfl) ?_
    refine mget_23 hx hb hts (fun _ h => List.mem_cons_of_mem _ (List.mem_append_right _ h)) hown hK hP (hts (.fieldLink RX12 50 "TalePlayModel" "nForm" "[I") (List.mem_cons_of_mem _ (List.mem_append_left _ (List.mem_append_left _ (List.mem_of_getElem? (i := 11) rfl))))) dX12_told_41 ?_
    refine lv_iload_n hx hb dX12_told_44 rfl (lv_at hl 1 rfl) ?_
    refine mld_23 hx hb hK hP (vp_in_iff.mpr (by have h9 : w.toInt = w.toInt := rfl; omega)) dX12_told_45 (fun x3 ex3 => ?_)
    have rx3 : x3.toInt = -9 ∨ (0 ≤ x3.toInt ∧ x3.toInt ≤ 4) := by rw [ex3]; exact hI.2 23 _
    have gx3 : (c 23 (w : Int32).toNatClampNeg).toInt = x3.toInt := by rw [ex3]
    exact ro_iret hx hb hr hlocks hS dX12_told_46 ⟨trivial, (show NwR w1.toInt x3.toInt (c 23 w.toInt.toNat).toInt (c 24 w.toInt.toNat).toInt ((zM (c 3) (c 6) (i 5).toInt) w.toInt = 2 ∨ (zM (c 3) (c 6) (i 5).toInt) w.toInt = 3) ((bM (c 25)) w.toInt) ((bM (c 26)) w.toInt) (c 43 w.toInt.toNat).toInt (c 44 w.toInt.toNat).toInt (fun z => RmS (nF (i 5).toInt (c 23) (c 24)) (RmM (c 3) (c 6) (i 5).toInt) w.toInt z) from Or.inl ⟨by omega, by unfold nwV; rw [if_pos (by omega)]; exact (show (c 23 w.toInt.toNat).toInt = x3.toInt from gx3).symm⟩)⟩
  · refine lv_tableIn (off := 46) (tgt := 47) hx hb dX12_told_1 (by omega) (by omega) (by rw [f1]; rfl) (by decide +kernel) ?_
    refine lv_aload_n hx hb dX12_told_47 rfl (lv_at hl 0 rfl) ?_
    refine mget_24 hx hb hts (fun _ h => List.mem_cons_of_mem _ (List.mem_append_right _ h)) hown hK hP (hts (.fieldLink RX12 53 "TalePlayModel" "nAt" "[I") (List.mem_cons_of_mem _ (List.mem_append_left _ (List.mem_append_left _ (List.mem_of_getElem? (i := 12) rfl))))) dX12_told_48 ?_
    refine lv_iload_n hx hb dX12_told_51 rfl (lv_at hl 1 rfl) ?_
    refine mld_24 hx hb hK hP (vp_in_iff.mpr (by have h9 : w.toInt = w.toInt := rfl; omega)) dX12_told_52 (fun x4 ex4 => ?_)
    have rx4 : x4.toInt = -9 ∨ (0 ≤ x4.toInt ∧ x4.toInt ≤ 29) := by rw [ex4]; exact hI.2 24 _
    have gx4 : (c 24 (w : Int32).toNatClampNeg).toInt = x4.toInt := by rw [ex4]
    exact ro_iret hx hb hr hlocks hS dX12_told_53 ⟨trivial, (show NwR w1.toInt x4.toInt (c 23 w.toInt.toNat).toInt (c 24 w.toInt.toNat).toInt ((zM (c 3) (c 6) (i 5).toInt) w.toInt = 2 ∨ (zM (c 3) (c 6) (i 5).toInt) w.toInt = 3) ((bM (c 25)) w.toInt) ((bM (c 26)) w.toInt) (c 43 w.toInt.toNat).toInt (c 44 w.toInt.toNat).toInt (fun z => RmS (nF (i 5).toInt (c 23) (c 24)) (RmM (c 3) (c 6) (i 5).toInt) w.toInt z) from Or.inl ⟨by omega, by unfold nwV; rw [if_neg (by omega), if_pos (by omega)]; exact (show (c 24 w.toInt.toNat).toInt = x4.toInt from gx4).symm⟩)⟩
  · refine lv_tableIn (off := 53) (tgt := 54) hx hb dX12_told_1 (by omega) (by omega) (by rw [f1]; rfl) (by decide +kernel) ?_
    refine lv_aload_n hx hb dX12_told_54 rfl (lv_at hl 0 rfl) ?_
    refine lv_iload_n hx hb dX12_told_55 rfl (lv_at hl 1 rfl) ?_
    refine ro_calli (va_runV (As := [.int w]) (rest := []) ⟨hx, hb, hml, hown, hts⟩ (s_X12_isShutter_e l D s.heap.size o a t i q c d w hI (show 0 ≤ w.toInt ∧ w.toInt ≤ 29 from by omega)) (cwV 1 hts gm_X12_told_X12_isShutter rfl rfl rfl (by decide +kernel) ⟨Nat.le_of_ble_eq_true rfl, Nat.le_of_ble_eq_true rfl⟩) (pA_V hK hP (ci := 12) (q0 := 0) rfl rfl) rfl rfl hl.1 rfl (lv_room (Nat.le_of_ble_eq_true rfl)) dX12_told_56 ⟨Nat.le_of_ble_eq_true rfl, Nat.le_of_ble_eq_true rfl⟩) hS hA hP (fun r5 u5 H locs hw5 hP hS => ?_)
    have hw5 : (0 ≤ kS (c 3) (c 6) w.toInt ∧ kS (c 3) (c 6) w.toInt ≤ 5 ∧ ((r5.toInt = 1 ∧ (kS (c 3) (c 6) w.toInt = 2 ∨ kS (c 3) (c 6) w.toInt = 3)) ∨ (r5.toInt = 0 ∧ ¬ (kS (c 3) (c 6) w.toInt = 2 ∨ kS (c 3) (c 6) w.toInt = 3)))) := hw5
    refine lv_if_eq (tgt := 79) hx hb dX12_told_59 (by decide +kernel) (fun c6 => ?_) (fun c6 => ?_)
    · have f6 := (ti_eq (a := r5.toInt) (b := 0) rfl (by decide +kernel)).mp c6
      refine lv_bipush (v := (-9)) hx hb dX12_told_79 (by decide +kernel) ?_
      exact ro_iret hx hb hr hlocks hS dX12_told_81 ⟨trivial, (show NwR w1.toInt ((-9) : Int32).toInt (c 23 w.toInt.toNat).toInt (c 24 w.toInt.toNat).toInt ((zM (c 3) (c 6) (i 5).toInt) w.toInt = 2 ∨ (zM (c 3) (c 6) (i 5).toInt) w.toInt = 3) ((bM (c 25)) w.toInt) ((bM (c 26)) w.toInt) (c 43 w.toInt.toNat).toInt (c 44 w.toInt.toNat).toInt (fun z => RmS (nF (i 5).toInt (c 23) (c 24)) (RmM (c 3) (c 6) (i 5).toInt) w.toInt z) from Or.inl ⟨by omega, by unfold nwV; rw [if_neg (by omega), if_neg (by omega), if_pos (by omega), iV_n (by omega)]; first | done | decide⟩)⟩
    · have f6 := mt (ti_eq (a := r5.toInt) (b := 0) rfl (by decide +kernel)).mpr c6
      refine lv_aload_n hx hb dX12_told_62 rfl (lv_at hl 0 rfl) ?_
      refine mget_25 hx hb hts (fun _ h => List.mem_cons_of_mem _ (List.mem_append_right _ h)) hown hK hP (hts (.fieldLink RX12 56 "TalePlayModel" "nOpen" "[Z") (List.mem_cons_of_mem _ (List.mem_append_left _ (List.mem_append_right _ (List.mem_of_getElem? (i := 1) rfl))))) dX12_told_63 ?_
      refine lv_iload_n hx hb dX12_told_66 rfl (lv_at hl 1 rfl) ?_
      refine mld_25 hx hb hK hP (vp_in_iff.mpr (by have h9 : w.toInt = w.toInt := rfl; omega)) dX12_told_67 (fun x7 ex7 => ?_)
      have rx7 : 0 ≤ x7.toInt ∧ x7.toInt ≤ 1 := by rw [ex7]; exact hI.2 25 _
      have gx7 : (c 25 (w : Int32).toNatClampNeg).toInt = x7.toInt := by rw [ex7]
      refine lv_if_eq (tgt := 75) hx hb dX12_told_68 (by decide +kernel) (fun c8 => ?_) (fun c8 => ?_)
      · have f8 := (ti_eq (a := x7.toInt) (b := 0) rfl (by decide +kernel)).mp c8
        refine lv_iconst (v := 0) hx hb dX12_told_75 (by decide +kernel) ?_
        refine lv_goto (tgt := 81) hx hb dX12_told_76 (by decide +kernel) ?_
        exact ro_iret hx hb hr hlocks hS dX12_told_81 ⟨trivial, (show NwR w1.toInt (0 : Int32).toInt (c 23 w.toInt.toNat).toInt (c 24 w.toInt.toNat).toInt ((zM (c 3) (c 6) (i 5).toInt) w.toInt = 2 ∨ (zM (c 3) (c 6) (i 5).toInt) w.toInt = 3) ((bM (c 25)) w.toInt) ((bM (c 26)) w.toInt) (c 43 w.toInt.toNat).toInt (c 44 w.toInt.toNat).toInt (fun z => RmS (nF (i 5).toInt (c 23) (c 24)) (RmM (c 3) (c 6) (i 5).toInt) w.toInt z) from Or.inl ⟨by omega, by unfold nwV; rw [if_neg (by omega), if_neg (by omega), if_pos (by omega), iV_y (by omega), iV_n (show ¬ bM (c 25) w.toInt from fun h9 => by have h7 : (c 25 w.toInt.toNat).toInt = 1 := h9; have h8 := (show (c 25 w.toInt.toNat).toInt = x7.toInt from gx7); omega)]; first | done | decide⟩)⟩
      · have f8 := mt (ti_eq (a := x7.toInt) (b := 0) rfl (by decide +kernel)).mpr c8
        refine lv_iconst (v := 1) hx hb dX12_told_71 (by decide +kernel) ?_
        refine lv_goto (tgt := 81) hx hb dX12_told_72 (by decide +kernel) ?_
        exact ro_iret hx hb hr hlocks hS dX12_told_81 ⟨trivial, (show NwR w1.toInt (1 : Int32).toInt (c 23 w.toInt.toNat).toInt (c 24 w.toInt.toNat).toInt ((zM (c 3) (c 6) (i 5).toInt) w.toInt = 2 ∨ (zM (c 3) (c 6) (i 5).toInt) w.toInt = 3) ((bM (c 25)) w.toInt) ((bM (c 26)) w.toInt) (c 43 w.toInt.toNat).toInt (c 44 w.toInt.toNat).toInt (fun z => RmS (nF (i 5).toInt (c 23) (c 24)) (RmM (c 3) (c 6) (i 5).toInt) w.toInt z) from Or.inl ⟨by omega, by unfold nwV; rw [if_neg (by omega), if_neg (by omega), if_pos (by omega), iV_y (by omega), iV_y (show bM (c 25) w.toInt from (show (c 25 w.toInt.toNat).toInt = 1 from by have h8 := (show (c 25 w.toInt.toNat).toInt = x7.toInt from gx7); omega))]; first | done | decide⟩)⟩
  · refine lv_tableIn (off := 81) (tgt := 82) hx hb dX12_told_1 (by omega) (by omega) (by rw [f1]; rfl) (by decide +kernel) ?_
    refine lv_aload_n hx hb dX12_told_82 rfl (lv_at hl 0 rfl) ?_
    refine lv_iload_n hx hb dX12_told_83 rfl (lv_at hl 1 rfl) ?_
    refine ro_calli (va_runV (As := [.int w]) (rest := []) ⟨hx, hb, hml, hown, hts⟩ (s_X12_isShutter_e l D s.heap.size o a t i q c d w hI (show 0 ≤ w.toInt ∧ w.toInt ≤ 29 from by omega)) (cwV 1 hts gm_X12_told_X12_isShutter rfl rfl rfl (by decide +kernel) ⟨Nat.le_of_ble_eq_true rfl, Nat.le_of_ble_eq_true rfl⟩) (pA_V hK hP (ci := 12) (q0 := 0) rfl rfl) rfl rfl hl.1 rfl (lv_room (Nat.le_of_ble_eq_true rfl)) dX12_told_84 ⟨Nat.le_of_ble_eq_true rfl, Nat.le_of_ble_eq_true rfl⟩) hS hA hP (fun r9 u9 H locs hw9 hP hS => ?_)
    have hw9 : (0 ≤ kS (c 3) (c 6) w.toInt ∧ kS (c 3) (c 6) w.toInt ≤ 5 ∧ ((r9.toInt = 1 ∧ (kS (c 3) (c 6) w.toInt = 2 ∨ kS (c 3) (c 6) w.toInt = 3)) ∨ (r9.toInt = 0 ∧ ¬ (kS (c 3) (c 6) w.toInt = 2 ∨ kS (c 3) (c 6) w.toInt = 3)))) := hw9
    refine lv_if_eq (tgt := 107) hx hb dX12_told_87 (by decide +kernel) (fun c10 => ?_) (fun c10 => ?_)
    · have f10 := (ti_eq (a := r9.toInt) (b := 0) rfl (by decide +kernel)).mp c10
      refine lv_bipush (v := (-9)) hx hb dX12_told_107 (by decide +kernel) ?_
      exact ro_iret hx hb hr hlocks hS dX12_told_109 ⟨trivial, (show NwR w1.toInt ((-9) : Int32).toInt (c 23 w.toInt.toNat).toInt (c 24 w.toInt.toNat).toInt ((zM (c 3) (c 6) (i 5).toInt) w.toInt = 2 ∨ (zM (c 3) (c 6) (i 5).toInt) w.toInt = 3) ((bM (c 25)) w.toInt) ((bM (c 26)) w.toInt) (c 43 w.toInt.toNat).toInt (c 44 w.toInt.toNat).toInt (fun z => RmS (nF (i 5).toInt (c 23) (c 24)) (RmM (c 3) (c 6) (i 5).toInt) w.toInt z) from Or.inl ⟨by omega, by unfold nwV; rw [if_neg (by omega), if_neg (by omega), if_neg (by omega), if_pos (by omega), iV_n (by omega)]; first | done | decide⟩)⟩
    · have f10 := mt (ti_eq (a := r9.toInt) (b := 0) rfl (by decide +kernel)).mpr c10
      refine lv_aload_n hx hb dX12_told_90 rfl (lv_at hl 0 rfl) ?_
      refine mget_26 hx hb hts (fun _ h => List.mem_cons_of_mem _ (List.mem_append_right _ h)) hown hK hP (hts (.fieldLink RX12 59 "TalePlayModel" "nLocked" "[Z") (List.mem_cons_of_mem _ (List.mem_append_left _ (List.mem_append_right _ (List.mem_of_getElem? (i := 2) rfl))))) dX12_told_91 ?_
      refine lv_iload_n hx hb dX12_told_94 rfl (lv_at hl 1 rfl) ?_
      refine mld_26 hx hb hK hP (vp_in_iff.mpr (by have h9 : w.toInt = w.toInt := rfl; omega)) dX12_told_95 (fun x11 ex11 => ?_)
      have rx11 : 0 ≤ x11.toInt ∧ x11.toInt ≤ 1 := by rw [ex11]; exact hI.2 26 _
      have gx11 : (c 26 (w : Int32).toNatClampNeg).toInt = x11.toInt := by rw [ex11]
      refine lv_if_eq (tgt := 103) hx hb dX12_told_96 (by decide +kernel) (fun c12 => ?_) (fun c12 => ?_)
      · have f12 := (ti_eq (a := x11.toInt) (b := 0) rfl (by decide +kernel)).mp c12
        refine lv_iconst (v := 0) hx hb dX12_told_103 (by decide +kernel) ?_
        refine lv_goto (tgt := 109) hx hb dX12_told_104 (by decide +kernel) ?_
        exact ro_iret hx hb hr hlocks hS dX12_told_109 ⟨trivial, (show NwR w1.toInt (0 : Int32).toInt (c 23 w.toInt.toNat).toInt (c 24 w.toInt.toNat).toInt ((zM (c 3) (c 6) (i 5).toInt) w.toInt = 2 ∨ (zM (c 3) (c 6) (i 5).toInt) w.toInt = 3) ((bM (c 25)) w.toInt) ((bM (c 26)) w.toInt) (c 43 w.toInt.toNat).toInt (c 44 w.toInt.toNat).toInt (fun z => RmS (nF (i 5).toInt (c 23) (c 24)) (RmM (c 3) (c 6) (i 5).toInt) w.toInt z) from Or.inl ⟨by omega, by unfold nwV; rw [if_neg (by omega), if_neg (by omega), if_neg (by omega), if_pos (by omega), iV_y (by omega), iV_n (show ¬ bM (c 26) w.toInt from fun h9 => by have h7 : (c 26 w.toInt.toNat).toInt = 1 := h9; have h8 := (show (c 26 w.toInt.toNat).toInt = x11.toInt from gx11); omega)]; first | done | decide⟩)⟩
      · have f12 := mt (ti_eq (a := x11.toInt) (b := 0) rfl (by decide +kernel)).mpr c12
        refine lv_iconst (v := 1) hx hb dX12_told_99 (by decide +kernel) ?_
        refine lv_goto (tgt := 109) hx hb dX12_told_100 (by decide +kernel) ?_
        exact ro_iret hx hb hr hlocks hS dX12_told_109 ⟨trivial, (show NwR w1.toInt (1 : Int32).toInt (c 23 w.toInt.toNat).toInt (c 24 w.toInt.toNat).toInt ((zM (c 3) (c 6) (i 5).toInt) w.toInt = 2 ∨ (zM (c 3) (c 6) (i 5).toInt) w.toInt = 3) ((bM (c 25)) w.toInt) ((bM (c 26)) w.toInt) (c 43 w.toInt.toNat).toInt (c 44 w.toInt.toNat).toInt (fun z => RmS (nF (i 5).toInt (c 23) (c 24)) (RmM (c 3) (c 6) (i 5).toInt) w.toInt z) from Or.inl ⟨by omega, by unfold nwV; rw [if_neg (by omega), if_neg (by omega), if_neg (by omega), if_pos (by omega), iV_y (by omega), iV_y (show bM (c 26) w.toInt from (show (c 26 w.toInt.toNat).toInt = 1 from by have h8 := (show (c 26 w.toInt.toNat).toInt = x11.toInt from gx11); omega))]; first | done | decide⟩)⟩
  · refine lv_tableIn (off := 109) (tgt := 110) hx hb dX12_told_1 (by omega) (by omega) (by rw [f1]; rfl) (by decide +kernel) ?_
    refine lv_aload_n hx hb dX12_told_110 rfl (lv_at hl 0 rfl) ?_
    refine mget_43 hx hb hts (fun _ h => List.mem_cons_of_mem _ (List.mem_append_right _ h)) hown hK hP (hts (.fieldLink RX12 86 "TalePlayModel" "seen" "[Z") (List.mem_cons_of_mem _ (List.mem_append_left _ (List.mem_append_right _ (List.mem_of_getElem? (i := 3) rfl))))) dX12_told_111 ?_
    refine lv_iload_n hx hb dX12_told_114 rfl (lv_at hl 1 rfl) ?_
    refine mld_43 hx hb hK hP (vp_in_iff.mpr (by have h9 : w.toInt = w.toInt := rfl; omega)) dX12_told_115 (fun x13 ex13 => ?_)
    have rx13 : 0 ≤ x13.toInt ∧ x13.toInt ≤ 1 := by rw [ex13]; exact hI.2 43 _
    have gx13 : (c 43 (w : Int32).toNatClampNeg).toInt = x13.toInt := by rw [ex13]
    refine lv_if_eq (tgt := 123) hx hb dX12_told_116 (by decide +kernel) (fun c14 => ?_) (fun c14 => ?_)
    · have f14 := (ti_eq (a := x13.toInt) (b := 0) rfl (by decide +kernel)).mp c14
      refine lv_iconst (v := 0) hx hb dX12_told_123 (by decide +kernel) ?_
      exact ro_iret hx hb hr hlocks hS dX12_told_124 ⟨trivial, (show NwR w1.toInt (0 : Int32).toInt (c 23 w.toInt.toNat).toInt (c 24 w.toInt.toNat).toInt ((zM (c 3) (c 6) (i 5).toInt) w.toInt = 2 ∨ (zM (c 3) (c 6) (i 5).toInt) w.toInt = 3) ((bM (c 25)) w.toInt) ((bM (c 26)) w.toInt) (c 43 w.toInt.toNat).toInt (c 44 w.toInt.toNat).toInt (fun z => RmS (nF (i 5).toInt (c 23) (c 24)) (RmM (c 3) (c 6) (i 5).toInt) w.toInt z) from Or.inl ⟨by omega, by unfold nwV; rw [if_neg (by omega), if_neg (by omega), if_neg (by omega), if_neg (by omega), if_pos (by omega)]; have h8 := (show (c 43 w.toInt.toNat).toInt = x13.toInt from gx13); have h9 : (0 : Int32).toInt = 0 := (by decide +kernel); omega⟩)⟩
    · have f14 := mt (ti_eq (a := x13.toInt) (b := 0) rfl (by decide +kernel)).mpr c14
      refine lv_iconst (v := 1) hx hb dX12_told_119 (by decide +kernel) ?_
      refine lv_goto (tgt := 124) hx hb dX12_told_120 (by decide +kernel) ?_
      exact ro_iret hx hb hr hlocks hS dX12_told_124 ⟨trivial, (show NwR w1.toInt (1 : Int32).toInt (c 23 w.toInt.toNat).toInt (c 24 w.toInt.toNat).toInt ((zM (c 3) (c 6) (i 5).toInt) w.toInt = 2 ∨ (zM (c 3) (c 6) (i 5).toInt) w.toInt = 3) ((bM (c 25)) w.toInt) ((bM (c 26)) w.toInt) (c 43 w.toInt.toNat).toInt (c 44 w.toInt.toNat).toInt (fun z => RmS (nF (i 5).toInt (c 23) (c 24)) (RmM (c 3) (c 6) (i 5).toInt) w.toInt z) from Or.inl ⟨by omega, by unfold nwV; rw [if_neg (by omega), if_neg (by omega), if_neg (by omega), if_neg (by omega), if_pos (by omega)]; have h8 := (show (c 43 w.toInt.toNat).toInt = x13.toInt from gx13); have h9 : (1 : Int32).toInt = 1 := (by decide +kernel); omega⟩)⟩
  · refine lv_tableIn (off := 124) (tgt := 125) hx hb dX12_told_1 (by omega) (by omega) (by rw [f1]; rfl) (by decide +kernel) ?_
    refine lv_aload_n hx hb dX12_told_125 rfl (lv_at hl 0 rfl) ?_
    refine mget_44 hx hb hts (fun _ h => List.mem_cons_of_mem _ (List.mem_append_right _ h)) hown hK hP (hts (.fieldLink RX12 89 "TalePlayModel" "reached" "[Z") (List.mem_cons_of_mem _ (List.mem_append_left _ (List.mem_append_right _ (List.mem_of_getElem? (i := 4) rfl))))) dX12_told_126 ?_
    refine lv_iload_n hx hb dX12_told_129 rfl (lv_at hl 1 rfl) ?_
    refine mld_44 hx hb hK hP (vp_in_iff.mpr (by have h9 : w.toInt = w.toInt := rfl; omega)) dX12_told_130 (fun x15 ex15 => ?_)
    have rx15 : 0 ≤ x15.toInt ∧ x15.toInt ≤ 1 := by rw [ex15]; exact hI.2 44 _
    have gx15 : (c 44 (w : Int32).toNatClampNeg).toInt = x15.toInt := by rw [ex15]
    refine lv_if_eq (tgt := 138) hx hb dX12_told_131 (by decide +kernel) (fun c16 => ?_) (fun c16 => ?_)
    · have f16 := (ti_eq (a := x15.toInt) (b := 0) rfl (by decide +kernel)).mp c16
      refine lv_iconst (v := 0) hx hb dX12_told_138 (by decide +kernel) ?_
      exact ro_iret hx hb hr hlocks hS dX12_told_139 ⟨trivial, (show NwR w1.toInt (0 : Int32).toInt (c 23 w.toInt.toNat).toInt (c 24 w.toInt.toNat).toInt ((zM (c 3) (c 6) (i 5).toInt) w.toInt = 2 ∨ (zM (c 3) (c 6) (i 5).toInt) w.toInt = 3) ((bM (c 25)) w.toInt) ((bM (c 26)) w.toInt) (c 43 w.toInt.toNat).toInt (c 44 w.toInt.toNat).toInt (fun z => RmS (nF (i 5).toInt (c 23) (c 24)) (RmM (c 3) (c 6) (i 5).toInt) w.toInt z) from Or.inl ⟨by omega, by unfold nwV; rw [if_neg (by omega), if_neg (by omega), if_neg (by omega), if_neg (by omega), if_neg (by omega)]; have h8 := (show (c 44 w.toInt.toNat).toInt = x15.toInt from gx15); have h9 : (0 : Int32).toInt = 0 := (by decide +kernel); omega⟩)⟩
    · have f16 := mt (ti_eq (a := x15.toInt) (b := 0) rfl (by decide +kernel)).mpr c16
      refine lv_iconst (v := 1) hx hb dX12_told_134 (by decide +kernel) ?_
      refine lv_goto (tgt := 139) hx hb dX12_told_135 (by decide +kernel) ?_
      exact ro_iret hx hb hr hlocks hS dX12_told_139 ⟨trivial, (show NwR w1.toInt (1 : Int32).toInt (c 23 w.toInt.toNat).toInt (c 24 w.toInt.toNat).toInt ((zM (c 3) (c 6) (i 5).toInt) w.toInt = 2 ∨ (zM (c 3) (c 6) (i 5).toInt) w.toInt = 3) ((bM (c 25)) w.toInt) ((bM (c 26)) w.toInt) (c 43 w.toInt.toNat).toInt (c 44 w.toInt.toNat).toInt (fun z => RmS (nF (i 5).toInt (c 23) (c 24)) (RmM (c 3) (c 6) (i 5).toInt) w.toInt z) from Or.inl ⟨by omega, by unfold nwV; rw [if_neg (by omega), if_neg (by omega), if_neg (by omega), if_neg (by omega), if_neg (by omega)]; have h8 := (show (c 44 w.toInt.toNat).toInt = x15.toInt from gx15); have h9 : (1 : Int32).toInt = 1 := (by decide +kernel); omega⟩)⟩

