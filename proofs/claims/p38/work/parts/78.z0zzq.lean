set_option maxHeartbeats 4000000 in
set_option maxRecDepth 100000 in
theorem s_X12_roomOf_t (l : Launch) (D : va_G) (sz : Nat) (o : Nat) (a : Nat → Nat) (t : Nat → ClassId) (i : Nat → Int32) (q : Int64) (c : Nat → Nat → Int32) (d : Nat → Nat → Int64) (w : Int32) (hI : mInv i c) (hw : 0 ≤ w.toInt ∧ w.toInt < (i 5).toInt) (hs_T : TI (i 5).toInt (fun z => Kd (c 3) (c 6) z 0) (i 22).toInt (c 23) (c 24)) : Met l yX12_roomOf wm_X12_roomOf ({ frames := 1, cells := 0, slots := 0, locals := 23 }) (va_Pc [.ref o, .int w] (pA D sz (mW o a t i q c d) (mT t))) (va_Qi (fun (r : Int32) (_ : Unit) => ((r.toInt = -9 ∨ (0 ≤ r.toInt ∧ r.toInt ≤ 29)) ∧ (RmS (nF (i 5).toInt (c 23) (c 24)) (RmM (c 3) (c 6) (i 5).toInt) w.toInt r.toInt))) oA (ro sz)) 0 0 (ro sz) := by
  refine Met.ofW (cc := cX12_roomOf) (maxL := 3) (ret := (some .int)) (by decide +kernel) rfl ?_
  intro p e s m args below meth cd s₁ B hml hv
  obtain ⟨rfl, hsz, hP, hK⟩ := hv
  have hx := B.exec
  have hb := B.bytes
  have hr := B.returns
  have hts := atoms_spec (ws := wm_X12_roomOf) B.pre
  have hown : s.vm.findClass RX12 = some m.cls := findClass_of_methodNamed B.named
  have hlocks := B.notSynchronized
  subst hsz
  have hA : ∀ q : Nat, s.heap.size ≤ q → ro s.heap.size q := fun _ h => h
  have hS : va_S (ro s.heap.size) s.heap s.heap [] := va_S.rf
  have hl := lv_entry ([.ref o, .int w]) (n := 3) (Nat.le_of_ble_eq_true rfl)
  rw [lg_entry_eq]
  generalize (lg_sl ([.ref o, .int w]) ++ List.replicate (3 - (lg_sl ([.ref o, .int w])).length) Slot.unset).toArray = ls at hl ⊢
  have hl : lv_has ls 3 [(0, .ref o), (1, .int w)] := hl
  have rb5_i : 0 ≤ (i 5).toInt ∧ (i 5).toInt ≤ 30 := hI.1 5
  have rb22_i : (i 22).toInt = -9 ∨ (0 ≤ (i 22).toInt ∧ (i 22).toInt ≤ 29) := hI.1 22
  have hTt := hs_T
  obtain ⟨⟨hp0, hp1, hp2⟩, hT2, hT3, ⟨rk, hrk⟩, rr, hq0, hq1, hq2, hq3⟩ := hTt
  have hsp : Sp (nF (i 5).toInt (c 23) (c 24)) := nF_Sp (by omega) hT2
  have hpl := TI_p hs_T
  have hpa : 0 ≤ (c 24 (i 22).toNatClampNeg).toInt ∧ (c 24 (i 22).toNatClampNeg).toInt < (i 5).toInt := hT2 _ hp0 hp1 hpl
  refine lv_iload_n hx hb dX12_roomOf_0 rfl (lv_at hl 1 rfl) ?_
  refine lv_istore_n (lv' := [(2, .int w), (0, .ref o), (1, .int w)]) hx hb dX12_roomOf_1 rfl hl (by decide +kernel) rfl (fun ls hl => ?_)
  have lp1 : ∀ (fu : Nat) (y1_2 : Int32), (0 ≤ y1_2.toInt ∧ y1_2.toInt ≤ 29) → (y1_2.toInt < (i 5).toInt) → (∀ t : Int, (RmM (c 3) (c 6) (i 5).toInt) t → (Ch (nF (i 5).toInt (c 23) (c 24)) w.toInt t ↔ Ch (nF (i 5).toInt (c 23) (c 24)) y1_2.toInt t)) → rk y1_2.toInt < fu → ∀ (H : Heap) (locs : List Loc) (ls : Array Slot), va_P D vwCl (mW o a t i q c d) H → va_S (ro s.heap.size) s.heap H locs → lv_has ls 3 [(2, .int y1_2), (0, .ref o), (1, .int w)] → W p l e (headSpec wm_X12_roomOf ({ frames := 1, cells := 0, slots := 0, locals := 23 })).room s m ([.ref o, .int w] : List Value).toArray below meth cd H locs 0 0 (MQ below (va_Qi (fun (r : Int32) (_ : Unit) => ((r.toInt = -9 ∨ (0 ≤ r.toInt ∧ r.toInt ≤ 29)) ∧ (RmS (nF (i 5).toInt (c 23) (c 24)) (RmM (c 3) (c 6) (i 5).toInt) w.toInt r.toInt))) oA (ro s.heap.size)) ([.ref o, .int w] : List Value).toArray s 0 0 (ro s.heap.size)) (F0 m 2 ls []) := by
    intro fu
    induction fu with
    | zero => intro y1_2 hy1_2 hz1_0 hz1_1 hm; exact absurd hm (Nat.not_lt_zero _)
    | succ fu ih =>
      intro y1_2 hy1_2 hz1_0 hz1_1 hm H locs ls hP hS hl
      have ih1 := ih
      refine lv_aload_n hx hb dX12_roomOf_2 rfl (lv_at hl 1 rfl) ?_
      refine lv_iload_n hx hb dX12_roomOf_3 rfl (lv_at hl 0 rfl) ?_
      refine lv_iconst (v := 0) hx hb dX12_roomOf_4 (by decide +kernel) ?_
      refine ro_calli (va_runV (As := [.int y1_2, .int 0]) (rest := []) ⟨hx, hb, hml, hown, hts⟩ (s_X12_isOf l D H.size o a t i q c d y1_2 0 hI (show 0 ≤ y1_2.toInt ∧ y1_2.toInt ≤ 29 from by have h91 : (0 : Int32).toInt = 0 := (by decide +kernel); omega) (show 0 ≤ 0 from by have h91 : (0 : Int32).toInt = 0 := (by decide +kernel); omega)) (cwV 2 hts gm_X12_roomOf_X12_isOf rfl rfl rfl (by decide +kernel) ⟨Nat.le_of_ble_eq_true rfl, Nat.le_of_ble_eq_true rfl⟩) (pA_V hK hP (ci := 12) (q0 := 0) rfl rfl) rfl rfl hl.1 rfl (lv_room (Nat.le_of_ble_eq_true rfl)) dX12_roomOf_5 ⟨Nat.le_of_ble_eq_true rfl, Nat.le_of_ble_eq_true rfl⟩) hS hA hP (fun r2 u2 H locs hw2 hP hS => ?_)
      have hw2 : ((0 ≤ r2.toInt ∧ r2.toInt ≤ 1) ∧ (Sm r2 (Kd (c 3) (c 6) y1_2.toInt 0))) := hw2
      obtain ⟨hw2, hr2_0⟩ := hw2
      have hr2_0 : Sm r2 (Kd (c 3) (c 6) y1_2.toInt 0) := hr2_0
      refine lv_if_ne (tgt := 35) hx hb dX12_roomOf_8 (by decide +kernel) (fun c3 => ?_) (fun c3 => ?_)
      · have f3 := mt (ti_eq (a := r2.toInt) (b := 0) rfl (by decide +kernel)).mpr c3
        have s3 := sm_t hr2_0 c3
        refine lv_iload_n hx hb dX12_roomOf_35 rfl (lv_at hl 0 rfl) ?_
        exact ro_iret hx hb hr hlocks hS dX12_roomOf_36 ⟨(show y1_2.toInt = -9 ∨ (0 ≤ y1_2.toInt ∧ y1_2.toInt ≤ 29) from by omega), (show RmS (nF (i 5).toInt (c 23) (c 24)) (RmM (c 3) (c 6) (i 5).toInt) w.toInt y1_2.toInt from Or.inl ⟨by omega, (hz1_1 _ (show (RmM (c 3) (c 6) (i 5).toInt) y1_2.toInt from ⟨by omega, by omega, (kS_k hI (by omega) (by omega)).mp s3⟩)).mpr Ch_rf, (show (RmM (c 3) (c 6) (i 5).toInt) y1_2.toInt from ⟨by omega, by omega, (kS_k hI (by omega) (by omega)).mp s3⟩)⟩)⟩
      · have f3 := (ti_eq (a := r2.toInt) (b := 0) rfl (by decide +kernel)).mp c3
        have s3 := sm_f hr2_0 c3
        have hNR := s3
        refine lv_aload_n hx hb dX12_roomOf_11 rfl (lv_at hl 1 rfl) ?_
        refine mget_23 hx hb hts (fun _ h => List.mem_cons_of_mem _ (List.mem_append_right _ h)) hown hK hP (hts (.fieldLink RX12 50 "TalePlayModel" "nForm" "[I") (List.mem_cons_of_mem _ (List.mem_append_left _ (List.mem_of_getElem? (i := 7) rfl)))) dX12_roomOf_12 ?_
        refine lv_iload_n hx hb dX12_roomOf_15 rfl (lv_at hl 0 rfl) ?_
        refine mld_23 hx hb hK hP (vp_in_iff.mpr (by have h9 : y1_2.toInt = y1_2.toInt := rfl; omega)) dX12_roomOf_16 (fun x4 ex4 => ?_)
        have rx4 : x4.toInt = -9 ∨ (0 ≤ x4.toInt ∧ x4.toInt ≤ 4) := by rw [ex4]; exact hI.2 23 _
        refine lv_bipush (v := (-9)) hx hb dX12_roomOf_17 (by decide +kernel) ?_
        refine lv_icmp_ne (tgt := 25) hx hb dX12_roomOf_19 (by decide +kernel) (fun c5 => ?_) (fun c5 => ?_)
        · have f5 := mt (ti_eq (a := x4.toInt) (b := (-9)) rfl (by decide +kernel)).mpr c5
          refine lv_aload_n hx hb dX12_roomOf_25 rfl (lv_at hl 1 rfl) ?_
          refine mget_24 hx hb hts (fun _ h => List.mem_cons_of_mem _ (List.mem_append_right _ h)) hown hK hP (hts (.fieldLink RX12 53 "TalePlayModel" "nAt" "[I") (List.mem_cons_of_mem _ (List.mem_append_left _ (List.mem_of_getElem? (i := 8) rfl)))) dX12_roomOf_26 ?_
          refine lv_iload_n hx hb dX12_roomOf_29 rfl (lv_at hl 0 rfl) ?_
          refine mld_24 hx hb hK hP (vp_in_iff.mpr (by have h9 : y1_2.toInt = y1_2.toInt := rfl; omega)) dX12_roomOf_30 (fun x6 ex6 => ?_)
          have rx6 : x6.toInt = -9 ∨ (0 ≤ x6.toInt ∧ x6.toInt ≤ 29) := by rw [ex6]; exact hI.2 24 _
          obtain ⟨hn, hax, hbx⟩ := T_st hT2 (y := y1_2) (by omega) ex4 (by omega) ex6
          have hk := hrk.2 y1_2.toInt (by omega) (by omega) (by rw [hn]; omega)
          rw [hn] at hk
          refine lv_istore_n (lv' := [(2, .int x6), (0, .ref o), (1, .int w)]) hx hb dX12_roomOf_31 rfl hl (by decide +kernel) rfl (fun ls hl => ?_)
          refine lv_goto (tgt := 2) hx hb dX12_roomOf_32 (by decide +kernel) ?_
          exact ih1 x6 (show 0 ≤ x6.toInt ∧ x6.toInt ≤ 29 from by omega) (show x6.toInt < (i 5).toInt from by omega) (show ∀ t : Int, (RmM (c 3) (c 6) (i 5).toInt) t → (Ch (nF (i 5).toInt (c 23) (c 24)) w.toInt t ↔ Ch (nF (i 5).toInt (c 23) (c 24)) x6.toInt t) from fun t9 h9 => (hz1_1 t9 h9).trans (by rw [Ch_nx (f := (nF (i 5).toInt (c 23) (c 24))) (x := y1_2.toInt) (fun e9 => hNR (by rw [e9]; exact (kS_k hI (by omega) (by omega)).mpr h9.2.2)), hn])) (by omega) _ _ _ hP hS (lv_sub hl [0, 1, 2] rfl)
        · have f5 := (ti_eq (a := x4.toInt) (b := (-9)) rfl (by decide +kernel)).mp c5
          refine lv_bipush (v := (-9)) hx hb dX12_roomOf_22 (by decide +kernel) ?_
          exact ro_iret hx hb hr hlocks hS dX12_roomOf_24 ⟨(show ((-9) : Int32).toInt = -9 ∨ (0 ≤ ((-9) : Int32).toInt ∧ ((-9) : Int32).toInt ≤ 29) from by have h9 : ((-9) : Int32).toInt = -9 := (by decide +kernel); omega), (show RmS (nF (i 5).toInt (c 23) (c 24)) (RmM (c 3) (c 6) (i 5).toInt) w.toInt ((-9) : Int32).toInt from Or.inr ⟨by decide, fun t9 h9 h8 => by have h7 := (hz1_1 t9 h9).mp h8; rw [Ch_nx (f := (nF (i 5).toInt (c 23) (c 24))) (x := y1_2.toInt) (fun e9 => hNR (by rw [e9]; exact (kS_k hI (by omega) (by omega)).mpr h9.2.2)), nF_no ex4 (by omega)] at h7; have h6 := Ch_nd hsp.1 h7; have h5 := h9.1; omega⟩)⟩
  exact lp1 _ w (show 0 ≤ w.toInt ∧ w.toInt ≤ 29 from by omega) (show w.toInt < (i 5).toInt from by omega) (show ∀ t : Int, (RmM (c 3) (c 6) (i 5).toInt) t → (Ch (nF (i 5).toInt (c 23) (c 24)) w.toInt t ↔ Ch (nF (i 5).toInt (c 23) (c 24)) w.toInt t) from fun _ _ => Iff.rfl) (Nat.lt_succ_self _) _ _ _ hP hS (lv_sub hl [0, 1, 2] rfl)

set_option maxHeartbeats 4000000 in
set_option maxRecDepth 100000 in
theorem s_X12_told_t (l : Launch) (D : va_G) (sz : Nat) (o : Nat) (a : Nat → Nat) (t : Nat → ClassId) (i : Nat → Int32) (q : Int64) (c : Nat → Nat → Int32) (d : Nat → Nat → Int64) (w : Int32) (w1 : Int32) (hI : mInv i c) (hw : 0 ≤ w.toInt ∧ w.toInt < (i 5).toInt) (hs_T : TI (i 5).toInt (fun z => Kd (c 3) (c 6) z 0) (i 22).toInt (c 23) (c 24)) (hw1 : 0 ≤ w1.toInt ∧ w1.toInt ≤ 6) : Met l yX12_told wm_X12_told ({ frames := 2, cells := 0, slots := 0, locals := 45 }) (va_Pc [.ref o, .int w, .int w1] (pA D sz (mW o a t i q c d) (mT t))) (va_Qi (fun (r : Int32) (_ : Unit) => (True ∧ (NwR w1.toInt r.toInt (c 23 w.toInt.toNat).toInt (c 24 w.toInt.toNat).toInt ((zM (c 3) (c 6) (i 5).toInt) w.toInt = 2 ∨ (zM (c 3) (c 6) (i 5).toInt) w.toInt = 3) ((bM (c 25)) w.toInt) ((bM (c 26)) w.toInt) (c 43 w.toInt.toNat).toInt (c 44 w.toInt.toNat).toInt (fun z => RmS (nF (i 5).toInt (c 23) (c 24)) (RmM (c 3) (c 6) (i 5).toInt) w.toInt z)))) oA (ro sz)) 0 0 (ro sz) := by
  refine Met.ofW (cc := cX12_told) (maxL := 3) (ret := (some .int)) (by decide +kernel) rfl ?_
  intro p e s m args below meth cd s₁ B hml hv
  obtain ⟨rfl, hsz, hP, hK⟩ := hv
  have hx := B.exec
  have hb := B.bytes
  have hr := B.returns
  have hts := atoms_spec (ws := wm_X12_told) B.pre
  have hown : s.vm.findClass RX12 = some m.cls := findClass_of_methodNamed B.named
  have hlocks := B.notSynchronized
  subst hsz
  have hA : ∀ q : Nat, s.heap.size ≤ q → ro s.heap.size q := fun _ h => h
  have hS : va_S (ro s.heap.size) s.heap s.heap [] := va_S.rf
  have hl := lv_entry ([.ref o, .int w, .int w1]) (n := 3) (Nat.le_of_ble_eq_true rfl)
  rw [lg_entry_eq]
  generalize (lg_sl ([.ref o, .int w, .int w1]) ++ List.replicate (3 - (lg_sl ([.ref o, .int w, .int w1])).length) Slot.unset).toArray = ls at hl ⊢
  have hl : lv_has ls 3 [(0, .ref o), (1, .int w), (2, .int w1)] := hl
  have rb5_i : 0 ≤ (i 5).toInt ∧ (i 5).toInt ≤ 30 := hI.1 5
  have hzw := zM_i (pa := c 3) (ko := c 6) (N := (i 5).toInt) (x := w.toInt) (by omega)
  refine lv_iload_n hx hb dX12_told_0 rfl (lv_at hl 2 rfl) ?_
  rcases (show (w1.toInt < 0 ∨ 5 < w1.toInt) ∨ w1.toInt = 0 ∨ w1.toInt = 1 ∨ w1.toInt = 2 ∨ w1.toInt = 3 ∨ w1.toInt = 4 ∨ w1.toInt = 5 by omega) with f1 | f1 | f1 | f1 | f1 | f1 | f1
  · refine lv_tableOut (tgt := 140) hx hb dX12_told_1 f1 (by decide +kernel) ?_
    refine lv_aload_n hx hb dX12_told_140 rfl (lv_at hl 0 rfl) ?_
    refine lv_iload_n hx hb dX12_told_141 rfl (lv_at hl 1 rfl) ?_
    have rb22_i : (i 22).toInt = -9 ∨ (0 ≤ (i 22).toInt ∧ (i 22).toInt ≤ 29) := hI.1 22
    refine ro_calli (va_runV (As := [.int w]) (rest := []) ⟨hx, hb, hml, hown, hts⟩ (s_X12_roomOf_t l D s.heap.size o a t i q c d w hI (show 0 ≤ w.toInt ∧ w.toInt < ((i 5) : Int32).toInt from by omega) hs_T) (cwV 1 hts gm_X12_told_X12_roomOf rfl rfl rfl (by decide +kernel) ⟨Nat.le_of_ble_eq_true rfl, Nat.le_of_ble_eq_true rfl⟩) (pA_V hK hP (ci := 12) (q0 := 0) rfl rfl) rfl rfl hl.1 rfl (lv_room (Nat.le_of_ble_eq_true rfl)) dX12_told_142 ⟨Nat.le_of_ble_eq_true rfl, Nat.le_of_ble_eq_true rfl⟩) hS hA hP (fun r2 u2 H locs hw2 hP hS => ?_)
    have hw2 : ((r2.toInt = -9 ∨ (0 ≤ r2.toInt ∧ r2.toInt ≤ 29)) ∧ (RmS (nF (i 5).toInt (c 23) (c 24)) (RmM (c 3) (c 6) (i 5).toInt) w.toInt r2.toInt)) := hw2
    obtain ⟨hw2, hr2_0⟩ := hw2
    have hr2_0 : RmS (nF (i 5).toInt (c 23) (c 24)) (RmM (c 3) (c 6) (i 5).toInt) w.toInt r2.toInt := hr2_0
    exact ro_iret hx hb hr hlocks hS dX12_told_145 ⟨trivial, (show NwR w1.toInt r2.toInt (c 23 w.toInt.toNat).toInt (c 24 w.toInt.toNat).toInt ((zM (c 3) (c 6) (i 5).toInt) w.toInt = 2 ∨ (zM (c 3) (c 6) (i 5).toInt) w.toInt = 3) ((bM (c 25)) w.toInt) ((bM (c 26)) w.toInt) (c 43 w.toInt.toNat).toInt (c 44 w.toInt.toNat).toInt (fun z => RmS (nF (i 5).toInt (c 23) (c 24)) (RmM (c 3) (c 6) (i 5).toInt) w.toInt z) from Or.inr ⟨by omega, hr2_0⟩)⟩
  · refine lv_tableIn (off := 39) (tgt := 40) hx hb dX12_told_1 (by omega) (by omega) (by rw [f1]; rfl) (by decide +kernel) ?_
    refine lv_aload_n hx hb dX12_told_40 rfl (lv_at hl 0 rfl) ?_
    refine mget_23 hx hb hts (fun _ h => List.mem_cons_of_mem _ (List.mem_append_right _ h)) hown hK hP (hts (.fieldLink RX12 50 "TalePlayModel" "nForm" "[I") (List.mem_cons_of_mem _ (List.mem_append_left _ (List.mem_append_left _ (List.mem_of_getElem? (i := 11) rfl))))) dX12_told_41 ?_
    refine lv_iload_n hx hb dX12_told_44 rfl (lv_at hl 1 rfl) ?_
    refine mld_23 hx hb hK hP (vp_in_iff.mpr (by have h9 : w.toInt = w.toInt := rfl; omega)) dX12_told_45 (fun x3 ex3 => ?_)
    have rx3 : x3.toInt = -9 ∨ (0 ≤ x3.toInt ∧ x3.toInt ≤ 4) := by rw [ex3]; exact hI.2 23 _
    have gx3 : (c 23 (w : Int32).toNatClampNeg).toInt = x3.toInt := by rw [ex3]
    exact ro_iret hx hb hr hlocks hS dX12_told_46 ⟨trivial, (show NwR w1.toInt x3.toInt (c 23 w.toInt.toNat).toInt (c 24 w.toInt.toNat).toInt ((zM (c 3) (c 6) (i 5).toInt) w.toInt = 2 ∨ (zM (c 3) (c 6) (i 5).toInt) w.toInt = 3) ((bM (c 25)) w.toInt) ((bM (c 26)) w.toInt) (c 43 w.toInt.toNat).toInt (c 44 w.toInt.toNat).toInt (fun z => RmS (nF (i 5).toInt (c 23) (c 24)) (RmM (c 3) (c 6) (i 5).toInt) w.toInt z) from Or.inl ⟨by omega, by unfold nwV; rw [if_pos (by omega)]; exact (show (c 23 w.toInt.toNat).toInt = x3.toInt from gx3).symm⟩)⟩
  · refine lv_tableIn (off := 46) (tgt := 47) hx hb dX12_told_1 (by omega) (by omega) (by rw [f1]; rfl) (by decide +kernel) ?_
    refine lv_aload_n hx hb dX12_told_47 rfl (lv_at hl 0 rfl) ?_
    refine mget_24 hx hb hts (fun _ h => List.mem_cons_of_mem _ (List.mem_append_right _ h)) hown hK hP (hts (.fieldLink RX12 53 "TalePlayModel" "nAt" "[I") (List.mem_cons_of_mem _ (List.mem_append_left _ (List.mem_append_left _ (List.mem_of_getElem? (i := 12) rfl))))) dX12_told_48 ?_
    refine lv_iload_n hx hb dX12_told_51 rfl (lv_at hl 1 rfl) ?_
    refine mld_24 hx hb hK hP (vp_in_iff.mpr (by have h9 : w.toInt = w.toInt := rfl; omega)) dX12_told_52 (fun x4 ex4 => ?_)
    have rx4 : x4.toInt = -9 ∨ (0 ≤ x4.toInt ∧ x4.toInt ≤ 29) := by rw [ex4]; exact hI.2 24 _
    have gx4 : (c 24 (w : Int32).toNatClampNeg).toInt = x4.toInt := by rw [ex4]
    exact ro_iret hx hb hr hlocks hS dX12_told_53 ⟨trivial, (show NwR w1.toInt x4.toInt (c 23 w.toInt.toNat).toInt (c 24 w.toInt.toNat).toInt ((zM (c 3) (c 6) (i 5).toInt) w.toInt = 2 ∨ (zM (c 3) (c 6) (i 5).toInt) w.toInt = 3) ((bM (c 25)) w.toInt) ((bM (c 26)) w.toInt) (c 43 w.toInt.toNat).toInt (c 44 w.toInt.toNat).toInt (fun z => RmS (nF (i 5).toInt (c 23) (c 24)) (RmM (c 3) (c 6) (i 5).toInt) w.toInt z) from Or.inl ⟨by omega, by unfold nwV; rw [if_neg (by omega), if_pos (by omega)]; exact (show (c 24 w.toInt.toNat).toInt = x4.toInt from gx4).symm⟩)⟩
  · refine lv_tableIn (off := 53) (tgt := 54) hx hb dX12_told_1 (by omega) (by omega) (by rw [f1]; rfl) (by decide +kernel) ?_
    refine lv_aload_n hx hb dX12_told_54 rfl (lv_at hl 0 rfl) ?_
    refine lv_iload_n hx hb dX12_told_55 rfl (lv_at hl 1 rfl) ?_
    refine ro_calli (va_runV (As := [.int w]) (rest := []) ⟨hx, hb, hml, hown, hts⟩ (s_X12_isShutter_e l D s.heap.size o a t i q c d w hI (show 0 ≤ w.toInt ∧ w.toInt ≤ 29 from by omega)) (cwV 1 hts gm_X12_told_X12_isShutter rfl rfl rfl (by decide +kernel) ⟨Nat.le_of_ble_eq_true rfl, Nat.le_of_ble_eq_true rfl⟩) (pA_V hK hP (ci := 12) (q0 := 0) rfl rfl) rfl rfl hl.1 rfl (lv_room (Nat.le_of_ble_eq_true rfl)) dX12_told_56 ⟨Nat.le_of_ble_eq_true rfl, Nat.le_of_ble_eq_true rfl⟩) hS hA hP (fun r5 u5 H locs hw5 hP hS => ?_)
    have hw5 : (0 ≤ kS (c 3) (c 6) w.toInt ∧ kS (c 3) (c 6) w.toInt ≤ 5 ∧ ((r5.toInt = 1 ∧ (kS (c 3) (c 6) w.toInt = 2 ∨ kS (c 3) (c 6) w.toInt = 3)) ∨ (r5.toInt = 0 ∧ ¬ (kS (c 3) (c 6) w.toInt = 2 ∨ kS (c 3) (c 6) w.toInt = 3)))) := hw5
    refine lv_if_eq (tgt := 79) hx hb dX12_told_59 (by decide +kernel) (fun c6 => ?_) (fun c6 => ?_)
    · have f6 := (ti_eq (a := r5.toInt) (b := 0) rfl (by decide +kernel)).mp c6
      refine lv_bipush (v := (-9)) hx hb dX12_told_79 (by decide +kernel) ?_
      exact ro_iret hx hb hr hlocks hS dX12_told_81 ⟨trivial, (show NwR w1.toInt ((-9) : Int32).toInt (c 23 w.toInt.toNat).toInt (c 24 w.toInt.toNat).toInt ((zM (c 3) (c 6) (i 5).toInt) w.toInt = 2 ∨ (zM (c 3) (c 6) (i 5).toInt) w.toInt = 3) ((bM (c 25)) w.toInt) ((bM (c 26)) w.toInt) (c 43 w.toInt.toNat).toInt (c 44 w.toInt.toNat).toInt (fun z => RmS (nF (i 5).toInt (c 23) (c 24)) (RmM (c 3) (c 6) (i 5).toInt) w.toInt z) from Or.inl ⟨by omega, by unfold nwV; rw [if_neg (by omega), if_neg (by omega), if_pos (by omega), iV_n (by omega)]; first | done | decide⟩)⟩
    · have f6 := mt (ti_eq (a := r5.toInt) (b := 0) rfl (by decide +kernel)).mpr c6
      refine lv_aload_n hx hb dX12_told_62 rfl (lv_at hl 0 rfl) ?_
      refine mget_25 hx hb hts (fun _ h => List.mem_cons_of_mem _ (List.mem_append_right _ h)) hown hK hP (hts (.fieldLink RX12 56 "TalePlayModel" "nOpen" "[Z") (List.mem_cons_of_mem _ (List.mem_append_left _ (List.mem_append_right _ (List.mem_of_getElem? (i := 1) rfl))))) dX12_told_63 ?_
      refine lv_iload_n hx hb dX12_told_66 rfl (lv_at hl 1 rfl) ?_
      refine mld_25 hx hb hK hP (vp_in_iff.mpr (by have h9 : w.toInt = w.toInt := rfl; omega)) dX12_told_67 (fun x7 ex7 => ?_)
      have rx7 : 0 ≤ x7.toInt ∧ x7.toInt ≤ 1 := by rw [ex7]; exact hI.2 25 _
      have gx7 : (c 25 (w : Int32).toNatClampNeg).toInt = x7.toInt := by rw [ex7]
      refine lv_if_eq (tgt := 75) hx hb dX12_told_68 (by decide +kernel) (fun c8 => ?_) (fun c8 => ?_)
      · have f8 := (ti_eq (a := x7.toInt) (b := 0) rfl (by decide +kernel)).mp c8
        refine lv_iconst (v := 0) hx hb dX12_told_75 (by decide +kernel) ?_
        refine lv_goto (tgt := 81) hx hb dX12_told_76 (by decide +kernel) ?_
        exact ro_iret hx hb hr hlocks hS dX12_told_81 ⟨trivial, (show NwR w1.toInt (0 : Int32).toInt (c 23 w.toInt.toNat).toInt (c 24 w.toInt.toNat).toInt ((zM (c 3) (c 6) (i 5).toInt) w.toInt = 2 ∨ (zM (c 3) (c 6) (i 5).toInt) w.toInt = 3) ((bM (c 25)) w.toInt) ((bM (c 26)) w.toInt) (c 43 w.toInt.toNat).toInt (c 44 w.toInt.toNat).toInt (fun z => RmS (nF (i 5).toInt (c 23) (c 24)) (RmM (c 3) (c 6) (i 5).toInt) w.toInt z) from Or.inl ⟨by omega, by unfold nwV; rw [if_neg (by omega), if_neg (by omega), if_pos (by omega), iV_y (by omega), iV_n (show ¬ bM (c 25) w.toInt from fun h9 => by have h7 : (c 25 w.toInt.toNat).toInt = 1 := h9; have h8 := (show (c 25 w.toInt.toNat).toInt = x7.toInt from gx7); omega)]; first | done | decide⟩)⟩
      · have f8 := mt (ti_eq (a := x7.toInt) (b := 0) rfl (by decide +kernel)).mpr c8
        refine lv_iconst (v := 1) hx hb dX12_told_71 (by decide +kernel) ?_
        refine lv_goto (tgt := 81) hx hb dX12_told_72 (by decide +kernel) ?_
        exact ro_iret hx hb hr hlocks hS dX12_told_81 ⟨trivial, (show NwR w1.toInt (1 : Int32).toInt (c 23 w.toInt.toNat).toInt (c 24 w.toInt.toNat).toInt ((zM (c 3) (c 6) (i 5).toInt) w.toInt = 2 ∨ (zM (c 3) (c 6) (i 5).toInt) w.toInt = 3) ((bM (c 25)) w.toInt) ((bM (c 26)) w.toInt) (c 43 w.toInt.toNat).toInt (c 44 w.toInt.toNat).toInt (fun z => RmS (nF (i 5).toInt (c 23) (c 24)) (RmM (c 3) (c 6) (i 5).toInt) w.toInt z) from Or.inl ⟨by omega, by unfold nwV; rw [if_neg (by omega), if_neg (by omega), if_pos (by omega), iV_y (by omega), iV_y (show bM (c 25) w.toInt from (show (c 25 w.toInt.toNat).toInt = 1 from by have h8 := (show (c 25 w.toInt.toNat).toInt = x7.toInt from gx7); omega))]; first | done | decide⟩)⟩
  · refine lv_tableIn (off := 81) (tgt := 82) hx hb dX12_told_1 (by omega) (by omega) (by rw [f1]; rfl) (by decide +kernel) ?_
    refine lv_aload_n hx hb dX12_told_82 rfl (lv_at hl 0 rfl) ?_
    refine lv_iload_n hx hb dX12_told_83 rfl (lv_at hl 1 rfl) ?_
    refine ro_calli (va_runV (As := [.int w]) (rest := []) ⟨hx, hb, hml, hown, hts⟩ (s_X12_isShutter_e l D s.heap.size o a t i q c d w hI (show 0 ≤ w.toInt ∧ w.toInt ≤ 29 from by omega)) (cwV 1 hts gm_X12_told_X12_isShutter rfl rfl rfl (by decide +kernel) ⟨Nat.le_of_ble_eq_true rfl, Nat.le_of_ble_eq_true rfl⟩) (pA_V hK hP (ci := 12) (q0 := 0) rfl rfl) rfl rfl hl.1 rfl (lv_room (Nat.le_of_ble_eq_true rfl)) dX12_told_84 ⟨Nat.le_of_ble_eq_true rfl, Nat.le_of_ble_eq_true rfl⟩) hS hA hP (fun r9 u9 H locs hw9 hP hS => ?_)
    have hw9 : (0 ≤ kS (c 3) (c 6) w.toInt ∧ kS (c 3) (c 6) w.toInt ≤ 5 ∧ ((r9.toInt = 1 ∧ (kS (c 3) (c 6) w.toInt = 2 ∨ kS (c 3) (c 6) w.toInt = 3)) ∨ (r9.toInt = 0 ∧ ¬ (kS (c 3) (c 6) w.toInt = 2 ∨ kS (c 3) (c 6) w.toInt = 3)))) := hw9
    refine lv_if_eq (tgt := 107) hx hb dX12_told_87 (by decide +kernel) (fun c10 => ?_) (fun c10 => ?_)
    · have f10 := (ti_eq (a := r9.toInt) (b := 0) rfl (by decide +kernel)).mp c10
      refine lv_bipush (v := (-9)) hx hb dX12_told_107 (by decide +kernel) ?_
      exact ro_iret hx hb hr hlocks hS dX12_told_109 ⟨trivial, (show NwR w1.toInt ((-9) : Int32).toInt (c 23 w.toInt.toNat).toInt (c 24 w.toInt.toNat).toInt ((zM (c 3) (c 6) (i 5).toInt) w.toInt = 2 ∨ (zM (c 3) (c 6) (i 5).toInt) w.toInt = 3) ((bM (c 25)) w.toInt) ((bM (c 26)) w.toInt) (c 43 w.toInt.toNat).toInt (c 44 w.toInt.toNat).toInt (fun z => RmS (nF (i 5).toInt (c 23) (c 24)) (RmM (c 3) (c 6) (i 5).toInt) w.toInt z) from Or.inl ⟨by omega, by unfold nwV; rw [if_neg (by omega), if_neg (by omega), if_neg (by omega), if_pos (by omega), iV_n (by omega)]; first | done | decide⟩)⟩
    · have f10 := mt (ti_eq (a := r9.toInt) (b := 0) rfl (by decide +kernel)).mpr c10
      refine lv_aload_n hx hb dX12_told_90 rfl (lv_at hl 0 rfl) ?_
      refine mget_26 hx hb hts (fun _ h => List.mem_cons_of_mem _ (List.mem_append_right _ h)) hown hK hP (hts (.fieldLink RX12 59 "TalePlayModel" "nLocked" "[Z") (List.mem_cons_of_mem _ (List.mem_append_left _ (List.mem_append_right _ (List.mem_of_getElem? (i := 2) rfl))))) dX12_told_91 ?_
      refine lv_iload_n hx hb dX12_told_94 rfl (lv_at hl 1 rfl) ?_
      refine mld_26 hx hb hK hP (vp_in_iff.mpr (by have h9 : w.toInt = w.toInt := rfl; omega)) dX12_told_95 (fun x11 ex11 => ?_)
      have rx11 : 0 ≤ x11.toInt ∧ x11.toInt ≤ 1 := by rw [ex11]; exact hI.2 26 _
      have gx11 : (c 26 (w : Int32).toNatClampNeg).toInt = x11.toInt := by rw [ex11]
      refine lv_if_eq (tgt := 103) hx hb dX12_told_96 (by decide +kernel) (fun c12 => ?_) (fun c12 => ?_)
      · have f12 := (ti_eq (a := x11.toInt) (b := 0) rfl (by decide +kernel)).mp c12
        refine lv_iconst (v := 0) hx hb dX12_told_103 (by decide +kernel) ?_
        refine lv_goto (tgt := 109) hx hb dX12_told_104 (by decide +kernel) ?_
        exact ro_iret hx hb hr hlocks hS dX12_told_109 ⟨trivial, (show NwR w1.toInt (0 : Int32).toInt (c 23 w.toInt.toNat).toInt (c 24 w.toInt.toNat).toInt ((zM (c 3) (c 6) (i 5).toInt) w.toInt = 2 ∨ (zM (c 3) (c 6) (i 5).toInt) w.toInt = 3) ((bM (c 25)) w.toInt) ((bM (c 26)) w.toInt) (c 43 w.toInt.toNat).toInt (c 44 w.toInt.toNat).toInt (fun z => RmS (nF (i 5).toInt (c 23) (c 24)) (RmM (c 3) (c 6) (i 5).toInt) w.toInt z) from Or.inl ⟨by omega, by unfold nwV; rw [if_neg (by omega), if_neg (by omega), if_neg (by omega), if_pos (by omega), iV_y (by omega), iV_n (show ¬ bM (c 26) w.toInt from fun h9 => by have h7 : (c 26 w.toInt.toNat).toInt = 1 := h9; have h8 := (show (c 26 w.toInt.toNat).toInt = x11.toInt from gx11); omega)]; first | done | decide⟩)⟩
      · have f12 := mt (ti_eq (a := x11.toInt) (b := 0) rfl (by decide +kernel)).mpr c12
        refine lv_iconst (v := 1) hx hb dX12_told_99 (by decide +kernel) ?_
        refine lv_goto (tgt := 109) hx hb dX12_told_100 (by decide +kernel) ?_
        exact ro_iret hx hb hr hlocks hS dX12_told_109 ⟨trivial, (show NwR w1.toInt (1 : Int32).toInt (c 23 w.toInt.toNat).toInt (c 24 w.toInt.toNat).toInt ((zM (c 3) (c 6) (i 5).toInt) w.toInt = 2 ∨ (zM (c 3) (c 6) (i 5).toInt) w.toInt = 3) ((bM (c 25)) w.toInt) ((bM (c 26)) w.toInt) (c 43 w.toInt.toNat).toInt (c 44 w.toInt.toNat).toInt (fun z => RmS (nF (i 5).toInt (c 23) (c 24)) (RmM (c 3) (c 6) (i 5).toInt) w.toInt z) from Or.inl ⟨by omega, by unfold nwV; rw [if_neg (by omega), if_neg (by omega), if_neg (by omega), if_pos (by omega), iV_y (by omega), iV_y (show bM (c 26) w.toInt from (show (c 26 w.toInt.toNat).toInt = 1 from by have h8 := (show (c 26 w.toInt.toNat).toInt = x11.toInt from gx11); omega))]; first | done | decide⟩)⟩
  · refine lv_tableIn (off := 109) (tgt := 110) hx hb dX12_told_1 (by omega) (by omega) (by rw [f1]; rfl) (by decide +kernel) ?_
    refine lv_aload_n hx hb dX12_told_110 rfl (lv_at hl 0 rfl) ?_
    refine mget_43 hx hb hts (fun _ h => List.mem_cons_of_mem _ (List.mem_append_right _ h)) hown hK hP (hts (.fieldLink RX12 86 "TalePlayModel" "seen" "[Z") (List.mem_cons_of_mem _ (List.mem_append_left _ (List.mem_append_right _ (List.mem_of_getElem? (i := 3) rfl))))) dX12_told_111 ?_
    refine lv_iload_n hx hb dX12_told_114 rfl (lv_at hl 1 rfl) ?_
    refine mld_43 hx hb hK hP (vp_in_iff.mpr (by have h9 : w.toInt = w.toInt := rfl; omega)) dX12_told_115 (fun x13 ex13 => ?_)
    have rx13 : 0 ≤ x13.toInt ∧ x13.toInt ≤ 1 := by rw [ex13]; exact hI.2 43 _
    have gx13 : (c 43 (w : Int32).toNatClampNeg).toInt = x13.toInt := by rw [ex13]
    refine lv_if_eq (tgt := 123) hx hb dX12_told_116 (by decide +kernel) (fun c14 => ?_) (fun c14 => ?_)
    · have f14 := (ti_eq (a := x13.toInt) (b := 0) rfl (by decide +kernel)).mp c14
      refine lv_iconst (v := 0) hx hb dX12_told_123 (by decide +kernel) ?_
      exact ro_iret hx hb hr hlocks hS dX12_told_124 ⟨trivial, (show NwR w1.toInt (0 : Int32).toInt (c 23 w.toInt.toNat).toInt (c 24 w.toInt.toNat).toInt ((zM (c 3) (c 6) (i 5).toInt) w.toInt = 2 ∨ (zM (c 3) (c 6) (i 5).toInt) w.toInt = 3) ((bM (c 25)) w.toInt) ((bM (c 26)) w.toInt) (c 43 w.toInt.toNat).toInt (c 44 w.toInt.toNat).toInt (fun z => RmS (nF (i 5).toInt (c 23) (c 24)) (RmM (c 3) (c 6) (i 5).toInt) w.toInt z) from Or.inl ⟨by omega, by unfold nwV; rw [if_neg (by omega), if_neg (by omega), if_neg (by omega), if_neg (by omega), if_pos (by omega)]; have h8 := (show (c 43 w.toInt.toNat).toInt = x13.toInt from gx13); have h9 : (0 : Int32).toInt = 0 := (by decide +kernel); omega⟩)⟩
    · have f14 := mt (ti_eq (a := x13.toInt) (b := 0) rfl (by decide +kernel)).mpr c14
      refine lv_iconst (v := 1) hx hb dX12_told_119 (by decide +kernel) ?_
      refine lv_goto (tgt := 124) hx hb dX12_told_120 (by decide +kernel) ?_
      exact ro_iret hx hb hr hlocks hS dX12_told_124 ⟨trivial, (show NwR w1.toInt (1 : Int32).toInt (c 23 w.toInt.toNat).toInt (c 24 w.toInt.toNat).toInt ((zM (c 3) (c 6) (i 5).toInt) w.toInt = 2 ∨ (zM (c 3) (c 6) (i 5).toInt) w.toInt = 3) ((bM (c 25)) w.toInt) ((bM (c 26)) w.toInt) (c 43 w.toInt.toNat).toInt (c 44 w.toInt.toNat).toInt (fun z => RmS (nF (i 5).toInt (c 23) (c 24)) (RmM (c 3) (c 6) (i 5).toInt) w.toInt z) from Or.inl ⟨by omega, by unfold nwV; rw [if_neg (by omega), if_neg (by omega), if_neg (by omega), if_neg (by omega), if_pos (by omega)]; have h8 := (show (c 43 w.toInt.toNat).toInt = x13.toInt from gx13); have h9 : (1 : Int32).toInt = 1 := (by decide +kernel); omega⟩)⟩
  · refine lv_tableIn (off := 124) (tgt := 125) hx hb dX12_told_1 (by omega) (by omega) (by rw [f1]; rfl) (by decide +kernel) ?_
    refine lv_aload_n hx hb dX12_told_125 rfl (lv_at hl 0 rfl) ?_
    refine mget_44 hx hb hts (fun _ h => List.mem_cons_of_mem _ (List.mem_append_right _ h)) hown hK hP (hts (.fieldLink RX12 89 "TalePlayModel" "reached" "[Z") (List.mem_cons_of_mem _ (List.mem_append_left _ (List.mem_append_right _ (List.mem_of_getElem? (i := 4) rfl))))) dX12_told_126 ?_
    refine lv_iload_n hx hb dX12_told_129 rfl (lv_at hl 1 rfl) ?_
    refine mld_44 hx hb hK hP (vp_in_iff.mpr (by have h9 : w.toInt = w.toInt := rfl; omega)) dX12_told_130 (fun x15 ex15 => ?_)
    have rx15 : 0 ≤ x15.toInt ∧ x15.toInt ≤ 1 := by rw [ex15]; exact hI.2 44 _
    have gx15 : (c 44 (w : Int32).toNatClampNeg).toInt = x15.toInt := by rw [ex15]
    refine lv_if_eq (tgt := 138) hx hb dX12_told_131 (by decide +kernel) (fun c16 => ?_) (fun c16 => ?_)
    · have f16 := (ti_eq (a := x15.toInt) (b := 0) rfl (by decide +kernel)).mp c16
      refine lv_iconst (v := 0) hx hb dX12_told_138 (by decide +kernel) ?_
      exact ro_iret hx hb hr hlocks hS dX12_told_139 ⟨trivial, (show NwR w1.toInt (0 : Int32).toInt (c 23 w.toInt.toNat).toInt (c 24 w.toInt.toNat).toInt ((zM (c 3) (c 6) (i 5).toInt) w.toInt = 2 ∨ (zM (c 3) (c 6) (i 5).toInt) w.toInt = 3) ((bM (c 25)) w.toInt) ((bM (c 26)) w.toInt) (c 43 w.toInt.toNat).toInt (c 44 w.toInt.toNat).toInt (fun z => RmS (nF (i 5).toInt (c 23) (c 24)) (RmM (c 3) (c 6) (i 5).toInt) w.toInt z) from Or.inl ⟨by omega, by unfold nwV; rw [if_neg (by omega), if_neg (by omega), if_neg (by omega), if_neg (by omega), if_neg (by omega)]; have h8 := (show (c 44 w.toInt.toNat).toInt = x15.toInt from gx15); have h9 : (0 : Int32).toInt = 0 := (by decide +kernel); omega⟩)⟩
    · have f16 := mt (ti_eq (a := x15.toInt) (b := 0) rfl (by decide +kernel)).mpr c16
      refine lv_iconst (v := 1) hx hb dX12_told_134 (by decide +kernel) ?_
      refine lv_goto (tgt := 139) hx hb dX12_told_135 (by decide +kernel) ?_
      exact ro_iret hx hb hr hlocks hS dX12_told_139 ⟨trivial, (show NwR w1.toInt (1 : Int32).toInt (c 23 w.toInt.toNat).toInt (c 24 w.toInt.toNat).toInt ((zM (c 3) (c 6) (i 5).toInt) w.toInt = 2 ∨ (zM (c 3) (c 6) (i 5).toInt) w.toInt = 3) ((bM (c 25)) w.toInt) ((bM (c 26)) w.toInt) (c 43 w.toInt.toNat).toInt (c 44 w.toInt.toNat).toInt (fun z => RmS (nF (i 5).toInt (c 23) (c 24)) (RmM (c 3) (c 6) (i 5).toInt) w.toInt z) from Or.inl ⟨by omega, by unfold nwV; rw [if_neg (by omega), if_neg (by omega), if_neg (by omega), if_neg (by omega), if_neg (by omega)]; have h8 := (show (c 44 w.toInt.toNat).toInt = x15.toInt from gx15); have h9 : (1 : Int32).toInt = 1 := (by decide +kernel); omega⟩)⟩

def PaR (F A B C S : Nat → Int32) (s : Nat) (w r : Int) : Prop := (w = 0 ∧ r = (F s).toInt) ∨ (w = 1 ∧ r = (A s).toInt) ∨ (w = 2 ∧ r = (B s).toInt) ∨ (w = 3 ∧ r = (C s).toInt) ∨ (¬ (0 ≤ w ∧ w ≤ 3) ∧ r = (S s).toInt)
def SeR (F A B C S : Nat → Int32) (n s w r : Int) : Prop := (¬ (0 ≤ s ∧ s < n ∧ 0 ≤ w ∧ w ≤ 4) ∧ r = -1) ∨ ((0 ≤ s ∧ s < n ∧ 0 ≤ w ∧ w ≤ 4) ∧ PaR F A B C S s.toNat w r)
theorem one_b {r z : Int32} (h : r = if (¬ z.toInt = 0) then 1 else 0) (hz : 0 ≤ z.toInt ∧ z.toInt ≤ 1) : r.toInt = z.toInt := by
  by_cases q : z.toInt = 0
  · rw [if_neg (by omega)] at h; subst h; rw [q]; decide
  · rw [if_pos q] at h; subst h; rw [show z.toInt = 1 by omega]; decide
/-! digests -/
def dI (h : Int64) (v : Int) : Int64 := 31 * h + Int64.ofInt v
theorem dI_e {h a b : Int64} {v : Int32} {k : Int} (ea : a = 31 * h) (eb : b = a + v.toInt64) (ev : k = v.toInt) : b = dI h k := by
  unfold dI
  rw [eb, ea, ev, Int64.ofInt_int32ToInt]
def dgN (F : Nat → Int64 → Int64) : Nat → Int64 → Int64
  | 0, h => h
  | n + 1, h => F n (dgN F n h)
theorem dgN_0 {F : Nat → Int64 → Int64} {n : Nat} {h : Int64} (e : n = 0) : h = dgN F n h := by
  subst e
  rfl
theorem dgN_s {F : Nat → Int64 → Int64} {n m : Int32} {h a b : Int64} (e : a = dgN F n.toInt.toNat h) (n0 : 0 ≤ n.toInt) (em : m.toInt = n.toInt + 1) (hb : b = F n.toInt.toNat a) : b = dgN F m.toInt.toNat h := by
  have e2 : m.toInt.toNat = n.toInt.toNat + 1 := by omega
  rw [e2, hb, e]
  rfl
theorem dgN_n {F : Nat → Int64 → Int64} {n : Int32} {k : Int} {h a : Int64} (e : a = dgN F n.toInt.toNat h) (hk : n.toInt = k) : a = dgN F k.toNat h := by
  rw [← hk]
  exact e
theorem dgN_c {F G : Nat → Int64 → Int64} {h : Int64} : ∀ n : Nat, (∀ k : Nat, k < n → ∀ g, F k g = G k g) → dgN F n h = dgN G n h
  | 0, _ => rfl
  | n + 1, w => by
    have e := dgN_c (h := h) n (fun k hk g => w k (by omega) g)
    show F n (dgN F n h) = G n (dgN G n h)
    rw [e]
    exact w n (by omega) _
def dgF (st : Nat → Int32) (k f : Nat) (h : Int64) : Int64 := dI h (st (6 * k + f)).toInt
def dgK (pa st : Nat → Int32) (k : Nat) (h : Int64) : Int64 := dgN (dgF st k) 6 (dI h (pa k).toInt)
theorem dgF_e {st : Nat → Int32} {k f s x : Int32} {h b : Int64} (hb : b = dI h x.toInt) (k0 : 0 ≤ k.toInt) (f0 : 0 ≤ f.toInt) (es : s.toInt = 6 * k.toInt + f.toInt) (ex : x = st s.toNatClampNeg) : b = dgF st k.toInt.toNat f.toInt.toNat h := by
  unfold dgF
  rw [hb, ex, show s.toNatClampNeg = 6 * k.toInt.toNat + f.toInt.toNat from by have q : s.toNatClampNeg = s.toInt.toNat := rfl; omega]
theorem dgK_e {pa st : Nat → Int32} {k : Nat} {n : Int32} {h b : Int64} (hb : b = dgN (dgF st k) n.toInt.toNat (dI h (pa k).toInt)) (hn : n.toInt = 6) : b = dgK pa st k h := by
  rw [hn] at hb
  exact hb
def dgB (ko sz : Nat → Int32) (fm ho : Int → Int) (o : Nat) (h : Int64) : Int64 := dI (dI (dI (dI h (ko o).toInt) (sz o).toInt) (fm (o : Int))) (ho (o : Int))
theorem dgB_e {ko sz : Nat → Int32} {fm ho : Int → Int} {o : Int32} {h a b d e : Int64} (o0 : 0 ≤ o.toInt) (h1 : a = dI h (ko o.toNatClampNeg).toInt) (h2 : b = dI a (sz o.toNatClampNeg).toInt) (h3 : d = dI b (fm o.toInt)) (h4 : e = dI d (ho o.toInt)) : e = dgB ko sz fm ho o.toInt.toNat h := by
  unfold dgB
  rw [show ((o.toInt.toNat : Nat) : Int) = o.toInt by omega, h4, h3, h2, h1]
  rfl
def dgT (T : Int → Int → Int) (o s : Nat) (h : Int64) : Int64 := dI h (T (o : Int) (s : Int))
theorem dgT_e {T : Int → Int → Int} {o s : Int32} {h b : Int64} {k : Int} (hb : b = dI h k) (hk : k = T o.toInt s.toInt) (o0 : 0 ≤ o.toInt) (s0 : 0 ≤ s.toInt) : b = dgT T o.toInt.toNat s.toInt.toNat h := by
  unfold dgT
  rw [show ((o.toInt.toNat : Nat) : Int) = o.toInt by omega, show ((s.toInt.toNat : Nat) : Int) = s.toInt by omega, hb, hk]
noncomputable def dgO (ko sz : Nat → Int32) (fm ho : Int → Int) (T : Int → Int → Int) (P : Prop) (o : Nat) (h : Int64) : Int64 := dgN (dgT T o) (iV P 6 0).toNat (dgB ko sz fm ho o h)
theorem dgO_e {ko sz : Nat → Int32} {fm ho : Int → Int} {T : Int → Int → Int} {P : Prop} {o : Nat} {n : Int32} {h b : Int64} (hb : b = dgN (dgT T o) n.toInt.toNat (dgB ko sz fm ho o h)) (hn : (P ∧ n.toInt = 6) ∨ (¬ P ∧ n.toInt = 0)) : b = dgO ko sz fm ho T P o h := by
  unfold dgO
  rcases hn with ⟨p, e⟩ | ⟨p, e⟩
  · rw [iV_y p, ← e]; exact hb
  · rw [iV_n p, ← e]; exact hb
def paV (F A B C S : Nat → Int32) (s : Nat) (w : Int) : Int := if w = 0 then (F s).toInt else if w = 1 then (A s).toInt else if w = 2 then (B s).toInt else if w = 3 then (C s).toInt else (S s).toInt
theorem paV_e {F A B C S : Nat → Int32} {s : Nat} {w r : Int} (h : PaR F A B C S s w r) : paV F A B C S s w = r := by
  unfold paV
  rcases h with ⟨a, b⟩ | ⟨a, b⟩ | ⟨a, b⟩ | ⟨a, b⟩ | ⟨a, b⟩
  · rw [if_pos a, b]
  · rw [if_neg (by omega), if_pos a, b]
  · rw [if_neg (by omega), if_neg (by omega), if_pos a, b]
  · rw [if_neg (by omega), if_neg (by omega), if_neg (by omega), if_pos a, b]
  · rw [if_neg (by omega), if_neg (by omega), if_neg (by omega), if_neg (by omega), b]
def dgW (F A B C S : Nat → Int32) (s w : Nat) (h : Int64) : Int64 := dI h (paV F A B C S s (w : Int))
theorem dgW_e {F A B C S : Nat → Int32} {s w : Int32} {h b : Int64} (hb : b = dI h (paV F A B C S s.toInt.toNat w.toInt)) (w0 : 0 ≤ w.toInt) : b = dgW F A B C S s.toInt.toNat w.toInt.toNat h := by
  unfold dgW
  rw [show ((w.toInt.toNat : Nat) : Int) = w.toInt by omega, hb]
def dgS (F A B C S : Nat → Int32) (s : Nat) (h : Int64) : Int64 := dgN (dgW F A B C S s) 5 h
theorem dgS_e {F A B C S : Nat → Int32} {s : Nat} {n : Int32} {h b : Int64} (hb : b = dgN (dgW F A B C S s) n.toInt.toNat h) (hn : n.toInt = 5) : b = dgS F A B C S s h := by
  rw [hn] at hb
  exact hb
noncomputable def pcF (F A S X : Nat → Int32) (n o : Int) : Int := if pL F A S n o = -9 then -9 else (X (pL F A S n o).toNat).toInt
theorem pcF_n {F A S X : Nat → Int32} {n o : Int} {r : Int32} (hr : r.toInt = pL F A S n o) (h : r.toInt = -9) : pcF F A S X n o = -9 := by
  unfold pcF
  rw [if_pos (by omega)]
theorem pcF_y {F A S X : Nat → Int32} {n o : Int} {r x : Int32} (hr : r.toInt = pL F A S n o) (h : ¬ r.toInt = -9) (hx : (X r.toNatClampNeg).toInt = x.toInt) : x.toInt = pcF F A S X n o := by
  unfold pcF
  rw [← hr, if_neg h]
  exact hx.symm
theorem nw_T {s r fm at_ : Int} {sh op lk : Prop} {sn rc : Int} {RM : Int → Prop} (h : NwR s r fm at_ sh op lk sn rc RM) (hs : s ≤ 5) : nwV s fm at_ sh op lk sn rc = r := by
  rcases h with h | h
  · exact h.2.symm
  · exfalso; have := h.1; omega

def wm_X1_part_eL : List Cond := .code yX1_part cX1_part 3 (some .int) :: (([.fieldLink RX1 24 "TalePlay$Book" "said" "[Z", .code yX11_oneIf cX11_oneIf 1 (some .int), .initialized RX11, .static yX11_oneIf, .fieldLink RX1 9 "TalePlay$Book" "forms" "[I", .fieldLink RX1 15 "TalePlay$Book" "as" "[I", .fieldLink RX1 18 "TalePlay$Book" "bs" "[I", .fieldLink RX1 21 "TalePlay$Book" "cs" "[I"] : List Cond) ++ wsX10)
set_option maxRecDepth 20000 in
theorem gm_X1_part_eL_X11_oneIf_110 : GoodIn wm_X1_part_eL wm_X11_oneIf := goodIn_w (List.forall_mem_cons.mpr ⟨List.mem_cons_of_mem _ (List.mem_append_left _ (List.mem_of_getElem? (i := 1) rfl)), (fun _ h => absurd h List.not_mem_nil)⟩) (by decide +kernel)
set_option maxHeartbeats 4000000 in
set_option maxRecDepth 100000 in
theorem x_X1_part_eL (l : Launch) (D : va_G) (sz : Nat) (sk : Value) (a : Nat → Nat) (t : Nat → ClassId) (i : Nat → Int32) (q : Int64) (c : Nat → Nat → Int32) (d : Nat → Nat → Int64) (s1 : Int32) (w : Int32) (hI : xInv i c) (hs1 : 0 ≤ s1.toInt ∧ s1.toInt ≤ 199) : Met l yX1_part wm_X1_part_eL ({ frames := 1, cells := 0, slots := 0, locals := 20 }) (va_Pc [.ref (a 112), .int s1, .int w] (yA (a 186) D sz (xwB sk a t i q c d) (xtB t))) (va_Qi (fun (r : Int32) (_ : Unit) => (True ∧ (PaR (c 113) (c 114) (c 115) (c 116) (c 117) s1.toNatClampNeg w.toInt r.toInt))) oA (ro sz)) 0 0 (ro sz) := by
  refine Met.ofW (cc := cX1_part) (maxL := 3) (ret := (some .int)) (by decide +kernel) rfl ?_
  intro p e s m args below meth cd s₁ B hml hv
  obtain ⟨rfl, ⟨hsz, hP, hK⟩, hN, hZ⟩ := hv
  have hx := B.exec
  have hb := B.bytes
  have hr := B.returns
  have hts := atoms_spec (ws := wm_X1_part_eL) B.pre
  have hown : s.vm.findClass RX1 = some m.cls := findClass_of_methodNamed B.named
  have hlocks := B.notSynchronized
  subst hsz
  have hA : ∀ q : Nat, s.heap.size ≤ q → ro s.heap.size q := fun _ h => h
  have hS : va_S (ro s.heap.size) s.heap s.heap [] := va_S.rf
  have hl := lv_entry ([.ref (a 112), .int s1, .int w]) (n := 3) (Nat.le_of_ble_eq_true rfl)
  rw [lg_entry_eq]
  generalize (lg_sl ([.ref (a 112), .int s1, .int w]) ++ List.replicate (3 - (lg_sl ([.ref (a 112), .int s1, .int w])).length) Slot.unset).toArray = ls at hl ⊢
  have hl : lv_has ls 3 [(0, .ref (a 112)), (1, .int s1), (2, .int w)] := hl
  refine lv_iload_n hx hb dX1_part_0 rfl (lv_at hl 2 rfl) ?_
  rcases (show (w.toInt < 0 ∨ 3 < w.toInt) ∨ w.toInt = 0 ∨ w.toInt = 1 ∨ w.toInt = 2 ∨ w.toInt = 3 by omega) with f1 | f1 | f1 | f1 | f1
  · refine lv_tableOut (tgt := 68) hx hb dX1_part_1 f1 (by decide +kernel) ?_
    refine lv_aload_n hx hb dX1_part_68 rfl (lv_at hl 0 rfl) ?_
    refine xgB_B_said hx hb hts (fun _ h => List.mem_cons_of_mem _ (List.mem_append_right _ h)) hown hK hP (hts (.fieldLink RX1 24 "TalePlay$Book" "said" "[Z") (List.mem_cons_of_mem _ (List.mem_append_left _ (List.mem_of_getElem? (i := 0) rfl)))) dX1_part_69 ?_
    refine lv_iload_n hx hb dX1_part_72 rfl (lv_at hl 1 rfl) ?_
    refine xlB_117 hx hb hK hP (vp_in_iff.mpr (by have h9 : s1.toInt = s1.toInt := rfl; omega)) dX1_part_73 (fun x2 ex2 => ?_)
    have rx2 : 0 ≤ x2.toInt ∧ x2.toInt ≤ 1 := by rw [ex2]; exact hI.2 117 _
    have gx2 : (c 117 (s1 : Int32).toNatClampNeg).toInt = x2.toInt := (congrArg Int32.toInt ex2).symm
    have hNn3 := hN.2.2.2.1
    have hPc := hP.sub (ws' := []) [] rfl
    have hKc := hK.sub (tys' := []) [] rfl
    refine ro_calli (va_runSN (As := [.int x2]) (rest := []) ⟨hx, hb, hml, hown, hts⟩ (c_X11_oneIf_e l D s.heap.size x2) ⟨va_cnB 1 hts gm_X1_part_eL_X11_oneIf_110 rfl rfl rfl hNn3 (hts (.initialized RX11) (List.mem_cons_of_mem _ (List.mem_append_left _ (List.mem_of_getElem? (i := 2) rfl)))) (by decide +kernel) ⟨Nat.le_of_ble_eq_true rfl, Nat.le_of_ble_eq_true rfl⟩, (hts (.static yX11_oneIf) (List.mem_cons_of_mem _ (List.mem_append_left _ (List.mem_of_getElem? (i := 3) rfl)))), trivial⟩ (pA_S hKc hPc) rfl rfl hl.1 rfl (lv_room (Nat.le_of_ble_eq_true rfl)) dX1_part_74 ⟨Nat.le_of_ble_eq_true rfl, Nat.le_of_ble_eq_true rfl⟩) hS hA hP (fun r4 u4 H locs hw4 hP hS => ?_)
    have hw4 : r4 = if (¬ x2.toInt = 0) then 1 else 0 := hw4
    exact ro_iret hx hb hr hlocks hS dX1_part_77 ⟨trivial, (show PaR (c 113) (c 114) (c 115) (c 116) (c 117) s1.toNatClampNeg w.toInt r4.toInt from by unfold PaR; have h9 := one_b hw4 (by omega); omega)⟩
  · refine lv_tableIn (off := 31) (tgt := 32) hx hb dX1_part_1 (by omega) (by omega) (by rw [f1]; rfl) (by decide +kernel) ?_
    refine lv_aload_n hx hb dX1_part_32 rfl (lv_at hl 0 rfl) ?_
    refine xgB_B_forms hx hb hts (fun _ h => List.mem_cons_of_mem _ (List.mem_append_right _ h)) hown hK hP (hts (.fieldLink RX1 9 "TalePlay$Book" "forms" "[I") (List.mem_cons_of_mem _ (List.mem_append_left _ (List.mem_of_getElem? (i := 4) rfl)))) dX1_part_33 ?_
    refine lv_iload_n hx hb dX1_part_36 rfl (lv_at hl 1 rfl) ?_
    refine xlB_113 hx hb hK hP (vp_in_iff.mpr (by have h9 : s1.toInt = s1.toInt := rfl; omega)) dX1_part_37 (fun x5 ex5 => ?_)
    have rx5 : 0 ≤ x5.toInt ∧ x5.toInt ≤ 7 := by rw [ex5]; exact hI.2 113 _
    have gx5 : (c 113 (s1 : Int32).toNatClampNeg).toInt = x5.toInt := (congrArg Int32.toInt ex5).symm
    refine lv_goto (tgt := 77) hx hb dX1_part_38 (by decide +kernel) ?_
    exact ro_iret hx hb hr hlocks hS dX1_part_77 ⟨trivial, (show PaR (c 113) (c 114) (c 115) (c 116) (c 117) s1.toNatClampNeg w.toInt x5.toInt from by unfold PaR; omega)⟩
  · refine lv_tableIn (off := 40) (tgt := 41) hx hb dX1_part_1 (by omega) (by omega) (by rw [f1]; rfl) (by decide +kernel) ?_
    refine lv_aload_n hx hb dX1_part_41 rfl (lv_at hl 0 rfl) ?_
    refine xgB_B_as hx hb hts (fun _ h => List.mem_cons_of_mem _ (List.mem_append_right _ h)) hown hK hP (hts (.fieldLink RX1 15 "TalePlay$Book" "as" "[I") (List.mem_cons_of_mem _ (List.mem_append_left _ (List.mem_of_getElem? (i := 5) rfl)))) dX1_part_42 ?_
    refine lv_iload_n hx hb dX1_part_45 rfl (lv_at hl 1 rfl) ?_
    refine xlB_114 hx hb hK hP (vp_in_iff.mpr (by have h9 : s1.toInt = s1.toInt := rfl; omega)) dX1_part_46 (fun x6 ex6 => ?_)
    have rx6 : 0 ≤ x6.toInt ∧ x6.toInt ≤ 29 := by rw [ex6]; exact hI.2 114 _
    have gx6 : (c 114 (s1 : Int32).toNatClampNeg).toInt = x6.toInt := (congrArg Int32.toInt ex6).symm
    refine lv_goto (tgt := 77) hx hb dX1_part_47 (by decide +kernel) ?_
    exact ro_iret hx hb hr hlocks hS dX1_part_77 ⟨trivial, (show PaR (c 113) (c 114) (c 115) (c 116) (c 117) s1.toNatClampNeg w.toInt x6.toInt from by unfold PaR; omega)⟩
  · refine lv_tableIn (off := 49) (tgt := 50) hx hb dX1_part_1 (by omega) (by omega) (by rw [f1]; rfl) (by decide +kernel) ?_
    refine lv_aload_n hx hb dX1_part_50 rfl (lv_at hl 0 rfl) ?_
    refine xgB_B_bs hx hb hts (fun _ h => List.mem_cons_of_mem _ (List.mem_append_right _ h)) hown hK hP (hts (.fieldLink RX1 18 "TalePlay$Book" "bs" "[I") (List.mem_cons_of_mem _ (List.mem_append_left _ (List.mem_of_getElem? (i := 6) rfl)))) dX1_part_51 ?_
    refine lv_iload_n hx hb dX1_part_54 rfl (lv_at hl 1 rfl) ?_
    refine xlB_115 hx hb hK hP (vp_in_iff.mpr (by have h9 : s1.toInt = s1.toInt := rfl; omega)) dX1_part_55 (fun x7 ex7 => ?_)
    have rx7 : 0 ≤ x7.toInt ∧ x7.toInt ≤ 29 := by rw [ex7]; exact hI.2 115 _
    have gx7 : (c 115 (s1 : Int32).toNatClampNeg).toInt = x7.toInt := (congrArg Int32.toInt ex7).symm
    refine lv_goto (tgt := 77) hx hb dX1_part_56 (by decide +kernel) ?_
    exact ro_iret hx hb hr hlocks hS dX1_part_77 ⟨trivial, (show PaR (c 113) (c 114) (c 115) (c 116) (c 117) s1.toNatClampNeg w.toInt x7.toInt from by unfold PaR; omega)⟩
  · refine lv_tableIn (off := 58) (tgt := 59) hx hb dX1_part_1 (by omega) (by omega) (by rw [f1]; rfl) (by decide +kernel) ?_
    refine lv_aload_n hx hb dX1_part_59 rfl (lv_at hl 0 rfl) ?_
    refine xgB_B_cs hx hb hts (fun _ h => List.mem_cons_of_mem _ (List.mem_append_right _ h)) hown hK hP (hts (.fieldLink RX1 21 "TalePlay$Book" "cs" "[I") (List.mem_cons_of_mem _ (List.mem_append_left _ (List.mem_of_getElem? (i := 7) rfl)))) dX1_part_60 ?_
    refine lv_iload_n hx hb dX1_part_63 rfl (lv_at hl 1 rfl) ?_
    refine xlB_116 hx hb hK hP (vp_in_iff.mpr (by have h9 : s1.toInt = s1.toInt := rfl; omega)) dX1_part_64 (fun x8 ex8 => ?_)
    have rx8 : 0 ≤ x8.toInt ∧ x8.toInt ≤ 9 := by rw [ex8]; exact hI.2 116 _
    have gx8 : (c 116 (s1 : Int32).toNatClampNeg).toInt = x8.toInt := (congrArg Int32.toInt ex8).symm
    refine lv_goto (tgt := 77) hx hb dX1_part_65 (by decide +kernel) ?_
    exact ro_iret hx hb hr hlocks hS dX1_part_77 ⟨trivial, (show PaR (c 113) (c 114) (c 115) (c 116) (c 117) s1.toNatClampNeg w.toInt x8.toInt from by unfold PaR; omega)⟩

set_option maxHeartbeats 4000000 in
set_option maxRecDepth 100000 in
theorem s_X12_sentence_t (l : Launch) (D : va_G) (sz : Nat) (o : Nat) (a : Nat → Nat) (t : Nat → ClassId) (i : Nat → Int32) (q : Int64) (c : Nat → Nat → Int32) (d : Nat → Nat → Int64) (s1 : Int32) (w : Int32) (hI : mInv i c) : Met l yX12_sentence wm_X12_sentence ({ frames := 1, cells := 0, slots := 0, locals := 25 }) (va_Pc [.ref o, .int s1, .int w] (pA D sz (mW o a t i q c d) (mT t))) (va_Qi (fun (r : Int32) (_ : Unit) => (True ∧ (SeR (c 9) (c 10) (c 11) (c 12) (c 13) (i 8).toInt s1.toInt w.toInt r.toInt))) oA (ro sz)) 0 0 (ro sz) := by
  refine Met.ofW (cc := cX12_sentence) (maxL := 3) (ret := (some .int)) (by decide +kernel) rfl ?_
  intro p e s m args below meth cd s₁ B hml hv
  obtain ⟨rfl, hsz, hP, hK⟩ := hv
  have hx := B.exec
  have hb := B.bytes
  have hr := B.returns
  have hts := atoms_spec (ws := wm_X12_sentence) B.pre
  have hown : s.vm.findClass RX12 = some m.cls := findClass_of_methodNamed B.named
  have hlocks := B.notSynchronized
  subst hsz
  have hA : ∀ q : Nat, s.heap.size ≤ q → ro s.heap.size q := fun _ h => h
  have hS : va_S (ro s.heap.size) s.heap s.heap [] := va_S.rf
  have hl := lv_entry ([.ref o, .int s1, .int w]) (n := 3) (Nat.le_of_ble_eq_true rfl)
  rw [lg_entry_eq]
  generalize (lg_sl ([.ref o, .int s1, .int w]) ++ List.replicate (3 - (lg_sl ([.ref o, .int s1, .int w])).length) Slot.unset).toArray = ls at hl ⊢
  have hl : lv_has ls 3 [(0, .ref o), (1, .int s1), (2, .int w)] := hl
  have rb8_i : 0 ≤ (i 8).toInt ∧ (i 8).toInt ≤ 200 := hI.1 8
  refine lv_iload_n hx hb dX12_sentence_0 rfl (lv_at hl 1 rfl) ?_
  refine lv_i2l (v := s1.toInt64) hx hb dX12_sentence_1 rfl ?_
  refine lv_lconst (v := 0) hx hb dX12_sentence_2 (by decide +kernel) ?_
  refine lv_aload_n hx hb dX12_sentence_3 rfl (lv_at hl 0 rfl) ?_
  refine mget_8 (v := (i 8)) rfl hx hb hts (fun _ h => List.mem_cons_of_mem _ (List.mem_append_right _ h)) hown hK hP (hts (.fieldLink RX12 202 "TalePlayModel" "sentences" "I") (List.mem_cons_of_mem _ (List.mem_append_left _ (List.mem_of_getElem? (i := 0) rfl)))) dX12_sentence_4 ?_
  refine lv_iconst (v := 1) hx hb dX12_sentence_7 (by decide +kernel) ?_
  refine lv_isub hx hb dX12_sentence_8 ?_
  refine lv_topi (fun x1 ex1 => ?_)
  have tx1 := ti_sub (a := (i 8).toInt) (b := 1) ex1 rfl (by decide +kernel) (by omega) (by omega)
  refine lv_i2l (v := x1.toInt64) hx hb dX12_sentence_9 rfl ?_
  have hPc := hP.sub (ws' := []) [] rfl
  have hKc := hK.sub (tys' := []) [] rfl
  refine ro_calli (va_runS (As := [.long s1.toInt64, .long 0, .long x1.toInt64]) (rest := []) ⟨hx, hb, hml, hown, hts⟩ (c_X12_in l D s.heap.size s1.toInt64 0 x1.toInt64 s1.toInt 0 ((i 8).toInt - 1) ((Int32.toInt_toInt64 s1).trans rfl) (by decide +kernel) ((Int32.toInt_toInt64 x1).trans tx1)) (va_cwS 3 hts gm_X12_sentence_X12_in rfl rfl rfl (by decide +kernel) ⟨Nat.le_of_ble_eq_true rfl, Nat.le_of_ble_eq_true rfl⟩) (pA_S hKc hPc) rfl rfl hl.1 rfl (lv_room (Nat.le_of_ble_eq_true rfl)) dX12_sentence_10 ⟨Nat.le_of_ble_eq_true rfl, Nat.le_of_ble_eq_true rfl⟩) hS hA hP (fun r2 u2 H locs hw2 hP hS => ?_)
  have hw2 : r2 = if (0 ≤ s1.toInt ∧ s1.toInt ≤ ((i 8).toInt - 1)) then 1 else 0 := hw2
  refine lv_if_eq (tgt := 28) hx hb dX12_sentence_13 (by decide +kernel) (fun c3 => ?_) (fun c3 => ?_)
  · have f3 := fl_f hw2 c3
    refine lv_iconst (v := (-1)) hx hb dX12_sentence_28 (by decide +kernel) ?_
    exact ro_iret hx hb hr hlocks hS dX12_sentence_29 ⟨trivial, (show SeR (c 9) (c 10) (c 11) (c 12) (c 13) (i 8).toInt s1.toInt w.toInt ((-1) : Int32).toInt from Or.inl ⟨by omega, by decide⟩)⟩
  · have f3 := fl_t hw2 c3
    refine lv_iload_n hx hb dX12_sentence_16 rfl (lv_at hl 2 rfl) ?_
    refine lv_i2l (v := w.toInt64) hx hb dX12_sentence_17 rfl ?_
    refine lv_lconst (v := 0) hx hb dX12_sentence_18 (by decide +kernel) ?_
    refine lv_ldc2 (v := 4) hx hb hown (hts (.constantLong RX12 252 (4)) (List.mem_cons_of_mem _ (List.mem_append_left _ (List.mem_of_getElem? (i := 5) rfl)))) dX12_sentence_19 ?_
    have hPc := hP.sub (ws' := []) [] rfl
    have hKc := hK.sub (tys' := []) [] rfl
    refine ro_calli (va_runS (As := [.long w.toInt64, .long 0, .long 4]) (rest := []) ⟨hx, hb, hml, hown, hts⟩ (c_X12_in l D H.size w.toInt64 0 4 w.toInt 0 4 ((Int32.toInt_toInt64 w).trans rfl) (by decide +kernel) (by decide +kernel)) (va_cwS 3 hts gm_X12_sentence_X12_in rfl rfl rfl (by decide +kernel) ⟨Nat.le_of_ble_eq_true rfl, Nat.le_of_ble_eq_true rfl⟩) (pA_S hKc hPc) rfl rfl hl.1 rfl (lv_room (Nat.le_of_ble_eq_true rfl)) dX12_sentence_22 ⟨Nat.le_of_ble_eq_true rfl, Nat.le_of_ble_eq_true rfl⟩) hS hA hP (fun r4 u4 H locs hw4 hP hS => ?_)
    have hw4 : r4 = if (0 ≤ w.toInt ∧ w.toInt ≤ 4) then 1 else 0 := hw4
    refine lv_if_ne (tgt := 30) hx hb dX12_sentence_25 (by decide +kernel) (fun c5 => ?_) (fun c5 => ?_)
    · have f5 := fl_t hw4 c5
      refine lv_iload_n hx hb dX12_sentence_30 rfl (lv_at hl 2 rfl) ?_
      refine lv_if_ne (tgt := 43) hx hb dX12_sentence_31 (by decide +kernel) (fun c6 => ?_) (fun c6 => ?_)
      · have f6 := mt (ti_eq (a := w.toInt) (b := 0) rfl (by decide +kernel)).mpr c6
        refine lv_iload_n hx hb dX12_sentence_43 rfl (lv_at hl 2 rfl) ?_
        refine lv_iconst (v := 1) hx hb dX12_sentence_44 (by decide +kernel) ?_
        refine lv_icmp_ne (tgt := 57) hx hb dX12_sentence_45 (by decide +kernel) (fun c7 => ?_) (fun c7 => ?_)
        · have f7 := mt (ti_eq (a := w.toInt) (b := 1) rfl (by decide +kernel)).mpr c7
          refine lv_iload_n hx hb dX12_sentence_57 rfl (lv_at hl 2 rfl) ?_
          refine lv_iconst (v := 2) hx hb dX12_sentence_58 (by decide +kernel) ?_
          refine lv_icmp_ne (tgt := 71) hx hb dX12_sentence_59 (by decide +kernel) (fun c8 => ?_) (fun c8 => ?_)
          · have f8 := mt (ti_eq (a := w.toInt) (b := 2) rfl (by decide +kernel)).mpr c8
            refine lv_iload_n hx hb dX12_sentence_71 rfl (lv_at hl 2 rfl) ?_
            refine lv_iconst (v := 3) hx hb dX12_sentence_72 (by decide +kernel) ?_
            refine lv_icmp_ne (tgt := 85) hx hb dX12_sentence_73 (by decide +kernel) (fun c9 => ?_) (fun c9 => ?_)
            · have f9 := mt (ti_eq (a := w.toInt) (b := 3) rfl (by decide +kernel)).mpr c9
              refine lv_aload_n hx hb dX12_sentence_85 rfl (lv_at hl 0 rfl) ?_
              refine mget_13 hx hb hts (fun _ h => List.mem_cons_of_mem _ (List.mem_append_right _ h)) hown hK hP (hts (.fieldLink RX12 37 "TalePlayModel" "isSaid" "[Z") (List.mem_cons_of_mem _ (List.mem_append_left _ (List.mem_of_getElem? (i := 6) rfl)))) dX12_sentence_86 ?_
              refine lv_iload_n hx hb dX12_sentence_89 rfl (lv_at hl 1 rfl) ?_
              refine mld_13 hx hb hK hP (vp_in_iff.mpr (by have h9 : s1.toInt = s1.toInt := rfl; omega)) dX12_sentence_90 (fun x10 ex10 => ?_)
              have rx10 : 0 ≤ x10.toInt ∧ x10.toInt ≤ 1 := by rw [ex10]; exact hI.2 13 _
              have gx10 : (c 13 (s1 : Int32).toNatClampNeg).toInt = x10.toInt := by rw [ex10]
              refine lv_if_eq (tgt := 98) hx hb dX12_sentence_91 (by decide +kernel) (fun c11 => ?_) (fun c11 => ?_)
              · have f11 := (ti_eq (a := x10.toInt) (b := 0) rfl (by decide +kernel)).mp c11
                refine lv_iconst (v := 0) hx hb dX12_sentence_98 (by decide +kernel) ?_
                exact ro_iret hx hb hr hlocks hS dX12_sentence_99 ⟨trivial, (show SeR (c 9) (c 10) (c 11) (c 12) (c 13) (i 8).toInt s1.toInt w.toInt (0 : Int32).toInt from Or.inr ⟨by omega, by rw [show s1.toInt.toNat = s1.toNatClampNeg from rfl]; unfold PaR; have h9 : (0 : Int32).toInt = 0 := (by decide +kernel); omega⟩)⟩
              · have f11 := mt (ti_eq (a := x10.toInt) (b := 0) rfl (by decide +kernel)).mpr c11
                refine lv_iconst (v := 1) hx hb dX12_sentence_94 (by decide +kernel) ?_
                refine lv_goto (tgt := 99) hx hb dX12_sentence_95 (by decide +kernel) ?_
                exact ro_iret hx hb hr hlocks hS dX12_sentence_99 ⟨trivial, (show SeR (c 9) (c 10) (c 11) (c 12) (c 13) (i 8).toInt s1.toInt w.toInt (1 : Int32).toInt from Or.inr ⟨by omega, by rw [show s1.toInt.toNat = s1.toNatClampNeg from rfl]; unfold PaR; have h9 : (1 : Int32).toInt = 1 := (by decide +kernel); omega⟩)⟩
            · have f9 := (ti_eq (a := w.toInt) (b := 3) rfl (by decide +kernel)).mp c9
              refine lv_aload_n hx hb dX12_sentence_76 rfl (lv_at hl 0 rfl) ?_
              refine mget_12 hx hb hts (fun _ h => List.mem_cons_of_mem _ (List.mem_append_right _ h)) hown hK hP (hts (.fieldLink RX12 34 "TalePlayModel" "right" "[I") (List.mem_cons_of_mem _ (List.mem_append_left _ (List.mem_of_getElem? (i := 7) rfl)))) dX12_sentence_77 ?_
              refine lv_iload_n hx hb dX12_sentence_80 rfl (lv_at hl 1 rfl) ?_
              refine mld_12 hx hb hK hP (vp_in_iff.mpr (by have h9 : s1.toInt = s1.toInt := rfl; omega)) dX12_sentence_81 (fun x12 ex12 => ?_)
              have rx12 : 0 ≤ x12.toInt ∧ x12.toInt ≤ 9 := by rw [ex12]; exact hI.2 12 _
              have gx12 : (c 12 (s1 : Int32).toNatClampNeg).toInt = x12.toInt := by rw [ex12]
              refine lv_goto (tgt := 99) hx hb dX12_sentence_82 (by decide +kernel) ?_
              exact ro_iret hx hb hr hlocks hS dX12_sentence_99 ⟨trivial, (show SeR (c 9) (c 10) (c 11) (c 12) (c 13) (i 8).toInt s1.toInt w.toInt x12.toInt from Or.inr ⟨by omega, by rw [show s1.toInt.toNat = s1.toNatClampNeg from rfl]; unfold PaR; omega⟩)⟩
          · have f8 := (ti_eq (a := w.toInt) (b := 2) rfl (by decide +kernel)).mp c8
            refine lv_aload_n hx hb dX12_sentence_62 rfl (lv_at hl 0 rfl) ?_
            refine mget_11 hx hb hts (fun _ h => List.mem_cons_of_mem _ (List.mem_append_right _ h)) hown hK hP (hts (.fieldLink RX12 31 "TalePlayModel" "middle" "[I") (List.mem_cons_of_mem _ (List.mem_append_left _ (List.mem_of_getElem? (i := 8) rfl)))) dX12_sentence_63 ?_
            refine lv_iload_n hx hb dX12_sentence_66 rfl (lv_at hl 1 rfl) ?_
            refine mld_11 hx hb hK hP (vp_in_iff.mpr (by have h9 : s1.toInt = s1.toInt := rfl; omega)) dX12_sentence_67 (fun x13 ex13 => ?_)
            have rx13 : 0 ≤ x13.toInt ∧ x13.toInt ≤ 29 := by rw [ex13]; exact hI.2 11 _
            have gx13 : (c 11 (s1 : Int32).toNatClampNeg).toInt = x13.toInt := by rw [ex13]
            refine lv_goto (tgt := 99) hx hb dX12_sentence_68 (by decide +kernel) ?_
            exact ro_iret hx hb hr hlocks hS dX12_sentence_99 ⟨trivial, (show SeR (c 9) (c 10) (c 11) (c 12) (c 13) (i 8).toInt s1.toInt w.toInt x13.toInt from Or.inr ⟨by omega, by rw [show s1.toInt.toNat = s1.toNatClampNeg from rfl]; unfold PaR; omega⟩)⟩
        · have f7 := (ti_eq (a := w.toInt) (b := 1) rfl (by decide +kernel)).mp c7
          refine lv_aload_n hx hb dX12_sentence_48 rfl (lv_at hl 0 rfl) ?_
          refine mget_10 hx hb hts (fun _ h => List.mem_cons_of_mem _ (List.mem_append_right _ h)) hown hK hP (hts (.fieldLink RX12 28 "TalePlayModel" "left" "[I") (List.mem_cons_of_mem _ (List.mem_append_left _ (List.mem_of_getElem? (i := 9) rfl)))) dX12_sentence_49 ?_
          refine lv_iload_n hx hb dX12_sentence_52 rfl (lv_at hl 1 rfl) ?_
          refine mld_10 hx hb hK hP (vp_in_iff.mpr (by have h9 : s1.toInt = s1.toInt := rfl; omega)) dX12_sentence_53 (fun x14 ex14 => ?_)
          have rx14 : 0 ≤ x14.toInt ∧ x14.toInt ≤ 29 := by rw [ex14]; exact hI.2 10 _
          have gx14 : (c 10 (s1 : Int32).toNatClampNeg).toInt = x14.toInt := by rw [ex14]
          refine lv_goto (tgt := 99) hx hb dX12_sentence_54 (by decide +kernel) ?_
          exact ro_iret hx hb hr hlocks hS dX12_sentence_99 ⟨trivial, (show SeR (c 9) (c 10) (c 11) (c 12) (c 13) (i 8).toInt s1.toInt w.toInt x14.toInt from Or.inr ⟨by omega, by rw [show s1.toInt.toNat = s1.toNatClampNeg from rfl]; unfold PaR; omega⟩)⟩
      · have f6 := (ti_eq (a := w.toInt) (b := 0) rfl (by decide +kernel)).mp c6
        refine lv_aload_n hx hb dX12_sentence_34 rfl (lv_at hl 0 rfl) ?_
        refine mget_9 hx hb hts (fun _ h => List.mem_cons_of_mem _ (List.mem_append_right _ h)) hown hK hP (hts (.fieldLink RX12 25 "TalePlayModel" "form" "[I") (List.mem_cons_of_mem _ (List.mem_append_left _ (List.mem_of_getElem? (i := 10) rfl)))) dX12_sentence_35 ?_
        refine lv_iload_n hx hb dX12_sentence_38 rfl (lv_at hl 1 rfl) ?_
        refine mld_9 hx hb hK hP (vp_in_iff.mpr (by have h9 : s1.toInt = s1.toInt := rfl; omega)) dX12_sentence_39 (fun x15 ex15 => ?_)
        have rx15 : 0 ≤ x15.toInt ∧ x15.toInt ≤ 7 := by rw [ex15]; exact hI.2 9 _
        have gx15 : (c 9 (s1 : Int32).toNatClampNeg).toInt = x15.toInt := by rw [ex15]
        refine lv_goto (tgt := 99) hx hb dX12_sentence_40 (by decide +kernel) ?_
        exact ro_iret hx hb hr hlocks hS dX12_sentence_99 ⟨trivial, (show SeR (c 9) (c 10) (c 11) (c 12) (c 13) (i 8).toInt s1.toInt w.toInt x15.toInt from Or.inr ⟨by omega, by rw [show s1.toInt.toNat = s1.toNatClampNeg from rfl]; unfold PaR; omega⟩)⟩
    · have f5 := fl_f hw4 c5
      refine lv_iconst (v := (-1)) hx hb dX12_sentence_28 (by decide +kernel) ?_
      exact ro_iret hx hb hr hlocks hS dX12_sentence_29 ⟨trivial, (show SeR (c 9) (c 10) (c 11) (c 12) (c 13) (i 8).toInt s1.toInt w.toInt ((-1) : Int32).toInt from Or.inl ⟨by omega, by decide⟩)⟩

