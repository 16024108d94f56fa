set_option maxHeartbeats 4000000 in
set_option maxRecDepth 100000 in
theorem s_X12_isUpFrom_t (l : Launch) (D : va_G) (sz : Nat) (o : Nat) (a : Nat → Nat) (t : Nat → ClassId) (i : Nat → Int32) (q : Int64) (c : Nat → Nat → Int32) (d : Nat → Nat → Int64) (w1 : Int32) (w2 : Int32) (hI : mInv i c) (hw1 : 0 ≤ w1.toInt ∧ w1.toInt < (i 5).toInt) (hw2 : 0 ≤ w2.toInt ∧ w2.toInt < (i 5).toInt) (hs_T : TI (i 5).toInt (fun z => Kd (c 3) (c 6) z 0) (i 22).toInt (c 23) (c 24)) : Met l yX12_isUpFrom wm_X12_isUpFrom ({ frames := 0, cells := 0, slots := 0, locals := 0 }) (va_Pc [.ref o, .int w1, .int w2] (pA D sz (mW o a t i q c d) (mT t))) (va_Qi (fun (r : Int32) (_ : Unit) => ((0 ≤ r.toInt ∧ r.toInt ≤ 1) ∧ (Im (r.toInt = 0) (¬ Ch (nF (i 5).toInt (c 23) (c 24)) (nF (i 5).toInt (c 23) (c 24) w2.toInt) w1.toInt)) ∧ (Sm r (ChB 30 (nF (i 5).toInt (c 23) (c 24)) ((nF (i 5).toInt (c 23) (c 24)) w2.toInt) w1.toInt)))) oA (ro sz)) 0 0 (ro sz) := by
  refine Met.ofW (cc := cX12_isUpFrom) (maxL := 4) (ret := (some .boolean)) (by decide +kernel) rfl ?_
  intro p e s m args below meth cd s₁ B hml hv
  obtain ⟨rfl, hsz, hP, hK⟩ := hv
  have hx := B.exec
  have hb := B.bytes
  have hr := B.returns
  have hts := atoms_spec (ws := wm_X12_isUpFrom) B.pre
  have hown : s.vm.findClass RX12 = some m.cls := findClass_of_methodNamed B.named
  have hlocks := B.notSynchronized
  subst hsz
  have hA : ∀ q : Nat, s.heap.size ≤ q → ro s.heap.size q := fun _ h => h
  have hS : va_S (ro s.heap.size) s.heap s.heap [] := va_S.rf
  have hl := lv_entry ([.ref o, .int w1, .int w2]) (n := 4) (Nat.le_of_ble_eq_true rfl)
  rw [lg_entry_eq]
  generalize (lg_sl ([.ref o, .int w1, .int w2]) ++ List.replicate (4 - (lg_sl ([.ref o, .int w1, .int w2])).length) Slot.unset).toArray = ls at hl ⊢
  have hl : lv_has ls 4 [(0, .ref o), (1, .int w1), (2, .int w2)] := hl
  have rb5_i : 0 ≤ (i 5).toInt ∧ (i 5).toInt ≤ 30 := hI.1 5
  have rb22_i : (i 22).toInt = -9 ∨ (0 ≤ (i 22).toInt ∧ (i 22).toInt ≤ 29) := hI.1 22
  have hTt := hs_T
  obtain ⟨⟨hp0, hp1, hp2⟩, hT2, hT3, ⟨rk, hrk⟩, rr, hq0, hq1, hq2, hq3⟩ := hTt
  have hsp : Sp (nF (i 5).toInt (c 23) (c 24)) := nF_Sp (by omega) hT2
  have hpl := TI_p hs_T
  have hpa : 0 ≤ (c 24 (i 22).toNatClampNeg).toInt ∧ (c 24 (i 22).toNatClampNeg).toInt < (i 5).toInt := hT2 _ hp0 hp1 hpl
  refine lv_iload_n hx hb dX12_isUpFrom_0 rfl (lv_at hl 2 rfl) ?_
  refine lv_istore_n (lv' := [(3, .int w2), (0, .ref o), (1, .int w1), (2, .int w2)]) hx hb dX12_isUpFrom_1 rfl hl (by decide +kernel) rfl (fun ls hl => ?_)
  have lp1 : ∀ (fu : Nat) (y1_3 : Int32), (0 ≤ y1_3.toInt ∧ y1_3.toInt ≤ 29) → (y1_3.toInt < (i 5).toInt) → (Ch (nF (i 5).toInt (c 23) (c 24)) (nF (i 5).toInt (c 23) (c 24) w2.toInt) w1.toInt ↔ Ch (nF (i 5).toInt (c 23) (c 24)) (nF (i 5).toInt (c 23) (c 24) y1_3.toInt) w1.toInt) → (∃ k : Nat, rk y1_3.toInt ≤ k ∧ (ChB 30 (nF (i 5).toInt (c 23) (c 24)) ((nF (i 5).toInt (c 23) (c 24)) w2.toInt) w1.toInt ↔ ChB k (nF (i 5).toInt (c 23) (c 24)) ((nF (i 5).toInt (c 23) (c 24)) y1_3.toInt) w1.toInt)) → rk y1_3.toInt < fu → ∀ (H : Heap) (locs : List Loc) (ls : Array Slot), va_P D vwCl (mW o a t i q c d) H → va_S (ro s.heap.size) s.heap H locs → lv_has ls 4 [(3, .int y1_3), (0, .ref o), (1, .int w1), (2, .int w2)] → W p l e (headSpec wm_X12_isUpFrom ({ frames := 0, cells := 0, slots := 0, locals := 0 })).room s m ([.ref o, .int w1, .int w2] : List Value).toArray below meth cd H locs 0 0 (MQ below (va_Qi (fun (r : Int32) (_ : Unit) => ((0 ≤ r.toInt ∧ r.toInt ≤ 1) ∧ (Im (r.toInt = 0) (¬ Ch (nF (i 5).toInt (c 23) (c 24)) (nF (i 5).toInt (c 23) (c 24) w2.toInt) w1.toInt)) ∧ (Sm r (ChB 30 (nF (i 5).toInt (c 23) (c 24)) ((nF (i 5).toInt (c 23) (c 24)) w2.toInt) w1.toInt)))) oA (ro s.heap.size)) ([.ref o, .int w1, .int w2] : List Value).toArray s 0 0 (ro s.heap.size)) (F0 m 2 ls []) := by
    intro fu
    induction fu with
    | zero => intro y1_3 hy1_3 hz1_0 hz1_1 hz1_2 hm; exact absurd hm (Nat.not_lt_zero _)
    | succ fu ih =>
      intro y1_3 hy1_3 hz1_0 hz1_1 hz1_2 hm H locs ls hP hS hl
      have ih1 := ih
      refine lv_aload_n hx hb dX12_isUpFrom_2 rfl (lv_at hl 1 rfl) ?_
      refine mget_23 hx hb hts (fun _ h => List.mem_cons_of_mem _ (List.mem_append_right _ h)) hown hK hP (hts (.fieldLink RX12 50 "TalePlayModel" "nForm" "[I") (List.mem_cons_of_mem _ (List.mem_append_left _ (List.mem_of_getElem? (i := 0) rfl)))) dX12_isUpFrom_3 ?_
      refine lv_iload_n hx hb dX12_isUpFrom_6 rfl (lv_at hl 0 rfl) ?_
      refine mld_23 hx hb hK hP (vp_in_iff.mpr (by have h9 : y1_3.toInt = y1_3.toInt := rfl; omega)) dX12_isUpFrom_7 (fun x2 ex2 => ?_)
      have rx2 : x2.toInt = -9 ∨ (0 ≤ x2.toInt ∧ x2.toInt ≤ 4) := by rw [ex2]; exact hI.2 23 _
      refine lv_bipush (v := (-9)) hx hb dX12_isUpFrom_8 (by decide +kernel) ?_
      refine lv_icmp_eq (tgt := 27) hx hb dX12_isUpFrom_10 (by decide +kernel) (fun c3 => ?_) (fun c3 => ?_)
      · have f3 := (ti_eq (a := x2.toInt) (b := (-9)) rfl (by decide +kernel)).mp c3
        refine lv_iconst (v := 0) hx hb dX12_isUpFrom_27 (by decide +kernel) ?_
        exact ro_zret hx hb hr hlocks hS rfl dX12_isUpFrom_28 ⟨(show 0 ≤ (0 : Int32).toInt ∧ (0 : Int32).toInt ≤ 1 from by decide +kernel), (show Im ((0 : Int32).toInt = 0) (¬ Ch (nF (i 5).toInt (c 23) (c 24)) (nF (i 5).toInt (c 23) (c 24) w2.toInt) w1.toInt) from fun _ h8 => by have h7 := hz1_1.mp h8; rw [nF_no ex2 (by omega)] at h7; have h6 := Ch_nd hsp.1 h7; omega), (show Sm (0 : Int32) (ChB 30 (nF (i 5).toInt (c 23) (c 24)) ((nF (i 5).toInt (c 23) (c 24)) w2.toInt) w1.toInt) from sm_0 (ChM_9 hz1_2 (nF_no ex2 (by omega)) hsp.1 (by omega)))⟩
      · have f3 := mt (ti_eq (a := x2.toInt) (b := (-9)) rfl (by decide +kernel)).mpr c3
        refine lv_aload_n hx hb dX12_isUpFrom_13 rfl (lv_at hl 1 rfl) ?_
        refine mget_24 hx hb hts (fun _ h => List.mem_cons_of_mem _ (List.mem_append_right _ h)) hown hK hP (hts (.fieldLink RX12 53 "TalePlayModel" "nAt" "[I") (List.mem_cons_of_mem _ (List.mem_append_left _ (List.mem_of_getElem? (i := 1) rfl)))) dX12_isUpFrom_14 ?_
        refine lv_iload_n hx hb dX12_isUpFrom_17 rfl (lv_at hl 0 rfl) ?_
        refine mld_24 hx hb hK hP (vp_in_iff.mpr (by have h9 : y1_3.toInt = y1_3.toInt := rfl; omega)) dX12_isUpFrom_18 (fun x4 ex4 => ?_)
        have rx4 : x4.toInt = -9 ∨ (0 ≤ x4.toInt ∧ x4.toInt ≤ 29) := by rw [ex4]; exact hI.2 24 _
        obtain ⟨hn, hax, hbx⟩ := T_st hT2 (y := y1_3) (by omega) ex2 (by omega) ex4
        have hk := hrk.2 y1_3.toInt (by omega) (by omega) (by rw [hn]; omega)
        rw [hn] at hk
        refine lv_istore_n (lv' := [(3, .int x4), (0, .ref o), (1, .int w1), (2, .int w2)]) hx hb dX12_isUpFrom_19 rfl hl (by decide +kernel) rfl (fun ls hl => ?_)
        refine lv_iload_n hx hb dX12_isUpFrom_20 rfl (lv_at hl 0 rfl) ?_
        refine lv_iload_n hx hb dX12_isUpFrom_21 rfl (lv_at hl 2 rfl) ?_
        refine lv_icmp_ne (tgt := 2) hx hb dX12_isUpFrom_22 (by decide +kernel) (fun c5 => ?_) (fun c5 => ?_)
        · have f5 := mt (ti_eq (a := x4.toInt) (b := w1.toInt) rfl rfl).mpr c5
          exact ih1 x4 (show 0 ≤ x4.toInt ∧ x4.toInt ≤ 29 from by omega) (show x4.toInt < (i 5).toInt from by omega) (show Ch (nF (i 5).toInt (c 23) (c 24)) (nF (i 5).toInt (c 23) (c 24) w2.toInt) w1.toInt ↔ Ch (nF (i 5).toInt (c 23) (c 24)) (nF (i 5).toInt (c 23) (c 24) x4.toInt) w1.toInt from hz1_1.trans (by rw [hn]; exact Ch_nx (by omega))) (show ∃ k : Nat, rk x4.toInt ≤ k ∧ (ChB 30 (nF (i 5).toInt (c 23) (c 24)) ((nF (i 5).toInt (c 23) (c 24)) w2.toInt) w1.toInt ↔ ChB k (nF (i 5).toInt (c 23) (c 24)) ((nF (i 5).toInt (c 23) (c 24)) x4.toInt) w1.toInt) from ChM_s hz1_2 hn hk (by omega)) (by omega) _ _ _ hP hS (lv_sub hl [0, 1, 2, 3] rfl)
        · have f5 := (ti_eq (a := x4.toInt) (b := w1.toInt) rfl rfl).mp c5
          refine lv_iconst (v := 1) hx hb dX12_isUpFrom_25 (by decide +kernel) ?_
          exact ro_zret hx hb hr hlocks hS rfl dX12_isUpFrom_26 ⟨(show 0 ≤ (1 : Int32).toInt ∧ (1 : Int32).toInt ≤ 1 from by decide +kernel), (show Im ((1 : Int32).toInt = 0) (¬ Ch (nF (i 5).toInt (c 23) (c 24)) (nF (i 5).toInt (c 23) (c 24) w2.toInt) w1.toInt) from fun h9 => absurd h9 (by decide +kernel)), (show Sm (1 : Int32) (ChB 30 (nF (i 5).toInt (c 23) (c 24)) ((nF (i 5).toInt (c 23) (c 24)) w2.toInt) w1.toInt) from sm_1 (ChM_y hz1_2 hn hk (by omega)))⟩
  exact lp1 _ w2 (show 0 ≤ w2.toInt ∧ w2.toInt ≤ 29 from by omega) (show w2.toInt < (i 5).toInt from by omega) (show Ch (nF (i 5).toInt (c 23) (c 24)) (nF (i 5).toInt (c 23) (c 24) w2.toInt) w1.toInt ↔ Ch (nF (i 5).toInt (c 23) (c 24)) (nF (i 5).toInt (c 23) (c 24) w2.toInt) w1.toInt from Iff.rfl) (show ∃ k : Nat, rk w2.toInt ≤ k ∧ (ChB 30 (nF (i 5).toInt (c 23) (c 24)) ((nF (i 5).toInt (c 23) (c 24)) w2.toInt) w1.toInt ↔ ChB k (nF (i 5).toInt (c 23) (c 24)) ((nF (i 5).toInt (c 23) (c 24)) w2.toInt) w1.toInt) from ChM_0 (hrk.1 _)) (Nat.lt_succ_self _) _ _ _ hP hS (lv_sub hl [0, 1, 2, 3] rfl)

set_option maxHeartbeats 4000000 in
set_option maxRecDepth 100000 in
theorem s_X12_holds_t (l : Launch) (D : va_G) (sz : Nat) (o : Nat) (a : Nat → Nat) (t : Nat → ClassId) (i : Nat → Int32) (q : Int64) (c : Nat → Nat → Int32) (d : Nat → Nat → Int64) (w : Int32) (hI : mInv i c) (hw : 0 ≤ w.toInt ∧ w.toInt < (i 5).toInt) (hpm : 0 ≤ (i 22).toInt) : Met l yX12_holds wm_X12_holds ({ frames := 0, cells := 0, slots := 0, locals := 0 }) (va_Pc [.ref o, .int w] (pA D sz (mW o a t i q c d) (mT t))) (va_Qi (fun (r : Int32) (_ : Unit) => ((0 ≤ r.toInt ∧ r.toInt ≤ 1) ∧ (Im (r.toInt = 1) ((c 23 w.toNatClampNeg).toInt = 2 ∧ (c 24 w.toNatClampNeg).toInt = (i 22).toInt)) ∧ (Sm r (Hd (nF (i 5).toInt (c 23) (c 24)) (fMn (i 5).toInt (c 23)) (i 22).toInt w.toInt)))) oA (ro sz)) 0 0 (ro sz) := by
  refine Met.ofW (cc := cX12_holds) (maxL := 2) (ret := (some .boolean)) (by decide +kernel) rfl ?_
  intro p e s m args below meth cd s₁ B hml hv
  obtain ⟨rfl, hsz, hP, hK⟩ := hv
  have hx := B.exec
  have hb := B.bytes
  have hr := B.returns
  have hts := atoms_spec (ws := wm_X12_holds) B.pre
  have hown : s.vm.findClass RX12 = some m.cls := findClass_of_methodNamed B.named
  have hlocks := B.notSynchronized
  subst hsz
  have hA : ∀ q : Nat, s.heap.size ≤ q → ro s.heap.size q := fun _ h => h
  have hS : va_S (ro s.heap.size) s.heap s.heap [] := va_S.rf
  have hl := lv_entry ([.ref o, .int w]) (n := 2) (Nat.le_of_ble_eq_true rfl)
  rw [lg_entry_eq]
  generalize (lg_sl ([.ref o, .int w]) ++ List.replicate (2 - (lg_sl ([.ref o, .int w])).length) Slot.unset).toArray = ls at hl ⊢
  have hl : lv_has ls 2 [(0, .ref o), (1, .int w)] := hl
  have rb5_i : 0 ≤ (i 5).toInt ∧ (i 5).toInt ≤ 30 := hI.1 5
  have rb22_i : (i 22).toInt = -9 ∨ (0 ≤ (i 22).toInt ∧ (i 22).toInt ≤ 29) := hI.1 22
  refine lv_aload_n hx hb dX12_holds_0 rfl (lv_at hl 0 rfl) ?_
  refine mget_23 hx hb hts (fun _ h => List.mem_cons_of_mem _ (List.mem_append_right _ h)) hown hK hP (hts (.fieldLink RX12 50 "TalePlayModel" "nForm" "[I") (List.mem_cons_of_mem _ (List.mem_append_left _ (List.mem_of_getElem? (i := 0) rfl)))) dX12_holds_1 ?_
  refine lv_iload_n hx hb dX12_holds_4 rfl (lv_at hl 1 rfl) ?_
  refine mld_23 hx hb hK hP (vp_in_iff.mpr (by have h9 : w.toInt = w.toInt := rfl; omega)) dX12_holds_5 (fun x1 ex1 => ?_)
  have rx1 : x1.toInt = -9 ∨ (0 ≤ x1.toInt ∧ x1.toInt ≤ 4) := by rw [ex1]; exact hI.2 23 _
  have gx1 : (c 23 (w : Int32).toNatClampNeg).toInt = x1.toInt := by rw [ex1]
  refine lv_iconst (v := 2) hx hb dX12_holds_6 (by decide +kernel) ?_
  refine lv_icmp_ne (tgt := 27) hx hb dX12_holds_7 (by decide +kernel) (fun c2 => ?_) (fun c2 => ?_)
  · have f2 := mt (ti_eq (a := x1.toInt) (b := 2) rfl (by decide +kernel)).mpr c2
    refine lv_iconst (v := 0) hx hb dX12_holds_27 (by decide +kernel) ?_
    exact ro_zret hx hb hr hlocks hS rfl dX12_holds_28 ⟨(show 0 ≤ (0 : Int32).toInt ∧ (0 : Int32).toInt ≤ 1 from by decide +kernel), (show Im ((0 : Int32).toInt = 1) ((c 23 w.toNatClampNeg).toInt = 2 ∧ (c 24 w.toNatClampNeg).toInt = (i 22).toInt) from fun h9 => absurd h9 (by decide +kernel)), (show Sm (0 : Int32) (Hd (nF (i 5).toInt (c 23) (c 24)) (fMn (i 5).toInt (c 23)) (i 22).toInt w.toInt) from sm_0 (fun h9 => by have h8 := (Hd_m (N := (i 5).toInt) (F := c 23) (A := c 24) (o := w.toInt) (p := (i 22).toInt) (by omega) (by omega)).mp h9; have h6 : (c 23 w.toInt.toNat).toInt = x1.toInt := gx1; omega))⟩
  · have f2 := (ti_eq (a := x1.toInt) (b := 2) rfl (by decide +kernel)).mp c2
    refine lv_aload_n hx hb dX12_holds_10 rfl (lv_at hl 0 rfl) ?_
    refine mget_24 hx hb hts (fun _ h => List.mem_cons_of_mem _ (List.mem_append_right _ h)) hown hK hP (hts (.fieldLink RX12 53 "TalePlayModel" "nAt" "[I") (List.mem_cons_of_mem _ (List.mem_append_left _ (List.mem_of_getElem? (i := 1) rfl)))) dX12_holds_11 ?_
    refine lv_iload_n hx hb dX12_holds_14 rfl (lv_at hl 1 rfl) ?_
    refine mld_24 hx hb hK hP (vp_in_iff.mpr (by have h9 : w.toInt = w.toInt := rfl; omega)) dX12_holds_15 (fun x3 ex3 => ?_)
    have rx3 : x3.toInt = -9 ∨ (0 ≤ x3.toInt ∧ x3.toInt ≤ 29) := by rw [ex3]; exact hI.2 24 _
    have gx3 : (c 24 (w : Int32).toNatClampNeg).toInt = x3.toInt := by rw [ex3]
    refine lv_aload_n hx hb dX12_holds_16 rfl (lv_at hl 0 rfl) ?_
    refine mget_22 (v := (i 22)) rfl hx hb hts (fun _ h => List.mem_cons_of_mem _ (List.mem_append_right _ h)) hown hK hP (hts (.fieldLink RX12 155 "TalePlayModel" "player" "I") (List.mem_cons_of_mem _ (List.mem_append_left _ (List.mem_of_getElem? (i := 2) rfl)))) dX12_holds_17 ?_
    refine lv_icmp_ne (tgt := 27) hx hb dX12_holds_20 (by decide +kernel) (fun c4 => ?_) (fun c4 => ?_)
    · have f4 := mt (ti_eq (a := x3.toInt) (b := (i 22).toInt) rfl rfl).mpr c4
      refine lv_iconst (v := 0) hx hb dX12_holds_27 (by decide +kernel) ?_
      exact ro_zret hx hb hr hlocks hS rfl dX12_holds_28 ⟨(show 0 ≤ (0 : Int32).toInt ∧ (0 : Int32).toInt ≤ 1 from by decide +kernel), (show Im ((0 : Int32).toInt = 1) ((c 23 w.toNatClampNeg).toInt = 2 ∧ (c 24 w.toNatClampNeg).toInt = (i 22).toInt) from fun h9 => absurd h9 (by decide +kernel)), (show Sm (0 : Int32) (Hd (nF (i 5).toInt (c 23) (c 24)) (fMn (i 5).toInt (c 23)) (i 22).toInt w.toInt) from sm_0 (fun h9 => by have h8 := (Hd_m (N := (i 5).toInt) (F := c 23) (A := c 24) (o := w.toInt) (p := (i 22).toInt) (by omega) (by omega)).mp h9; have h6 : (c 23 w.toInt.toNat).toInt = x1.toInt := gx1; have h5 : (c 24 w.toInt.toNat).toInt = x3.toInt := gx3; omega))⟩
    · have f4 := (ti_eq (a := x3.toInt) (b := (i 22).toInt) rfl rfl).mp c4
      refine lv_iconst (v := 1) hx hb dX12_holds_23 (by decide +kernel) ?_
      refine lv_goto (tgt := 28) hx hb dX12_holds_24 (by decide +kernel) ?_
      exact ro_zret hx hb hr hlocks hS rfl dX12_holds_28 ⟨(show 0 ≤ (1 : Int32).toInt ∧ (1 : Int32).toInt ≤ 1 from by decide +kernel), (show Im ((1 : Int32).toInt = 1) ((c 23 w.toNatClampNeg).toInt = 2 ∧ (c 24 w.toNatClampNeg).toInt = (i 22).toInt) from fun _ => by omega), (show Sm (1 : Int32) (Hd (nF (i 5).toInt (c 23) (c 24)) (fMn (i 5).toInt (c 23)) (i 22).toInt w.toInt) from sm_1 ((Hd_m (N := (i 5).toInt) (F := c 23) (A := c 24) (o := w.toInt) (p := (i 22).toInt) (by omega) (by omega)).mpr (by have h6 : (c 23 w.toInt.toNat).toInt = x1.toInt := gx1; have h5 : (c 24 w.toInt.toNat).toInt = x3.toInt := gx3; omega)))⟩

set_option maxHeartbeats 4000000 in
set_option maxRecDepth 100000 in
theorem s_X12_lying_t (l : Launch) (D : va_G) (sz : Nat) (o : Nat) (a : Nat → Nat) (t : Nat → ClassId) (i : Nat → Int32) (q : Int64) (c : Nat → Nat → Int32) (d : Nat → Nat → Int64) (f : Int32) (w : Int32) (hI : mInv i c) : Met l yX12_lying wm_X12_lying ({ frames := 0, cells := 0, slots := 0, locals := 0 }) (va_Pc [.ref o, .int f, .int w] (pA D sz (mW o a t i q c d) (mT t))) (va_Qi (fun (r : Int32) (_ : Unit) => ((0 ≤ r.toInt ∧ r.toInt ≤ 30) ∧ (r.toInt = ((cnt (lsM (c 23) (c 24) f.toInt w.toInt) (i 5).toInt.toNat : Nat) : Int)))) oA (ro sz)) 0 0 (ro sz) := by
  refine Met.ofW (cc := cX12_lying) (maxL := 5) (ret := (some .int)) (by decide +kernel) rfl ?_
  intro p e s m args below meth cd s₁ B hml hv
  obtain ⟨rfl, hsz, hP, hK⟩ := hv
  have hx := B.exec
  have hb := B.bytes
  have hr := B.returns
  have hts := atoms_spec (ws := wm_X12_lying) B.pre
  have hown : s.vm.findClass RX12 = some m.cls := findClass_of_methodNamed B.named
  have hlocks := B.notSynchronized
  subst hsz
  have hA : ∀ q : Nat, s.heap.size ≤ q → ro s.heap.size q := fun _ h => h
  have hS : va_S (ro s.heap.size) s.heap s.heap [] := va_S.rf
  have hl := lv_entry ([.ref o, .int f, .int w]) (n := 5) (Nat.le_of_ble_eq_true rfl)
  rw [lg_entry_eq]
  generalize (lg_sl ([.ref o, .int f, .int w]) ++ List.replicate (5 - (lg_sl ([.ref o, .int f, .int w])).length) Slot.unset).toArray = ls at hl ⊢
  have hl : lv_has ls 5 [(0, .ref o), (1, .int f), (2, .int w)] := hl
  have rb5_i : 0 ≤ (i 5).toInt ∧ (i 5).toInt ≤ 30 := hI.1 5
  refine lv_iconst (v := 0) hx hb dX12_lying_0 (by decide +kernel) ?_
  refine lv_istore_n (lv' := [(3, .int 0), (0, .ref o), (1, .int f), (2, .int w)]) hx hb dX12_lying_1 rfl hl (by decide +kernel) rfl (fun ls hl => ?_)
  refine lv_iconst (v := 0) hx hb dX12_lying_2 (by decide +kernel) ?_
  refine lv_istore (lv' := [(4, .int 0), (3, .int 0), (0, .ref o), (1, .int f), (2, .int w)]) hx hb dX12_lying_3 hl (by decide +kernel) rfl (fun ls hl => ?_)
  have lp1 : ∀ (fu : Nat) (y1_4 : Int32) (y1_3 : Int32), (0 ≤ y1_4.toInt ∧ y1_4.toInt ≤ 30 ∧ y1_4.toInt ≤ (i 5).toInt) → (0 ≤ y1_3.toInt ∧ y1_3.toInt ≤ y1_4.toInt) → (y1_3.toInt = ((cnt (lsM (c 23) (c 24) f.toInt w.toInt) y1_4.toInt.toNat : Nat) : Int)) → (30 - y1_4.toInt).toNat < fu → ∀ (H : Heap) (locs : List Loc) (ls : Array Slot), va_P D vwCl (mW o a t i q c d) H → va_S (ro s.heap.size) s.heap H locs → lv_has ls 5 [(4, .int y1_4), (3, .int y1_3), (0, .ref o), (1, .int f), (2, .int w)] → W p l e (headSpec wm_X12_lying ({ frames := 0, cells := 0, slots := 0, locals := 0 })).room s m ([.ref o, .int f, .int w] : List Value).toArray below meth cd H locs 0 0 (MQ below (va_Qi (fun (r : Int32) (_ : Unit) => ((0 ≤ r.toInt ∧ r.toInt ≤ 30) ∧ (r.toInt = ((cnt (lsM (c 23) (c 24) f.toInt w.toInt) (i 5).toInt.toNat : Nat) : Int)))) oA (ro s.heap.size)) ([.ref o, .int f, .int w] : List Value).toArray s 0 0 (ro s.heap.size)) (F0 m 5 ls []) := by
    intro fu
    induction fu with
    | zero => intro y1_4 y1_3 hy1_4 hy1_3 hz1_0 hm; exact absurd hm (Nat.not_lt_zero _)
    | succ fu ih =>
      intro y1_4 y1_3 hy1_4 hy1_3 hz1_0 hm H locs ls hP hS hl
      have ih1 := ih
      refine lv_iload hx hb dX12_lying_5 (lv_at hl 0 rfl) ?_
      refine lv_aload_n hx hb dX12_lying_7 rfl (lv_at hl 2 rfl) ?_
      refine mget_5 (v := (i 5)) rfl hx hb hts (fun _ h => List.mem_cons_of_mem _ (List.mem_append_right _ h)) hown hK hP (hts (.fieldLink RX12 177 "TalePlayModel" "objects" "I") (List.mem_cons_of_mem _ (List.mem_append_left _ (List.mem_of_getElem? (i := 0) rfl)))) dX12_lying_8 ?_
      refine lv_icmp_ge (tgt := 50) hx hb dX12_lying_11 (by decide +kernel) (fun c2 => ?_) (fun c2 => ?_)
      · have f2 := (ti_le (a := (i 5).toInt) (b := y1_4.toInt) rfl rfl).mp c2
        refine lv_iload_n hx hb dX12_lying_50 rfl (lv_at hl 1 rfl) ?_
        exact ro_iret hx hb hr hlocks hS dX12_lying_51 ⟨(show 0 ≤ y1_3.toInt ∧ y1_3.toInt ≤ 30 from by omega), (show y1_3.toInt = ((cnt (lsM (c 23) (c 24) f.toInt w.toInt) (i 5).toInt.toNat : Nat) : Int) from by rw [show (i 5).toInt = y1_4.toInt by omega]; exact hz1_0)⟩
      · have f2 := mt (ti_le (a := (i 5).toInt) (b := y1_4.toInt) rfl rfl).mpr c2
        refine lv_iload_n hx hb dX12_lying_14 rfl (lv_at hl 1 rfl) ?_
        refine lv_aload_n hx hb dX12_lying_15 rfl (lv_at hl 2 rfl) ?_
        refine mget_23 hx hb hts (fun _ h => List.mem_cons_of_mem _ (List.mem_append_right _ h)) hown hK hP (hts (.fieldLink RX12 50 "TalePlayModel" "nForm" "[I") (List.mem_cons_of_mem _ (List.mem_append_left _ (List.mem_of_getElem? (i := 1) rfl)))) dX12_lying_16 ?_
        refine lv_iload hx hb dX12_lying_19 (lv_at hl 0 rfl) ?_
        refine mld_23 hx hb hK hP (vp_in_iff.mpr (by have h9 : y1_4.toInt = y1_4.toInt := rfl; omega)) dX12_lying_21 (fun x3 ex3 => ?_)
        have rx3 : x3.toInt = -9 ∨ (0 ≤ x3.toInt ∧ x3.toInt ≤ 4) := by rw [ex3]; exact hI.2 23 _
        have gx3 : (c 23 (y1_4 : Int32).toNatClampNeg).toInt = x3.toInt := by rw [ex3]
        refine lv_iload_n hx hb dX12_lying_22 rfl (lv_at hl 3 rfl) ?_
        have jn4 : ∀ (z4_0 : Int32), (0 ≤ z4_0.toInt ∧ z4_0.toInt ≤ 1) → (Sm z4_0 ((lsM (c 23) (c 24) f.toInt w.toInt) y1_4.toInt.toNat = true)) → ∀ (H : Heap) (locs : List Loc) (ls : Array Slot), va_P D vwCl (mW o a t i q c d) H → va_S (ro s.heap.size) s.heap H locs → lv_has ls 5 [(4, .int y1_4), (3, .int y1_3), (0, .ref o), (1, .int f), (2, .int w)] → W p l e (headSpec wm_X12_lying ({ frames := 0, cells := 0, slots := 0, locals := 0 })).room s m ([.ref o, .int f, .int w] : List Value).toArray below meth cd H locs 0 0 (MQ below (va_Qi (fun (r : Int32) (_ : Unit) => ((0 ≤ r.toInt ∧ r.toInt ≤ 30) ∧ (r.toInt = ((cnt (lsM (c 23) (c 24) f.toInt w.toInt) (i 5).toInt.toNat : Nat) : Int)))) oA (ro s.heap.size)) ([.ref o, .int f, .int w] : List Value).toArray s 0 0 (ro s.heap.size)) (F0 m 42 ls [.int z4_0, .int y1_3]) := by
          intro z4_0 hs4_0 hz4_0 H locs ls hP hS hl
          refine lv_iadd hx hb dX12_lying_42 ?_
          refine lv_topi (fun x5 ex5 => ?_)
          have tx5 := ti_add (a := y1_3.toInt) (b := z4_0.toInt) ex5 rfl rfl (by omega) (by omega)
          refine lv_istore_n (lv' := [(3, .int x5), (4, .int y1_4), (0, .ref o), (1, .int f), (2, .int w)]) hx hb dX12_lying_43 rfl hl (by decide +kernel) rfl (fun ls hl => ?_)
          obtain ⟨x6, ex6⟩ : ∃ y : Int32, y = y1_4 + 1 := ⟨_, rfl⟩
          have tx6 := ti_add (a := y1_4.toInt) (b := 1) ex6 rfl (by decide +kernel) (by omega) (by omega)
          refine lv_iinc (v := x6) (lv' := [(4, .int x6), (3, .int x5), (0, .ref o), (1, .int f), (2, .int w)]) hx hb dX12_lying_44 hl (k := 1) rfl (by rw [ex6]; rfl) (by decide +kernel) rfl (fun ls hl => ?_)
          refine lv_goto (tgt := 5) hx hb dX12_lying_47 (by decide +kernel) ?_
          exact ih1 x6 x5 (show 0 ≤ x6.toInt ∧ x6.toInt ≤ 30 ∧ x6.toInt ≤ (i 5).toInt from by have h50 : x6.toInt = (y1_4.toInt + 1) := tx6; have h51 : x5.toInt = (y1_3.toInt + z4_0.toInt) := tx5; omega) (show 0 ≤ x5.toInt ∧ x5.toInt ≤ x6.toInt from by have h50 : x6.toInt = (y1_4.toInt + 1) := tx6; have h51 : x5.toInt = (y1_3.toInt + z4_0.toInt) := tx5; omega) (show x5.toInt = ((cnt (lsM (c 23) (c 24) f.toInt w.toInt) x6.toInt.toNat : Nat) : Int) from cn_z hz1_0 (by omega) hz4_0 tx5 tx6) (by have h50 : x6.toInt = (y1_4.toInt + 1) := tx6; have h51 : x5.toInt = (y1_3.toInt + z4_0.toInt) := tx5; omega) _ _ _ hP hS (lv_sub hl [0, 1, 2, 3, 4] rfl)
        refine lv_icmp_ne (tgt := 41) hx hb dX12_lying_23 (by decide +kernel) (fun c7 => ?_) (fun c7 => ?_)
        · have f7 := mt (ti_eq (a := x3.toInt) (b := f.toInt) rfl rfl).mpr c7
          refine lv_iconst (v := 0) hx hb dX12_lying_41 (by decide +kernel) ?_
          exact jn4  (0 : Int32) (show 0 ≤ (0 : Int32).toInt ∧ (0 : Int32).toInt ≤ 1 from by decide +kernel) (show Sm (0 : Int32) ((lsM (c 23) (c 24) f.toInt w.toInt) y1_4.toInt.toNat = true) from sm_0 (fun h9 => by have h8 := lsM_e h9; have h6 : (c 23 y1_4.toInt.toNat).toInt = x3.toInt := gx3; omega)) _ _ _ hP hS (lv_sub hl [0, 1, 2, 3, 4] rfl)
        · have f7 := (ti_eq (a := x3.toInt) (b := f.toInt) rfl rfl).mp c7
          refine lv_aload_n hx hb dX12_lying_26 rfl (lv_at hl 2 rfl) ?_
          refine mget_24 hx hb hts (fun _ h => List.mem_cons_of_mem _ (List.mem_append_right _ h)) hown hK hP (hts (.fieldLink RX12 53 "TalePlayModel" "nAt" "[I") (List.mem_cons_of_mem _ (List.mem_append_left _ (List.mem_of_getElem? (i := 2) rfl)))) dX12_lying_27 ?_
          refine lv_iload hx hb dX12_lying_30 (lv_at hl 0 rfl) ?_
          refine mld_24 hx hb hK hP (vp_in_iff.mpr (by have h9 : y1_4.toInt = y1_4.toInt := rfl; omega)) dX12_lying_32 (fun x8 ex8 => ?_)
          have rx8 : x8.toInt = -9 ∨ (0 ≤ x8.toInt ∧ x8.toInt ≤ 29) := by rw [ex8]; exact hI.2 24 _
          have gx8 : (c 24 (y1_4 : Int32).toNatClampNeg).toInt = x8.toInt := by rw [ex8]
          refine lv_iload_n hx hb dX12_lying_33 rfl (lv_at hl 4 rfl) ?_
          refine lv_icmp_ne (tgt := 41) hx hb dX12_lying_34 (by decide +kernel) (fun c9 => ?_) (fun c9 => ?_)
          · have f9 := mt (ti_eq (a := x8.toInt) (b := w.toInt) rfl rfl).mpr c9
            refine lv_iconst (v := 0) hx hb dX12_lying_41 (by decide +kernel) ?_
            exact jn4  (0 : Int32) (show 0 ≤ (0 : Int32).toInt ∧ (0 : Int32).toInt ≤ 1 from by decide +kernel) (show Sm (0 : Int32) ((lsM (c 23) (c 24) f.toInt w.toInt) y1_4.toInt.toNat = true) from sm_0 (fun h9 => by have h8 := lsM_e h9; have h6 : (c 23 y1_4.toInt.toNat).toInt = x3.toInt := gx3; have h5 : (c 24 y1_4.toInt.toNat).toInt = x8.toInt := gx8; omega)) _ _ _ hP hS (lv_sub hl [0, 1, 2, 3, 4] rfl)
          · have f9 := (ti_eq (a := x8.toInt) (b := w.toInt) rfl rfl).mp c9
            refine lv_iconst (v := 1) hx hb dX12_lying_37 (by decide +kernel) ?_
            refine lv_goto (tgt := 42) hx hb dX12_lying_38 (by decide +kernel) ?_
            exact jn4  (1 : Int32) (show 0 ≤ (1 : Int32).toInt ∧ (1 : Int32).toInt ≤ 1 from by decide +kernel) (show Sm (1 : Int32) ((lsM (c 23) (c 24) f.toInt w.toInt) y1_4.toInt.toNat = true) from sm_1 (lsM_y (by have h6 : (c 23 y1_4.toInt.toNat).toInt = x3.toInt := gx3; have h5 : (c 24 y1_4.toInt.toNat).toInt = x8.toInt := gx8; omega))) _ _ _ hP hS (lv_sub hl [0, 1, 2, 3, 4] rfl)
  exact lp1 _ (0 : Int32) (0 : Int32) (show 0 ≤ (0 : Int32).toInt ∧ (0 : Int32).toInt ≤ 30 ∧ (0 : Int32).toInt ≤ (i 5).toInt from by have h50 : (0 : Int32).toInt = 0 := (by decide +kernel); have h51 : (0 : Int32).toInt = 0 := (by decide +kernel); omega) (show 0 ≤ (0 : Int32).toInt ∧ (0 : Int32).toInt ≤ (0 : Int32).toInt from by decide +kernel) (show (0 : Int32).toInt = ((cnt (lsM (c 23) (c 24) f.toInt w.toInt) (0 : Int32).toInt.toNat : Nat) : Int) from by rw [show (0 : Int32).toInt.toNat = 0 by decide]; rfl) (Nat.lt_succ_self _) _ _ _ hP hS (lv_sub hl [0, 1, 2, 3, 4] rfl)

set_option maxHeartbeats 4000000 in
set_option maxRecDepth 100000 in
theorem s_X12_isInRoom_t (l : Launch) (D : va_G) (sz : Nat) (o : Nat) (a : Nat → Nat) (t : Nat → ClassId) (i : Nat → Int32) (q : Int64) (c : Nat → Nat → Int32) (d : Nat → Nat → Int64) (hI : mInv i c) (hs_T : TI (i 5).toInt (fun z => Kd (c 3) (c 6) z 0) (i 22).toInt (c 23) (c 24)) (hs_E : CcE (c 3) (c 6) (c 47) (c 48) (c 49) (i 5).toInt) : Met l yX12_isInRoom wm_X12_isInRoom ({ frames := 0, cells := 0, slots := 0, locals := 0 }) (va_Pc [.ref o] (pA D sz (mW o a t i q c d) (mT t))) (va_Qi (fun (r : Int32) (_ : Unit) => ((0 ≤ r.toInt ∧ r.toInt ≤ 1) ∧ (Sm r (ByR (zM (c 3) (c 6) (i 5).toInt) (nF (i 5).toInt (c 23) (c 24)) (fMn (i 5).toInt (c 23)) (i 22).toInt)))) oA (ro sz)) 0 0 (ro sz) := by
  refine Met.ofW (cc := cX12_isInRoom) (maxL := 1) (ret := (some .boolean)) (by decide +kernel) rfl ?_
  intro p e s m args below meth cd s₁ B hml hv
  obtain ⟨rfl, hsz, hP, hK⟩ := hv
  have hx := B.exec
  have hb := B.bytes
  have hr := B.returns
  have hts := atoms_spec (ws := wm_X12_isInRoom) B.pre
  have hown : s.vm.findClass RX12 = some m.cls := findClass_of_methodNamed B.named
  have hlocks := B.notSynchronized
  subst hsz
  have hA : ∀ q : Nat, s.heap.size ≤ q → ro s.heap.size q := fun _ h => h
  have hS : va_S (ro s.heap.size) s.heap s.heap [] := va_S.rf
  have hl := lv_entry ([.ref o]) (n := 1) (Nat.le_of_ble_eq_true rfl)
  rw [lg_entry_eq]
  generalize (lg_sl ([.ref o]) ++ List.replicate (1 - (lg_sl ([.ref o])).length) Slot.unset).toArray = ls at hl ⊢
  have hl : lv_has ls 1 [(0, .ref o)] := hl
  have rb5_i : 0 ≤ (i 5).toInt ∧ (i 5).toInt ≤ 30 := hI.1 5
  have rb22_i : (i 22).toInt = -9 ∨ (0 ≤ (i 22).toInt ∧ (i 22).toInt ≤ 29) := hI.1 22
  have hTt := hs_T
  obtain ⟨⟨hp0, hp1, hp2⟩, hT2, hT3, ⟨rk, hrk⟩, rr, hq0, hq1, hq2, hq3⟩ := hTt
  have hsp : Sp (nF (i 5).toInt (c 23) (c 24)) := nF_Sp (by omega) hT2
  have hpl := TI_p hs_T
  have hpa : 0 ≤ (c 24 (i 22).toNatClampNeg).toInt ∧ (c 24 (i 22).toNatClampNeg).toInt < (i 5).toInt := hT2 _ hp0 hp1 hpl
  have hnp : (nF (i 5).toInt (c 23) (c 24)) (i 22).toInt = (c 24 (i 22).toInt.toNat).toInt := by unfold nF; rw [if_pos ⟨hp0, hp1, hpl⟩]
  have hfp : (fMn (i 5).toInt (c 23)) (i 22).toInt = (c 23 (i 22).toInt.toNat).toInt := fMn_i ⟨hp0, hp1⟩
  have hcp := H3_i (hs_E (c 24 (i 22).toInt.toNat).toInt hpa.1 hpa.2)
  refine lv_aload_n hx hb dX12_isInRoom_0 rfl (lv_at hl 0 rfl) ?_
  refine mget_23 hx hb hts (fun _ h => List.mem_cons_of_mem _ (List.mem_append_right _ h)) hown hK hP (hts (.fieldLink RX12 50 "TalePlayModel" "nForm" "[I") (List.mem_cons_of_mem _ (List.mem_append_left _ (List.mem_of_getElem? (i := 0) rfl)))) dX12_isInRoom_1 ?_
  refine lv_aload_n hx hb dX12_isInRoom_4 rfl (lv_at hl 0 rfl) ?_
  refine mget_22 (v := (i 22)) rfl hx hb hts (fun _ h => List.mem_cons_of_mem _ (List.mem_append_right _ h)) hown hK hP (hts (.fieldLink RX12 155 "TalePlayModel" "player" "I") (List.mem_cons_of_mem _ (List.mem_append_left _ (List.mem_of_getElem? (i := 1) rfl)))) dX12_isInRoom_5 ?_
  refine mld_23 hx hb hK hP (vp_in_iff.mpr (by have h9 : (i 22).toInt = (i 22).toInt := rfl; omega)) dX12_isInRoom_8 (fun x1 ex1 => ?_)
  have rx1 : x1.toInt = -9 ∨ (0 ≤ x1.toInt ∧ x1.toInt ≤ 4) := by rw [ex1]; exact hI.2 23 _
  have gx1 : (c 23 ((i 22) : Int32).toNatClampNeg).toInt = x1.toInt := by rw [ex1]
  refine lv_if_ne (tgt := 33) hx hb dX12_isInRoom_9 (by decide +kernel) (fun c2 => ?_) (fun c2 => ?_)
  · have f2 := mt (ti_eq (a := x1.toInt) (b := 0) rfl (by decide +kernel)).mpr c2
    refine lv_iconst (v := 0) hx hb dX12_isInRoom_33 (by decide +kernel) ?_
    exact ro_zret hx hb hr hlocks hS rfl dX12_isInRoom_34 ⟨(show 0 ≤ (0 : Int32).toInt ∧ (0 : Int32).toInt ≤ 1 from by decide +kernel), (show Sm (0 : Int32) (ByR (zM (c 3) (c 6) (i 5).toInt) (nF (i 5).toInt (c 23) (c 24)) (fMn (i 5).toInt (c 23)) (i 22).toInt) from sm_0 (fun h9 => by have h8 := h9.1; rw [hfp] at h8; have h7 := (show (c 23 (i 22).toInt.toNat).toInt = x1.toInt from gx1); omega))⟩
  · have f2 := (ti_eq (a := x1.toInt) (b := 0) rfl (by decide +kernel)).mp c2
    refine lv_aload_n hx hb dX12_isInRoom_12 rfl (lv_at hl 0 rfl) ?_
    refine mget_48 hx hb hts (fun _ h => List.mem_cons_of_mem _ (List.mem_append_right _ h)) hown hK hP (hts (.fieldLink RX12 101 "TalePlayModel" "isRoom" "[Z") (List.mem_cons_of_mem _ (List.mem_append_left _ (List.mem_of_getElem? (i := 2) rfl)))) dX12_isInRoom_13 ?_
    refine lv_aload_n hx hb dX12_isInRoom_16 rfl (lv_at hl 0 rfl) ?_
    refine mget_24 hx hb hts (fun _ h => List.mem_cons_of_mem _ (List.mem_append_right _ h)) hown hK hP (hts (.fieldLink RX12 53 "TalePlayModel" "nAt" "[I") (List.mem_cons_of_mem _ (List.mem_append_left _ (List.mem_of_getElem? (i := 3) rfl)))) dX12_isInRoom_17 ?_
    refine lv_aload_n hx hb dX12_isInRoom_20 rfl (lv_at hl 0 rfl) ?_
    refine mget_22 (v := (i 22)) rfl hx hb hts (fun _ h => List.mem_cons_of_mem _ (List.mem_append_right _ h)) hown hK hP (hts (.fieldLink RX12 155 "TalePlayModel" "player" "I") (List.mem_cons_of_mem _ (List.mem_append_left _ (List.mem_of_getElem? (i := 1) rfl)))) dX12_isInRoom_21 ?_
    refine mld_24 hx hb hK hP (vp_in_iff.mpr (by have h9 : (i 22).toInt = (i 22).toInt := rfl; omega)) dX12_isInRoom_24 (fun x3 ex3 => ?_)
    have rx3 : x3.toInt = -9 ∨ (0 ≤ x3.toInt ∧ x3.toInt ≤ 29) := by rw [ex3]; exact hI.2 24 _
    have gx3 : (c 24 ((i 22) : Int32).toNatClampNeg).toInt = x3.toInt := by rw [ex3]
    refine mld_48 hx hb hK hP (vp_in_iff.mpr (by have h9 : x3.toInt = x3.toInt := rfl; omega)) dX12_isInRoom_25 (fun x4 ex4 => ?_)
    have rx4 : 0 ≤ x4.toInt ∧ x4.toInt ≤ 1 := by rw [ex4]; exact hI.2 48 _
    have gx4 : (c 48 (x3 : Int32).toNatClampNeg).toInt = x4.toInt := by rw [ex4]
    refine lv_if_eq (tgt := 33) hx hb dX12_isInRoom_26 (by decide +kernel) (fun c5 => ?_) (fun c5 => ?_)
    · have f5 := (ti_eq (a := x4.toInt) (b := 0) rfl (by decide +kernel)).mp c5
      refine lv_iconst (v := 0) hx hb dX12_isInRoom_33 (by decide +kernel) ?_
      exact ro_zret hx hb hr hlocks hS rfl dX12_isInRoom_34 ⟨(show 0 ≤ (0 : Int32).toInt ∧ (0 : Int32).toInt ≤ 1 from by decide +kernel), (show Sm (0 : Int32) (ByR (zM (c 3) (c 6) (i 5).toInt) (nF (i 5).toInt (c 23) (c 24)) (fMn (i 5).toInt (c 23)) (i 22).toInt) from sm_0 (fun h9 => by have h8 := h9.2; rw [hnp] at h8; have h6 := hcp.2.1.mpr h8; have h7 := (show (c 48 (c 24 (i 22).toInt.toNat).toInt.toNat).toInt = x4.toInt from by rw [show (c 24 (i 22).toInt.toNat).toInt = x3.toInt from gx3]; exact gx4); omega))⟩
    · have f5 := mt (ti_eq (a := x4.toInt) (b := 0) rfl (by decide +kernel)).mpr c5
      refine lv_iconst (v := 1) hx hb dX12_isInRoom_29 (by decide +kernel) ?_
      refine lv_goto (tgt := 34) hx hb dX12_isInRoom_30 (by decide +kernel) ?_
      exact ro_zret hx hb hr hlocks hS rfl dX12_isInRoom_34 ⟨(show 0 ≤ (1 : Int32).toInt ∧ (1 : Int32).toInt ≤ 1 from by decide +kernel), (show Sm (1 : Int32) (ByR (zM (c 3) (c 6) (i 5).toInt) (nF (i 5).toInt (c 23) (c 24)) (fMn (i 5).toInt (c 23)) (i 22).toInt) from sm_1 ⟨by rw [hfp]; have h7 := (show (c 23 (i 22).toInt.toNat).toInt = x1.toInt from gx1); omega, by rw [hnp]; exact hcp.2.1.mp (by have h7 := (show (c 48 (c 24 (i 22).toInt.toNat).toInt.toNat).toInt = x4.toInt from by rw [show (c 24 (i 22).toInt.toNat).toInt = x3.toInt from gx3]; exact gx4); omega)⟩)⟩

theorem FeM_9 {pa ko F A B C S : Nat → Int32} {n r d ld dr bw im : Int} (h : FeM pa ko F A B C S n r d ld dr bw im) (hb : bw = -9) : ld = -9 := by
  unfold FeM at h
  rcases h with ⟨a, b, _⟩ | ⟨_, _, ⟨a, b, _⟩ | ⟨_, _, _, c⟩⟩
  · exact absurd (b.symm.trans hb) a
  · exact absurd (b.symm.trans hb) a
  · exact c

