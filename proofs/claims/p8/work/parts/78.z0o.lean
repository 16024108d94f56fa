set_option maxHeartbeats 4000000 in
set_option maxRecDepth 100000 in
theorem s_X12_isSide_t (l : Launch) (D : va_G) (sz : Nat) (o : Nat) (a : Nat → Nat) (t : Nat → ClassId) (i : Nat → Int32) (q : Int64) (c : Nat → Nat → Int32) (d : Nat → Nat → Int64) (w : Int32) (r1 : Int32) (hI : mInv i c) : Met l yX12_isSide wm_X12_isSide ({ frames := 0, cells := 0, slots := 0, locals := 0 }) (va_Pc [.ref o, .int w, .int r1] (pA D sz (mW o a t i q c d) (mT t))) (va_Qi (fun (r : Int32) (_ : Unit) => ((0 ≤ r.toInt ∧ r.toInt ≤ 1) ∧ (Sm r (∃ s : Nat, (s : Int) < (i 8).toInt ∧ sdP (c 9) (c 10) (c 11) (c 13) w.toInt r1.toInt s)))) oA (ro sz)) 0 0 (ro sz) := by
  refine Met.ofW (cc := cX12_isSide) (maxL := 4) (ret := (some .boolean)) (by decide +kernel) rfl ?_
  intro p e s m args below meth cd s₁ B hml hv
  obtain ⟨rfl, hsz, hP, hK⟩ := hv
  have hx := B.exec
  have hb := B.bytes
  have hr := B.returns
  have hts := atoms_spec (ws := wm_X12_isSide) B.pre
  have hown : s.vm.findClass RX12 = some m.cls := findClass_of_methodNamed B.named
  have hlocks := B.notSynchronized
  subst hsz
  have hA : ∀ q : Nat, s.heap.size ≤ q → ro s.heap.size q := fun _ h => h
  have hS : va_S (ro s.heap.size) s.heap s.heap [] := va_S.rf
  have hl := lv_entry ([.ref o, .int w, .int r1]) (n := 4) (Nat.le_of_ble_eq_true rfl)
  rw [lg_entry_eq]
  generalize (lg_sl ([.ref o, .int w, .int r1]) ++ List.replicate (4 - (lg_sl ([.ref o, .int w, .int r1])).length) Slot.unset).toArray = ls at hl ⊢
  have hl : lv_has ls 4 [(0, .ref o), (1, .int w), (2, .int r1)] := hl
  have rb8_i : 0 ≤ (i 8).toInt ∧ (i 8).toInt ≤ 200 := hI.1 8
  refine lv_iconst (v := 0) hx hb dX12_isSide_0 (by decide +kernel) ?_
  refine lv_istore_n (lv' := [(3, .int 0), (0, .ref o), (1, .int w), (2, .int r1)]) hx hb dX12_isSide_1 rfl hl (by decide +kernel) rfl (fun ls hl => ?_)
  have lp1 : ∀ (fu : Nat) (y1_3 : Int32), (0 ≤ y1_3.toInt ∧ y1_3.toInt ≤ 200) → (∀ s : Nat, (s : Int) < y1_3.toInt → ¬ sdP (c 9) (c 10) (c 11) (c 13) w.toInt r1.toInt s) → (200 - y1_3.toInt).toNat < fu → ∀ (H : Heap) (locs : List Loc) (ls : Array Slot), va_P D vwCl (mW o a t i q c d) H → va_S (ro s.heap.size) s.heap H locs → lv_has ls 4 [(3, .int y1_3), (0, .ref o), (1, .int w), (2, .int r1)] → W p l e (headSpec wm_X12_isSide ({ frames := 0, cells := 0, slots := 0, locals := 0 })).room s m ([.ref o, .int w, .int r1] : List Value).toArray below meth cd H locs 0 0 (MQ below (va_Qi (fun (r : Int32) (_ : Unit) => ((0 ≤ r.toInt ∧ r.toInt ≤ 1) ∧ (Sm r (∃ s : Nat, (s : Int) < (i 8).toInt ∧ sdP (c 9) (c 10) (c 11) (c 13) w.toInt r1.toInt s)))) oA (ro s.heap.size)) ([.ref o, .int w, .int r1] : List Value).toArray s 0 0 (ro s.heap.size)) (F0 m 2 ls []) := by
    intro fu
    induction fu with
    | zero => intro y1_3 hy1_3 hz1_0 hm; exact absurd hm (Nat.not_lt_zero _)
    | succ fu ih =>
      intro y1_3 hy1_3 hz1_0 hm H locs ls hP hS hl
      have ih1 := ih
      refine lv_iload_n hx hb dX12_isSide_2 rfl (lv_at hl 0 rfl) ?_
      refine lv_aload_n hx hb dX12_isSide_3 rfl (lv_at hl 1 rfl) ?_
      refine mget_8 (v := (i 8)) rfl hx hb hts (fun _ h => List.mem_cons_of_mem _ (List.mem_append_right _ h)) hown hK hP (hts (.fieldLink RX12 202 "TalePlayModel" "sentences" "I") (List.mem_cons_of_mem _ (List.mem_append_left _ (List.mem_of_getElem? (i := 0) rfl)))) dX12_isSide_4 ?_
      refine lv_icmp_ge (tgt := 57) hx hb dX12_isSide_7 (by decide +kernel) (fun c2 => ?_) (fun c2 => ?_)
      · have f2 := (ti_le (a := (i 8).toInt) (b := y1_3.toInt) rfl rfl).mp c2
        refine lv_iconst (v := 0) hx hb dX12_isSide_57 (by decide +kernel) ?_
        exact ro_zret hx hb hr hlocks hS rfl dX12_isSide_58 ⟨(show 0 ≤ (0 : Int32).toInt ∧ (0 : Int32).toInt ≤ 1 from by decide +kernel), (show Sm (0 : Int32) (∃ s : Nat, (s : Int) < (i 8).toInt ∧ sdP (c 9) (c 10) (c 11) (c 13) w.toInt r1.toInt s) from sm_0 (fun h9 => by obtain ⟨s9, h8, h7⟩ := h9; exact hz1_0 s9 (by omega) h7))⟩
      · have f2 := mt (ti_le (a := (i 8).toInt) (b := y1_3.toInt) rfl rfl).mpr c2
        refine lv_aload_n hx hb dX12_isSide_10 rfl (lv_at hl 1 rfl) ?_
        refine mget_13 hx hb hts (fun _ h => List.mem_cons_of_mem _ (List.mem_append_right _ h)) hown hK hP (hts (.fieldLink RX12 37 "TalePlayModel" "isSaid" "[Z") (List.mem_cons_of_mem _ (List.mem_append_left _ (List.mem_of_getElem? (i := 1) rfl)))) dX12_isSide_11 ?_
        refine lv_iload_n hx hb dX12_isSide_14 rfl (lv_at hl 0 rfl) ?_
        refine mld_13 hx hb hK hP (vp_in_iff.mpr (by have h9 : y1_3.toInt = y1_3.toInt := rfl; omega)) dX12_isSide_15 (fun x3 ex3 => ?_)
        have rx3 : 0 ≤ x3.toInt ∧ x3.toInt ≤ 1 := by rw [ex3]; exact hI.2 13 _
        have gx3 : (c 13 (y1_3 : Int32).toNatClampNeg).toInt = x3.toInt := by rw [ex3]
        refine lv_if_eq (tgt := 51) hx hb dX12_isSide_16 (by decide +kernel) (fun c4 => ?_) (fun c4 => ?_)
        · have f4 := (ti_eq (a := x3.toInt) (b := 0) rfl (by decide +kernel)).mp c4
          obtain ⟨x5, ex5⟩ : ∃ y : Int32, y = y1_3 + 1 := ⟨_, rfl⟩
          have tx5 := ti_add (a := y1_3.toInt) (b := 1) ex5 rfl (by decide +kernel) (by omega) (by omega)
          refine lv_iinc (v := x5) (lv' := [(3, .int x5), (0, .ref o), (1, .int w), (2, .int r1)]) hx hb dX12_isSide_51 hl (k := 0) rfl (by rw [ex5]; rfl) (by decide +kernel) rfl (fun ls hl => ?_)
          refine lv_goto (tgt := 2) hx hb dX12_isSide_54 (by decide +kernel) ?_
          exact ih1 x5 (show 0 ≤ x5.toInt ∧ x5.toInt ≤ 200 from by have h50 : x5.toInt = (y1_3.toInt + 1) := tx5; omega) (show ∀ s : Nat, (s : Int) < x5.toInt → ¬ sdP (c 9) (c 10) (c 11) (c 13) w.toInt r1.toInt s from fs_go hz1_0 (by omega) (by unfold sdP; omega) tx5) (by have h50 : x5.toInt = (y1_3.toInt + 1) := tx5; omega) _ _ _ hP hS (lv_sub hl [0, 1, 2, 3] rfl)
        · have f4 := mt (ti_eq (a := x3.toInt) (b := 0) rfl (by decide +kernel)).mpr c4
          refine lv_aload_n hx hb dX12_isSide_19 rfl (lv_at hl 1 rfl) ?_
          refine mget_9 hx hb hts (fun _ h => List.mem_cons_of_mem _ (List.mem_append_right _ h)) hown hK hP (hts (.fieldLink RX12 25 "TalePlayModel" "form" "[I") (List.mem_cons_of_mem _ (List.mem_append_left _ (List.mem_of_getElem? (i := 2) rfl)))) dX12_isSide_20 ?_
          refine lv_iload_n hx hb dX12_isSide_23 rfl (lv_at hl 0 rfl) ?_
          refine mld_9 hx hb hK hP (vp_in_iff.mpr (by have h9 : y1_3.toInt = y1_3.toInt := rfl; omega)) dX12_isSide_24 (fun x6 ex6 => ?_)
          have rx6 : 0 ≤ x6.toInt ∧ x6.toInt ≤ 7 := by rw [ex6]; exact hI.2 9 _
          have gx6 : (c 9 (y1_3 : Int32).toNatClampNeg).toInt = x6.toInt := by rw [ex6]
          refine lv_iconst (v := 5) hx hb dX12_isSide_25 (by decide +kernel) ?_
          refine lv_icmp_ne (tgt := 51) hx hb dX12_isSide_26 (by decide +kernel) (fun c7 => ?_) (fun c7 => ?_)
          · have f7 := mt (ti_eq (a := x6.toInt) (b := 5) rfl (by decide +kernel)).mpr c7
            obtain ⟨x8, ex8⟩ : ∃ y : Int32, y = y1_3 + 1 := ⟨_, rfl⟩
            have tx8 := ti_add (a := y1_3.toInt) (b := 1) ex8 rfl (by decide +kernel) (by omega) (by omega)
            refine lv_iinc (v := x8) (lv' := [(3, .int x8), (0, .ref o), (1, .int w), (2, .int r1)]) hx hb dX12_isSide_51 hl (k := 0) rfl (by rw [ex8]; rfl) (by decide +kernel) rfl (fun ls hl => ?_)
            refine lv_goto (tgt := 2) hx hb dX12_isSide_54 (by decide +kernel) ?_
            exact ih1 x8 (show 0 ≤ x8.toInt ∧ x8.toInt ≤ 200 from by have h50 : x8.toInt = (y1_3.toInt + 1) := tx8; omega) (show ∀ s : Nat, (s : Int) < x8.toInt → ¬ sdP (c 9) (c 10) (c 11) (c 13) w.toInt r1.toInt s from fs_go hz1_0 (by omega) (by unfold sdP; omega) tx8) (by have h50 : x8.toInt = (y1_3.toInt + 1) := tx8; omega) _ _ _ hP hS (lv_sub hl [0, 1, 2, 3] rfl)
          · have f7 := (ti_eq (a := x6.toInt) (b := 5) rfl (by decide +kernel)).mp c7
            refine lv_aload_n hx hb dX12_isSide_29 rfl (lv_at hl 1 rfl) ?_
            refine mget_11 hx hb hts (fun _ h => List.mem_cons_of_mem _ (List.mem_append_right _ h)) hown hK hP (hts (.fieldLink RX12 31 "TalePlayModel" "middle" "[I") (List.mem_cons_of_mem _ (List.mem_append_left _ (List.mem_of_getElem? (i := 3) rfl)))) dX12_isSide_30 ?_
            refine lv_iload_n hx hb dX12_isSide_33 rfl (lv_at hl 0 rfl) ?_
            refine mld_11 hx hb hK hP (vp_in_iff.mpr (by have h9 : y1_3.toInt = y1_3.toInt := rfl; omega)) dX12_isSide_34 (fun x9 ex9 => ?_)
            have rx9 : 0 ≤ x9.toInt ∧ x9.toInt ≤ 29 := by rw [ex9]; exact hI.2 11 _
            have gx9 : (c 11 (y1_3 : Int32).toNatClampNeg).toInt = x9.toInt := by rw [ex9]
            refine lv_iload_n hx hb dX12_isSide_35 rfl (lv_at hl 2 rfl) ?_
            refine lv_icmp_ne (tgt := 51) hx hb dX12_isSide_36 (by decide +kernel) (fun c10 => ?_) (fun c10 => ?_)
            · have f10 := mt (ti_eq (a := x9.toInt) (b := w.toInt) rfl rfl).mpr c10
              obtain ⟨x11, ex11⟩ : ∃ y : Int32, y = y1_3 + 1 := ⟨_, rfl⟩
              have tx11 := ti_add (a := y1_3.toInt) (b := 1) ex11 rfl (by decide +kernel) (by omega) (by omega)
              refine lv_iinc (v := x11) (lv' := [(3, .int x11), (0, .ref o), (1, .int w), (2, .int r1)]) hx hb dX12_isSide_51 hl (k := 0) rfl (by rw [ex11]; rfl) (by decide +kernel) rfl (fun ls hl => ?_)
              refine lv_goto (tgt := 2) hx hb dX12_isSide_54 (by decide +kernel) ?_
              exact ih1 x11 (show 0 ≤ x11.toInt ∧ x11.toInt ≤ 200 from by have h50 : x11.toInt = (y1_3.toInt + 1) := tx11; omega) (show ∀ s : Nat, (s : Int) < x11.toInt → ¬ sdP (c 9) (c 10) (c 11) (c 13) w.toInt r1.toInt s from fs_go hz1_0 (by omega) (by unfold sdP; omega) tx11) (by have h50 : x11.toInt = (y1_3.toInt + 1) := tx11; omega) _ _ _ hP hS (lv_sub hl [0, 1, 2, 3] rfl)
            · have f10 := (ti_eq (a := x9.toInt) (b := w.toInt) rfl rfl).mp c10
              refine lv_aload_n hx hb dX12_isSide_39 rfl (lv_at hl 1 rfl) ?_
              refine mget_10 hx hb hts (fun _ h => List.mem_cons_of_mem _ (List.mem_append_right _ h)) hown hK hP (hts (.fieldLink RX12 28 "TalePlayModel" "left" "[I") (List.mem_cons_of_mem _ (List.mem_append_left _ (List.mem_of_getElem? (i := 4) rfl)))) dX12_isSide_40 ?_
              refine lv_iload_n hx hb dX12_isSide_43 rfl (lv_at hl 0 rfl) ?_
              refine mld_10 hx hb hK hP (vp_in_iff.mpr (by have h9 : y1_3.toInt = y1_3.toInt := rfl; omega)) dX12_isSide_44 (fun x12 ex12 => ?_)
              have rx12 : 0 ≤ x12.toInt ∧ x12.toInt ≤ 29 := by rw [ex12]; exact hI.2 10 _
              have gx12 : (c 10 (y1_3 : Int32).toNatClampNeg).toInt = x12.toInt := by rw [ex12]
              refine lv_iload_n hx hb dX12_isSide_45 rfl (lv_at hl 3 rfl) ?_
              refine lv_icmp_ne (tgt := 51) hx hb dX12_isSide_46 (by decide +kernel) (fun c13 => ?_) (fun c13 => ?_)
              · have f13 := mt (ti_eq (a := x12.toInt) (b := r1.toInt) rfl rfl).mpr c13
                obtain ⟨x14, ex14⟩ : ∃ y : Int32, y = y1_3 + 1 := ⟨_, rfl⟩
                have tx14 := ti_add (a := y1_3.toInt) (b := 1) ex14 rfl (by decide +kernel) (by omega) (by omega)
                refine lv_iinc (v := x14) (lv' := [(3, .int x14), (0, .ref o), (1, .int w), (2, .int r1)]) hx hb dX12_isSide_51 hl (k := 0) rfl (by rw [ex14]; rfl) (by decide +kernel) rfl (fun ls hl => ?_)
                refine lv_goto (tgt := 2) hx hb dX12_isSide_54 (by decide +kernel) ?_
                exact ih1 x14 (show 0 ≤ x14.toInt ∧ x14.toInt ≤ 200 from by have h50 : x14.toInt = (y1_3.toInt + 1) := tx14; omega) (show ∀ s : Nat, (s : Int) < x14.toInt → ¬ sdP (c 9) (c 10) (c 11) (c 13) w.toInt r1.toInt s from fs_go hz1_0 (by omega) (by unfold sdP; omega) tx14) (by have h50 : x14.toInt = (y1_3.toInt + 1) := tx14; omega) _ _ _ hP hS (lv_sub hl [0, 1, 2, 3] rfl)
              · have f13 := (ti_eq (a := x12.toInt) (b := r1.toInt) rfl rfl).mp c13
                refine lv_iconst (v := 1) hx hb dX12_isSide_49 (by decide +kernel) ?_
                exact ro_zret hx hb hr hlocks hS rfl dX12_isSide_50 ⟨(show 0 ≤ (1 : Int32).toInt ∧ (1 : Int32).toInt ≤ 1 from by decide +kernel), (show Sm (1 : Int32) (∃ s : Nat, (s : Int) < (i 8).toInt ∧ sdP (c 9) (c 10) (c 11) (c 13) w.toInt r1.toInt s) from sm_1 ⟨y1_3.toNatClampNeg, by rw [cl_nn (by omega)]; omega, by unfold sdP; omega⟩)⟩
  exact lp1 _ (0 : Int32) (show 0 ≤ (0 : Int32).toInt ∧ (0 : Int32).toInt ≤ 200 from by decide +kernel) (show ∀ s : Nat, (s : Int) < (0 : Int32).toInt → ¬ sdP (c 9) (c 10) (c 11) (c 13) w.toInt r1.toInt s from fs_0 (by decide +kernel)) (Nat.lt_succ_self _) _ _ _ hP hS (lv_sub hl [0, 1, 2, 3] rfl)

set_option maxHeartbeats 4000000 in
set_option maxRecDepth 100000 in
theorem s_X12_shuts_t (l : Launch) (D : va_G) (sz : Nat) (o : Nat) (a : Nat → Nat) (t : Nat → ClassId) (i : Nat → Int32) (q : Int64) (c : Nat → Nat → Int32) (d : Nat → Nat → Int64) (w : Int32) (b1 : Int32) (hI : mInv i c) (hw : 0 ≤ w.toInt ∧ w.toInt < (i 5).toInt) (hb1 : 0 ≤ b1.toInt ∧ b1.toInt ≤ 1) (hs_E : CcE (c 3) (c 6) (c 47) (c 48) (c 49) (i 5).toInt) : Met l yX12_shuts wm_X12_shuts ({ frames := 0, cells := 0, slots := 0, locals := 0 }) (va_Pc [.ref o, .int w, .int b1] (pA D sz (mW o a t i q c d) (mT t))) (va_Qi (fun (r : Int32) (_ : Unit) => ((0 ≤ r.toInt ∧ r.toInt ≤ 1) ∧ (Sm r (Cv (zM (c 3) (c 6) (i 5).toInt) (bM (c 25)) (bM (c 46)) ((1 : Int) ≤ b1.toInt) w.toInt)))) oA (ro sz)) 0 0 (ro sz) := by
  refine Met.ofW (cc := cX12_shuts) (maxL := 3) (ret := (some .boolean)) (by decide +kernel) rfl ?_
  intro p e s m args below meth cd s₁ B hml hv
  obtain ⟨rfl, hsz, hP, hK⟩ := hv
  have hx := B.exec
  have hb := B.bytes
  have hr := B.returns
  have hts := atoms_spec (ws := wm_X12_shuts) B.pre
  have hown : s.vm.findClass RX12 = some m.cls := findClass_of_methodNamed B.named
  have hlocks := B.notSynchronized
  subst hsz
  have hA : ∀ q : Nat, s.heap.size ≤ q → ro s.heap.size q := fun _ h => h
  have hS : va_S (ro s.heap.size) s.heap s.heap [] := va_S.rf
  have hl := lv_entry ([.ref o, .int w, .int b1]) (n := 3) (Nat.le_of_ble_eq_true rfl)
  rw [lg_entry_eq]
  generalize (lg_sl ([.ref o, .int w, .int b1]) ++ List.replicate (3 - (lg_sl ([.ref o, .int w, .int b1])).length) Slot.unset).toArray = ls at hl ⊢
  have hl : lv_has ls 3 [(0, .ref o), (1, .int w), (2, .int b1)] := hl
  have rb5_i : 0 ≤ (i 5).toInt ∧ (i 5).toInt ≤ 30 := hI.1 5
  have hce := H3_i (hs_E w.toInt (by omega) (by omega))
  refine lv_aload_n hx hb dX12_shuts_0 rfl (lv_at hl 0 rfl) ?_
  refine mget_47 hx hb hts (fun _ h => List.mem_cons_of_mem _ (List.mem_append_right _ h)) hown hK hP (hts (.fieldLink RX12 98 "TalePlayModel" "isBox" "[Z") (List.mem_cons_of_mem _ (List.mem_append_left _ (List.mem_of_getElem? (i := 0) rfl)))) dX12_shuts_1 ?_
  refine lv_iload_n hx hb dX12_shuts_4 rfl (lv_at hl 1 rfl) ?_
  refine mld_47 hx hb hK hP (vp_in_iff.mpr (by have h9 : w.toInt = w.toInt := rfl; omega)) dX12_shuts_5 (fun x1 ex1 => ?_)
  have rx1 : 0 ≤ x1.toInt ∧ x1.toInt ≤ 1 := by rw [ex1]; exact hI.2 47 _
  have gx1 : (c 47 (w : Int32).toNatClampNeg).toInt = x1.toInt := by rw [ex1]
  refine lv_if_eq (tgt := 35) hx hb dX12_shuts_6 (by decide +kernel) (fun c2 => ?_) (fun c2 => ?_)
  · have f2 := (ti_eq (a := x1.toInt) (b := 0) rfl (by decide +kernel)).mp c2
    refine lv_iconst (v := 0) hx hb dX12_shuts_35 (by decide +kernel) ?_
    exact ro_zret hx hb hr hlocks hS rfl dX12_shuts_36 ⟨(show 0 ≤ (0 : Int32).toInt ∧ (0 : Int32).toInt ≤ 1 from by decide +kernel), (show Sm (0 : Int32) (Cv (zM (c 3) (c 6) (i 5).toInt) (bM (c 25)) (bM (c 46)) ((1 : Int) ≤ b1.toInt) w.toInt) from sm_0 (fun h9 => by have h8 := hce.1.mpr h9.1; have h7 := (show (c 47 w.toInt.toNat).toInt = x1.toInt from gx1); omega))⟩
  · have f2 := mt (ti_eq (a := x1.toInt) (b := 0) rfl (by decide +kernel)).mpr c2
    refine lv_aload_n hx hb dX12_shuts_9 rfl (lv_at hl 0 rfl) ?_
    refine mget_25 hx hb hts (fun _ h => List.mem_cons_of_mem _ (List.mem_append_right _ h)) hown hK hP (hts (.fieldLink RX12 56 "TalePlayModel" "nOpen" "[Z") (List.mem_cons_of_mem _ (List.mem_append_left _ (List.mem_of_getElem? (i := 1) rfl)))) dX12_shuts_10 ?_
    refine lv_iload_n hx hb dX12_shuts_13 rfl (lv_at hl 1 rfl) ?_
    refine mld_25 hx hb hK hP (vp_in_iff.mpr (by have h9 : w.toInt = w.toInt := rfl; omega)) dX12_shuts_14 (fun x3 ex3 => ?_)
    have rx3 : 0 ≤ x3.toInt ∧ x3.toInt ≤ 1 := by rw [ex3]; exact hI.2 25 _
    have gx3 : (c 25 (w : Int32).toNatClampNeg).toInt = x3.toInt := by rw [ex3]
    refine lv_if_ne (tgt := 35) hx hb dX12_shuts_15 (by decide +kernel) (fun c4 => ?_) (fun c4 => ?_)
    · have f4 := mt (ti_eq (a := x3.toInt) (b := 0) rfl (by decide +kernel)).mpr c4
      refine lv_iconst (v := 0) hx hb dX12_shuts_35 (by decide +kernel) ?_
      exact ro_zret hx hb hr hlocks hS rfl dX12_shuts_36 ⟨(show 0 ≤ (0 : Int32).toInt ∧ (0 : Int32).toInt ≤ 1 from by decide +kernel), (show Sm (0 : Int32) (Cv (zM (c 3) (c 6) (i 5).toInt) (bM (c 25)) (bM (c 46)) ((1 : Int) ≤ b1.toInt) w.toInt) from sm_0 (fun h9 => h9.2.1 (show (c 25 w.toInt.toNat).toInt = 1 from by have h8 := (show (c 25 w.toInt.toNat).toInt = x3.toInt from gx3); omega)))⟩
    · have f4 := (ti_eq (a := x3.toInt) (b := 0) rfl (by decide +kernel)).mp c4
      refine lv_iload_n hx hb dX12_shuts_18 rfl (lv_at hl 2 rfl) ?_
      refine lv_if_ne (tgt := 31) hx hb dX12_shuts_19 (by decide +kernel) (fun c5 => ?_) (fun c5 => ?_)
      · have f5 := mt (ti_eq (a := b1.toInt) (b := 0) rfl (by decide +kernel)).mpr c5
        refine lv_iconst (v := 1) hx hb dX12_shuts_31 (by decide +kernel) ?_
        refine lv_goto (tgt := 36) hx hb dX12_shuts_32 (by decide +kernel) ?_
        exact ro_zret hx hb hr hlocks hS rfl dX12_shuts_36 ⟨(show 0 ≤ (1 : Int32).toInt ∧ (1 : Int32).toInt ≤ 1 from by decide +kernel), (show Sm (1 : Int32) (Cv (zM (c 3) (c 6) (i 5).toInt) (bM (c 25)) (bM (c 46)) ((1 : Int) ≤ b1.toInt) w.toInt) from sm_1 ⟨hce.1.mp (by have h9 := (show (c 47 w.toInt.toNat).toInt = x1.toInt from gx1); omega), (fun h8 => by have h7 : (c 25 w.toInt.toNat).toInt = 1 := h8; have h6 := (show (c 25 w.toInt.toNat).toInt = x3.toInt from gx3); omega), Or.inl (by omega)⟩)⟩
      · have f5 := (ti_eq (a := b1.toInt) (b := 0) rfl (by decide +kernel)).mp c5
        refine lv_aload_n hx hb dX12_shuts_22 rfl (lv_at hl 0 rfl) ?_
        refine mget_46 hx hb hts (fun _ h => List.mem_cons_of_mem _ (List.mem_append_right _ h)) hown hK hP (hts (.fieldLink RX12 95 "TalePlayModel" "glass" "[Z") (List.mem_cons_of_mem _ (List.mem_append_left _ (List.mem_of_getElem? (i := 2) rfl)))) dX12_shuts_23 ?_
        refine lv_iload_n hx hb dX12_shuts_26 rfl (lv_at hl 1 rfl) ?_
        refine mld_46 hx hb hK hP (vp_in_iff.mpr (by have h9 : w.toInt = w.toInt := rfl; omega)) dX12_shuts_27 (fun x6 ex6 => ?_)
        have rx6 : 0 ≤ x6.toInt ∧ x6.toInt ≤ 1 := by rw [ex6]; exact hI.2 46 _
        have gx6 : (c 46 (w : Int32).toNatClampNeg).toInt = x6.toInt := by rw [ex6]
        refine lv_if_ne (tgt := 35) hx hb dX12_shuts_28 (by decide +kernel) (fun c7 => ?_) (fun c7 => ?_)
        · have f7 := mt (ti_eq (a := x6.toInt) (b := 0) rfl (by decide +kernel)).mpr c7
          refine lv_iconst (v := 0) hx hb dX12_shuts_35 (by decide +kernel) ?_
          exact ro_zret hx hb hr hlocks hS rfl dX12_shuts_36 ⟨(show 0 ≤ (0 : Int32).toInt ∧ (0 : Int32).toInt ≤ 1 from by decide +kernel), (show Sm (0 : Int32) (Cv (zM (c 3) (c 6) (i 5).toInt) (bM (c 25)) (bM (c 46)) ((1 : Int) ≤ b1.toInt) w.toInt) from sm_0 (fun h9 => h9.2.2.elim (fun h8 => by omega) (fun h8 => h8 (show (c 46 w.toInt.toNat).toInt = 1 from by have h7 := (show (c 46 w.toInt.toNat).toInt = x6.toInt from gx6); omega))))⟩
        · have f7 := (ti_eq (a := x6.toInt) (b := 0) rfl (by decide +kernel)).mp c7
          refine lv_iconst (v := 1) hx hb dX12_shuts_31 (by decide +kernel) ?_
          refine lv_goto (tgt := 36) hx hb dX12_shuts_32 (by decide +kernel) ?_
          exact ro_zret hx hb hr hlocks hS rfl dX12_shuts_36 ⟨(show 0 ≤ (1 : Int32).toInt ∧ (1 : Int32).toInt ≤ 1 from by decide +kernel), (show Sm (1 : Int32) (Cv (zM (c 3) (c 6) (i 5).toInt) (bM (c 25)) (bM (c 46)) ((1 : Int) ≤ b1.toInt) w.toInt) from sm_1 ⟨hce.1.mp (by have h9 := (show (c 47 w.toInt.toNat).toInt = x1.toInt from gx1); omega), (fun h8 => by have h7 : (c 25 w.toInt.toNat).toInt = 1 := h8; have h6 := (show (c 25 w.toInt.toNat).toInt = x3.toInt from gx3); omega), Or.inr (fun h8 => by have h7 : (c 46 w.toInt.toNat).toInt = 1 := h8; have h6 := (show (c 46 w.toInt.toNat).toInt = x6.toInt from gx6); omega)⟩)⟩

set_option maxHeartbeats 4000000 in
set_option maxRecDepth 100000 in
theorem s_X12_shellOf_t (l : Launch) (D : va_G) (sz : Nat) (o : Nat) (a : Nat → Nat) (t : Nat → ClassId) (i : Nat → Int32) (q : Int64) (c : Nat → Nat → Int32) (d : Nat → Nat → Int64) (b1 : Int32) (hI : mInv i c) (hs_T : TI (i 5).toInt (fun z => Kd (c 3) (c 6) z 0) (i 22).toInt (c 23) (c 24)) (hs_C : Cc (c 3) (c 6) (c 47) (c 48) (c 49) (i 5).toInt) (hb1 : 0 ≤ b1.toInt ∧ b1.toInt ≤ 1) (hs_E : CcE (c 3) (c 6) (c 47) (c 48) (c 49) (i 5).toInt) : Met l yX12_shellOf wm_X12_shellOf ({ frames := 1, cells := 0, slots := 0, locals := 22 }) (va_Pc [.ref o, .int b1] (pA D sz (mW o a t i q c d) (mT t))) (va_Qi (fun (r : Int32) (_ : Unit) => ((0 ≤ r.toInt ∧ r.toInt ≤ 29) ∧ (r.toInt < (i 5).toInt ∧ Ch (nF (i 5).toInt (c 23) (c 24)) (i 22).toInt r.toInt) ∧ (r.toInt = shl (zM (c 3) (c 6) (i 5).toInt) (nF (i 5).toInt (c 23) (c 24)) (bM (c 25)) (bM (c 46)) ((1 : Int) ≤ b1.toInt) (i 22).toInt))) oA (ro sz)) 0 0 (ro sz) := by
  refine Met.ofW (cc := cX12_shellOf) (maxL := 3) (ret := (some .int)) (by decide +kernel) rfl ?_
  intro p e s m args below meth cd s₁ B hml hv
  obtain ⟨rfl, hsz, hP, hK⟩ := hv
  have hx := B.exec
  have hb := B.bytes
  have hr := B.returns
  have hts := atoms_spec (ws := wm_X12_shellOf) B.pre
  have hown : s.vm.findClass RX12 = some m.cls := findClass_of_methodNamed B.named
  have hlocks := B.notSynchronized
  subst hsz
  have hA : ∀ q : Nat, s.heap.size ≤ q → ro s.heap.size q := fun _ h => h
  have hS : va_S (ro s.heap.size) s.heap s.heap [] := va_S.rf
  have hl := lv_entry ([.ref o, .int b1]) (n := 3) (Nat.le_of_ble_eq_true rfl)
  rw [lg_entry_eq]
  generalize (lg_sl ([.ref o, .int b1]) ++ List.replicate (3 - (lg_sl ([.ref o, .int b1])).length) Slot.unset).toArray = ls at hl ⊢
  have hl : lv_has ls 3 [(0, .ref o), (1, .int b1)] := hl
  have rb5_i : 0 ≤ (i 5).toInt ∧ (i 5).toInt ≤ 30 := hI.1 5
  have rb22_i : (i 22).toInt = -9 ∨ (0 ≤ (i 22).toInt ∧ (i 22).toInt ≤ 29) := hI.1 22
  have hTt := hs_T
  obtain ⟨⟨hp0, hp1, hp2⟩, hT2, hT3, ⟨rk, hrk⟩, rr, hq0, hq1, hq2, hq3⟩ := hTt
  have hsp : Sp (nF (i 5).toInt (c 23) (c 24)) := nF_Sp (by omega) hT2
  have hpl := TI_p hs_T
  have hpa : 0 ≤ (c 24 (i 22).toNatClampNeg).toInt ∧ (c 24 (i 22).toNatClampNeg).toInt < (i 5).toInt := hT2 _ hp0 hp1 hpl
  refine lv_aload_n hx hb dX12_shellOf_0 rfl (lv_at hl 0 rfl) ?_
  refine mget_24 hx hb hts (fun _ h => List.mem_cons_of_mem _ (List.mem_append_right _ h)) hown hK hP (hts (.fieldLink RX12 53 "TalePlayModel" "nAt" "[I") (List.mem_cons_of_mem _ (List.mem_append_left _ (List.mem_of_getElem? (i := 0) rfl)))) dX12_shellOf_1 ?_
  refine lv_aload_n hx hb dX12_shellOf_4 rfl (lv_at hl 0 rfl) ?_
  refine mget_22 (v := (i 22)) rfl hx hb hts (fun _ h => List.mem_cons_of_mem _ (List.mem_append_right _ h)) hown hK hP (hts (.fieldLink RX12 155 "TalePlayModel" "player" "I") (List.mem_cons_of_mem _ (List.mem_append_left _ (List.mem_of_getElem? (i := 1) rfl)))) dX12_shellOf_5 ?_
  refine mld_24 hx hb hK hP (vp_in_iff.mpr (by have h9 : (i 22).toInt = (i 22).toInt := rfl; omega)) dX12_shellOf_8 (fun x1 ex1 => ?_)
  have rx1 : x1.toInt = -9 ∨ (0 ≤ x1.toInt ∧ x1.toInt ≤ 29) := by rw [ex1]; exact hI.2 24 _
  have gx1 : (c 24 ((i 22) : Int32).toNatClampNeg).toInt = x1.toInt := by rw [ex1]
  have hnp : nF (i 5).toInt (c 23) (c 24) (i 22).toInt = x1.toInt := by unfold nF; rw [if_pos ⟨hp0, hp1, hpl⟩]; exact gx1
  refine lv_istore_n (lv' := [(2, .int x1), (0, .ref o), (1, .int b1)]) hx hb dX12_shellOf_9 rfl hl (by decide +kernel) rfl (fun ls hl => ?_)
  have lp2 : ∀ (fu : Nat) (y2_2 : Int32), (0 ≤ y2_2.toInt ∧ y2_2.toInt ≤ 29) → (y2_2.toInt < (i 5).toInt ∧ Ch (nF (i 5).toInt (c 23) (c 24)) (i 22).toInt y2_2.toInt) → (Ch (nF (i 5).toInt (c 23) (c 24)) y2_2.toInt rr) → (∃ k : Nat, rk y2_2.toInt < k ∧ ShB (nF (i 5).toInt (c 23) (c 24)) (StpC (zM (c 3) (c 6) (i 5).toInt) (bM (c 25)) (bM (c 46)) ((1 : Int) ≤ b1.toInt)) 30 ((nF (i 5).toInt (c 23) (c 24)) (i 22).toInt) = ShB (nF (i 5).toInt (c 23) (c 24)) (StpC (zM (c 3) (c 6) (i 5).toInt) (bM (c 25)) (bM (c 46)) ((1 : Int) ≤ b1.toInt)) k y2_2.toInt) → rk y2_2.toInt < fu → ∀ (H : Heap) (locs : List Loc) (ls : Array Slot), va_P D vwCl (mW o a t i q c d) H → va_S (ro s.heap.size) s.heap H locs → lv_has ls 3 [(2, .int y2_2), (0, .ref o), (1, .int b1)] → W p l e (headSpec wm_X12_shellOf ({ frames := 1, cells := 0, slots := 0, locals := 22 })).room s m ([.ref o, .int b1] : List Value).toArray below meth cd H locs 0 0 (MQ below (va_Qi (fun (r : Int32) (_ : Unit) => ((0 ≤ r.toInt ∧ r.toInt ≤ 29) ∧ (r.toInt < (i 5).toInt ∧ Ch (nF (i 5).toInt (c 23) (c 24)) (i 22).toInt r.toInt) ∧ (r.toInt = shl (zM (c 3) (c 6) (i 5).toInt) (nF (i 5).toInt (c 23) (c 24)) (bM (c 25)) (bM (c 46)) ((1 : Int) ≤ b1.toInt) (i 22).toInt))) oA (ro s.heap.size)) ([.ref o, .int b1] : List Value).toArray s 0 0 (ro s.heap.size)) (F0 m 10 ls []) := by
    intro fu
    induction fu with
    | zero => intro y2_2 hy2_2 hz2_0 hz2_1 hz2_2 hm; exact absurd hm (Nat.not_lt_zero _)
    | succ fu ih =>
      intro y2_2 hy2_2 hz2_0 hz2_1 hz2_2 hm H locs ls hP hS hl
      have ih2 := ih
      refine lv_aload_n hx hb dX12_shellOf_10 rfl (lv_at hl 1 rfl) ?_
      refine mget_48 hx hb hts (fun _ h => List.mem_cons_of_mem _ (List.mem_append_right _ h)) hown hK hP (hts (.fieldLink RX12 101 "TalePlayModel" "isRoom" "[Z") (List.mem_cons_of_mem _ (List.mem_append_left _ (List.mem_of_getElem? (i := 2) rfl)))) dX12_shellOf_11 ?_
      refine lv_iload_n hx hb dX12_shellOf_14 rfl (lv_at hl 0 rfl) ?_
      refine mld_48 hx hb hK hP (vp_in_iff.mpr (by have h9 : y2_2.toInt = y2_2.toInt := rfl; omega)) dX12_shellOf_15 (fun x3 ex3 => ?_)
      have rx3 : 0 ≤ x3.toInt ∧ x3.toInt ≤ 1 := by rw [ex3]; exact hI.2 48 _
      have gx3 : (c 48 (y2_2 : Int32).toNatClampNeg).toInt = x3.toInt := by rw [ex3]
      have hce := H3_i (hs_E y2_2.toInt (by omega) (by omega))
      refine lv_if_ne (tgt := 38) hx hb dX12_shellOf_16 (by decide +kernel) (fun c4 => ?_) (fun c4 => ?_)
      · have f4 := mt (ti_eq (a := x3.toInt) (b := 0) rfl (by decide +kernel)).mpr c4
        refine lv_iload_n hx hb dX12_shellOf_38 rfl (lv_at hl 0 rfl) ?_
        exact ro_iret hx hb hr hlocks hS dX12_shellOf_39 ⟨(show 0 ≤ y2_2.toInt ∧ y2_2.toInt ≤ 29 from by omega), (show y2_2.toInt < (i 5).toInt ∧ Ch (nF (i 5).toInt (c 23) (c 24)) (i 22).toInt y2_2.toInt from hz2_0), (show y2_2.toInt = shl (zM (c 3) (c 6) (i 5).toInt) (nF (i 5).toInt (c 23) (c 24)) (bM (c 25)) (bM (c 46)) ((1 : Int) ≤ b1.toInt) (i 22).toInt from show _ = ShB (nF (i 5).toInt (c 23) (c 24)) (StpC (zM (c 3) (c 6) (i 5).toInt) (bM (c 25)) (bM (c 46)) ((1 : Int) ≤ b1.toInt)) 30 ((nF (i 5).toInt (c 23) (c 24)) (i 22).toInt) from ShM_r hz2_2 (by omega) (Or.inl (hce.2.1.mp (by have h9 := (show (c 48 y2_2.toInt.toNat).toInt = x3.toInt from gx3); omega))))⟩
      · have f4 := (ti_eq (a := x3.toInt) (b := 0) rfl (by decide +kernel)).mp c4
        refine lv_aload_n hx hb dX12_shellOf_19 rfl (lv_at hl 1 rfl) ?_
        refine lv_iload_n hx hb dX12_shellOf_20 rfl (lv_at hl 0 rfl) ?_
        refine lv_iload_n hx hb dX12_shellOf_21 rfl (lv_at hl 2 rfl) ?_
        refine ro_calli (va_runV (As := [.int y2_2, .int b1]) (rest := []) ⟨hx, hb, hml, hown, hts⟩ (s_X12_shuts_t l D H.size o a t i q c d y2_2 b1 hI (show 0 ≤ y2_2.toInt ∧ y2_2.toInt < ((i 5) : Int32).toInt from by omega) (show 0 ≤ b1.toInt ∧ b1.toInt ≤ 1 from by omega) hs_E) (cwV 2 hts gm_X12_shellOf_X12_shuts rfl rfl rfl (by decide +kernel) ⟨Nat.le_of_ble_eq_true rfl, Nat.le_of_ble_eq_true rfl⟩) (pA_V hK hP (ci := 12) (q0 := 0) rfl rfl) rfl rfl hl.1 rfl (lv_room (Nat.le_of_ble_eq_true rfl)) dX12_shellOf_22 ⟨Nat.le_of_ble_eq_true rfl, Nat.le_of_ble_eq_true rfl⟩) hS hA hP (fun r5 u5 H locs hw5 hP hS => ?_)
        have hw5 : ((0 ≤ r5.toInt ∧ r5.toInt ≤ 1) ∧ (Sm r5 (Cv (zM (c 3) (c 6) (i 5).toInt) (bM (c 25)) (bM (c 46)) ((1 : Int) ≤ b1.toInt) y2_2.toInt))) := hw5
        obtain ⟨hw5, hr5_0⟩ := hw5
        have hr5_0 : Sm r5 (Cv (zM (c 3) (c 6) (i 5).toInt) (bM (c 25)) (bM (c 46)) ((1 : Int) ≤ b1.toInt) y2_2.toInt) := hr5_0
        refine lv_if_ne (tgt := 38) hx hb dX12_shellOf_25 (by decide +kernel) (fun c6 => ?_) (fun c6 => ?_)
        · have f6 := mt (ti_eq (a := r5.toInt) (b := 0) rfl (by decide +kernel)).mpr c6
          have s6 := sm_t hr5_0 c6
          refine lv_iload_n hx hb dX12_shellOf_38 rfl (lv_at hl 0 rfl) ?_
          exact ro_iret hx hb hr hlocks hS dX12_shellOf_39 ⟨(show 0 ≤ y2_2.toInt ∧ y2_2.toInt ≤ 29 from by omega), (show y2_2.toInt < (i 5).toInt ∧ Ch (nF (i 5).toInt (c 23) (c 24)) (i 22).toInt y2_2.toInt from hz2_0), (show y2_2.toInt = shl (zM (c 3) (c 6) (i 5).toInt) (nF (i 5).toInt (c 23) (c 24)) (bM (c 25)) (bM (c 46)) ((1 : Int) ≤ b1.toInt) (i 22).toInt from show _ = ShB (nF (i 5).toInt (c 23) (c 24)) (StpC (zM (c 3) (c 6) (i 5).toInt) (bM (c 25)) (bM (c 46)) ((1 : Int) ≤ b1.toInt)) 30 ((nF (i 5).toInt (c 23) (c 24)) (i 22).toInt) from ShM_r hz2_2 (by omega) (Or.inr s6))⟩
        · have f6 := (ti_eq (a := r5.toInt) (b := 0) rfl (by decide +kernel)).mp c6
          have s6 := sm_f hr5_0 c6
          refine lv_aload_n hx hb dX12_shellOf_28 rfl (lv_at hl 1 rfl) ?_
          refine mget_24 hx hb hts (fun _ h => List.mem_cons_of_mem _ (List.mem_append_right _ h)) hown hK hP (hts (.fieldLink RX12 53 "TalePlayModel" "nAt" "[I") (List.mem_cons_of_mem _ (List.mem_append_left _ (List.mem_of_getElem? (i := 0) rfl)))) dX12_shellOf_29 ?_
          refine lv_iload_n hx hb dX12_shellOf_32 rfl (lv_at hl 0 rfl) ?_
          refine mld_24 hx hb hK hP (vp_in_iff.mpr (by have h9 : y2_2.toInt = y2_2.toInt := rfl; omega)) dX12_shellOf_33 (fun x7 ex7 => ?_)
          have rx7 : x7.toInt = -9 ∨ (0 ≤ x7.toInt ∧ x7.toInt ≤ 29) := by rw [ex7]; exact hI.2 24 _
          have gx7 : (c 24 (y2_2 : Int32).toNatClampNeg).toInt = x7.toInt := by rw [ex7]
          refine lv_istore_n (lv' := [(2, .int x7), (0, .ref o), (1, .int b1)]) hx hb dX12_shellOf_34 rfl hl (by decide +kernel) rfl (fun ls hl => ?_)
          have hnr : ¬ Kd (c 3) (c 6) y2_2.toInt 0 := (hs_C y2_2.toInt (by omega) (by omega)).1 (by show (c 48 y2_2.toNatClampNeg).toInt = 0; omega)
          have hch := (Ch_nx (f := nF (i 5).toInt (c 23) (c 24)) (fun e => hnr (by rw [e]; exact hq2))).mp hz2_1
          have hny : ¬ nF (i 5).toInt (c 23) (c 24) y2_2.toInt = -9 := fun e => by rw [e] at hch; have h8 := Ch_nd hsp.1 hch; omega
          obtain ⟨hn, hax, hbx⟩ := T_st hT2 (y := y2_2) (by omega) rfl (nF_ne hny).2.2 ex7
          have hk := hrk.2 y2_2.toInt (by omega) (by omega) hny
          rw [hn] at hk hch
          refine lv_goto (tgt := 10) hx hb dX12_shellOf_35 (by decide +kernel) ?_
          exact ih2 x7 (show 0 ≤ x7.toInt ∧ x7.toInt ≤ 29 from by omega) (show x7.toInt < (i 5).toInt ∧ Ch (nF (i 5).toInt (c 23) (c 24)) (i 22).toInt x7.toInt from ⟨by omega, Ch_tr hz2_0.2 (Ch_up (by rw [hn]; exact Ch_rf))⟩) (show Ch (nF (i 5).toInt (c 23) (c 24)) x7.toInt rr from hch) (show ∃ k : Nat, rk x7.toInt < k ∧ ShB (nF (i 5).toInt (c 23) (c 24)) (StpC (zM (c 3) (c 6) (i 5).toInt) (bM (c 25)) (bM (c 46)) ((1 : Int) ≤ b1.toInt)) 30 ((nF (i 5).toInt (c 23) (c 24)) (i 22).toInt) = ShB (nF (i 5).toInt (c 23) (c 24)) (StpC (zM (c 3) (c 6) (i 5).toInt) (bM (c 25)) (bM (c 46)) ((1 : Int) ≤ b1.toInt)) k x7.toInt from ShM_s hz2_2 (by omega) (fun h9 => h9.elim (fun h8 => by have h7 := hce.2.1.mpr h8; have h6 := (show (c 48 y2_2.toInt.toNat).toInt = x3.toInt from gx3); omega) s6) hn hk) (by omega) _ _ _ hP hS (lv_sub hl [0, 1, 2] rfl)
  exact lp2 _ x1 (show 0 ≤ x1.toInt ∧ x1.toInt ≤ 29 from by omega) (show x1.toInt < (i 5).toInt ∧ Ch (nF (i 5).toInt (c 23) (c 24)) (i 22).toInt x1.toInt from ⟨by omega, Ch_up (by rw [hnp]; exact Ch_rf)⟩) (show Ch (nF (i 5).toInt (c 23) (c 24)) x1.toInt rr from by rw [← hnp]; exact (Ch_nx (fun e => hp2 (by rw [e]; exact hq2))).mp hq3) (show ∃ k : Nat, rk x1.toInt < k ∧ ShB (nF (i 5).toInt (c 23) (c 24)) (StpC (zM (c 3) (c 6) (i 5).toInt) (bM (c 25)) (bM (c 46)) ((1 : Int) ≤ b1.toInt)) 30 ((nF (i 5).toInt (c 23) (c 24)) (i 22).toInt) = ShB (nF (i 5).toInt (c 23) (c 24)) (StpC (zM (c 3) (c 6) (i 5).toInt) (bM (c 25)) (bM (c 46)) ((1 : Int) ≤ b1.toInt)) k x1.toInt from ShM_0 (hrk.1 _) hnp) (Nat.lt_succ_self _) _ _ _ hP hS (lv_sub hl [0, 1, 2] rfl)

