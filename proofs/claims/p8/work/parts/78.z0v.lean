set_option maxHeartbeats 4000000 in
set_option maxRecDepth 100000 in
theorem s_X12_keyOf_t (l : Launch) (D : va_G) (sz : Nat) (o : Nat) (a : Nat → Nat) (t : Nat → ClassId) (i : Nat → Int32) (q : Int64) (c : Nat → Nat → Int32) (d : Nat → Nat → Int64) (w : Int32) (hI : mInv i c) : Met l yX12_keyOf wm_X12_keyOf ({ frames := 0, cells := 0, slots := 0, locals := 0 }) (va_Pc [.ref o, .int w] (pA D sz (mW o a t i q c d) (mT t))) (va_Qi (fun (r : Int32) (_ : Unit) => ((r.toInt = -9 ∨ (0 ≤ r.toInt ∧ r.toInt ≤ 29)) ∧ (r.toInt = kyM (c 9) (c 10) (c 11) (c 13) (i 8).toInt w.toInt))) oA (ro sz)) 0 0 (ro sz) := by
  refine Met.ofW (cc := cX12_keyOf) (maxL := 3) (ret := (some .int)) (by decide +kernel) rfl ?_
  intro p e s m args below meth cd s₁ B hml hv
  obtain ⟨rfl, hsz, hP, hK⟩ := hv
  have hx := B.exec
  have hb := B.bytes
  have hr := B.returns
  have hts := atoms_spec (ws := wm_X12_keyOf) B.pre
  have hown : s.vm.findClass RX12 = some m.cls := findClass_of_methodNamed B.named
  have hlocks := B.notSynchronized
  subst hsz
  have hA : ∀ q : Nat, s.heap.size ≤ q → ro s.heap.size q := fun _ h => h
  have hS : va_S (ro s.heap.size) s.heap s.heap [] := va_S.rf
  have hl := lv_entry ([.ref o, .int w]) (n := 3) (Nat.le_of_ble_eq_true rfl)
  rw [lg_entry_eq]
  generalize (lg_sl ([.ref o, .int w]) ++ List.replicate (3 - (lg_sl ([.ref o, .int w])).length) Slot.unset).toArray = ls at hl ⊢
  have hl : lv_has ls 3 [(0, .ref o), (1, .int w)] := hl
  refine lv_iconst (v := 0) hx hb dX12_keyOf_0 (by decide +kernel) ?_
  refine lv_istore_n (lv' := [(2, .int 0), (0, .ref o), (1, .int w)]) hx hb dX12_keyOf_1 rfl hl (by decide +kernel) rfl (fun ls hl => ?_)
  have lp1 : ∀ (fu : Nat) (y1_2 : Int32), (0 ≤ y1_2.toInt ∧ y1_2.toInt ≤ 200) → (∀ s : Nat, (s : Int) < y1_2.toInt → ¬ KB (c 9) (c 11) (c 13) w.toInt s) → (200 - y1_2.toInt).toNat < fu → ∀ (H : Heap) (locs : List Loc) (ls : Array Slot), va_P D vwCl (mW o a t i q c d) H → va_S (ro s.heap.size) s.heap H locs → lv_has ls 3 [(2, .int y1_2), (0, .ref o), (1, .int w)] → W p l e (headSpec wm_X12_keyOf ({ frames := 0, cells := 0, slots := 0, locals := 0 })).room s m ([.ref o, .int w] : List Value).toArray below meth cd H locs 0 0 (MQ below (va_Qi (fun (r : Int32) (_ : Unit) => ((r.toInt = -9 ∨ (0 ≤ r.toInt ∧ r.toInt ≤ 29)) ∧ (r.toInt = kyM (c 9) (c 10) (c 11) (c 13) (i 8).toInt w.toInt))) oA (ro s.heap.size)) ([.ref o, .int w] : List Value).toArray s 0 0 (ro s.heap.size)) (F0 m 2 ls []) := by
    intro fu
    induction fu with
    | zero => intro y1_2 hy1_2 hz1_0 hm; exact absurd hm (Nat.not_lt_zero _)
    | succ fu ih =>
      intro y1_2 hy1_2 hz1_0 hm H locs ls hP hS hl
      have ih1 := ih
      refine lv_iload_n hx hb dX12_keyOf_2 rfl (lv_at hl 0 rfl) ?_
      refine lv_aload_n hx hb dX12_keyOf_3 rfl (lv_at hl 1 rfl) ?_
      refine mget_8 (v := (i 8)) rfl hx hb hts (fun _ h => List.mem_cons_of_mem _ (List.mem_append_right _ h)) hown hK hP (hts (.fieldLink RX12 202 "TalePlayModel" "sentences" "I") (List.mem_cons_of_mem _ (List.mem_append_left _ (List.mem_of_getElem? (i := 0) rfl)))) dX12_keyOf_4 ?_
      have rb8_i : 0 ≤ (i 8).toInt ∧ (i 8).toInt ≤ 200 := hI.1 8
      refine lv_icmp_ge (tgt := 53) hx hb dX12_keyOf_7 (by decide +kernel) (fun c2 => ?_) (fun c2 => ?_)
      · have f2 := (ti_le (a := (i 8).toInt) (b := y1_2.toInt) rfl rfl).mp c2
        refine lv_bipush (v := (-9)) hx hb dX12_keyOf_53 (by decide +kernel) ?_
        exact ro_iret hx hb hr hlocks hS dX12_keyOf_55 ⟨(show ((-9) : Int32).toInt = -9 ∨ (0 ≤ ((-9) : Int32).toInt ∧ ((-9) : Int32).toInt ≤ 29) from by decide +kernel), (show ((-9) : Int32).toInt = kyM (c 9) (c 10) (c 11) (c 13) (i 8).toInt w.toInt from by unfold kyM; rw [if_pos (fs_no hz1_0 (by omega)).symm]; decide)⟩
      · have f2 := mt (ti_le (a := (i 8).toInt) (b := y1_2.toInt) rfl rfl).mpr c2
        refine lv_aload_n hx hb dX12_keyOf_10 rfl (lv_at hl 1 rfl) ?_
        refine mget_13 hx hb hts (fun _ h => List.mem_cons_of_mem _ (List.mem_append_right _ h)) hown hK hP (hts (.fieldLink RX12 37 "TalePlayModel" "isSaid" "[Z") (List.mem_cons_of_mem _ (List.mem_append_left _ (List.mem_of_getElem? (i := 1) rfl)))) dX12_keyOf_11 ?_
        refine lv_iload_n hx hb dX12_keyOf_14 rfl (lv_at hl 0 rfl) ?_
        refine mld_13 hx hb hK hP (vp_in_iff.mpr (by have h9 : y1_2.toInt = y1_2.toInt := rfl; omega)) dX12_keyOf_15 (fun x3 ex3 => ?_)
        have rx3 : 0 ≤ x3.toInt ∧ x3.toInt ≤ 1 := by rw [ex3]; exact hI.2 13 _
        have gx3 : (c 13 (y1_2 : Int32).toNatClampNeg).toInt = x3.toInt := by rw [ex3]
        refine lv_if_eq (tgt := 47) hx hb dX12_keyOf_16 (by decide +kernel) (fun c4 => ?_) (fun c4 => ?_)
        · have f4 := (ti_eq (a := x3.toInt) (b := 0) rfl (by decide +kernel)).mp c4
          obtain ⟨x5, ex5⟩ : ∃ y : Int32, y = y1_2 + 1 := ⟨_, rfl⟩
          have tx5 := ti_add (a := y1_2.toInt) (b := 1) ex5 rfl (by decide +kernel) (by omega) (by omega)
          refine lv_iinc (v := x5) (lv' := [(2, .int x5), (0, .ref o), (1, .int w)]) hx hb dX12_keyOf_47 hl (k := 0) rfl (by rw [ex5]; rfl) (by decide +kernel) rfl (fun ls hl => ?_)
          refine lv_goto (tgt := 2) hx hb dX12_keyOf_50 (by decide +kernel) ?_
          exact ih1 x5 (show 0 ≤ x5.toInt ∧ x5.toInt ≤ 200 from by have h50 : x5.toInt = (y1_2.toInt + 1) := tx5; omega) (show ∀ s : Nat, (s : Int) < x5.toInt → ¬ KB (c 9) (c 11) (c 13) w.toInt s from fs_go hz1_0 (by omega) (by unfold KB; omega) tx5) (by have h50 : x5.toInt = (y1_2.toInt + 1) := tx5; omega) _ _ _ hP hS (lv_sub hl [0, 1, 2] rfl)
        · have f4 := mt (ti_eq (a := x3.toInt) (b := 0) rfl (by decide +kernel)).mpr c4
          refine lv_aload_n hx hb dX12_keyOf_19 rfl (lv_at hl 1 rfl) ?_
          refine mget_9 hx hb hts (fun _ h => List.mem_cons_of_mem _ (List.mem_append_right _ h)) hown hK hP (hts (.fieldLink RX12 25 "TalePlayModel" "form" "[I") (List.mem_cons_of_mem _ (List.mem_append_left _ (List.mem_of_getElem? (i := 2) rfl)))) dX12_keyOf_20 ?_
          refine lv_iload_n hx hb dX12_keyOf_23 rfl (lv_at hl 0 rfl) ?_
          refine mld_9 hx hb hK hP (vp_in_iff.mpr (by have h9 : y1_2.toInt = y1_2.toInt := rfl; omega)) dX12_keyOf_24 (fun x6 ex6 => ?_)
          have rx6 : 0 ≤ x6.toInt ∧ x6.toInt ≤ 7 := by rw [ex6]; exact hI.2 9 _
          have gx6 : (c 9 (y1_2 : Int32).toNatClampNeg).toInt = x6.toInt := by rw [ex6]
          refine lv_bipush (v := 7) hx hb dX12_keyOf_25 (by decide +kernel) ?_
          refine lv_icmp_ne (tgt := 47) hx hb dX12_keyOf_27 (by decide +kernel) (fun c7 => ?_) (fun c7 => ?_)
          · have f7 := mt (ti_eq (a := x6.toInt) (b := 7) rfl (by decide +kernel)).mpr c7
            obtain ⟨x8, ex8⟩ : ∃ y : Int32, y = y1_2 + 1 := ⟨_, rfl⟩
            have tx8 := ti_add (a := y1_2.toInt) (b := 1) ex8 rfl (by decide +kernel) (by omega) (by omega)
            refine lv_iinc (v := x8) (lv' := [(2, .int x8), (0, .ref o), (1, .int w)]) hx hb dX12_keyOf_47 hl (k := 0) rfl (by rw [ex8]; rfl) (by decide +kernel) rfl (fun ls hl => ?_)
            refine lv_goto (tgt := 2) hx hb dX12_keyOf_50 (by decide +kernel) ?_
            exact ih1 x8 (show 0 ≤ x8.toInt ∧ x8.toInt ≤ 200 from by have h50 : x8.toInt = (y1_2.toInt + 1) := tx8; omega) (show ∀ s : Nat, (s : Int) < x8.toInt → ¬ KB (c 9) (c 11) (c 13) w.toInt s from fs_go hz1_0 (by omega) (by unfold KB; omega) tx8) (by have h50 : x8.toInt = (y1_2.toInt + 1) := tx8; omega) _ _ _ hP hS (lv_sub hl [0, 1, 2] rfl)
          · have f7 := (ti_eq (a := x6.toInt) (b := 7) rfl (by decide +kernel)).mp c7
            refine lv_aload_n hx hb dX12_keyOf_30 rfl (lv_at hl 1 rfl) ?_
            refine mget_11 hx hb hts (fun _ h => List.mem_cons_of_mem _ (List.mem_append_right _ h)) hown hK hP (hts (.fieldLink RX12 31 "TalePlayModel" "middle" "[I") (List.mem_cons_of_mem _ (List.mem_append_left _ (List.mem_of_getElem? (i := 3) rfl)))) dX12_keyOf_31 ?_
            refine lv_iload_n hx hb dX12_keyOf_34 rfl (lv_at hl 0 rfl) ?_
            refine mld_11 hx hb hK hP (vp_in_iff.mpr (by have h9 : y1_2.toInt = y1_2.toInt := rfl; omega)) dX12_keyOf_35 (fun x9 ex9 => ?_)
            have rx9 : 0 ≤ x9.toInt ∧ x9.toInt ≤ 29 := by rw [ex9]; exact hI.2 11 _
            have gx9 : (c 11 (y1_2 : Int32).toNatClampNeg).toInt = x9.toInt := by rw [ex9]
            refine lv_iload_n hx hb dX12_keyOf_36 rfl (lv_at hl 2 rfl) ?_
            refine lv_icmp_ne (tgt := 47) hx hb dX12_keyOf_37 (by decide +kernel) (fun c10 => ?_) (fun c10 => ?_)
            · have f10 := mt (ti_eq (a := x9.toInt) (b := w.toInt) rfl rfl).mpr c10
              obtain ⟨x11, ex11⟩ : ∃ y : Int32, y = y1_2 + 1 := ⟨_, rfl⟩
              have tx11 := ti_add (a := y1_2.toInt) (b := 1) ex11 rfl (by decide +kernel) (by omega) (by omega)
              refine lv_iinc (v := x11) (lv' := [(2, .int x11), (0, .ref o), (1, .int w)]) hx hb dX12_keyOf_47 hl (k := 0) rfl (by rw [ex11]; rfl) (by decide +kernel) rfl (fun ls hl => ?_)
              refine lv_goto (tgt := 2) hx hb dX12_keyOf_50 (by decide +kernel) ?_
              exact ih1 x11 (show 0 ≤ x11.toInt ∧ x11.toInt ≤ 200 from by have h50 : x11.toInt = (y1_2.toInt + 1) := tx11; omega) (show ∀ s : Nat, (s : Int) < x11.toInt → ¬ KB (c 9) (c 11) (c 13) w.toInt s from fs_go hz1_0 (by omega) (by unfold KB; omega) tx11) (by have h50 : x11.toInt = (y1_2.toInt + 1) := tx11; omega) _ _ _ hP hS (lv_sub hl [0, 1, 2] rfl)
            · have f10 := (ti_eq (a := x9.toInt) (b := w.toInt) rfl rfl).mp c10
              refine lv_aload_n hx hb dX12_keyOf_40 rfl (lv_at hl 1 rfl) ?_
              refine mget_10 hx hb hts (fun _ h => List.mem_cons_of_mem _ (List.mem_append_right _ h)) hown hK hP (hts (.fieldLink RX12 28 "TalePlayModel" "left" "[I") (List.mem_cons_of_mem _ (List.mem_append_left _ (List.mem_of_getElem? (i := 4) rfl)))) dX12_keyOf_41 ?_
              refine lv_iload_n hx hb dX12_keyOf_44 rfl (lv_at hl 0 rfl) ?_
              refine mld_10 hx hb hK hP (vp_in_iff.mpr (by have h9 : y1_2.toInt = y1_2.toInt := rfl; omega)) dX12_keyOf_45 (fun x12 ex12 => ?_)
              have rx12 : 0 ≤ x12.toInt ∧ x12.toInt ≤ 29 := by rw [ex12]; exact hI.2 10 _
              have gx12 : (c 10 (y1_2 : Int32).toNatClampNeg).toInt = x12.toInt := by rw [ex12]
              exact ro_iret hx hb hr hlocks hS dX12_keyOf_46 ⟨(show x12.toInt = -9 ∨ (0 ≤ x12.toInt ∧ x12.toInt ≤ 29) from by omega), (show x12.toInt = kyM (c 9) (c 10) (c 11) (c 13) (i 8).toInt w.toInt from by have h9 := fs_yes (n := (i 8).toInt) hz1_0 (by omega) (by omega) (show KB (c 9) (c 11) (c 13) w.toInt y1_2.toNatClampNeg by unfold KB; omega); unfold kyM; rw [if_neg (by rw [← h9]; omega), ← h9]; exact gx12.symm)⟩
  exact lp1 _ (0 : Int32) (show 0 ≤ (0 : Int32).toInt ∧ (0 : Int32).toInt ≤ 200 from by decide +kernel) (show ∀ s : Nat, (s : Int) < (0 : Int32).toInt → ¬ KB (c 9) (c 11) (c 13) w.toInt s from fs_0 (by decide +kernel)) (Nat.lt_succ_self _) _ _ _ hP hS (lv_sub hl [0, 1, 2] rfl)

