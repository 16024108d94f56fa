set_option maxHeartbeats 4000000 in
set_option maxRecDepth 100000 in
theorem s_X12_saidSo_e (l : Launch) (D : va_G) (sz : Nat) (o : Nat) (a : Nat → Nat) (t : Nat → ClassId) (i : Nat → Int32) (q : Int64) (c : Nat → Nat → Int32) (d : Nat → Nat → Int64) (f : Int32) (w1 : Int32) (w2 : Int32) (w3 : Int32) (hI : mInv i c) : Met l yX12_saidSo wm_X12_saidSo ({ frames := 0, cells := 0, slots := 0, locals := 0 }) (va_Pc [.ref o, .int f, .int w1, .int w2, .int w3] (pA D sz (mW o a t i q c d) (mT t))) (va_Qi (fun (r : Int32) (_ : Unit) => ((r.toInt = -9 ∨ (0 ≤ r.toInt ∧ r.toInt ≤ 199)) ∧ (r.toInt = fsF (sE (c 9) (c 10) (c 11) (c 12) (c 13) f.toInt w1.toInt w2.toInt w3.toInt) (i 8).toInt.toNat))) oA (ro sz)) 0 0 (ro sz) := by
  refine Met.ofW (cc := cX12_saidSo) (maxL := 6) (ret := (some .int)) (by decide +kernel) rfl ?_
  intro p e s m args below meth cd s₁ B hml hv
  obtain ⟨rfl, hsz, hP, hK⟩ := hv
  have hx := B.exec
  have hb := B.bytes
  have hr := B.returns
  have hts := atoms_spec (ws := wm_X12_saidSo) B.pre
  have hown : s.vm.findClass RX12 = some m.cls := findClass_of_methodNamed B.named
  have hlocks := B.notSynchronized
  subst hsz
  have hA : ∀ q : Nat, s.heap.size ≤ q → ro s.heap.size q := fun _ h => h
  have hS : va_S (ro s.heap.size) s.heap s.heap [] := va_S.rf
  have hl := lv_entry ([.ref o, .int f, .int w1, .int w2, .int w3]) (n := 6) (Nat.le_of_ble_eq_true rfl)
  rw [lg_entry_eq]
  generalize (lg_sl ([.ref o, .int f, .int w1, .int w2, .int w3]) ++ List.replicate (6 - (lg_sl ([.ref o, .int f, .int w1, .int w2, .int w3])).length) Slot.unset).toArray = ls at hl ⊢
  have hl : lv_has ls 6 [(0, .ref o), (1, .int f), (2, .int w1), (3, .int w2), (4, .int w3)] := hl
  refine lv_iconst (v := 0) hx hb dX12_saidSo_0 (by decide +kernel) ?_
  refine lv_istore (lv' := [(5, .int 0), (0, .ref o), (1, .int f), (2, .int w1), (3, .int w2), (4, .int w3)]) hx hb dX12_saidSo_1 hl (by decide +kernel) rfl (fun ls hl => ?_)
  have lp1 : ∀ (fu : Nat) (y1_5 : Int32), (0 ≤ y1_5.toInt ∧ y1_5.toInt ≤ 200) → (∀ s : Nat, (s : Int) < y1_5.toInt → ¬ sE (c 9) (c 10) (c 11) (c 12) (c 13) f.toInt w1.toInt w2.toInt w3.toInt s) → (200 - y1_5.toInt).toNat < fu → ∀ (H : Heap) (locs : List Loc) (ls : Array Slot), va_P D vwCl (mW o a t i q c d) H → va_S (ro s.heap.size) s.heap H locs → lv_has ls 6 [(5, .int y1_5), (0, .ref o), (1, .int f), (2, .int w1), (3, .int w2), (4, .int w3)] → W p l e (headSpec wm_X12_saidSo ({ frames := 0, cells := 0, slots := 0, locals := 0 })).room s m ([.ref o, .int f, .int w1, .int w2, .int w3] : List Value).toArray below meth cd H locs 0 0 (MQ below (va_Qi (fun (r : Int32) (_ : Unit) => ((r.toInt = -9 ∨ (0 ≤ r.toInt ∧ r.toInt ≤ 199)) ∧ (r.toInt = fsF (sE (c 9) (c 10) (c 11) (c 12) (c 13) f.toInt w1.toInt w2.toInt w3.toInt) (i 8).toInt.toNat))) oA (ro s.heap.size)) ([.ref o, .int f, .int w1, .int w2, .int w3] : List Value).toArray s 0 0 (ro s.heap.size)) (F0 m 3 ls []) := by
    intro fu
    induction fu with
    | zero => intro y1_5 hy1_5 hz1_0 hm; exact absurd hm (Nat.not_lt_zero _)
    | succ fu ih =>
      intro y1_5 hy1_5 hz1_0 hm H locs ls hP hS hl
      have ih1 := ih
      refine lv_iload hx hb dX12_saidSo_3 (lv_at hl 0 rfl) ?_
      refine lv_aload_n hx hb dX12_saidSo_5 rfl (lv_at hl 1 rfl) ?_
      refine mget_8 (v := (i 8)) rfl hx hb hts (fun _ h => List.mem_cons_of_mem _ (List.mem_append_right _ h)) hown hK hP (hts (.fieldLink RX12 202 "TalePlayModel" "sentences" "I") (List.mem_cons_of_mem _ (List.mem_append_left _ (List.mem_of_getElem? (i := 0) rfl)))) dX12_saidSo_6 ?_
      have rb8_i : 0 ≤ (i 8).toInt ∧ (i 8).toInt ≤ 200 := hI.1 8
      refine lv_icmp_ge (tgt := 76) hx hb dX12_saidSo_9 (by decide +kernel) (fun c2 => ?_) (fun c2 => ?_)
      · have f2 := (ti_le (a := (i 8).toInt) (b := y1_5.toInt) rfl rfl).mp c2
        refine lv_bipush (v := (-9)) hx hb dX12_saidSo_76 (by decide +kernel) ?_
        exact ro_iret hx hb hr hlocks hS dX12_saidSo_78 ⟨(show ((-9) : Int32).toInt = -9 ∨ (0 ≤ ((-9) : Int32).toInt ∧ ((-9) : Int32).toInt ≤ 199) from by have h9 : ((-9) : Int32).toInt = -9 := (by decide +kernel); omega), (show ((-9) : Int32).toInt = fsF (sE (c 9) (c 10) (c 11) (c 12) (c 13) f.toInt w1.toInt w2.toInt w3.toInt) (i 8).toInt.toNat from by rw [show ((-9) : Int32).toInt = -9 by decide]; exact fs_no hz1_0 (by omega))⟩
      · have f2 := mt (ti_le (a := (i 8).toInt) (b := y1_5.toInt) rfl rfl).mpr c2
        refine lv_aload_n hx hb dX12_saidSo_12 rfl (lv_at hl 1 rfl) ?_
        refine mget_13 hx hb hts (fun _ h => List.mem_cons_of_mem _ (List.mem_append_right _ h)) hown hK hP (hts (.fieldLink RX12 37 "TalePlayModel" "isSaid" "[Z") (List.mem_cons_of_mem _ (List.mem_append_left _ (List.mem_of_getElem? (i := 1) rfl)))) dX12_saidSo_13 ?_
        refine lv_iload hx hb dX12_saidSo_16 (lv_at hl 0 rfl) ?_
        refine mld_13 hx hb hK hP (vp_in_iff.mpr (by have h9 : y1_5.toInt = y1_5.toInt := rfl; omega)) dX12_saidSo_18 (fun x3 ex3 => ?_)
        have rx3 : 0 ≤ x3.toInt ∧ x3.toInt ≤ 1 := by rw [ex3]; exact hI.2 13 _
        have gx3 : (c 13 (y1_5 : Int32).toNatClampNeg).toInt = x3.toInt := by rw [ex3]
        have jn4 : (¬ sE (c 9) (c 10) (c 11) (c 12) (c 13) f.toInt w1.toInt w2.toInt w3.toInt y1_5.toNatClampNeg) → ∀ (H : Heap) (locs : List Loc) (ls : Array Slot), va_P D vwCl (mW o a t i q c d) H → va_S (ro s.heap.size) s.heap H locs → lv_has ls 6 [(5, .int y1_5), (0, .ref o), (1, .int f), (2, .int w1), (3, .int w2), (4, .int w3)] → W p l e (headSpec wm_X12_saidSo ({ frames := 0, cells := 0, slots := 0, locals := 0 })).room s m ([.ref o, .int f, .int w1, .int w2, .int w3] : List Value).toArray below meth cd H locs 0 0 (MQ below (va_Qi (fun (r : Int32) (_ : Unit) => ((r.toInt = -9 ∨ (0 ≤ r.toInt ∧ r.toInt ≤ 199)) ∧ (r.toInt = fsF (sE (c 9) (c 10) (c 11) (c 12) (c 13) f.toInt w1.toInt w2.toInt w3.toInt) (i 8).toInt.toNat))) oA (ro s.heap.size)) ([.ref o, .int f, .int w1, .int w2, .int w3] : List Value).toArray s 0 0 (ro s.heap.size)) (F0 m 70 ls []) := by
          intro hz4_0 H locs ls hP hS hl
          obtain ⟨x5, ex5⟩ : ∃ y : Int32, y = y1_5 + 1 := ⟨_, rfl⟩
          have tx5 := ti_add (a := y1_5.toInt) (b := 1) ex5 rfl (by decide +kernel) (by omega) (by omega)
          refine lv_iinc (v := x5) (lv' := [(5, .int x5), (0, .ref o), (1, .int f), (2, .int w1), (3, .int w2), (4, .int w3)]) hx hb dX12_saidSo_70 hl (k := 0) rfl (by rw [ex5]; rfl) (by decide +kernel) rfl (fun ls hl => ?_)
          refine lv_goto (tgt := 3) hx hb dX12_saidSo_73 (by decide +kernel) ?_
          exact ih1 x5 (show 0 ≤ x5.toInt ∧ x5.toInt ≤ 200 from by have h50 : x5.toInt = (y1_5.toInt + 1) := tx5; omega) (show ∀ s : Nat, (s : Int) < x5.toInt → ¬ sE (c 9) (c 10) (c 11) (c 12) (c 13) f.toInt w1.toInt w2.toInt w3.toInt s from fs_go hz1_0 (by omega) hz4_0 tx5) (by have h50 : x5.toInt = (y1_5.toInt + 1) := tx5; omega) _ _ _ hP hS (lv_sub hl [0, 1, 2, 3, 4, 5] rfl)
        refine lv_if_eq (tgt := 70) hx hb dX12_saidSo_19 (by decide +kernel) (fun c6 => ?_) (fun c6 => ?_)
        · have f6 := (ti_eq (a := x3.toInt) (b := 0) rfl (by decide +kernel)).mp c6
          exact jn4   (show ¬ sE (c 9) (c 10) (c 11) (c 12) (c 13) f.toInt w1.toInt w2.toInt w3.toInt y1_5.toNatClampNeg from by first | omega | (unfold sE; omega)) _ _ _ hP hS (lv_sub hl [0, 1, 2, 3, 4, 5] rfl)
        · have f6 := mt (ti_eq (a := x3.toInt) (b := 0) rfl (by decide +kernel)).mpr c6
          refine lv_aload_n hx hb dX12_saidSo_22 rfl (lv_at hl 1 rfl) ?_
          refine mget_9 hx hb hts (fun _ h => List.mem_cons_of_mem _ (List.mem_append_right _ h)) hown hK hP (hts (.fieldLink RX12 25 "TalePlayModel" "form" "[I") (List.mem_cons_of_mem _ (List.mem_append_left _ (List.mem_of_getElem? (i := 2) rfl)))) dX12_saidSo_23 ?_
          refine lv_iload hx hb dX12_saidSo_26 (lv_at hl 0 rfl) ?_
          refine mld_9 hx hb hK hP (vp_in_iff.mpr (by have h9 : y1_5.toInt = y1_5.toInt := rfl; omega)) dX12_saidSo_28 (fun x7 ex7 => ?_)
          have rx7 : 0 ≤ x7.toInt ∧ x7.toInt ≤ 7 := by rw [ex7]; exact hI.2 9 _
          have gx7 : (c 9 (y1_5 : Int32).toNatClampNeg).toInt = x7.toInt := by rw [ex7]
          refine lv_iload_n hx hb dX12_saidSo_29 rfl (lv_at hl 2 rfl) ?_
          refine lv_icmp_ne (tgt := 70) hx hb dX12_saidSo_30 (by decide +kernel) (fun c8 => ?_) (fun c8 => ?_)
          · have f8 := mt (ti_eq (a := x7.toInt) (b := f.toInt) rfl rfl).mpr c8
            exact jn4   (show ¬ sE (c 9) (c 10) (c 11) (c 12) (c 13) f.toInt w1.toInt w2.toInt w3.toInt y1_5.toNatClampNeg from by first | omega | (unfold sE; omega)) _ _ _ hP hS (lv_sub hl [0, 1, 2, 3, 4, 5] rfl)
          · have f8 := (ti_eq (a := x7.toInt) (b := f.toInt) rfl rfl).mp c8
            refine lv_aload_n hx hb dX12_saidSo_33 rfl (lv_at hl 1 rfl) ?_
            refine mget_10 hx hb hts (fun _ h => List.mem_cons_of_mem _ (List.mem_append_right _ h)) hown hK hP (hts (.fieldLink RX12 28 "TalePlayModel" "left" "[I") (List.mem_cons_of_mem _ (List.mem_append_left _ (List.mem_of_getElem? (i := 3) rfl)))) dX12_saidSo_34 ?_
            refine lv_iload hx hb dX12_saidSo_37 (lv_at hl 0 rfl) ?_
            refine mld_10 hx hb hK hP (vp_in_iff.mpr (by have h9 : y1_5.toInt = y1_5.toInt := rfl; omega)) dX12_saidSo_39 (fun x9 ex9 => ?_)
            have rx9 : 0 ≤ x9.toInt ∧ x9.toInt ≤ 29 := by rw [ex9]; exact hI.2 10 _
            have gx9 : (c 10 (y1_5 : Int32).toNatClampNeg).toInt = x9.toInt := by rw [ex9]
            refine lv_iload_n hx hb dX12_saidSo_40 rfl (lv_at hl 3 rfl) ?_
            refine lv_icmp_ne (tgt := 70) hx hb dX12_saidSo_41 (by decide +kernel) (fun c10 => ?_) (fun c10 => ?_)
            · have f10 := mt (ti_eq (a := x9.toInt) (b := w1.toInt) rfl rfl).mpr c10
              exact jn4   (show ¬ sE (c 9) (c 10) (c 11) (c 12) (c 13) f.toInt w1.toInt w2.toInt w3.toInt y1_5.toNatClampNeg from by first | omega | (unfold sE; omega)) _ _ _ hP hS (lv_sub hl [0, 1, 2, 3, 4, 5] rfl)
            · have f10 := (ti_eq (a := x9.toInt) (b := w1.toInt) rfl rfl).mp c10
              refine lv_aload_n hx hb dX12_saidSo_44 rfl (lv_at hl 1 rfl) ?_
              refine mget_11 hx hb hts (fun _ h => List.mem_cons_of_mem _ (List.mem_append_right _ h)) hown hK hP (hts (.fieldLink RX12 31 "TalePlayModel" "middle" "[I") (List.mem_cons_of_mem _ (List.mem_append_left _ (List.mem_of_getElem? (i := 4) rfl)))) dX12_saidSo_45 ?_
              refine lv_iload hx hb dX12_saidSo_48 (lv_at hl 0 rfl) ?_
              refine mld_11 hx hb hK hP (vp_in_iff.mpr (by have h9 : y1_5.toInt = y1_5.toInt := rfl; omega)) dX12_saidSo_50 (fun x11 ex11 => ?_)
              have rx11 : 0 ≤ x11.toInt ∧ x11.toInt ≤ 29 := by rw [ex11]; exact hI.2 11 _
              have gx11 : (c 11 (y1_5 : Int32).toNatClampNeg).toInt = x11.toInt := by rw [ex11]
              refine lv_iload_n hx hb dX12_saidSo_51 rfl (lv_at hl 4 rfl) ?_
              refine lv_icmp_ne (tgt := 70) hx hb dX12_saidSo_52 (by decide +kernel) (fun c12 => ?_) (fun c12 => ?_)
              · have f12 := mt (ti_eq (a := x11.toInt) (b := w2.toInt) rfl rfl).mpr c12
                exact jn4   (show ¬ sE (c 9) (c 10) (c 11) (c 12) (c 13) f.toInt w1.toInt w2.toInt w3.toInt y1_5.toNatClampNeg from by first | omega | (unfold sE; omega)) _ _ _ hP hS (lv_sub hl [0, 1, 2, 3, 4, 5] rfl)
              · have f12 := (ti_eq (a := x11.toInt) (b := w2.toInt) rfl rfl).mp c12
                refine lv_aload_n hx hb dX12_saidSo_55 rfl (lv_at hl 1 rfl) ?_
                refine mget_12 hx hb hts (fun _ h => List.mem_cons_of_mem _ (List.mem_append_right _ h)) hown hK hP (hts (.fieldLink RX12 34 "TalePlayModel" "right" "[I") (List.mem_cons_of_mem _ (List.mem_append_left _ (List.mem_of_getElem? (i := 5) rfl)))) dX12_saidSo_56 ?_
                refine lv_iload hx hb dX12_saidSo_59 (lv_at hl 0 rfl) ?_
                refine mld_12 hx hb hK hP (vp_in_iff.mpr (by have h9 : y1_5.toInt = y1_5.toInt := rfl; omega)) dX12_saidSo_61 (fun x13 ex13 => ?_)
                have rx13 : 0 ≤ x13.toInt ∧ x13.toInt ≤ 9 := by rw [ex13]; exact hI.2 12 _
                have gx13 : (c 12 (y1_5 : Int32).toNatClampNeg).toInt = x13.toInt := by rw [ex13]
                refine lv_iload hx hb dX12_saidSo_62 (lv_at hl 5 rfl) ?_
                refine lv_icmp_ne (tgt := 70) hx hb dX12_saidSo_64 (by decide +kernel) (fun c14 => ?_) (fun c14 => ?_)
                · have f14 := mt (ti_eq (a := x13.toInt) (b := w3.toInt) rfl rfl).mpr c14
                  exact jn4   (show ¬ sE (c 9) (c 10) (c 11) (c 12) (c 13) f.toInt w1.toInt w2.toInt w3.toInt y1_5.toNatClampNeg from by first | omega | (unfold sE; omega)) _ _ _ hP hS (lv_sub hl [0, 1, 2, 3, 4, 5] rfl)
                · have f14 := (ti_eq (a := x13.toInt) (b := w3.toInt) rfl rfl).mp c14
                  refine lv_iload hx hb dX12_saidSo_67 (lv_at hl 0 rfl) ?_
                  exact ro_iret hx hb hr hlocks hS dX12_saidSo_69 ⟨(show y1_5.toInt = -9 ∨ (0 ≤ y1_5.toInt ∧ y1_5.toInt ≤ 199) from by omega), (show y1_5.toInt = fsF (sE (c 9) (c 10) (c 11) (c 12) (c 13) f.toInt w1.toInt w2.toInt w3.toInt) (i 8).toInt.toNat from fs_yes hz1_0 (by omega) (by omega) (by unfold sE; omega))⟩
  exact lp1 _ (0 : Int32) (show 0 ≤ (0 : Int32).toInt ∧ (0 : Int32).toInt ≤ 200 from by have h50 : (0 : Int32).toInt = 0 := (by decide +kernel); omega) (show ∀ s : Nat, (s : Int) < (0 : Int32).toInt → ¬ sE (c 9) (c 10) (c 11) (c 12) (c 13) f.toInt w1.toInt w2.toInt w3.toInt s from fs_0 (by decide +kernel)) (Nat.lt_succ_self _) _ _ _ hP hS (lv_sub hl [0, 1, 2, 3, 4, 5] rfl)

set_option maxHeartbeats 4000000 in
set_option maxRecDepth 100000 in
theorem s_X12_isPlaceBarred_e (l : Launch) (D : va_G) (sz : Nat) (o : Nat) (a : Nat → Nat) (t : Nat → ClassId) (i : Nat → Int32) (q : Int64) (c : Nat → Nat → Int32) (d : Nat → Nat → Int64) (f : Int32) (w1 : Int32) (w2 : Int32) (hI : mInv i c) (hw1 : 0 ≤ w1.toInt ∧ w1.toInt ≤ 29) (hw2 : 0 ≤ w2.toInt ∧ w2.toInt ≤ 29) (hrm : (i 15).toInt = 0) (hs_S : SJ (c 3) (c 6) (c 9) (c 10) (c 11) (c 13) (i 2).toInt (i 5).toInt (i 8).toInt) : Met l yX12_isPlaceBarred wm_X12_isPlaceBarred ({ frames := 1, cells := 0, slots := 0, locals := 25 }) (va_Pc [.ref o, .int f, .int w1, .int w2] (pB D sz (mW o a t i q c d) (mT t))) (va_Qi (fun (r : Int32) (u : MS) => ((0 ≤ r.toInt ∧ r.toInt ≤ 1) ∧ (Sm r (PbM (c 9) (c 10) (c 11) (c 12) (c 13) (i 8).toInt f.toInt w1.toInt w2.toInt))) ∧ mInv u.1 u.2.2.1 ∧ (∀ k, k ∉ ([15] : List Nat) → u.1 k = i k) ∧ (∀ k, k ∉ ([14] : List Nat) → u.2.2.1 k = c k)) (oC D (va_A (mW o a t i q c d) sz) (fun u : MS => mW o a t u.1 u.2.1 u.2.2.1 u.2.2.2) (fun _ => [])) (va_A (mW o a t i q c d) sz)) 0 0 (va_A (mW o a t i q c d) sz) := by
  refine Met.ofW (cc := cX12_isPlaceBarred) (maxL := 7) (ret := (some .boolean)) (by decide +kernel) rfl ?_
  intro p e s m args below meth cd s₁ B hml hv
  obtain ⟨rfl, hsz, hP, hK, hD0⟩ := hv
  have hx := B.exec
  have hb := B.bytes
  have hr := B.returns
  have hts := atoms_spec (ws := wm_X12_isPlaceBarred) B.pre
  have hown : s.vm.findClass RX12 = some m.cls := findClass_of_methodNamed B.named
  have hlocks := B.notSynchronized
  subst hsz
  have hD := hD0.self (sz := s.heap.size)
  generalize hAe : va_A (mW o a t i q c d) s.heap.size = A at hD ⊢
  have hA : ∀ q : Nat, s.heap.size ≤ q → A q := fun q h => by rw [← hAe]; exact Or.inr h
  have hS : va_S A s.heap s.heap [] := va_S.rf
  have hfi : ∀ k, k ∉ ([] : List Nat) → i k = i k := fun _ _ => rfl
  have hfc : ∀ k, k ∉ ([] : List Nat) → c k = c k := fun _ _ => rfl
  have hl := lv_entry ([.ref o, .int f, .int w1, .int w2]) (n := 7) (Nat.le_of_ble_eq_true rfl)
  rw [lg_entry_eq]
  generalize (lg_sl ([.ref o, .int f, .int w1, .int w2]) ++ List.replicate (7 - (lg_sl ([.ref o, .int f, .int w1, .int w2])).length) Slot.unset).toArray = ls at hl ⊢
  have hl : lv_has ls 7 [(0, .ref o), (1, .int f), (2, .int w1), (3, .int w2)] := hl
  obtain ⟨rk, hrk⟩ := hs_S.2.2.2
  have hr0 := hrk.1 w2.toInt
  refine lv_aload_n hx hb dX12_isPlaceBarred_0 rfl (lv_at hl 0 rfl) ?_
  refine lv_iload_n hx hb dX12_isPlaceBarred_1 rfl (lv_at hl 2 rfl) ?_
  have rb8_i : 0 ≤ (i 8).toInt ∧ (i 8).toInt ≤ 200 := hI.1 8
  refine ro_calli (va_runV (As := [.int w1]) (rest := []) ⟨hx, hb, hml, hown, hts⟩ (s_X12_placing l D s.heap.size o a t i q c d w1 hI ) (cwV 1 hts gm_X12_isPlaceBarred_X12_placing rfl rfl rfl (by decide +kernel) ⟨Nat.le_of_ble_eq_true rfl, Nat.le_of_ble_eq_true rfl⟩) (pA_V hK hP (ci := 12) (q0 := 0) rfl rfl) rfl rfl hl.1 rfl (lv_room (Nat.le_of_ble_eq_true rfl)) dX12_isPlaceBarred_2 ⟨Nat.le_of_ble_eq_true rfl, Nat.le_of_ble_eq_true rfl⟩) hS hA hP (fun r1 u1 H locs hw1 hP hS => ?_)
  have hw1 : ((r1.toInt = -9 ∨ (0 ≤ r1.toInt ∧ r1.toInt ≤ 199)) ∧ (r1.toInt = pL (c 9) (c 10) (c 13) (i 8).toInt w1.toInt)) := hw1
  obtain ⟨hw1, hr1_0⟩ := hw1
  have hr1_0 : r1.toInt = pL (c 9) (c 10) (c 13) (i 8).toInt w1.toInt := hr1_0
  refine lv_istore (lv' := [(4, .int r1), (0, .ref o), (1, .int f), (2, .int w1), (3, .int w2)]) hx hb dX12_isPlaceBarred_5 hl (by decide +kernel) rfl (fun ls hl => ?_)
  refine lv_iload hx hb dX12_isPlaceBarred_7 (lv_at hl 0 rfl) ?_
  refine lv_bipush (v := (-9)) hx hb dX12_isPlaceBarred_9 (by decide +kernel) ?_
  refine lv_icmp_eq (tgt := 22) hx hb dX12_isPlaceBarred_11 (by decide +kernel) (fun c2 => ?_) (fun c2 => ?_)
  · have f2 := (ti_eq (a := r1.toInt) (b := (-9)) rfl (by decide +kernel)).mp c2
    refine lv_iload_n hx hb dX12_isPlaceBarred_22 rfl (lv_at hl 4 rfl) ?_
    refine lv_istore (lv' := [(5, .int w2), (4, .int r1), (0, .ref o), (1, .int f), (2, .int w1), (3, .int w2)]) hx hb dX12_isPlaceBarred_23 hl (by decide +kernel) rfl (fun ls hl => ?_)
    have lp3 : ∀ (fu : Nat) (i3 : Nat → Int32) (q3 : Int64) (c3 : Nat → Nat → Int32) (d3 : Nat → Nat → Int64) (y3_5 : Int32), mInv i3 c3 → (∀ k, k ∉ ([15] : List Nat) → i3 k = i k) → (∀ k, k ∉ ([14] : List Nat) → c3 k = c k) → (0 ≤ y3_5.toInt ∧ y3_5.toInt ≤ 29) → (((i3 15) : Int32).toInt + (rk y3_5.toInt : Int) ≤ 29) → (Ch (fP (c 9) (c 10) (c 11) (c 13) (i 8).toInt) w2.toInt w1.toInt ↔ Ch (fP (c 9) (c 10) (c 11) (c 13) (i 8).toInt) y3_5.toInt w1.toInt) → rk y3_5.toInt < fu → ∀ (H : Heap) (locs : List Loc) (ls : Array Slot), va_P D vwCl (mW o a t i3 q3 c3 d3) H → va_D A (mW o a t i3 q3 c3 d3) → va_S A s.heap H locs → lv_has ls 7 [(5, .int y3_5), (4, .int r1), (0, .ref o), (1, .int f), (2, .int w1), (3, .int w2)] → W p l e (headSpec wm_X12_isPlaceBarred ({ frames := 1, cells := 0, slots := 0, locals := 25 })).room s m ([.ref o, .int f, .int w1, .int w2] : List Value).toArray below meth cd H locs 0 0 (MQ below (va_Qi (fun (r : Int32) (u : MS) => ((0 ≤ r.toInt ∧ r.toInt ≤ 1) ∧ (Sm r (PbM (c 9) (c 10) (c 11) (c 12) (c 13) (i 8).toInt f.toInt w1.toInt w2.toInt))) ∧ mInv u.1 u.2.2.1 ∧ (∀ k, k ∉ ([15] : List Nat) → u.1 k = i k) ∧ (∀ k, k ∉ ([14] : List Nat) → u.2.2.1 k = c k)) (oC D A (fun u : MS => mW o a t u.1 u.2.1 u.2.2.1 u.2.2.2) (fun _ => [])) A) ([.ref o, .int f, .int w1, .int w2] : List Value).toArray s 0 0 A) (F0 m 25 ls []) := by
      intro fu
      induction fu with
      | zero => intro i3 q3 c3 d3 y3_5 hI hfi hfc hy3_5 hz3_0 hz3_1 hm; exact absurd hm (Nat.not_lt_zero _)
      | succ fu ih =>
        intro i3 q3 c3 d3 y3_5 hI hfi hfc hy3_5 hz3_0 hz3_1 hm H locs ls hP hD hS hl
        have ih3 := ih
        refine lv_iload hx hb dX12_isPlaceBarred_25 (lv_at hl 0 rfl) ?_
        refine lv_iload_n hx hb dX12_isPlaceBarred_27 rfl (lv_at hl 4 rfl) ?_
        have jn4 : (y3_5.toInt = w1.toInt ∨ pL (c 9) (c 10) (c 13) (i 8).toInt y3_5.toInt = -9) → ∀ (H : Heap) (locs : List Loc) (ls : Array Slot), va_P D vwCl (mW o a t i3 q3 c3 d3) H → va_D A (mW o a t i3 q3 c3 d3) → va_S A s.heap H locs → lv_has ls 7 [(5, .int y3_5), (4, .int r1), (0, .ref o), (1, .int f), (2, .int w1), (3, .int w2)] → W p l e (headSpec wm_X12_isPlaceBarred ({ frames := 1, cells := 0, slots := 0, locals := 25 })).room s m ([.ref o, .int f, .int w1, .int w2] : List Value).toArray below meth cd H locs 0 0 (MQ below (va_Qi (fun (r : Int32) (u : MS) => ((0 ≤ r.toInt ∧ r.toInt ≤ 1) ∧ (Sm r (PbM (c 9) (c 10) (c 11) (c 12) (c 13) (i 8).toInt f.toInt w1.toInt w2.toInt))) ∧ mInv u.1 u.2.2.1 ∧ (∀ k, k ∉ ([15] : List Nat) → u.1 k = i k) ∧ (∀ k, k ∉ ([14] : List Nat) → u.2.2.1 k = c k)) (oC D A (fun u : MS => mW o a t u.1 u.2.1 u.2.2.1 u.2.2.2) (fun _ => [])) A) ([.ref o, .int f, .int w1, .int w2] : List Value).toArray s 0 0 A) (F0 m 68 ls []) := by
          intro hz4_0 H locs ls hP hD hS hl
          refine lv_iload hx hb dX12_isPlaceBarred_68 (lv_at hl 0 rfl) ?_
          refine lv_iload_n hx hb dX12_isPlaceBarred_70 rfl (lv_at hl 4 rfl) ?_
          refine lv_icmp_ne (tgt := 76) hx hb dX12_isPlaceBarred_71 (by decide +kernel) (fun c5 => ?_) (fun c5 => ?_)
          · have f5 := mt (ti_eq (a := y3_5.toInt) (b := w1.toInt) rfl rfl).mpr c5
            refine lv_aload_n hx hb dX12_isPlaceBarred_76 rfl (lv_at hl 2 rfl) ?_
            refine lv_iconst (v := 0) hx hb dX12_isPlaceBarred_77 (by decide +kernel) ?_
            refine mput_15 hx hb hts (fun _ h => List.mem_cons_of_mem _ (List.mem_append_right _ h)) hown hK hP hD hS (hts (.fieldLink RX12 205 "TalePlayModel" "rowMany" "I") (List.mem_cons_of_mem _ (List.mem_append_left _ (List.mem_append_left _ (List.mem_of_getElem? (i := 9) rfl))))) rfl rfl dX12_isPlaceBarred_78 (fun H locs hP hD hS => ?_)
            have hI := mInv_i hI (k := 15) (v := 0) (show 0 ≤ (0 : Int32).toInt ∧ (0 : Int32).toInt ≤ 200 from by have h9 : (0 : Int32).toInt = 0 := (by decide +kernel); omega)
            have hfi := fr_i hfi (k := 15) (v := 0) (by decide +kernel)
            refine lv_iload_n hx hb dX12_isPlaceBarred_81 rfl (lv_at hl 3 rfl) ?_
            refine lv_iconst (v := 3) hx hb dX12_isPlaceBarred_82 (by decide +kernel) ?_
            refine lv_icmp_ne (tgt := 98) hx hb dX12_isPlaceBarred_83 (by decide +kernel) (fun c6 => ?_) (fun c6 => ?_)
            · have f6 := mt (ti_eq (a := f.toInt) (b := 3) rfl (by decide +kernel)).mpr c6
              refine lv_bipush (v := (-9)) hx hb dX12_isPlaceBarred_98 (by decide +kernel) ?_
              refine lv_istore (lv' := [(6, .int (-9)), (5, .int y3_5), (4, .int r1), (0, .ref o), (1, .int f), (2, .int w1), (3, .int w2)]) hx hb dX12_isPlaceBarred_100 hl (by decide +kernel) rfl (fun ls hl => ?_)
              refine lv_iload hx hb dX12_isPlaceBarred_102 (lv_at hl 0 rfl) ?_
              refine lv_bipush (v := (-9)) hx hb dX12_isPlaceBarred_104 (by decide +kernel) ?_
              refine lv_icmp_eq (tgt := 115) hx hb dX12_isPlaceBarred_106 (by decide +kernel) (fun _ => ?_) (fun q9 => absurd (by decide +kernel) q9)
              refine lv_iload hx hb dX12_isPlaceBarred_115 (lv_at hl 0 rfl) ?_
              refine lv_bipush (v := (-9)) hx hb dX12_isPlaceBarred_117 (by decide +kernel) ?_
              refine lv_icmp_eq (tgt := 126) hx hb dX12_isPlaceBarred_119 (by decide +kernel) (fun _ => ?_) (fun q9 => absurd (by decide +kernel) q9)
              refine lv_iconst (v := 0) hx hb dX12_isPlaceBarred_126 (by decide +kernel) ?_
              exact rw_zret ((upd i3 15 0), q3, c3, d3) hx hb hr hlocks hS (hK.sub (tys' := []) [] rfl) hP hD rfl dX12_isPlaceBarred_127 ⟨⟨(show 0 ≤ (0 : Int32).toInt ∧ (0 : Int32).toInt ≤ 1 from by have h9 : (0 : Int32).toInt = 0 := (by decide +kernel); omega), (show Sm (0 : Int32) (PbM (c 9) (c 10) (c 11) (c 12) (c 13) (i 8).toInt f.toInt w1.toInt w2.toInt) from by first | (exfalso; omega; done) | exact sm_0 (fun h9 => by rcases h9 with h9 | h9 | h9; (· omega); (· have h7 := (Ch_nx (f := fP (c 9) (c 10) (c 11) (c 13) (i 8).toInt) (show ¬ y3_5.toInt = w1.toInt by omega)).mp (hz3_1.mp h9); rw [fP_no (by omega)] at h7; have h6 := Ch_nd fP_9 h7; omega); (· omega)))⟩, hI, fr_w hfi (by decide +kernel), fr_w hfc (by decide +kernel)⟩
            · have f6 := (ti_eq (a := f.toInt) (b := 3) rfl (by decide +kernel)).mp c6
              refine lv_aload_n hx hb dX12_isPlaceBarred_86 rfl (lv_at hl 2 rfl) ?_
              refine lv_bipush (v := 6) hx hb dX12_isPlaceBarred_87 (by decide +kernel) ?_
              refine lv_iload_n hx hb dX12_isPlaceBarred_89 rfl (lv_at hl 4 rfl) ?_
              refine lv_iconst (v := 4) hx hb dX12_isPlaceBarred_90 (by decide +kernel) ?_
              refine lv_iconst (v := 0) hx hb dX12_isPlaceBarred_91 (by decide +kernel) ?_
              have rb8_i3 : 0 ≤ (i3 8).toInt ∧ (i3 8).toInt ≤ 200 := hI.1 8
              have re8_i3 : (i3 8).toInt = (i 8).toInt := congrArg Int32.toInt (hfi 8 (by decide +kernel))
              refine ro_calli (va_runV (As := [.int 6, .int w1, .int 4, .int 0]) (rest := []) ⟨hx, hb, hml, hown, hts⟩ (s_X12_saidSo_e l D H.size o a t (upd i3 15 0) q3 c3 d3 6 w1 4 0 hI ) (cwV 4 hts gm_X12_isPlaceBarred_X12_saidSo rfl rfl rfl (by decide +kernel) ⟨Nat.le_of_ble_eq_true rfl, Nat.le_of_ble_eq_true rfl⟩) (pA_V hK hP (ci := 12) (q0 := 0) rfl rfl) rfl rfl hl.1 rfl (lv_room (Nat.le_of_ble_eq_true rfl)) dX12_isPlaceBarred_92 ⟨Nat.le_of_ble_eq_true rfl, Nat.le_of_ble_eq_true rfl⟩) hS hA hP (fun r7 u7 H locs hw7 hP hS => ?_)
              have hw7 : ((r7.toInt = -9 ∨ (0 ≤ r7.toInt ∧ r7.toInt ≤ 199)) ∧ (r7.toInt = fsF (sE (c3 9) (c3 10) (c3 11) (c3 12) (c3 13) 6 w1.toInt 4 0) ((upd i3 15 0) 8).toInt.toNat)) := hw7
              obtain ⟨hw7, hr7_0⟩ := hw7
              have hr7_0 : r7.toInt = fsF (sE (c 9) (c 10) (c 11) (c 12) (c 13) 6 w1.toInt 4 0) (i 8).toInt.toNat := by have h9 := hr7_0; rw [show c3 9 = c 9 from hfc 9 (by decide +kernel), show c3 10 = c 10 from hfc 10 (by decide +kernel), show c3 11 = c 11 from hfc 11 (by decide +kernel), show c3 12 = c 12 from hfc 12 (by decide +kernel), show c3 13 = c 13 from hfc 13 (by decide +kernel), show (upd i3 15 0) 8 = i 8 from hfi 8 (by decide +kernel)] at h9; exact h9
              refine lv_goto (tgt := 100) hx hb dX12_isPlaceBarred_95 (by decide +kernel) ?_
              refine lv_istore (lv' := [(6, .int r7), (5, .int y3_5), (4, .int r1), (0, .ref o), (1, .int f), (2, .int w1), (3, .int w2)]) hx hb dX12_isPlaceBarred_100 hl (by decide +kernel) rfl (fun ls hl => ?_)
              refine lv_iload hx hb dX12_isPlaceBarred_102 (lv_at hl 0 rfl) ?_
              refine lv_bipush (v := (-9)) hx hb dX12_isPlaceBarred_104 (by decide +kernel) ?_
              refine lv_icmp_eq (tgt := 115) hx hb dX12_isPlaceBarred_106 (by decide +kernel) (fun c8 => ?_) (fun c8 => ?_)
              · have f8 := (ti_eq (a := r7.toInt) (b := (-9)) rfl (by decide +kernel)).mp c8
                refine lv_iload hx hb dX12_isPlaceBarred_115 (lv_at hl 0 rfl) ?_
                refine lv_bipush (v := (-9)) hx hb dX12_isPlaceBarred_117 (by decide +kernel) ?_
                refine lv_icmp_eq (tgt := 126) hx hb dX12_isPlaceBarred_119 (by decide +kernel) (fun c9 => ?_) (fun c9 => ?_)
                · have f9 := (ti_eq (a := r7.toInt) (b := (-9)) rfl (by decide +kernel)).mp c9
                  refine lv_iconst (v := 0) hx hb dX12_isPlaceBarred_126 (by decide +kernel) ?_
                  exact rw_zret ((upd i3 15 0), q3, c3, d3) hx hb hr hlocks hS (hK.sub (tys' := []) [] rfl) hP hD rfl dX12_isPlaceBarred_127 ⟨⟨(show 0 ≤ (0 : Int32).toInt ∧ (0 : Int32).toInt ≤ 1 from by have h9 : (0 : Int32).toInt = 0 := (by decide +kernel); omega), (show Sm (0 : Int32) (PbM (c 9) (c 10) (c 11) (c 12) (c 13) (i 8).toInt f.toInt w1.toInt w2.toInt) from by first | (exfalso; omega; done) | exact sm_0 (fun h9 => by rcases h9 with h9 | h9 | h9; (· omega); (· have h7 := (Ch_nx (f := fP (c 9) (c 10) (c 11) (c 13) (i 8).toInt) (show ¬ y3_5.toInt = w1.toInt by omega)).mp (hz3_1.mp h9); rw [fP_no (by omega)] at h7; have h6 := Ch_nd fP_9 h7; omega); (· omega)))⟩, hI, fr_w hfi (by decide +kernel), fr_w hfc (by decide +kernel)⟩
                · have f9 := mt (ti_eq (a := r7.toInt) (b := (-9)) rfl (by decide +kernel)).mpr c9
                  refine lv_iconst (v := 1) hx hb dX12_isPlaceBarred_122 (by decide +kernel) ?_
                  refine lv_goto (tgt := 127) hx hb dX12_isPlaceBarred_123 (by decide +kernel) ?_
                  exact rw_zret ((upd i3 15 0), q3, c3, d3) hx hb hr hlocks hS (hK.sub (tys' := []) [] rfl) hP hD rfl dX12_isPlaceBarred_127 ⟨⟨(show 0 ≤ (1 : Int32).toInt ∧ (1 : Int32).toInt ≤ 1 from by have h9 : (1 : Int32).toInt = 1 := (by decide +kernel); omega), (show Sm (1 : Int32) (PbM (c 9) (c 10) (c 11) (c 12) (c 13) (i 8).toInt f.toInt w1.toInt w2.toInt) from by first | (exfalso; omega; done) | exact sm_1 (Or.inr (Or.inr ⟨by omega, by omega⟩)))⟩, hI, fr_w hfi (by decide +kernel), fr_w hfc (by decide +kernel)⟩
              · have f8 := mt (ti_eq (a := r7.toInt) (b := (-9)) rfl (by decide +kernel)).mpr c8
                refine lv_aload_n hx hb dX12_isPlaceBarred_109 rfl (lv_at hl 3 rfl) ?_
                refine lv_iload hx hb dX12_isPlaceBarred_110 (lv_at hl 0 rfl) ?_
                refine al_callv (va_runV (As := [.int r7]) (rest := []) ⟨hx, hb, hml, hown, hts⟩ (s_X12_clashes l D H.size o a t (upd i3 15 0) q3 c3 d3 r7 hI (show 0 ≤ r7.toInt ∧ r7.toInt ≤ 199 from by have h60 : (0 : Int32).toInt = 0 := (by decide +kernel); omega) (show (0 : Int32).toInt ≤ 199 from by have h60 : (0 : Int32).toInt = 0 := (by decide +kernel); omega)) (cwV 1 hts gm_X12_isPlaceBarred_X12_clashes rfl rfl rfl (by decide +kernel) ⟨Nat.le_of_ble_eq_true rfl, Nat.le_of_ble_eq_true rfl⟩) (pB_V hK hP hD (ci := 12) (q0 := 0) rfl rfl) rfl rfl hl.1 rfl (lv_room (Nat.le_of_ble_eq_true rfl)) dX12_isPlaceBarred_112 ⟨Nat.le_of_ble_eq_true rfl, Nat.le_of_ble_eq_true rfl⟩) hS hA hP hD (fun u10 H locs hw10 hP hD hS => ?_)
                obtain ⟨i10, q10, c10, d10⟩ := u10
                have hw10 : True ∧ mInv i10 c10 ∧ (∀ k, k ∉ ([15] : List Nat) → i10 k = (upd i3 15 0) k) ∧ (∀ k, k ∉ ([14] : List Nat) → c10 k = c3 k) ∧ ((i10 15).toInt = ((upd i3 15 0) 15).toInt + 1) := hw10
                obtain ⟨hw10, hI, hei10, hec10, hxp10_0⟩ := hw10
                have hxp10_0 : (i10 15).toInt = ((upd i3 15 0) 15).toInt + 1 := hxp10_0
                have hfi : ∀ k, k ∉ ([15] : List Nat) → i10 k = i k := fr_z hfi hei10 (by decide +kernel) (by decide +kernel)
                have hfc : ∀ k, k ∉ ([14] : List Nat) → c10 k = c k := fr_z hfc hec10 (by decide +kernel) (by decide +kernel)
                have hP : va_P D vwCl (mW o a t i10 q10 c10 d10) H := hP
                have hD : va_D A (mW o a t i10 q10 c10 d10) := hD
                refine lv_iload hx hb dX12_isPlaceBarred_115 (lv_at hl 0 rfl) ?_
                refine lv_bipush (v := (-9)) hx hb dX12_isPlaceBarred_117 (by decide +kernel) ?_
                refine lv_icmp_eq (tgt := 126) hx hb dX12_isPlaceBarred_119 (by decide +kernel) (fun c11 => ?_) (fun c11 => ?_)
                · have f11 := (ti_eq (a := r7.toInt) (b := (-9)) rfl (by decide +kernel)).mp c11
                  refine lv_iconst (v := 0) hx hb dX12_isPlaceBarred_126 (by decide +kernel) ?_
                  exact rw_zret (i10, q10, c10, d10) hx hb hr hlocks hS (hK.sub (tys' := []) [] rfl) hP hD rfl dX12_isPlaceBarred_127 ⟨⟨(show 0 ≤ (0 : Int32).toInt ∧ (0 : Int32).toInt ≤ 1 from by have h9 : (0 : Int32).toInt = 0 := (by decide +kernel); omega), (show Sm (0 : Int32) (PbM (c 9) (c 10) (c 11) (c 12) (c 13) (i 8).toInt f.toInt w1.toInt w2.toInt) from by first | (exfalso; omega; done) | exact sm_0 (fun h9 => by rcases h9 with h9 | h9 | h9; (· omega); (· have h7 := (Ch_nx (f := fP (c 9) (c 10) (c 11) (c 13) (i 8).toInt) (show ¬ y3_5.toInt = w1.toInt by omega)).mp (hz3_1.mp h9); rw [fP_no (by omega)] at h7; have h6 := Ch_nd fP_9 h7; omega); (· omega)))⟩, hI, fr_w hfi (by decide +kernel), fr_w hfc (by decide +kernel)⟩
                · have f11 := mt (ti_eq (a := r7.toInt) (b := (-9)) rfl (by decide +kernel)).mpr c11
                  refine lv_iconst (v := 1) hx hb dX12_isPlaceBarred_122 (by decide +kernel) ?_
                  refine lv_goto (tgt := 127) hx hb dX12_isPlaceBarred_123 (by decide +kernel) ?_
                  exact rw_zret (i10, q10, c10, d10) hx hb hr hlocks hS (hK.sub (tys' := []) [] rfl) hP hD rfl dX12_isPlaceBarred_127 ⟨⟨(show 0 ≤ (1 : Int32).toInt ∧ (1 : Int32).toInt ≤ 1 from by have h9 : (1 : Int32).toInt = 1 := (by decide +kernel); omega), (show Sm (1 : Int32) (PbM (c 9) (c 10) (c 11) (c 12) (c 13) (i 8).toInt f.toInt w1.toInt w2.toInt) from by first | (exfalso; omega; done) | exact sm_1 (Or.inr (Or.inr ⟨by omega, by omega⟩)))⟩, hI, fr_w hfi (by decide +kernel), fr_w hfc (by decide +kernel)⟩
          · have f5 := (ti_eq (a := y3_5.toInt) (b := w1.toInt) rfl rfl).mp c5
            refine lv_iconst (v := 1) hx hb dX12_isPlaceBarred_74 (by decide +kernel) ?_
            exact rw_zret (i3, q3, c3, d3) hx hb hr hlocks hS (hK.sub (tys' := []) [] rfl) hP hD rfl dX12_isPlaceBarred_75 ⟨⟨(show 0 ≤ (1 : Int32).toInt ∧ (1 : Int32).toInt ≤ 1 from by have h9 : (1 : Int32).toInt = 1 := (by decide +kernel); omega), (show Sm (1 : Int32) (PbM (c 9) (c 10) (c 11) (c 12) (c 13) (i 8).toInt f.toInt w1.toInt w2.toInt) from sm_1 (Or.inr (Or.inl (hz3_1.mpr (by rw [show y3_5.toInt = w1.toInt by omega]; exact Ch_rf)))))⟩, hI, fr_w hfi (by decide +kernel), fr_w hfc (by decide +kernel)⟩
        refine lv_icmp_eq (tgt := 68) hx hb dX12_isPlaceBarred_28 (by decide +kernel) (fun c12 => ?_) (fun c12 => ?_)
        · have f12 := (ti_eq (a := y3_5.toInt) (b := w1.toInt) rfl rfl).mp c12
          exact jn4   (show y3_5.toInt = w1.toInt ∨ pL (c 9) (c 10) (c 13) (i 8).toInt y3_5.toInt = -9 from by omega) _ _ _ hP hD hS (lv_sub hl [0, 1, 2, 3, 4, 5] rfl)
        · have f12 := mt (ti_eq (a := y3_5.toInt) (b := w1.toInt) rfl rfl).mpr c12
          refine lv_aload_n hx hb dX12_isPlaceBarred_31 rfl (lv_at hl 2 rfl) ?_
          refine lv_iload hx hb dX12_isPlaceBarred_32 (lv_at hl 0 rfl) ?_
          have rb8_i3 : 0 ≤ (i3 8).toInt ∧ (i3 8).toInt ≤ 200 := hI.1 8
          have re8_i3 : (i3 8).toInt = (i 8).toInt := congrArg Int32.toInt (hfi 8 (by decide +kernel))
          refine ro_calli (va_runV (As := [.int y3_5]) (rest := []) ⟨hx, hb, hml, hown, hts⟩ (s_X12_placing l D H.size o a t i3 q3 c3 d3 y3_5 hI ) (cwV 1 hts gm_X12_isPlaceBarred_X12_placing rfl rfl rfl (by decide +kernel) ⟨Nat.le_of_ble_eq_true rfl, Nat.le_of_ble_eq_true rfl⟩) (pA_V hK hP (ci := 12) (q0 := 0) rfl rfl) rfl rfl hl.1 rfl (lv_room (Nat.le_of_ble_eq_true rfl)) dX12_isPlaceBarred_34 ⟨Nat.le_of_ble_eq_true rfl, Nat.le_of_ble_eq_true rfl⟩) hS hA hP (fun r13 u13 H locs hw13 hP hS => ?_)
          have hw13 : ((r13.toInt = -9 ∨ (0 ≤ r13.toInt ∧ r13.toInt ≤ 199)) ∧ (r13.toInt = pL (c3 9) (c3 10) (c3 13) (i3 8).toInt y3_5.toInt)) := hw13
          obtain ⟨hw13, hr13_0⟩ := hw13
          have hr13_0 : r13.toInt = pL (c 9) (c 10) (c 13) (i 8).toInt y3_5.toInt := by have h9 := hr13_0; rw [show c3 9 = c 9 from hfc 9 (by decide +kernel), show c3 10 = c 10 from hfc 10 (by decide +kernel), show c3 13 = c 13 from hfc 13 (by decide +kernel), show i3 8 = i 8 from hfi 8 (by decide +kernel)] at h9; exact h9
          refine lv_bipush (v := (-9)) hx hb dX12_isPlaceBarred_37 (by decide +kernel) ?_
          refine lv_icmp_eq (tgt := 68) hx hb dX12_isPlaceBarred_39 (by decide +kernel) (fun c14 => ?_) (fun c14 => ?_)
          · have f14 := (ti_eq (a := r13.toInt) (b := (-9)) rfl (by decide +kernel)).mp c14
            exact jn4   (show y3_5.toInt = w1.toInt ∨ pL (c 9) (c 10) (c 13) (i 8).toInt y3_5.toInt = -9 from by omega) _ _ _ hP hD hS (lv_sub hl [0, 1, 2, 3, 4, 5] rfl)
          · have f14 := mt (ti_eq (a := r13.toInt) (b := (-9)) rfl (by decide +kernel)).mpr c14
            refine lv_aload_n hx hb dX12_isPlaceBarred_42 rfl (lv_at hl 2 rfl) ?_
            refine lv_aload_n hx hb dX12_isPlaceBarred_43 rfl (lv_at hl 2 rfl) ?_
            refine lv_iload hx hb dX12_isPlaceBarred_44 (lv_at hl 0 rfl) ?_
            refine ro_calli (va_runV (As := [.int y3_5]) (rest := [.ref o]) ⟨hx, hb, hml, hown, hts⟩ (s_X12_placing l D H.size o a t i3 q3 c3 d3 y3_5 hI ) (cwV 1 hts gm_X12_isPlaceBarred_X12_placing rfl rfl rfl (by decide +kernel) ⟨Nat.le_of_ble_eq_true rfl, Nat.le_of_ble_eq_true rfl⟩) (pA_V hK hP (ci := 12) (q0 := 0) rfl rfl) rfl rfl hl.1 rfl (lv_room (Nat.le_of_ble_eq_true rfl)) dX12_isPlaceBarred_46 ⟨Nat.le_of_ble_eq_true rfl, Nat.le_of_ble_eq_true rfl⟩) hS hA hP (fun r15 u15 H locs hw15 hP hS => ?_)
            have hw15 : ((r15.toInt = -9 ∨ (0 ≤ r15.toInt ∧ r15.toInt ≤ 199)) ∧ (r15.toInt = pL (c3 9) (c3 10) (c3 13) (i3 8).toInt y3_5.toInt)) := hw15
            obtain ⟨hw15, hr15_0⟩ := hw15
            have hr15_0 : r15.toInt = pL (c 9) (c 10) (c 13) (i 8).toInt y3_5.toInt := by have h9 := hr15_0; rw [show c3 9 = c 9 from hfc 9 (by decide +kernel), show c3 10 = c 10 from hfc 10 (by decide +kernel), show c3 13 = c 13 from hfc 13 (by decide +kernel), show i3 8 = i 8 from hfi 8 (by decide +kernel)] at h9; exact h9
            have rb15_i3 : 0 ≤ (i3 15).toInt ∧ (i3 15).toInt ≤ 200 := hI.1 15
            refine al_callv (va_runV (As := [.int r15]) (rest := []) ⟨hx, hb, hml, hown, hts⟩ (s_X12_clashes l D H.size o a t i3 q3 c3 d3 r15 hI (show 0 ≤ r15.toInt ∧ r15.toInt ≤ 199 from by omega) (show ((i3 15) : Int32).toInt ≤ 199 from by omega)) (cwV 1 hts gm_X12_isPlaceBarred_X12_clashes rfl rfl rfl (by decide +kernel) ⟨Nat.le_of_ble_eq_true rfl, Nat.le_of_ble_eq_true rfl⟩) (pB_V hK hP hD (ci := 12) (q0 := 0) rfl rfl) rfl rfl hl.1 rfl (lv_room (Nat.le_of_ble_eq_true rfl)) dX12_isPlaceBarred_49 ⟨Nat.le_of_ble_eq_true rfl, Nat.le_of_ble_eq_true rfl⟩) hS hA hP hD (fun u16 H locs hw16 hP hD hS => ?_)
            obtain ⟨i16, q16, c16, d16⟩ := u16
            have hw16 : True ∧ mInv i16 c16 ∧ (∀ k, k ∉ ([15] : List Nat) → i16 k = i3 k) ∧ (∀ k, k ∉ ([14] : List Nat) → c16 k = c3 k) ∧ ((i16 15).toInt = (i3 15).toInt + 1) := hw16
            obtain ⟨hw16, hI, hei16, hec16, hxp16_0⟩ := hw16
            have hxp16_0 : (i16 15).toInt = (i3 15).toInt + 1 := hxp16_0
            have hfi : ∀ k, k ∉ ([15] : List Nat) → i16 k = i k := fr_z hfi hei16 (by decide +kernel) (by decide +kernel)
            have hfc : ∀ k, k ∉ ([14] : List Nat) → c16 k = c k := fr_z hfc hec16 (by decide +kernel) (by decide +kernel)
            have hP : va_P D vwCl (mW o a t i16 q16 c16 d16) H := hP
            have hD : va_D A (mW o a t i16 q16 c16 d16) := hD
            refine lv_aload_n hx hb dX12_isPlaceBarred_52 rfl (lv_at hl 2 rfl) ?_
            refine mget_11 hx hb hts (fun _ h => List.mem_cons_of_mem _ (List.mem_append_right _ h)) hown hK hP (hts (.fieldLink RX12 31 "TalePlayModel" "middle" "[I") (List.mem_cons_of_mem _ (List.mem_append_left _ (List.mem_append_right _ (List.mem_of_getElem? (i := 3) rfl))))) dX12_isPlaceBarred_53 ?_
            refine lv_aload_n hx hb dX12_isPlaceBarred_56 rfl (lv_at hl 2 rfl) ?_
            refine lv_iload hx hb dX12_isPlaceBarred_57 (lv_at hl 0 rfl) ?_
            have rb8_i16 : 0 ≤ (i16 8).toInt ∧ (i16 8).toInt ≤ 200 := hI.1 8
            have re8_i16 : (i16 8).toInt = (i 8).toInt := congrArg Int32.toInt (hfi 8 (by decide +kernel))
            refine ro_calli (va_runV (As := [.int y3_5]) (rest := [.ref (a 11)]) ⟨hx, hb, hml, hown, hts⟩ (s_X12_placing l D H.size o a t i16 q16 c16 d16 y3_5 hI ) (cwV 1 hts gm_X12_isPlaceBarred_X12_placing rfl rfl rfl (by decide +kernel) ⟨Nat.le_of_ble_eq_true rfl, Nat.le_of_ble_eq_true rfl⟩) (pA_V hK hP (ci := 12) (q0 := 0) rfl rfl) rfl rfl hl.1 rfl (lv_room (Nat.le_of_ble_eq_true rfl)) dX12_isPlaceBarred_59 ⟨Nat.le_of_ble_eq_true rfl, Nat.le_of_ble_eq_true rfl⟩) hS hA hP (fun r17 u17 H locs hw17 hP hS => ?_)
            have hw17 : ((r17.toInt = -9 ∨ (0 ≤ r17.toInt ∧ r17.toInt ≤ 199)) ∧ (r17.toInt = pL (c16 9) (c16 10) (c16 13) (i16 8).toInt y3_5.toInt)) := hw17
            obtain ⟨hw17, hr17_0⟩ := hw17
            have hr17_0 : r17.toInt = pL (c 9) (c 10) (c 13) (i 8).toInt y3_5.toInt := by have h9 := hr17_0; rw [show c16 9 = c 9 from hfc 9 (by decide +kernel), show c16 10 = c 10 from hfc 10 (by decide +kernel), show c16 13 = c 13 from hfc 13 (by decide +kernel), show i16 8 = i 8 from hfi 8 (by decide +kernel)] at h9; exact h9
            refine mld_11 hx hb hK hP (vp_in_iff.mpr (by have h9 : r17.toInt = r17.toInt := rfl; omega)) dX12_isPlaceBarred_62 (fun x18 ex18 => ?_)
            have rx18 : 0 ≤ x18.toInt ∧ x18.toInt ≤ 29 := by rw [ex18]; exact hI.2 11 _
            have gx18 : (c 11 (r17 : Int32).toNatClampNeg).toInt = x18.toInt := by rw [ex18, show c16 11 = c 11 from hfc 11 (by decide +kernel)]
            refine lv_istore (lv' := [(5, .int x18), (4, .int r1), (0, .ref o), (1, .int f), (2, .int w1), (3, .int w2)]) hx hb dX12_isPlaceBarred_63 hl (by decide +kernel) rfl (fun ls hl => ?_)
            have hfx : fP (c 9) (c 10) (c 11) (c 13) (i 8).toInt y3_5.toInt = x18.toInt := fP_at (by omega) hr17_0 (by omega) gx18
            have hrx := hrk.2 y3_5.toInt (by omega) (by omega) (by rw [hfx]; omega)
            rw [hfx] at hrx
            refine lv_goto (tgt := 25) hx hb dX12_isPlaceBarred_65 (by decide +kernel) ?_
            exact ih3 i16 q16 c16 d16 x18 hI (fr_w hfi (by decide +kernel)) (fr_w hfc (by decide +kernel)) (show 0 ≤ x18.toInt ∧ x18.toInt ≤ 29 from by omega) (show ((i16 15) : Int32).toInt + (rk x18.toInt : Int) ≤ 29 from by omega) (show Ch (fP (c 9) (c 10) (c 11) (c 13) (i 8).toInt) w2.toInt w1.toInt ↔ Ch (fP (c 9) (c 10) (c 11) (c 13) (i 8).toInt) x18.toInt w1.toInt from hz3_1.trans (by rw [Ch_nx (f := fP (c 9) (c 10) (c 11) (c 13) (i 8).toInt) (x := y3_5.toInt) (by omega), hfx])) (by omega) _ _ _ hP hD hS (lv_sub hl [0, 1, 2, 3, 4, 5] rfl)
    exact lp3 _ i q c d w2 hI (fr_w hfi (by decide +kernel)) (fr_w hfc (by decide +kernel)) (show 0 ≤ w2.toInt ∧ w2.toInt ≤ 29 from by omega) (show ((i 15) : Int32).toInt + (rk w2.toInt : Int) ≤ 29 from by omega) (show Ch (fP (c 9) (c 10) (c 11) (c 13) (i 8).toInt) w2.toInt w1.toInt ↔ Ch (fP (c 9) (c 10) (c 11) (c 13) (i 8).toInt) w2.toInt w1.toInt from Iff.rfl) (Nat.lt_succ_self _) _ _ _ hP hD hS (lv_sub hl [0, 1, 2, 3, 4, 5] rfl)
  · have f2 := mt (ti_eq (a := r1.toInt) (b := (-9)) rfl (by decide +kernel)).mpr c2
    refine lv_aload_n hx hb dX12_isPlaceBarred_14 rfl (lv_at hl 1 rfl) ?_
    refine lv_iload hx hb dX12_isPlaceBarred_15 (lv_at hl 0 rfl) ?_
    have rb15_i : 0 ≤ (i 15).toInt ∧ (i 15).toInt ≤ 200 := hI.1 15
    refine al_callv (va_runV (As := [.int r1]) (rest := []) ⟨hx, hb, hml, hown, hts⟩ (s_X12_clashes l D H.size o a t i q c d r1 hI (show 0 ≤ r1.toInt ∧ r1.toInt ≤ 199 from by omega) (show ((i 15) : Int32).toInt ≤ 199 from by omega)) (cwV 1 hts gm_X12_isPlaceBarred_X12_clashes rfl rfl rfl (by decide +kernel) ⟨Nat.le_of_ble_eq_true rfl, Nat.le_of_ble_eq_true rfl⟩) (pB_V hK hP hD (ci := 12) (q0 := 0) rfl rfl) rfl rfl hl.1 rfl (lv_room (Nat.le_of_ble_eq_true rfl)) dX12_isPlaceBarred_17 ⟨Nat.le_of_ble_eq_true rfl, Nat.le_of_ble_eq_true rfl⟩) hS hA hP hD (fun u19 H locs hw19 hP hD hS => ?_)
    obtain ⟨i19, q19, c19, d19⟩ := u19
    have hw19 : True ∧ mInv i19 c19 ∧ (∀ k, k ∉ ([15] : List Nat) → i19 k = i k) ∧ (∀ k, k ∉ ([14] : List Nat) → c19 k = c k) ∧ ((i19 15).toInt = (i 15).toInt + 1) := hw19
    obtain ⟨hw19, hI, hei19, hec19, hxp19_0⟩ := hw19
    have hxp19_0 : (i19 15).toInt = (i 15).toInt + 1 := hxp19_0
    have hfi : ∀ k, k ∉ ([15] : List Nat) → i19 k = i k := fr_z hfi hei19 (by decide +kernel) (by decide +kernel)
    have hfc : ∀ k, k ∉ ([14] : List Nat) → c19 k = c k := fr_z hfc hec19 (by decide +kernel) (by decide +kernel)
    have hP : va_P D vwCl (mW o a t i19 q19 c19 d19) H := hP
    have hD : va_D A (mW o a t i19 q19 c19 d19) := hD
    refine lv_iconst (v := 1) hx hb dX12_isPlaceBarred_20 (by decide +kernel) ?_
    exact rw_zret (i19, q19, c19, d19) hx hb hr hlocks hS (hK.sub (tys' := []) [] rfl) hP hD rfl dX12_isPlaceBarred_21 ⟨⟨(show 0 ≤ (1 : Int32).toInt ∧ (1 : Int32).toInt ≤ 1 from by have h9 : (1 : Int32).toInt = 1 := (by decide +kernel); omega), (show Sm (1 : Int32) (PbM (c 9) (c 10) (c 11) (c 12) (c 13) (i 8).toInt f.toInt w1.toInt w2.toInt) from sm_1 (Or.inl (by omega)))⟩, hI, fr_w hfi (by decide +kernel), fr_w hfc (by decide +kernel)⟩

