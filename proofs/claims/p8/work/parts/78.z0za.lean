set_option maxHeartbeats 4000000 in
set_option maxRecDepth 100000 in
theorem s_X12_beginBulk_t (l : Launch) (D : va_G) (sz : Nat) (o : Nat) (a : Nat → Nat) (t : Nat → ClassId) (i : Nat → Int32) (q : Int64) (c : Nat → Nat → Int32) (d : Nat → Nat → Int64) (e1 : Int32) (w : Int32) (hI : mInv i c) (he1 : 0 ≤ e1.toInt ∧ e1.toInt ≤ 29) (hw : 0 ≤ w.toInt ∧ w.toInt < (i 5).toInt) (h33 : (i 33).toInt = 0) : Met l yX12_beginBulk wm_X12_beginBulk ({ frames := 1, cells := 0, slots := 0, locals := 23 }) (va_Pc [.ref o, .int e1, .int w] (pB D sz (mW o a t i q c d) (mT t))) (va_Qi (fun (r : Int32) (u : MS) => ((0 ≤ r.toInt ∧ r.toInt ≤ 198) ∧ (r = bsV (zM (c 3) (c 6) (i 5).toInt) (c 7) w.toInt.toNat)) ∧ mInv u.1 u.2.2.1 ∧ (∀ k, k ∉ ([] : List Nat) → u.1 k = i k) ∧ (∀ k, k ∉ ([38, 39] : List Nat) → u.2.2.1 k = c k) ∧ ((u.2.2.1 38) = upd (c 38) e1.toNatClampNeg w) ∧ ((u.2.2.1 39) = upd (c 39) e1.toNatClampNeg 0)) (oC D (va_A (mW o a t i q c d) sz) (fun u : MS => mW o a t u.1 u.2.1 u.2.2.1 u.2.2.2) (fun _ => [])) (va_A (mW o a t i q c d) sz)) 0 0 (va_A (mW o a t i q c d) sz) := by
  refine Met.ofW (cc := cX12_beginBulk) (maxL := 3) (ret := (some .int)) (by decide +kernel) rfl ?_
  intro p e s m args below meth cd s₁ B hml hv
  obtain ⟨rfl, hsz, hP, hK, hD0⟩ := hv
  have hx := B.exec
  have hb := B.bytes
  have hr := B.returns
  have hts := atoms_spec (ws := wm_X12_beginBulk) B.pre
  have hown : s.vm.findClass RX12 = some m.cls := findClass_of_methodNamed B.named
  have hlocks := B.notSynchronized
  subst hsz
  have hD := hD0.self (sz := s.heap.size)
  generalize hAe : va_A (mW o a t i q c d) s.heap.size = A at hD ⊢
  have hA : ∀ q : Nat, s.heap.size ≤ q → A q := fun q h => by rw [← hAe]; exact Or.inr h
  have hS : va_S A s.heap s.heap [] := va_S.rf
  have hfi : ∀ k, k ∉ ([] : List Nat) → i k = i k := fun _ _ => rfl
  have hfc : ∀ k, k ∉ ([] : List Nat) → c k = c k := fun _ _ => rfl
  have hl := lv_entry ([.ref o, .int e1, .int w]) (n := 3) (Nat.le_of_ble_eq_true rfl)
  rw [lg_entry_eq]
  generalize (lg_sl ([.ref o, .int e1, .int w]) ++ List.replicate (3 - (lg_sl ([.ref o, .int e1, .int w])).length) Slot.unset).toArray = ls at hl ⊢
  have hl : lv_has ls 3 [(0, .ref o), (1, .int e1), (2, .int w)] := hl
  have rb5_i : 0 ≤ (i 5).toInt ∧ (i 5).toInt ≤ 30 := hI.1 5
  have hzw : zM (c 3) (c 6) (i 5).toInt ((w.toInt.toNat : Nat) : Int) = kS (c 3) (c 6) w.toInt := by rw [show ((w.toInt.toNat : Nat) : Int) = w.toInt by omega]; exact zM_i (by omega)
  refine lv_aload_n hx hb dX12_beginBulk_0 rfl (lv_at hl 0 rfl) ?_
  refine mget_38 hx hb hts (fun _ h => List.mem_cons_of_mem _ (List.mem_append_right _ h)) hown hK hP (hts (.fieldLink RX12 80 "TalePlayModel" "pile" "[I") (List.mem_cons_of_mem _ (List.mem_append_left _ (List.mem_append_left _ (List.mem_of_getElem? (i := 0) rfl))))) dX12_beginBulk_1 ?_
  refine lv_iload_n hx hb dX12_beginBulk_4 rfl (lv_at hl 1 rfl) ?_
  refine lv_iload_n hx hb dX12_beginBulk_5 rfl (lv_at hl 2 rfl) ?_
  refine mst_38 hx hb hK hP hD hS (vp_in_iff.mpr (by have h9 : e1.toInt = e1.toInt := rfl; omega)) dX12_beginBulk_6 (fun H locs hP hD hS => ?_)
  have hI := mInv_c hI (k := 38) (j := (e1 : Int32).toNatClampNeg) (x := w) (show 0 ≤ (w : Int32).toInt ∧ (w : Int32).toInt ≤ 29 from by omega)
  have hfc : ∀ k, k ∉ ([38] : List Nat) → (updA c 38 (e1 : Int32).toNatClampNeg w) k = c k := fr_cz hfc (by decide +kernel) (by decide +kernel)
  refine lv_aload_n hx hb dX12_beginBulk_7 rfl (lv_at hl 0 rfl) ?_
  refine mget_39 hx hb hts (fun _ h => List.mem_cons_of_mem _ (List.mem_append_right _ h)) hown hK hP (hts (.fieldLink RX12 83 "TalePlayModel" "nextIn" "[I") (List.mem_cons_of_mem _ (List.mem_append_left _ (List.mem_append_left _ (List.mem_of_getElem? (i := 1) rfl))))) dX12_beginBulk_8 ?_
  refine lv_iload_n hx hb dX12_beginBulk_11 rfl (lv_at hl 1 rfl) ?_
  refine lv_iconst (v := 0) hx hb dX12_beginBulk_12 (by decide +kernel) ?_
  refine mst_39 hx hb hK hP hD hS (vp_in_iff.mpr (by have h9 : e1.toInt = e1.toInt := rfl; omega)) dX12_beginBulk_13 (fun H locs hP hD hS => ?_)
  have hI := mInv_c hI (k := 39) (j := (e1 : Int32).toNatClampNeg) (x := 0) (show 0 ≤ (0 : Int32).toInt ∧ (0 : Int32).toInt ≤ 31 from by decide +kernel)
  have hfc : ∀ k, k ∉ ([38, 39] : List Nat) → (updA (updA c 38 (e1 : Int32).toNatClampNeg w) 39 (e1 : Int32).toNatClampNeg 0) k = c k := fr_cz hfc (by decide +kernel) (by decide +kernel)
  refine lv_aload_n hx hb dX12_beginBulk_14 rfl (lv_at hl 0 rfl) ?_
  refine lv_iload_n hx hb dX12_beginBulk_15 rfl (lv_at hl 2 rfl) ?_
  refine lv_iconst (v := 3) hx hb dX12_beginBulk_16 (by decide +kernel) ?_
  refine ro_calli (va_runV (As := [.int w, .int 3]) (rest := []) ⟨hx, hb, hml, hown, hts⟩ (s_X12_isOf_e l D H.size o a t i q (updA (updA c 38 (e1 : Int32).toNatClampNeg w) 39 (e1 : Int32).toNatClampNeg 0) d w 3 hI (show 0 ≤ w.toInt ∧ w.toInt ≤ 29 from by have h91 : (3 : Int32).toInt = 3 := (by decide +kernel); omega) (show 0 ≤ 3 ∧ 3 ≤ 5 from by decide +kernel)) (cwV 2 hts gm_X12_beginBulk_X12_isOf rfl rfl rfl (by decide +kernel) ⟨Nat.le_of_ble_eq_true rfl, Nat.le_of_ble_eq_true rfl⟩) (pA_V hK hP (ci := 12) (q0 := 0) rfl rfl) rfl rfl hl.1 rfl (lv_room (Nat.le_of_ble_eq_true rfl)) dX12_beginBulk_17 ⟨Nat.le_of_ble_eq_true rfl, Nat.le_of_ble_eq_true rfl⟩) hS hA hP (fun r1 u1 H locs hw1 hP hS => ?_)
  have hw1 : ((0 ≤ r1.toInt ∧ r1.toInt ≤ 1) ∧ (0 ≤ kS ((updA (updA c 38 (e1 : Int32).toNatClampNeg w) 39 (e1 : Int32).toNatClampNeg 0) 3) ((updA (updA c 38 (e1 : Int32).toNatClampNeg w) 39 (e1 : Int32).toNatClampNeg 0) 6) w.toInt ∧ kS ((updA (updA c 38 (e1 : Int32).toNatClampNeg w) 39 (e1 : Int32).toNatClampNeg 0) 3) ((updA (updA c 38 (e1 : Int32).toNatClampNeg w) 39 (e1 : Int32).toNatClampNeg 0) 6) w.toInt ≤ 5 ∧ ((r1.toInt = 1 ∧ (kS ((updA (updA c 38 (e1 : Int32).toNatClampNeg w) 39 (e1 : Int32).toNatClampNeg 0) 3) ((updA (updA c 38 (e1 : Int32).toNatClampNeg w) 39 (e1 : Int32).toNatClampNeg 0) 6) w.toInt = 3 ∨ ((1 : Int) = 3 ∧ 1 < kS ((updA (updA c 38 (e1 : Int32).toNatClampNeg w) 39 (e1 : Int32).toNatClampNeg 0) 3) ((updA (updA c 38 (e1 : Int32).toNatClampNeg w) 39 (e1 : Int32).toNatClampNeg 0) 6) w.toInt))) ∨ (r1.toInt = 0 ∧ ¬ (kS ((updA (updA c 38 (e1 : Int32).toNatClampNeg w) 39 (e1 : Int32).toNatClampNeg 0) 3) ((updA (updA c 38 (e1 : Int32).toNatClampNeg w) 39 (e1 : Int32).toNatClampNeg 0) 6) w.toInt = 3 ∨ ((1 : Int) = 3 ∧ 1 < kS ((updA (updA c 38 (e1 : Int32).toNatClampNeg w) 39 (e1 : Int32).toNatClampNeg 0) 3) ((updA (updA c 38 (e1 : Int32).toNatClampNeg w) 39 (e1 : Int32).toNatClampNeg 0) 6) w.toInt)))))) := hw1
  obtain ⟨hw1, hr1_0⟩ := hw1
  have hr1_0 : 0 ≤ kS (c 3) (c 6) w.toInt ∧ kS (c 3) (c 6) w.toInt ≤ 5 ∧ ((r1.toInt = 1 ∧ (kS (c 3) (c 6) w.toInt = 3 ∨ ((1 : Int) = 3 ∧ 1 < kS (c 3) (c 6) w.toInt))) ∨ (r1.toInt = 0 ∧ ¬ (kS (c 3) (c 6) w.toInt = 3 ∨ ((1 : Int) = 3 ∧ 1 < kS (c 3) (c 6) w.toInt)))) := by have h9 := hr1_0; rw [show (updA (updA c 38 (e1 : Int32).toNatClampNeg w) 39 (e1 : Int32).toNatClampNeg 0) 3 = c 3 from hfc 3 (by decide +kernel), show (updA (updA c 38 (e1 : Int32).toNatClampNeg w) 39 (e1 : Int32).toNatClampNeg 0) 6 = c 6 from hfc 6 (by decide +kernel)] at h9; exact h9
  have jn2 : ∀ (i2 : Nat → Int32) (q2 : Int64) (c2 : Nat → Nat → Int32) (d2 : Nat → Nat → Int64), mInv i2 c2 → (∀ k, k ∉ ([] : List Nat) → i2 k = i k) → (∀ k, k ∉ ([38, 39] : List Nat) → c2 k = c k) → ((c2 38) = upd (c 38) e1.toNatClampNeg w) → ((c2 39) = upd (c 39) e1.toNatClampNeg 0) → ∀ (H : Heap) (locs : List Loc) (ls : Array Slot), va_P D vwCl (mW o a t i2 q2 c2 d2) H → va_D A (mW o a t i2 q2 c2 d2) → va_S A s.heap H locs → lv_has ls 3 [(0, .ref o), (1, .int e1), (2, .int w)] → W p l e (headSpec wm_X12_beginBulk ({ frames := 1, cells := 0, slots := 0, locals := 23 })).room s m ([.ref o, .int e1, .int w] : List Value).toArray below meth cd H locs 0 0 (MQ below (va_Qi (fun (r : Int32) (u : MS) => ((0 ≤ r.toInt ∧ r.toInt ≤ 198) ∧ (r = bsV (zM (c 3) (c 6) (i 5).toInt) (c 7) w.toInt.toNat)) ∧ mInv u.1 u.2.2.1 ∧ (∀ k, k ∉ ([] : List Nat) → u.1 k = i k) ∧ (∀ k, k ∉ ([38, 39] : List Nat) → u.2.2.1 k = c k) ∧ ((u.2.2.1 38) = upd (c 38) e1.toNatClampNeg w) ∧ ((u.2.2.1 39) = upd (c 39) e1.toNatClampNeg 0)) (oC D A (fun u : MS => mW o a t u.1 u.2.1 u.2.2.1 u.2.2.2) (fun _ => [])) A) ([.ref o, .int e1, .int w] : List Value).toArray s 0 0 A) (F0 m 62 ls []) := by
    intro i2 q2 c2 d2 hI hfi hfc hz2_0 hz2_1 H locs ls hP hD hS hl
    refine lv_aload_n hx hb dX12_beginBulk_62 rfl (lv_at hl 0 rfl) ?_
    refine lv_iconst (v := 1) hx hb dX12_beginBulk_63 (by decide +kernel) ?_
    have rb33_i2 : 0 ≤ (i2 33).toInt ∧ (i2 33).toInt ≤ 1 := hI.1 33
    have re33_i2 : (i2 33).toInt = (i 33).toInt := congrArg Int32.toInt (hfi 33 (by decide +kernel))
    refine al_callv (va_runV (As := [.int 1]) (rest := []) ⟨hx, hb, hml, hown, hts⟩ (s_X12_body_t l D H.size o a t i2 q2 c2 d2 1 hI (show 0 ≤ 1 ∧ 1 ≤ 5 from by decide +kernel) (show ((i2 33) : Int32).toInt = 0 from by have h90 : (1 : Int32).toInt = 1 := (by decide +kernel); omega)) (cwV 1 hts gm_X12_beginBulk_X12_body rfl rfl rfl (by decide +kernel) ⟨Nat.le_of_ble_eq_true rfl, Nat.le_of_ble_eq_true rfl⟩) (pB_V hK hP hD (ci := 12) (q0 := 0) rfl rfl) rfl rfl hl.1 rfl (lv_room (Nat.le_of_ble_eq_true rfl)) dX12_beginBulk_64 ⟨Nat.le_of_ble_eq_true rfl, Nat.le_of_ble_eq_true rfl⟩) hS hA hP hD (fun u3 H locs hw3 hP hD hS => ?_)
    obtain ⟨i3, q3, c3, d3⟩ := u3
    have hw3 : True ∧ mInv i3 c3 ∧ (∀ k, k ∉ ([] : List Nat) → i3 k = i2 k) ∧ (∀ k, k ∉ ([] : List Nat) → c3 k = c2 k) := hw3
    obtain ⟨hw3, hI, hei3, hec3⟩ := hw3
    have hfi : ∀ k, k ∉ ([] : List Nat) → i3 k = i k := fr_z hfi hei3 (by decide +kernel) (by decide +kernel)
    have hfc : ∀ k, k ∉ ([38, 39] : List Nat) → c3 k = c k := fr_z hfc hec3 (by decide +kernel) (by decide +kernel)
    have hP : va_P D vwCl (mW o a t i3 q3 c3 d3) H := hP
    have hD : va_D A (mW o a t i3 q3 c3 d3) := hD
    refine lv_aload_n hx hb dX12_beginBulk_67 rfl (lv_at hl 0 rfl) ?_
    refine lv_iload_n hx hb dX12_beginBulk_68 rfl (lv_at hl 2 rfl) ?_
    refine lv_iconst (v := 5) hx hb dX12_beginBulk_69 (by decide +kernel) ?_
    refine ro_calli (va_runV (As := [.int w, .int 5]) (rest := []) ⟨hx, hb, hml, hown, hts⟩ (s_X12_isOf_e l D H.size o a t i3 q3 c3 d3 w 5 hI (show 0 ≤ w.toInt ∧ w.toInt ≤ 29 from by have h91 : (5 : Int32).toInt = 5 := (by decide +kernel); omega) (show 0 ≤ 5 ∧ 5 ≤ 5 from by decide +kernel)) (cwV 2 hts gm_X12_beginBulk_X12_isOf rfl rfl rfl (by decide +kernel) ⟨Nat.le_of_ble_eq_true rfl, Nat.le_of_ble_eq_true rfl⟩) (pA_V hK hP (ci := 12) (q0 := 0) rfl rfl) rfl rfl hl.1 rfl (lv_room (Nat.le_of_ble_eq_true rfl)) dX12_beginBulk_70 ⟨Nat.le_of_ble_eq_true rfl, Nat.le_of_ble_eq_true rfl⟩) hS hA hP (fun r4 u4 H locs hw4 hP hS => ?_)
    have hw4 : ((0 ≤ r4.toInt ∧ r4.toInt ≤ 1) ∧ (0 ≤ kS (c3 3) (c3 6) w.toInt ∧ kS (c3 3) (c3 6) w.toInt ≤ 5 ∧ ((r4.toInt = 1 ∧ (kS (c3 3) (c3 6) w.toInt = 5 ∨ ((1 : Int) = 5 ∧ 1 < kS (c3 3) (c3 6) w.toInt))) ∨ (r4.toInt = 0 ∧ ¬ (kS (c3 3) (c3 6) w.toInt = 5 ∨ ((1 : Int) = 5 ∧ 1 < kS (c3 3) (c3 6) w.toInt)))))) := hw4
    obtain ⟨hw4, hr4_0⟩ := hw4
    have hr4_0 : 0 ≤ kS (c 3) (c 6) w.toInt ∧ kS (c 3) (c 6) w.toInt ≤ 5 ∧ ((r4.toInt = 1 ∧ (kS (c 3) (c 6) w.toInt = 5 ∨ ((1 : Int) = 5 ∧ 1 < kS (c 3) (c 6) w.toInt))) ∨ (r4.toInt = 0 ∧ ¬ (kS (c 3) (c 6) w.toInt = 5 ∨ ((1 : Int) = 5 ∧ 1 < kS (c 3) (c 6) w.toInt)))) := by have h9 := hr4_0; rw [show c3 3 = c 3 from hfc 3 (by decide +kernel), show c3 6 = c 6 from hfc 6 (by decide +kernel)] at h9; exact h9
    refine lv_if_eq (tgt := 87) hx hb dX12_beginBulk_73 (by decide +kernel) (fun c5 => ?_) (fun c5 => ?_)
    · have f5 := (ti_eq (a := r4.toInt) (b := 0) rfl (by decide +kernel)).mp c5
      refine lv_aload_n hx hb dX12_beginBulk_87 rfl (lv_at hl 0 rfl) ?_
      refine mget_7 hx hb hts (fun _ h => List.mem_cons_of_mem _ (List.mem_append_right _ h)) hown hK hP (hts (.fieldLink RX12 22 "TalePlayModel" "sizeOf" "[I") (List.mem_cons_of_mem _ (List.mem_append_left _ (List.mem_append_right _ (List.mem_of_getElem? (i := 0) rfl))))) dX12_beginBulk_88 ?_
      refine lv_iload_n hx hb dX12_beginBulk_91 rfl (lv_at hl 2 rfl) ?_
      refine mld_7 hx hb hK hP (vp_in_iff.mpr (by have h9 : w.toInt = w.toInt := rfl; omega)) dX12_beginBulk_92 (fun x6 ex6 => ?_)
      have rx6 : 0 ≤ x6.toInt ∧ x6.toInt ≤ 99 := by rw [ex6]; exact hI.2 7 _
      have gx6 : (c 7 (w : Int32).toNatClampNeg).toInt = x6.toInt := by rw [ex6, show c3 7 = c 7 from hfc 7 (by decide +kernel)]
      exact rw_iret (i3, q3, c3, d3) hx hb hr hlocks hS (hK.sub (tys' := []) [] rfl) hP hD dX12_beginBulk_93 ⟨⟨(show 0 ≤ x6.toInt ∧ x6.toInt ≤ 198 from by omega), (show x6 = bsV (zM (c 3) (c 6) (i 5).toInt) (c 7) w.toInt.toNat from by unfold bsV; rw [if_neg (by rw [hzw]; omega), show c 7 w.toInt.toNat = x6 from Int32.toInt_inj.mp gx6])⟩, hI, fr_w hfi (by decide +kernel), fr_w hfc (by decide +kernel), (show (c3 38) = upd (c 38) e1.toNatClampNeg w from (hec3 38 (by decide +kernel)).trans hz2_0), (show (c3 39) = upd (c 39) e1.toNatClampNeg 0 from (hec3 39 (by decide +kernel)).trans hz2_1)⟩
    · have f5 := mt (ti_eq (a := r4.toInt) (b := 0) rfl (by decide +kernel)).mpr c5
      refine lv_iconst (v := 2) hx hb dX12_beginBulk_76 (by decide +kernel) ?_
      refine lv_aload_n hx hb dX12_beginBulk_77 rfl (lv_at hl 0 rfl) ?_
      refine mget_7 hx hb hts (fun _ h => List.mem_cons_of_mem _ (List.mem_append_right _ h)) hown hK hP (hts (.fieldLink RX12 22 "TalePlayModel" "sizeOf" "[I") (List.mem_cons_of_mem _ (List.mem_append_left _ (List.mem_append_right _ (List.mem_of_getElem? (i := 0) rfl))))) dX12_beginBulk_78 ?_
      refine lv_iload_n hx hb dX12_beginBulk_81 rfl (lv_at hl 2 rfl) ?_
      refine mld_7 hx hb hK hP (vp_in_iff.mpr (by have h9 : w.toInt = w.toInt := rfl; omega)) dX12_beginBulk_82 (fun x7 ex7 => ?_)
      have rx7 : 0 ≤ x7.toInt ∧ x7.toInt ≤ 99 := by rw [ex7]; exact hI.2 7 _
      have gx7 : (c 7 (w : Int32).toNatClampNeg).toInt = x7.toInt := by rw [ex7, show c3 7 = c 7 from hfc 7 (by decide +kernel)]
      refine lv_imul hx hb dX12_beginBulk_83 ?_
      refine lv_topi (fun x8 ex8 => ?_)
      have tx8 := ti_mul (a := 2) (b := x7.toInt) ex8 (by decide +kernel) rfl (by omega) (by omega)
      refine lv_goto (tgt := 93) hx hb dX12_beginBulk_84 (by decide +kernel) ?_
      exact rw_iret (i3, q3, c3, d3) hx hb hr hlocks hS (hK.sub (tys' := []) [] rfl) hP hD dX12_beginBulk_93 ⟨⟨(show 0 ≤ x8.toInt ∧ x8.toInt ≤ 198 from by have h9 : x8.toInt = (2 * x7.toInt) := tx8; omega), (show x8 = bsV (zM (c 3) (c 6) (i 5).toInt) (c 7) w.toInt.toNat from by unfold bsV; rw [if_pos (by rw [hzw]; omega), show c 7 w.toInt.toNat = x7 from Int32.toInt_inj.mp gx7]; exact ex8)⟩, hI, fr_w hfi (by decide +kernel), fr_w hfc (by decide +kernel), (show (c3 38) = upd (c 38) e1.toNatClampNeg w from (hec3 38 (by decide +kernel)).trans hz2_0), (show (c3 39) = upd (c 39) e1.toNatClampNeg 0 from (hec3 39 (by decide +kernel)).trans hz2_1)⟩
  refine lv_if_eq (tgt := 31) hx hb dX12_beginBulk_20 (by decide +kernel) (fun c9 => ?_) (fun c9 => ?_)
  · have f9 := (ti_eq (a := r1.toInt) (b := 0) rfl (by decide +kernel)).mp c9
    refine lv_aload_n hx hb dX12_beginBulk_31 rfl (lv_at hl 0 rfl) ?_
    refine lv_iload_n hx hb dX12_beginBulk_32 rfl (lv_at hl 2 rfl) ?_
    refine lv_iconst (v := 4) hx hb dX12_beginBulk_33 (by decide +kernel) ?_
    refine ro_calli (va_runV (As := [.int w, .int 4]) (rest := []) ⟨hx, hb, hml, hown, hts⟩ (s_X12_isOf_e l D H.size o a t i q (updA (updA c 38 (e1 : Int32).toNatClampNeg w) 39 (e1 : Int32).toNatClampNeg 0) d w 4 hI (show 0 ≤ w.toInt ∧ w.toInt ≤ 29 from by have h91 : (4 : Int32).toInt = 4 := (by decide +kernel); omega) (show 0 ≤ 4 ∧ 4 ≤ 5 from by decide +kernel)) (cwV 2 hts gm_X12_beginBulk_X12_isOf rfl rfl rfl (by decide +kernel) ⟨Nat.le_of_ble_eq_true rfl, Nat.le_of_ble_eq_true rfl⟩) (pA_V hK hP (ci := 12) (q0 := 0) rfl rfl) rfl rfl hl.1 rfl (lv_room (Nat.le_of_ble_eq_true rfl)) dX12_beginBulk_34 ⟨Nat.le_of_ble_eq_true rfl, Nat.le_of_ble_eq_true rfl⟩) hS hA hP (fun r10 u10 H locs hw10 hP hS => ?_)
    have hw10 : ((0 ≤ r10.toInt ∧ r10.toInt ≤ 1) ∧ (0 ≤ kS ((updA (updA c 38 (e1 : Int32).toNatClampNeg w) 39 (e1 : Int32).toNatClampNeg 0) 3) ((updA (updA c 38 (e1 : Int32).toNatClampNeg w) 39 (e1 : Int32).toNatClampNeg 0) 6) w.toInt ∧ kS ((updA (updA c 38 (e1 : Int32).toNatClampNeg w) 39 (e1 : Int32).toNatClampNeg 0) 3) ((updA (updA c 38 (e1 : Int32).toNatClampNeg w) 39 (e1 : Int32).toNatClampNeg 0) 6) w.toInt ≤ 5 ∧ ((r10.toInt = 1 ∧ (kS ((updA (updA c 38 (e1 : Int32).toNatClampNeg w) 39 (e1 : Int32).toNatClampNeg 0) 3) ((updA (updA c 38 (e1 : Int32).toNatClampNeg w) 39 (e1 : Int32).toNatClampNeg 0) 6) w.toInt = 4 ∨ ((1 : Int) = 4 ∧ 1 < kS ((updA (updA c 38 (e1 : Int32).toNatClampNeg w) 39 (e1 : Int32).toNatClampNeg 0) 3) ((updA (updA c 38 (e1 : Int32).toNatClampNeg w) 39 (e1 : Int32).toNatClampNeg 0) 6) w.toInt))) ∨ (r10.toInt = 0 ∧ ¬ (kS ((updA (updA c 38 (e1 : Int32).toNatClampNeg w) 39 (e1 : Int32).toNatClampNeg 0) 3) ((updA (updA c 38 (e1 : Int32).toNatClampNeg w) 39 (e1 : Int32).toNatClampNeg 0) 6) w.toInt = 4 ∨ ((1 : Int) = 4 ∧ 1 < kS ((updA (updA c 38 (e1 : Int32).toNatClampNeg w) 39 (e1 : Int32).toNatClampNeg 0) 3) ((updA (updA c 38 (e1 : Int32).toNatClampNeg w) 39 (e1 : Int32).toNatClampNeg 0) 6) w.toInt)))))) := hw10
    obtain ⟨hw10, hr10_0⟩ := hw10
    have hr10_0 : 0 ≤ kS (c 3) (c 6) w.toInt ∧ kS (c 3) (c 6) w.toInt ≤ 5 ∧ ((r10.toInt = 1 ∧ (kS (c 3) (c 6) w.toInt = 4 ∨ ((1 : Int) = 4 ∧ 1 < kS (c 3) (c 6) w.toInt))) ∨ (r10.toInt = 0 ∧ ¬ (kS (c 3) (c 6) w.toInt = 4 ∨ ((1 : Int) = 4 ∧ 1 < kS (c 3) (c 6) w.toInt)))) := by have h9 := hr10_0; rw [show (updA (updA c 38 (e1 : Int32).toNatClampNeg w) 39 (e1 : Int32).toNatClampNeg 0) 3 = c 3 from hfc 3 (by decide +kernel), show (updA (updA c 38 (e1 : Int32).toNatClampNeg w) 39 (e1 : Int32).toNatClampNeg 0) 6 = c 6 from hfc 6 (by decide +kernel)] at h9; exact h9
    refine lv_if_eq (tgt := 48) hx hb dX12_beginBulk_37 (by decide +kernel) (fun c11 => ?_) (fun c11 => ?_)
    · have f11 := (ti_eq (a := r10.toInt) (b := 0) rfl (by decide +kernel)).mp c11
      refine lv_aload_n hx hb dX12_beginBulk_48 rfl (lv_at hl 0 rfl) ?_
      refine lv_iload_n hx hb dX12_beginBulk_49 rfl (lv_at hl 2 rfl) ?_
      refine lv_iconst (v := 5) hx hb dX12_beginBulk_50 (by decide +kernel) ?_
      refine ro_calli (va_runV (As := [.int w, .int 5]) (rest := []) ⟨hx, hb, hml, hown, hts⟩ (s_X12_isOf_e l D H.size o a t i q (updA (updA c 38 (e1 : Int32).toNatClampNeg w) 39 (e1 : Int32).toNatClampNeg 0) d w 5 hI (show 0 ≤ w.toInt ∧ w.toInt ≤ 29 from by have h91 : (5 : Int32).toInt = 5 := (by decide +kernel); omega) (show 0 ≤ 5 ∧ 5 ≤ 5 from by decide +kernel)) (cwV 2 hts gm_X12_beginBulk_X12_isOf rfl rfl rfl (by decide +kernel) ⟨Nat.le_of_ble_eq_true rfl, Nat.le_of_ble_eq_true rfl⟩) (pA_V hK hP (ci := 12) (q0 := 0) rfl rfl) rfl rfl hl.1 rfl (lv_room (Nat.le_of_ble_eq_true rfl)) dX12_beginBulk_51 ⟨Nat.le_of_ble_eq_true rfl, Nat.le_of_ble_eq_true rfl⟩) hS hA hP (fun r12 u12 H locs hw12 hP hS => ?_)
      have hw12 : ((0 ≤ r12.toInt ∧ r12.toInt ≤ 1) ∧ (0 ≤ kS ((updA (updA c 38 (e1 : Int32).toNatClampNeg w) 39 (e1 : Int32).toNatClampNeg 0) 3) ((updA (updA c 38 (e1 : Int32).toNatClampNeg w) 39 (e1 : Int32).toNatClampNeg 0) 6) w.toInt ∧ kS ((updA (updA c 38 (e1 : Int32).toNatClampNeg w) 39 (e1 : Int32).toNatClampNeg 0) 3) ((updA (updA c 38 (e1 : Int32).toNatClampNeg w) 39 (e1 : Int32).toNatClampNeg 0) 6) w.toInt ≤ 5 ∧ ((r12.toInt = 1 ∧ (kS ((updA (updA c 38 (e1 : Int32).toNatClampNeg w) 39 (e1 : Int32).toNatClampNeg 0) 3) ((updA (updA c 38 (e1 : Int32).toNatClampNeg w) 39 (e1 : Int32).toNatClampNeg 0) 6) w.toInt = 5 ∨ ((1 : Int) = 5 ∧ 1 < kS ((updA (updA c 38 (e1 : Int32).toNatClampNeg w) 39 (e1 : Int32).toNatClampNeg 0) 3) ((updA (updA c 38 (e1 : Int32).toNatClampNeg w) 39 (e1 : Int32).toNatClampNeg 0) 6) w.toInt))) ∨ (r12.toInt = 0 ∧ ¬ (kS ((updA (updA c 38 (e1 : Int32).toNatClampNeg w) 39 (e1 : Int32).toNatClampNeg 0) 3) ((updA (updA c 38 (e1 : Int32).toNatClampNeg w) 39 (e1 : Int32).toNatClampNeg 0) 6) w.toInt = 5 ∨ ((1 : Int) = 5 ∧ 1 < kS ((updA (updA c 38 (e1 : Int32).toNatClampNeg w) 39 (e1 : Int32).toNatClampNeg 0) 3) ((updA (updA c 38 (e1 : Int32).toNatClampNeg w) 39 (e1 : Int32).toNatClampNeg 0) 6) w.toInt)))))) := hw12
      obtain ⟨hw12, hr12_0⟩ := hw12
      have hr12_0 : 0 ≤ kS (c 3) (c 6) w.toInt ∧ kS (c 3) (c 6) w.toInt ≤ 5 ∧ ((r12.toInt = 1 ∧ (kS (c 3) (c 6) w.toInt = 5 ∨ ((1 : Int) = 5 ∧ 1 < kS (c 3) (c 6) w.toInt))) ∨ (r12.toInt = 0 ∧ ¬ (kS (c 3) (c 6) w.toInt = 5 ∨ ((1 : Int) = 5 ∧ 1 < kS (c 3) (c 6) w.toInt)))) := by have h9 := hr12_0; rw [show (updA (updA c 38 (e1 : Int32).toNatClampNeg w) 39 (e1 : Int32).toNatClampNeg 0) 3 = c 3 from hfc 3 (by decide +kernel), show (updA (updA c 38 (e1 : Int32).toNatClampNeg w) 39 (e1 : Int32).toNatClampNeg 0) 6 = c 6 from hfc 6 (by decide +kernel)] at h9; exact h9
      refine lv_if_eq (tgt := 62) hx hb dX12_beginBulk_54 (by decide +kernel) (fun c13 => ?_) (fun c13 => ?_)
      · have f13 := (ti_eq (a := r12.toInt) (b := 0) rfl (by decide +kernel)).mp c13
        exact jn2 i q (updA (updA c 38 (e1 : Int32).toNatClampNeg w) 39 (e1 : Int32).toNatClampNeg 0) d   hI (fr_w hfi (by decide +kernel)) (fr_w hfc (by decide +kernel)) (show ((updA (updA c 38 (e1 : Int32).toNatClampNeg w) 39 (e1 : Int32).toNatClampNeg 0) 38) = upd (c 38) e1.toNatClampNeg w from rfl) (show ((updA (updA c 38 (e1 : Int32).toNatClampNeg w) 39 (e1 : Int32).toNatClampNeg 0) 39) = upd (c 39) e1.toNatClampNeg 0 from rfl) _ _ _ hP hD hS (lv_sub hl [0, 1, 2] rfl)
      · have f13 := mt (ti_eq (a := r12.toInt) (b := 0) rfl (by decide +kernel)).mpr c13
        refine lv_aload_n hx hb dX12_beginBulk_57 rfl (lv_at hl 0 rfl) ?_
        refine lv_iconst (v := 5) hx hb dX12_beginBulk_58 (by decide +kernel) ?_
        have rb33_i : 0 ≤ (i 33).toInt ∧ (i 33).toInt ≤ 1 := hI.1 33
        refine al_callv (va_runV (As := [.int 5]) (rest := []) ⟨hx, hb, hml, hown, hts⟩ (s_X12_body_t l D H.size o a t i q (updA (updA c 38 (e1 : Int32).toNatClampNeg w) 39 (e1 : Int32).toNatClampNeg 0) d 5 hI (show 0 ≤ 5 ∧ 5 ≤ 5 from by decide +kernel) (show ((i 33) : Int32).toInt = 0 from by have h90 : (5 : Int32).toInt = 5 := (by decide +kernel); omega)) (cwV 1 hts gm_X12_beginBulk_X12_body rfl rfl rfl (by decide +kernel) ⟨Nat.le_of_ble_eq_true rfl, Nat.le_of_ble_eq_true rfl⟩) (pB_V hK hP hD (ci := 12) (q0 := 0) rfl rfl) rfl rfl hl.1 rfl (lv_room (Nat.le_of_ble_eq_true rfl)) dX12_beginBulk_59 ⟨Nat.le_of_ble_eq_true rfl, Nat.le_of_ble_eq_true rfl⟩) hS hA hP hD (fun u14 H locs hw14 hP hD hS => ?_)
        obtain ⟨i14, q14, c14, d14⟩ := u14
        have hw14 : True ∧ mInv i14 c14 ∧ (∀ k, k ∉ ([] : List Nat) → i14 k = i k) ∧ (∀ k, k ∉ ([] : List Nat) → c14 k = (updA (updA c 38 (e1 : Int32).toNatClampNeg w) 39 (e1 : Int32).toNatClampNeg 0) k) := hw14
        obtain ⟨hw14, hI, hei14, hec14⟩ := hw14
        have hfi : ∀ k, k ∉ ([] : List Nat) → i14 k = i k := fr_z hfi hei14 (by decide +kernel) (by decide +kernel)
        have hfc : ∀ k, k ∉ ([38, 39] : List Nat) → c14 k = c k := fr_z hfc hec14 (by decide +kernel) (by decide +kernel)
        have hP : va_P D vwCl (mW o a t i14 q14 c14 d14) H := hP
        have hD : va_D A (mW o a t i14 q14 c14 d14) := hD
        exact jn2 i14 q14 c14 d14   hI (fr_w hfi (by decide +kernel)) (fr_w hfc (by decide +kernel)) (show (c14 38) = upd (c 38) e1.toNatClampNeg w from hec14 38 (by decide +kernel)) (show (c14 39) = upd (c 39) e1.toNatClampNeg 0 from hec14 39 (by decide +kernel)) _ _ _ hP hD hS (lv_sub hl [0, 1, 2] rfl)
    · have f11 := mt (ti_eq (a := r10.toInt) (b := 0) rfl (by decide +kernel)).mpr c11
      refine lv_aload_n hx hb dX12_beginBulk_40 rfl (lv_at hl 0 rfl) ?_
      refine lv_iconst (v := 3) hx hb dX12_beginBulk_41 (by decide +kernel) ?_
      have rb33_i : 0 ≤ (i 33).toInt ∧ (i 33).toInt ≤ 1 := hI.1 33
      refine al_callv (va_runV (As := [.int 3]) (rest := []) ⟨hx, hb, hml, hown, hts⟩ (s_X12_body_t l D H.size o a t i q (updA (updA c 38 (e1 : Int32).toNatClampNeg w) 39 (e1 : Int32).toNatClampNeg 0) d 3 hI (show 0 ≤ 3 ∧ 3 ≤ 5 from by decide +kernel) (show ((i 33) : Int32).toInt = 0 from by have h90 : (3 : Int32).toInt = 3 := (by decide +kernel); omega)) (cwV 1 hts gm_X12_beginBulk_X12_body rfl rfl rfl (by decide +kernel) ⟨Nat.le_of_ble_eq_true rfl, Nat.le_of_ble_eq_true rfl⟩) (pB_V hK hP hD (ci := 12) (q0 := 0) rfl rfl) rfl rfl hl.1 rfl (lv_room (Nat.le_of_ble_eq_true rfl)) dX12_beginBulk_42 ⟨Nat.le_of_ble_eq_true rfl, Nat.le_of_ble_eq_true rfl⟩) hS hA hP hD (fun u15 H locs hw15 hP hD hS => ?_)
      obtain ⟨i15, q15, c15, d15⟩ := u15
      have hw15 : True ∧ mInv i15 c15 ∧ (∀ k, k ∉ ([] : List Nat) → i15 k = i k) ∧ (∀ k, k ∉ ([] : List Nat) → c15 k = (updA (updA c 38 (e1 : Int32).toNatClampNeg w) 39 (e1 : Int32).toNatClampNeg 0) k) := hw15
      obtain ⟨hw15, hI, hei15, hec15⟩ := hw15
      have hfi : ∀ k, k ∉ ([] : List Nat) → i15 k = i k := fr_z hfi hei15 (by decide +kernel) (by decide +kernel)
      have hfc : ∀ k, k ∉ ([38, 39] : List Nat) → c15 k = c k := fr_z hfc hec15 (by decide +kernel) (by decide +kernel)
      have hP : va_P D vwCl (mW o a t i15 q15 c15 d15) H := hP
      have hD : va_D A (mW o a t i15 q15 c15 d15) := hD
      refine lv_goto (tgt := 62) hx hb dX12_beginBulk_45 (by decide +kernel) ?_
      exact jn2 i15 q15 c15 d15   hI (fr_w hfi (by decide +kernel)) (fr_w hfc (by decide +kernel)) (show (c15 38) = upd (c 38) e1.toNatClampNeg w from hec15 38 (by decide +kernel)) (show (c15 39) = upd (c 39) e1.toNatClampNeg 0 from hec15 39 (by decide +kernel)) _ _ _ hP hD hS (lv_sub hl [0, 1, 2] rfl)
  · have f9 := mt (ti_eq (a := r1.toInt) (b := 0) rfl (by decide +kernel)).mpr c9
    refine lv_aload_n hx hb dX12_beginBulk_23 rfl (lv_at hl 0 rfl) ?_
    refine lv_iconst (v := 2) hx hb dX12_beginBulk_24 (by decide +kernel) ?_
    have rb33_i : 0 ≤ (i 33).toInt ∧ (i 33).toInt ≤ 1 := hI.1 33
    refine al_callv (va_runV (As := [.int 2]) (rest := []) ⟨hx, hb, hml, hown, hts⟩ (s_X12_body_t l D H.size o a t i q (updA (updA c 38 (e1 : Int32).toNatClampNeg w) 39 (e1 : Int32).toNatClampNeg 0) d 2 hI (show 0 ≤ 2 ∧ 2 ≤ 5 from by decide +kernel) (show ((i 33) : Int32).toInt = 0 from by have h90 : (2 : Int32).toInt = 2 := (by decide +kernel); omega)) (cwV 1 hts gm_X12_beginBulk_X12_body rfl rfl rfl (by decide +kernel) ⟨Nat.le_of_ble_eq_true rfl, Nat.le_of_ble_eq_true rfl⟩) (pB_V hK hP hD (ci := 12) (q0 := 0) rfl rfl) rfl rfl hl.1 rfl (lv_room (Nat.le_of_ble_eq_true rfl)) dX12_beginBulk_25 ⟨Nat.le_of_ble_eq_true rfl, Nat.le_of_ble_eq_true rfl⟩) hS hA hP hD (fun u16 H locs hw16 hP hD hS => ?_)
    obtain ⟨i16, q16, c16, d16⟩ := u16
    have hw16 : True ∧ mInv i16 c16 ∧ (∀ k, k ∉ ([] : List Nat) → i16 k = i k) ∧ (∀ k, k ∉ ([] : List Nat) → c16 k = (updA (updA c 38 (e1 : Int32).toNatClampNeg w) 39 (e1 : Int32).toNatClampNeg 0) k) := hw16
    obtain ⟨hw16, hI, hei16, hec16⟩ := hw16
    have hfi : ∀ k, k ∉ ([] : List Nat) → i16 k = i k := fr_z hfi hei16 (by decide +kernel) (by decide +kernel)
    have hfc : ∀ k, k ∉ ([38, 39] : List Nat) → c16 k = c k := fr_z hfc hec16 (by decide +kernel) (by decide +kernel)
    have hP : va_P D vwCl (mW o a t i16 q16 c16 d16) H := hP
    have hD : va_D A (mW o a t i16 q16 c16 d16) := hD
    refine lv_goto (tgt := 62) hx hb dX12_beginBulk_28 (by decide +kernel) ?_
    exact jn2 i16 q16 c16 d16   hI (fr_w hfi (by decide +kernel)) (fr_w hfc (by decide +kernel)) (show (c16 38) = upd (c 38) e1.toNatClampNeg w from hec16 38 (by decide +kernel)) (show (c16 39) = upd (c 39) e1.toNatClampNeg 0 from hec16 39 (by decide +kernel)) _ _ _ hP hD hS (lv_sub hl [0, 1, 2] rfl)

