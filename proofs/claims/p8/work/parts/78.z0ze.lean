set_option maxHeartbeats 4000000 in
set_option maxRecDepth 100000 in
theorem s_X12_acts_t (l : Launch) (D : va_G) (sz : Nat) (o : Nat) (a : Nat → Nat) (t : Nat → ClassId) (i : Nat → Int32) (q : Int64) (c : Nat → Nat → Int32) (d : Nat → Nat → Int64) (v1 : Int32) (w1 : Int32) (w2 : Int32) (hI : mInv i c) (hv1 : 0 ≤ v1.toInt ∧ v1.toInt ≤ 12) (hx0 : v1.toInt = 0 → 0 ≤ w1.toInt ∧ w1.toInt ≤ 9) (hx1 : 1 ≤ v1.toInt ∧ v1.toInt ≤ 10 → 0 ≤ w1.toInt ∧ w1.toInt < (i 5).toInt) (hy : v1.toInt = 3 ∨ v1.toInt = 4 ∨ v1.toInt = 7 ∨ v1.toInt = 8 → 0 ≤ w2.toInt ∧ w2.toInt < (i 5).toInt) (hs_T : TI (i 5).toInt (fun z => Kd (c 3) (c 6) z 0) (i 22).toInt (c 23) (c 24)) (hs_C : Cc (c 3) (c 6) (c 47) (c 48) (c 49) (i 5).toInt) (hs_S : SJ (c 3) (c 6) (c 9) (c 10) (c 11) (c 13) (i 2).toInt (i 5).toInt (i 8).toInt) (hs_P : Kd (c 3) (c 6) (i 22).toInt 5) (hs_R : RQ (c 44) (c 49) (nF (i 5).toInt (c 23) (c 24)) (i 22).toInt (i 5).toInt) (hs_A : AC (c 3) (c 6) (c 9) (c 10) (c 11) (c 12) (c 13) (c 23) (c 24) (c 44) (i 8).toInt (i 5).toInt (i 22).toInt v1.toInt w1.toInt w2.toInt) (hs_E : CcE (c 3) (c 6) (c 47) (c 48) (c 49) (i 5).toInt) : Met l yX12_acts wm_X12_acts ({ frames := 2, cells := 0, slots := 0, locals := 48 }) (va_Pc [.ref o, .int v1, .int w1, .int w2] (pB D sz (mW o a t i q c d) (mT t))) (va_Qv (fun (u : MS) => True ∧ mInv u.1 u.2.2.1 ∧ (∀ k, k ∉ ([16, 17, 18, 19] : List Nat) → u.1 k = i k) ∧ (∀ k, k ∉ ([23, 24, 25, 26] : List Nat) → u.2.2.1 k = c k) ∧ (TI (i 5).toInt (fun z => Kd (c 3) (c 6) z 0) (i 22).toInt (u.2.2.1 23) (u.2.2.1 24)) ∧ (AcR v1.toInt (c 23) (c 24) (c 25) (c 26) (u.2.2.1 23) (u.2.2.1 24) (u.2.2.1 25) (u.2.2.1 26) (sbI v1.toInt (i 22) w1) w1 (plF v1.toInt (zM (c 3) (c 6) (i 5).toInt) (fMn (i 5).toInt (c 23)) (nF (i 5).toInt (c 23) (c 24)) (i 22).toInt w1.toInt) (fun h : Int => (v1.toInt = 0 ∧ ∃ dr bw im : Int, FeM (c 3) (c 6) (c 9) (c 10) (c 11) (c 12) (c 13) (i 8).toInt (c 24 (i 22).toInt.toNat).toInt w1.toInt h dr bw im) ∨ (¬ v1.toInt = 0 ∧ h = plH v1.toInt (nF (i 5).toInt (c 23) (c 24)) (i 22).toInt 0 w1.toInt w2.toInt)))) (oC D (va_A (mW o a t i q c d) sz) (fun u : MS => mW o a t u.1 u.2.1 u.2.2.1 u.2.2.2) (fun _ => [])) (va_A (mW o a t i q c d) sz)) 0 0 (va_A (mW o a t i q c d) sz) := by
  refine Met.ofW (cc := cX12_acts) (maxL := 5) (ret := none) (by decide +kernel) rfl ?_
  intro p e s m args below meth cd s₁ B hml hv
  obtain ⟨rfl, hsz, hP, hK, hD0⟩ := hv
  have hx := B.exec
  have hb := B.bytes
  have hr := B.returns
  have hts := atoms_spec (ws := wm_X12_acts) B.pre
  have hown : s.vm.findClass RX12 = some m.cls := findClass_of_methodNamed B.named
  have hlocks := B.notSynchronized
  subst hsz
  have hD := hD0.self (sz := s.heap.size)
  generalize hAe : va_A (mW o a t i q c d) s.heap.size = A at hD ⊢
  have hA : ∀ q : Nat, s.heap.size ≤ q → A q := fun q h => by rw [← hAe]; exact Or.inr h
  have hS : va_S A s.heap s.heap [] := va_S.rf
  have hfi : ∀ k, k ∉ ([] : List Nat) → i k = i k := fun _ _ => rfl
  have hfc : ∀ k, k ∉ ([] : List Nat) → c k = c k := fun _ _ => rfl
  have hl := lv_entry ([.ref o, .int v1, .int w1, .int w2]) (n := 5) (Nat.le_of_ble_eq_true rfl)
  rw [lg_entry_eq]
  generalize (lg_sl ([.ref o, .int v1, .int w1, .int w2]) ++ List.replicate (5 - (lg_sl ([.ref o, .int v1, .int w1, .int w2])).length) Slot.unset).toArray = ls at hl ⊢
  have hl : lv_has ls 5 [(0, .ref o), (1, .int v1), (2, .int w1), (3, .int w2)] := hl
  have rb5_i : 0 ≤ (i 5).toInt ∧ (i 5).toInt ≤ 30 := hI.1 5
  have rb22_i : (i 22).toInt = -9 ∨ (0 ≤ (i 22).toInt ∧ (i 22).toInt ≤ 29) := hI.1 22
  have hTt := hs_T
  obtain ⟨⟨hp0, hp1, hp2⟩, hT2, hT3, ⟨rk, hrk⟩, rr, hq0, hq1, hq2, hq3⟩ := hTt
  have hsp : Sp (nF (i 5).toInt (c 23) (c 24)) := nF_Sp (by omega) hT2
  have hpl := TI_p hs_T
  have hpa : 0 ≤ (c 24 (i 22).toNatClampNeg).toInt ∧ (c 24 (i 22).toNatClampNeg).toInt < (i 5).toInt := hT2 _ hp0 hp1 hpl
  have h6 := K6_of hI
  have hI0 := hI
  have hnp : (nF (i 5).toInt (c 23) (c 24)) (i 22).toInt = (c 24 (i 22).toInt.toNat).toInt := by unfold nF; rw [if_pos ⟨hp0, hp1, hpl⟩]
  have hfp : (fMn (i 5).toInt (c 23)) (i 22).toInt = (c 23 (i 22).toInt.toNat).toInt := fMn_i ⟨hp0, hp1⟩
  refine lv_iload_n hx hb dX12_acts_0 rfl (lv_at hl 1 rfl) ?_
  rcases (show (v1.toInt < 0 ∨ 11 < v1.toInt) ∨ v1.toInt = 0 ∨ v1.toInt = 1 ∨ v1.toInt = 2 ∨ v1.toInt = 3 ∨ v1.toInt = 4 ∨ v1.toInt = 5 ∨ v1.toInt = 6 ∨ v1.toInt = 7 ∨ v1.toInt = 8 ∨ v1.toInt = 9 ∨ v1.toInt = 10 ∨ v1.toInt = 11 by omega) with f1 | f1 | f1 | f1 | f1 | f1 | f1 | f1 | f1 | f1 | f1 | f1 | f1
  · refine lv_tableOut (tgt := 272) hx hb dX12_acts_1 f1 (by decide +kernel) ?_
    exact rw_vret (i, q, c, d) hx hb hr hlocks hS (hK.sub (tys' := []) [] rfl) hP hD dX12_acts_272 ⟨trivial, hI, fr_w hfi (by decide +kernel), fr_w hfc (by decide +kernel), (show TI (i 5).toInt (fun z => Kd (c 3) (c 6) z 0) (i 22).toInt (c 23) (c 24) from hs_T), (show AcR v1.toInt (c 23) (c 24) (c 25) (c 26) (c 23) (c 24) (c 25) (c 26) (sbI v1.toInt (i 22) w1) w1 (plF v1.toInt (zM (c 3) (c 6) (i 5).toInt) (fMn (i 5).toInt (c 23)) (nF (i 5).toInt (c 23) (c 24)) (i 22).toInt w1.toInt) (fun h : Int => (v1.toInt = 0 ∧ ∃ dr bw im : Int, FeM (c 3) (c 6) (c 9) (c 10) (c 11) (c 12) (c 13) (i 8).toInt (c 24 (i 22).toInt.toNat).toInt w1.toInt h dr bw im) ∨ (¬ v1.toInt = 0 ∧ h = plH v1.toInt (nF (i 5).toInt (c 23) (c 24)) (i 22).toInt 0 w1.toInt w2.toInt)) from Or.inr (Or.inr (Or.inr ⟨by omega, rfl, rfl, rfl, rfl⟩)))⟩
  · refine lv_tableIn (off := 63) (tgt := 64) hx hb dX12_acts_1 (by omega) (by omega) (by rw [f1]; rfl) (by decide +kernel) ?_
    refine lv_aload_n hx hb dX12_acts_64 rfl (lv_at hl 0 rfl) ?_
    refine lv_aload_n hx hb dX12_acts_65 rfl (lv_at hl 0 rfl) ?_
    refine mget_24 hx hb hts (fun _ h => List.mem_cons_of_mem _ (List.mem_append_right _ h)) hown hK hP (hts (.fieldLink RX12 53 "TalePlayModel" "nAt" "[I") (List.mem_cons_of_mem _ (List.mem_append_left _ (List.mem_append_left _ (List.mem_of_getElem? (i := 0) rfl))))) dX12_acts_66 ?_
    refine lv_aload_n hx hb dX12_acts_69 rfl (lv_at hl 0 rfl) ?_
    refine mget_22 (v := (i 22)) rfl hx hb hts (fun _ h => List.mem_cons_of_mem _ (List.mem_append_right _ h)) hown hK hP (hts (.fieldLink RX12 155 "TalePlayModel" "player" "I") (List.mem_cons_of_mem _ (List.mem_append_left _ (List.mem_append_left _ (List.mem_of_getElem? (i := 1) rfl))))) dX12_acts_70 ?_
    refine mld_24 hx hb hK hP (vp_in_iff.mpr (by have h9 : (i 22).toInt = (i 22).toInt := rfl; omega)) dX12_acts_73 (fun x2 ex2 => ?_)
    have rx2 : x2.toInt = -9 ∨ (0 ≤ x2.toInt ∧ x2.toInt ≤ 29) := by rw [ex2]; exact hI.2 24 _
    have gx2 : (c 24 ((i 22) : Int32).toNatClampNeg).toInt = x2.toInt := by rw [ex2]
    refine lv_iload_n hx hb dX12_acts_74 rfl (lv_at hl 2 rfl) ?_
    have rb8_i : 0 ≤ (i 8).toInt ∧ (i 8).toInt ≤ 200 := hI.1 8
    refine al_calli (va_runV (As := [.int x2, .int w1]) (rest := []) ⟨hx, hb, hml, hown, hts⟩ (s_X12_findExit_e l D s.heap.size o a t i q c d x2 w1 hI (show 0 ≤ x2.toInt ∧ x2.toInt ≤ 29 from by omega) (show 0 ≤ w1.toInt ∧ w1.toInt ≤ 9 from by omega)) (cwV 2 hts gm_X12_acts_X12_findExit rfl rfl rfl (by decide +kernel) ⟨Nat.le_of_ble_eq_true rfl, Nat.le_of_ble_eq_true rfl⟩) (pB_V hK hP hD (ci := 12) (q0 := 0) rfl rfl) rfl rfl hl.1 rfl (lv_room (Nat.le_of_ble_eq_true rfl)) dX12_acts_75 ⟨Nat.le_of_ble_eq_true rfl, Nat.le_of_ble_eq_true rfl⟩) hS hA hP hD (fun r3 u3 H locs hw3 hP hD hS => ?_)
    obtain ⟨i3, q3, c3, d3⟩ := u3
    have hw3 : (0 ≤ r3.toInt ∧ r3.toInt ≤ 1) ∧ mInv i3 c3 ∧ (∀ k, k ∉ ([16, 17, 18, 19] : List Nat) → i3 k = i k) ∧ (∀ k, k ∉ ([] : List Nat) → c3 k = c k) ∧ (LdR (c 3) (c 6) (c 9) (c 10) (c 11) (c 12) (c 13) (i 8).toInt x2.toInt w1.toInt (i3 16).toInt) ∧ (FeM (c 3) (c 6) (c 9) (c 10) (c 11) (c 12) (c 13) (i 8).toInt x2.toInt w1.toInt (i3 16).toInt (i3 17).toInt (i3 18).toInt (i3 19).toInt) ∧ ((r3.toInt = 1 ∧ ¬ (i3 18).toInt = -9) ∨ (r3.toInt = 0 ∧ (i3 18).toInt = -9)) := hw3
    obtain ⟨hw3, hI, hei3, hec3, hxp3_0, hxp3_1, hxp3_2⟩ := hw3
    have hxp3_0 : LdR (c 3) (c 6) (c 9) (c 10) (c 11) (c 12) (c 13) (i 8).toInt x2.toInt w1.toInt (i3 16).toInt := hxp3_0
    have hxp3_1 : FeM (c 3) (c 6) (c 9) (c 10) (c 11) (c 12) (c 13) (i 8).toInt x2.toInt w1.toInt (i3 16).toInt (i3 17).toInt (i3 18).toInt (i3 19).toInt := hxp3_1
    have hxp3_2 : (r3.toInt = 1 ∧ ¬ (i3 18).toInt = -9) ∨ (r3.toInt = 0 ∧ (i3 18).toInt = -9) := hxp3_2
    have hfi : ∀ k, k ∉ ([16, 17, 18, 19] : List Nat) → i3 k = i k := fr_z hfi hei3 (by decide +kernel) (by decide +kernel)
    have hfc : ∀ k, k ∉ ([] : List Nat) → c3 k = c k := fr_z hfc hec3 (by decide +kernel) (by decide +kernel)
    have hP : va_P D vwCl (mW o a t i3 q3 c3 d3) H := hP
    have hD : va_D A (mW o a t i3 q3 c3 d3) := hD
    refine lv_istore (lv' := [(4, .int r3), (0, .ref o), (1, .int v1), (2, .int w1), (3, .int w2)]) hx hb dX12_acts_78 hl (by decide +kernel) rfl (fun ls hl => ?_)
    have rb16_i3 : (i3 16).toInt = -9 ∨ (0 ≤ (i3 16).toInt ∧ (i3 16).toInt ≤ 29) := hI.1 16
    obtain ⟨w9, hL9, hne9⟩ := hs_A.1 (by omega)
    have hL8 : LdR (c 3) (c 6) (c 9) (c 10) (c 11) (c 12) (c 13) (i 8).toInt (c 24 (i 22).toInt.toNat).toInt w1.toInt (i3 16).toInt := by rw [show (c 24 (i 22).toInt.toNat).toInt = x2.toInt from gx2]; exact hxp3_0
    have e9 := LdR_u hL8 hL9
    have hr9 := LdR_r hL8 hs_S.2.1 (by omega)
    refine lv_aload_n hx hb dX12_acts_80 rfl (lv_at hl 1 rfl) ?_
    refine lv_aload_n hx hb dX12_acts_81 rfl (lv_at hl 1 rfl) ?_
    refine mget_22 (v := (i3 22)) rfl hx hb hts (fun _ h => List.mem_cons_of_mem _ (List.mem_append_right _ h)) hown hK hP (hts (.fieldLink RX12 155 "TalePlayModel" "player" "I") (List.mem_cons_of_mem _ (List.mem_append_left _ (List.mem_append_left _ (List.mem_of_getElem? (i := 1) rfl))))) dX12_acts_82 ?_
    have rb22_i3 : (i3 22).toInt = -9 ∨ (0 ≤ (i3 22).toInt ∧ (i3 22).toInt ≤ 29) := hI.1 22
    have re22_i3 : (i3 22).toInt = (i 22).toInt := congrArg Int32.toInt (hfi 22 (by decide +kernel))
    refine lv_iconst (v := 0) hx hb dX12_acts_85 (by decide +kernel) ?_
    refine lv_aload_n hx hb dX12_acts_86 rfl (lv_at hl 1 rfl) ?_
    refine mget_16 (v := (i3 16)) rfl hx hb hts (fun _ h => List.mem_cons_of_mem _ (List.mem_append_right _ h)) hown hK hP (hts (.fieldLink RX12 263 "TalePlayModel" "leads" "I") (List.mem_cons_of_mem _ (List.mem_append_left _ (List.mem_append_left _ (List.mem_of_getElem? (i := 7) rfl))))) dX12_acts_87 ?_
    refine al_callv (va_runV (As := [.int (i3 22), .int 0, .int (i3 16)]) (rest := []) ⟨hx, hb, hml, hown, hts⟩ (s_X12_lay l D H.size o a t i3 q3 c3 d3 (i3 22) 0 (i3 16) hI (show 0 ≤ (i3 22).toInt ∧ (i3 22).toInt ≤ 29 from by have h91 : (0 : Int32).toInt = 0 := (by decide +kernel); omega) (show 0 = -9 ∨ (0 ≤ 0 ∧ 0 ≤ 4) from by decide +kernel) (show (i3 16).toInt = -9 ∨ (0 ≤ (i3 16).toInt ∧ (i3 16).toInt ≤ 29) from by have h91 : (0 : Int32).toInt = 0 := (by decide +kernel); omega)) (cwV 3 hts gm_X12_acts_X12_lay rfl rfl rfl (by decide +kernel) ⟨Nat.le_of_ble_eq_true rfl, Nat.le_of_ble_eq_true rfl⟩) (pB_V hK hP hD (ci := 12) (q0 := 0) rfl rfl) rfl rfl hl.1 rfl (lv_room (Nat.le_of_ble_eq_true rfl)) dX12_acts_90 ⟨Nat.le_of_ble_eq_true rfl, Nat.le_of_ble_eq_true rfl⟩) hS hA hP hD (fun u4 H locs hw4 hP hD hS => ?_)
    obtain ⟨i4, q4, c4, d4⟩ := u4
    have hw4 : True ∧ mInv i4 c4 ∧ (∀ k, k ∉ ([] : List Nat) → i4 k = i3 k) ∧ (∀ k, k ∉ ([23, 24] : List Nat) → c4 k = c3 k) ∧ ((c4 23) = upd (c3 23) (i3 22).toNatClampNeg (0 : Int32)) ∧ ((c4 24) = upd (c3 24) (i3 22).toNatClampNeg (i3 16)) := hw4
    obtain ⟨hw4, hI, hei4, hec4, hxp4_0, hxp4_1⟩ := hw4
    have hxp4_0 : (c4 23) = upd (c 23) (i3 22).toNatClampNeg (0 : Int32) := by have h9 := hxp4_0; rw [show c3 23 = c 23 from hfc 23 (by decide +kernel)] at h9; exact h9
    have hxp4_1 : (c4 24) = upd (c 24) (i3 22).toNatClampNeg (i3 16) := by have h9 := hxp4_1; rw [show c3 24 = c 24 from hfc 24 (by decide +kernel)] at h9; exact h9
    have hfi : ∀ k, k ∉ ([16, 17, 18, 19] : List Nat) → i4 k = i k := fr_z hfi hei4 (by decide +kernel) (by decide +kernel)
    have hfc : ∀ k, k ∉ ([23, 24] : List Nat) → c4 k = c k := fr_z hfc hec4 (by decide +kernel) (by decide +kernel)
    have hP : va_P D vwCl (mW o a t i4 q4 c4 d4) H := hP
    have hD : va_D A (mW o a t i4 q4 c4 d4) := hD
    refine lv_goto (tgt := 272) hx hb dX12_acts_93 (by decide +kernel) ?_
    exact rw_vret (i4, q4, c4, d4) hx hb hr hlocks hS (hK.sub (tys' := []) [] rfl) hP hD dX12_acts_272 ⟨trivial, hI, fr_w hfi (by decide +kernel), fr_w hfc (by decide +kernel), (show TI (i 5).toInt (fun z => Kd (c 3) (c 6) z 0) (i 22).toInt (c4 23) (c4 24) from by rw [hxp4_0, hxp4_1]; exact TI_go (by omega) hs_T (by omega) (by decide +kernel) (by omega) hr9.2), (show AcR v1.toInt (c 23) (c 24) (c 25) (c 26) (c4 23) (c4 24) (c4 25) (c4 26) (sbI v1.toInt (i 22) w1) w1 (plF v1.toInt (zM (c 3) (c 6) (i 5).toInt) (fMn (i 5).toInt (c 23)) (nF (i 5).toInt (c 23) (c 24)) (i 22).toInt w1.toInt) (fun h : Int => (v1.toInt = 0 ∧ ∃ dr bw im : Int, FeM (c 3) (c 6) (c 9) (c 10) (c 11) (c 12) (c 13) (i 8).toInt (c 24 (i 22).toInt.toNat).toInt w1.toInt h dr bw im) ∨ (¬ v1.toInt = 0 ∧ h = plH v1.toInt (nF (i 5).toInt (c 23) (c 24)) (i 22).toInt 0 w1.toInt w2.toInt)) from Or.inl ⟨by omega, ⟨(0 : Int32), (i3 16), by unfold plF; rw [if_pos (by omega)]; decide, Or.inl ⟨by omega, _, _, _, by rw [(show (c 24 (i 22).toInt.toNat).toInt = x2.toInt from gx2)]; exact hxp3_1⟩, by rw [sbI_p (by omega), hxp4_0, show i3 22 = i 22 from (hei4 22 (by decide +kernel)).symm.trans (hfi 22 (by decide +kernel))], by rw [sbI_p (by omega), hxp4_1, show i3 22 = i 22 from (hei4 22 (by decide +kernel)).symm.trans (hfi 22 (by decide +kernel))]⟩, hfc 25 (by decide +kernel), hfc 26 (by decide +kernel)⟩)⟩
  · refine lv_tableIn (off := 95) (tgt := 96) hx hb dX12_acts_1 (by omega) (by omega) (by rw [f1]; rfl) (by decide +kernel) ?_
    refine lv_aload_n hx hb dX12_acts_96 rfl (lv_at hl 0 rfl) ?_
    refine lv_iload_n hx hb dX12_acts_97 rfl (lv_at hl 2 rfl) ?_
    refine lv_iconst (v := 2) hx hb dX12_acts_98 (by decide +kernel) ?_
    refine lv_aload_n hx hb dX12_acts_99 rfl (lv_at hl 0 rfl) ?_
    refine mget_22 (v := (i 22)) rfl hx hb hts (fun _ h => List.mem_cons_of_mem _ (List.mem_append_right _ h)) hown hK hP (hts (.fieldLink RX12 155 "TalePlayModel" "player" "I") (List.mem_cons_of_mem _ (List.mem_append_left _ (List.mem_append_left _ (List.mem_of_getElem? (i := 1) rfl))))) dX12_acts_100 ?_
    refine al_callv (va_runV (As := [.int w1, .int 2, .int (i 22)]) (rest := []) ⟨hx, hb, hml, hown, hts⟩ (s_X12_lay l D s.heap.size o a t i q c d w1 2 (i 22) hI (show 0 ≤ w1.toInt ∧ w1.toInt ≤ 29 from by have h91 : (2 : Int32).toInt = 2 := (by decide +kernel); omega) (show 2 = -9 ∨ (0 ≤ 2 ∧ 2 ≤ 4) from by decide +kernel) (show (i 22).toInt = -9 ∨ (0 ≤ (i 22).toInt ∧ (i 22).toInt ≤ 29) from by have h91 : (2 : Int32).toInt = 2 := (by decide +kernel); omega)) (cwV 3 hts gm_X12_acts_X12_lay rfl rfl rfl (by decide +kernel) ⟨Nat.le_of_ble_eq_true rfl, Nat.le_of_ble_eq_true rfl⟩) (pB_V hK hP hD (ci := 12) (q0 := 0) rfl rfl) rfl rfl hl.1 rfl (lv_room (Nat.le_of_ble_eq_true rfl)) dX12_acts_103 ⟨Nat.le_of_ble_eq_true rfl, Nat.le_of_ble_eq_true rfl⟩) hS hA hP hD (fun u5 H locs hw5 hP hD hS => ?_)
    obtain ⟨i5, q5, c5, d5⟩ := u5
    have hw5 : True ∧ mInv i5 c5 ∧ (∀ k, k ∉ ([] : List Nat) → i5 k = i k) ∧ (∀ k, k ∉ ([23, 24] : List Nat) → c5 k = c k) ∧ ((c5 23) = upd (c 23) w1.toNatClampNeg (2 : Int32)) ∧ ((c5 24) = upd (c 24) w1.toNatClampNeg (i 22)) := hw5
    obtain ⟨hw5, hI, hei5, hec5, hxp5_0, hxp5_1⟩ := hw5
    have hxp5_0 : (c5 23) = upd (c 23) w1.toNatClampNeg (2 : Int32) := hxp5_0
    have hxp5_1 : (c5 24) = upd (c 24) w1.toNatClampNeg (i 22) := hxp5_1
    have hfi : ∀ k, k ∉ ([] : List Nat) → i5 k = i k := fr_z hfi hei5 (by decide +kernel) (by decide +kernel)
    have hfc : ∀ k, k ∉ ([23, 24] : List Nat) → c5 k = c k := fr_z hfc hec5 (by decide +kernel) (by decide +kernel)
    have hP : va_P D vwCl (mW o a t i5 q5 c5 d5) H := hP
    have hD : va_D A (mW o a t i5 q5 c5 d5) := hD
    refine lv_goto (tgt := 272) hx hb dX12_acts_106 (by decide +kernel) ?_
    exact rw_vret (i5, q5, c5, d5) hx hb hr hlocks hS (hK.sub (tys' := []) [] rfl) hP hD dX12_acts_272 ⟨trivial, hI, fr_w hfi (by decide +kernel), fr_w hfc (by decide +kernel), (show TI (i 5).toInt (fun z => Kd (c 3) (c 6) z 0) (i 22).toInt (c5 23) (c5 24) from by rw [hxp5_0, hxp5_1]; exact TI_take (by omega) h6 hs_T (by omega) (hs_A.2.1 (by omega)).2.2 (hs_A.2.1 (by omega)).1 (hs_A.2.1 (by omega)).2.1 (by decide +kernel) rfl), (show AcR v1.toInt (c 23) (c 24) (c 25) (c 26) (c5 23) (c5 24) (c5 25) (c5 26) (sbI v1.toInt (i 22) w1) w1 (plF v1.toInt (zM (c 3) (c 6) (i 5).toInt) (fMn (i 5).toInt (c 23)) (nF (i 5).toInt (c 23) (c 24)) (i 22).toInt w1.toInt) (fun h : Int => (v1.toInt = 0 ∧ ∃ dr bw im : Int, FeM (c 3) (c 6) (c 9) (c 10) (c 11) (c 12) (c 13) (i 8).toInt (c 24 (i 22).toInt.toNat).toInt w1.toInt h dr bw im) ∨ (¬ v1.toInt = 0 ∧ h = plH v1.toInt (nF (i 5).toInt (c 23) (c 24)) (i 22).toInt 0 w1.toInt w2.toInt)) from Or.inl ⟨by omega, ⟨(2 : Int32), (i 22), by unfold plF; rw [if_neg (by omega), if_pos (by omega)]; decide, Or.inr ⟨by omega, by unfold plH; rw [if_neg (by omega), if_pos (by omega)]⟩, by rw [sbI_x (by omega), hxp5_0], by rw [sbI_x (by omega), hxp5_1]⟩, hfc 25 (by decide +kernel), hfc 26 (by decide +kernel)⟩)⟩
  · refine lv_tableIn (off := 108) (tgt := 109) hx hb dX12_acts_1 (by omega) (by omega) (by rw [f1]; rfl) (by decide +kernel) ?_
    refine lv_aload_n hx hb dX12_acts_109 rfl (lv_at hl 0 rfl) ?_
    refine lv_iload_n hx hb dX12_acts_110 rfl (lv_at hl 2 rfl) ?_
    refine lv_aload_n hx hb dX12_acts_111 rfl (lv_at hl 0 rfl) ?_
    refine mget_23 hx hb hts (fun _ h => List.mem_cons_of_mem _ (List.mem_append_right _ h)) hown hK hP (hts (.fieldLink RX12 50 "TalePlayModel" "nForm" "[I") (List.mem_cons_of_mem _ (List.mem_append_left _ (List.mem_append_right _ (List.mem_append_left _ (List.mem_of_getElem? (i := 15) rfl)))))) dX12_acts_112 ?_
    refine lv_aload_n hx hb dX12_acts_115 rfl (lv_at hl 0 rfl) ?_
    refine mget_22 (v := (i 22)) rfl hx hb hts (fun _ h => List.mem_cons_of_mem _ (List.mem_append_right _ h)) hown hK hP (hts (.fieldLink RX12 155 "TalePlayModel" "player" "I") (List.mem_cons_of_mem _ (List.mem_append_left _ (List.mem_append_left _ (List.mem_of_getElem? (i := 1) rfl))))) dX12_acts_116 ?_
    refine mld_23 hx hb hK hP (vp_in_iff.mpr (by have h9 : (i 22).toInt = (i 22).toInt := rfl; omega)) dX12_acts_119 (fun x6 ex6 => ?_)
    have rx6 : x6.toInt = -9 ∨ (0 ≤ x6.toInt ∧ x6.toInt ≤ 4) := by rw [ex6]; exact hI.2 23 _
    have gx6 : (c 23 ((i 22) : Int32).toNatClampNeg).toInt = x6.toInt := by rw [ex6]
    refine lv_aload_n hx hb dX12_acts_120 rfl (lv_at hl 0 rfl) ?_
    refine mget_24 hx hb hts (fun _ h => List.mem_cons_of_mem _ (List.mem_append_right _ h)) hown hK hP (hts (.fieldLink RX12 53 "TalePlayModel" "nAt" "[I") (List.mem_cons_of_mem _ (List.mem_append_left _ (List.mem_append_left _ (List.mem_of_getElem? (i := 0) rfl))))) dX12_acts_121 ?_
    refine lv_aload_n hx hb dX12_acts_124 rfl (lv_at hl 0 rfl) ?_
    refine mget_22 (v := (i 22)) rfl hx hb hts (fun _ h => List.mem_cons_of_mem _ (List.mem_append_right _ h)) hown hK hP (hts (.fieldLink RX12 155 "TalePlayModel" "player" "I") (List.mem_cons_of_mem _ (List.mem_append_left _ (List.mem_append_left _ (List.mem_of_getElem? (i := 1) rfl))))) dX12_acts_125 ?_
    refine mld_24 hx hb hK hP (vp_in_iff.mpr (by have h9 : (i 22).toInt = (i 22).toInt := rfl; omega)) dX12_acts_128 (fun x7 ex7 => ?_)
    have rx7 : x7.toInt = -9 ∨ (0 ≤ x7.toInt ∧ x7.toInt ≤ 29) := by rw [ex7]; exact hI.2 24 _
    have gx7 : (c 24 ((i 22) : Int32).toNatClampNeg).toInt = x7.toInt := by rw [ex7]
    refine al_callv (va_runV (As := [.int w1, .int x6, .int x7]) (rest := []) ⟨hx, hb, hml, hown, hts⟩ (s_X12_lay l D s.heap.size o a t i q c d w1 x6 x7 hI (show 0 ≤ w1.toInt ∧ w1.toInt ≤ 29 from by omega) (show x6.toInt = -9 ∨ (0 ≤ x6.toInt ∧ x6.toInt ≤ 4) from by omega) (show x7.toInt = -9 ∨ (0 ≤ x7.toInt ∧ x7.toInt ≤ 29) from by omega)) (cwV 3 hts gm_X12_acts_X12_lay rfl rfl rfl (by decide +kernel) ⟨Nat.le_of_ble_eq_true rfl, Nat.le_of_ble_eq_true rfl⟩) (pB_V hK hP hD (ci := 12) (q0 := 0) rfl rfl) rfl rfl hl.1 rfl (lv_room (Nat.le_of_ble_eq_true rfl)) dX12_acts_129 ⟨Nat.le_of_ble_eq_true rfl, Nat.le_of_ble_eq_true rfl⟩) hS hA hP hD (fun u8 H locs hw8 hP hD hS => ?_)
    obtain ⟨i8, q8, c8, d8⟩ := u8
    have hw8 : True ∧ mInv i8 c8 ∧ (∀ k, k ∉ ([] : List Nat) → i8 k = i k) ∧ (∀ k, k ∉ ([23, 24] : List Nat) → c8 k = c k) ∧ ((c8 23) = upd (c 23) w1.toNatClampNeg x6) ∧ ((c8 24) = upd (c 24) w1.toNatClampNeg x7) := hw8
    obtain ⟨hw8, hI, hei8, hec8, hxp8_0, hxp8_1⟩ := hw8
    have hxp8_0 : (c8 23) = upd (c 23) w1.toNatClampNeg x6 := hxp8_0
    have hxp8_1 : (c8 24) = upd (c 24) w1.toNatClampNeg x7 := hxp8_1
    have hfi : ∀ k, k ∉ ([] : List Nat) → i8 k = i k := fr_z hfi hei8 (by decide +kernel) (by decide +kernel)
    have hfc : ∀ k, k ∉ ([23, 24] : List Nat) → c8 k = c k := fr_z hfc hec8 (by decide +kernel) (by decide +kernel)
    have hP : va_P D vwCl (mW o a t i8 q8 c8 d8) H := hP
    have hD : va_D A (mW o a t i8 q8 c8 d8) := hD
    refine lv_goto (tgt := 272) hx hb dX12_acts_132 (by decide +kernel) ?_
    exact rw_vret (i8, q8, c8, d8) hx hb hr hlocks hS (hK.sub (tys' := []) [] rfl) hP hD dX12_acts_272 ⟨trivial, hI, fr_w hfi (by decide +kernel), fr_w hfc (by decide +kernel), (show TI (i 5).toInt (fun z => Kd (c 3) (c 6) z 0) (i 22).toInt (c8 23) (c8 24) from by rw [hxp8_0, hxp8_1]; exact TI_held (by omega) hs_T (by omega) (by show ¬ (c 23 w1.toInt.toNat).toInt = -9; have h9 := (hs_A.2.2.1 (by omega)).1; omega) (hs_A.2.2.1 (by omega)).2 (by have h9 : ¬ (c 23 (i 22).toNatClampNeg).toInt = -9 := hpl; omega) (by omega) (TI_drop (by omega) hs_T (by omega) (by show ¬ (c 23 w1.toInt.toNat).toInt = -9; have h9 := (hs_A.2.2.1 (by omega)).1; omega) (hs_A.2.2.1 (by omega)).2 (show nF (i 5).toInt (c 23) (c 24) (i 22).toInt = x7.toInt by unfold nF; rw [if_pos ⟨hp0, hp1, hpl⟩]; exact gx7))), (show AcR v1.toInt (c 23) (c 24) (c 25) (c 26) (c8 23) (c8 24) (c8 25) (c8 26) (sbI v1.toInt (i 22) w1) w1 (plF v1.toInt (zM (c 3) (c 6) (i 5).toInt) (fMn (i 5).toInt (c 23)) (nF (i 5).toInt (c 23) (c 24)) (i 22).toInt w1.toInt) (fun h : Int => (v1.toInt = 0 ∧ ∃ dr bw im : Int, FeM (c 3) (c 6) (c 9) (c 10) (c 11) (c 12) (c 13) (i 8).toInt (c 24 (i 22).toInt.toNat).toInt w1.toInt h dr bw im) ∨ (¬ v1.toInt = 0 ∧ h = plH v1.toInt (nF (i 5).toInt (c 23) (c 24)) (i 22).toInt 0 w1.toInt w2.toInt)) from Or.inl ⟨by omega, ⟨x6, x7, by unfold plF; rw [if_neg (by omega), if_neg (by omega), if_pos (by omega), hfp]; exact (show (c 23 (i 22).toInt.toNat).toInt = x6.toInt from gx6).symm, Or.inr ⟨by omega, by unfold plH; rw [if_neg (by omega), if_neg (by omega), if_pos (by omega), hnp]; exact (show (c 24 (i 22).toInt.toNat).toInt = x7.toInt from gx7).symm⟩, by rw [sbI_x (by omega), hxp8_0], by rw [sbI_x (by omega), hxp8_1]⟩, hfc 25 (by decide +kernel), hfc 26 (by decide +kernel)⟩)⟩
  · refine lv_tableIn (off := 134) (tgt := 135) hx hb dX12_acts_1 (by omega) (by omega) (by rw [f1]; rfl) (by decide +kernel) ?_
    refine lv_aload_n hx hb dX12_acts_135 rfl (lv_at hl 0 rfl) ?_
    refine lv_iload_n hx hb dX12_acts_136 rfl (lv_at hl 2 rfl) ?_
    refine lv_iconst (v := 0) hx hb dX12_acts_137 (by decide +kernel) ?_
    refine lv_iload_n hx hb dX12_acts_138 rfl (lv_at hl 3 rfl) ?_
    refine al_callv (va_runV (As := [.int w1, .int 0, .int w2]) (rest := []) ⟨hx, hb, hml, hown, hts⟩ (s_X12_lay l D s.heap.size o a t i q c d w1 0 w2 hI (show 0 ≤ w1.toInt ∧ w1.toInt ≤ 29 from by have h91 : (0 : Int32).toInt = 0 := (by decide +kernel); omega) (show 0 = -9 ∨ (0 ≤ 0 ∧ 0 ≤ 4) from by decide +kernel) (show w2.toInt = -9 ∨ (0 ≤ w2.toInt ∧ w2.toInt ≤ 29) from by have h91 : (0 : Int32).toInt = 0 := (by decide +kernel); omega)) (cwV 3 hts gm_X12_acts_X12_lay rfl rfl rfl (by decide +kernel) ⟨Nat.le_of_ble_eq_true rfl, Nat.le_of_ble_eq_true rfl⟩) (pB_V hK hP hD (ci := 12) (q0 := 0) rfl rfl) rfl rfl hl.1 rfl (lv_room (Nat.le_of_ble_eq_true rfl)) dX12_acts_139 ⟨Nat.le_of_ble_eq_true rfl, Nat.le_of_ble_eq_true rfl⟩) hS hA hP hD (fun u9 H locs hw9 hP hD hS => ?_)
    obtain ⟨i9, q9, c9, d9⟩ := u9
    have hw9 : True ∧ mInv i9 c9 ∧ (∀ k, k ∉ ([] : List Nat) → i9 k = i k) ∧ (∀ k, k ∉ ([23, 24] : List Nat) → c9 k = c k) ∧ ((c9 23) = upd (c 23) w1.toNatClampNeg (0 : Int32)) ∧ ((c9 24) = upd (c 24) w1.toNatClampNeg w2) := hw9
    obtain ⟨hw9, hI, hei9, hec9, hxp9_0, hxp9_1⟩ := hw9
    have hxp9_0 : (c9 23) = upd (c 23) w1.toNatClampNeg (0 : Int32) := hxp9_0
    have hxp9_1 : (c9 24) = upd (c 24) w1.toNatClampNeg w2 := hxp9_1
    have hfi : ∀ k, k ∉ ([] : List Nat) → i9 k = i k := fr_z hfi hei9 (by decide +kernel) (by decide +kernel)
    have hfc : ∀ k, k ∉ ([23, 24] : List Nat) → c9 k = c k := fr_z hfc hec9 (by decide +kernel) (by decide +kernel)
    have hP : va_P D vwCl (mW o a t i9 q9 c9 d9) H := hP
    have hD : va_D A (mW o a t i9 q9 c9 d9) := hD
    refine lv_goto (tgt := 272) hx hb dX12_acts_142 (by decide +kernel) ?_
    exact rw_vret (i9, q9, c9, d9) hx hb hr hlocks hS (hK.sub (tys' := []) [] rfl) hP hD dX12_acts_272 ⟨trivial, hI, fr_w hfi (by decide +kernel), fr_w hfc (by decide +kernel), (show TI (i 5).toInt (fun z => Kd (c 3) (c 6) z 0) (i 22).toInt (c9 23) (c9 24) from by rw [hxp9_0, hxp9_1]; exact TI_held (by omega) hs_T (by omega) (by show ¬ (c 23 w1.toInt.toNat).toInt = -9; have h9 := (hs_A.2.2.1 (by omega)).1; omega) (hs_A.2.2.1 (by omega)).2 (by decide +kernel) (by omega) (fun q9 => (hs_A.2.2.2.1 (by omega)).2 ((Ch_nx (fun e9 => (hs_A.2.2.2.1 (by omega)).1 e9.symm)).mp q9))), (show AcR v1.toInt (c 23) (c 24) (c 25) (c 26) (c9 23) (c9 24) (c9 25) (c9 26) (sbI v1.toInt (i 22) w1) w1 (plF v1.toInt (zM (c 3) (c 6) (i 5).toInt) (fMn (i 5).toInt (c 23)) (nF (i 5).toInt (c 23) (c 24)) (i 22).toInt w1.toInt) (fun h : Int => (v1.toInt = 0 ∧ ∃ dr bw im : Int, FeM (c 3) (c 6) (c 9) (c 10) (c 11) (c 12) (c 13) (i 8).toInt (c 24 (i 22).toInt.toNat).toInt w1.toInt h dr bw im) ∨ (¬ v1.toInt = 0 ∧ h = plH v1.toInt (nF (i 5).toInt (c 23) (c 24)) (i 22).toInt 0 w1.toInt w2.toInt)) from Or.inl ⟨by omega, ⟨(0 : Int32), w2, by unfold plF; rw [if_neg (by omega), if_neg (by omega), if_neg (by omega), if_pos (by omega)]; decide, Or.inr ⟨by omega, by unfold plH; rw [if_neg (by omega), if_neg (by omega), if_neg (by omega), if_pos (by omega)]⟩, by rw [sbI_x (by omega), hxp9_0], by rw [sbI_x (by omega), hxp9_1]⟩, hfc 25 (by decide +kernel), hfc 26 (by decide +kernel)⟩)⟩
  · refine lv_tableIn (off := 144) (tgt := 145) hx hb dX12_acts_1 (by omega) (by omega) (by rw [f1]; rfl) (by decide +kernel) ?_
    refine lv_aload_n hx hb dX12_acts_145 rfl (lv_at hl 0 rfl) ?_
    refine lv_iload_n hx hb dX12_acts_146 rfl (lv_at hl 2 rfl) ?_
    refine lv_iconst (v := 1) hx hb dX12_acts_147 (by decide +kernel) ?_
    refine lv_iload_n hx hb dX12_acts_148 rfl (lv_at hl 3 rfl) ?_
    refine al_callv (va_runV (As := [.int w1, .int 1, .int w2]) (rest := []) ⟨hx, hb, hml, hown, hts⟩ (s_X12_lay l D s.heap.size o a t i q c d w1 1 w2 hI (show 0 ≤ w1.toInt ∧ w1.toInt ≤ 29 from by have h91 : (1 : Int32).toInt = 1 := (by decide +kernel); omega) (show 1 = -9 ∨ (0 ≤ 1 ∧ 1 ≤ 4) from by decide +kernel) (show w2.toInt = -9 ∨ (0 ≤ w2.toInt ∧ w2.toInt ≤ 29) from by have h91 : (1 : Int32).toInt = 1 := (by decide +kernel); omega)) (cwV 3 hts gm_X12_acts_X12_lay rfl rfl rfl (by decide +kernel) ⟨Nat.le_of_ble_eq_true rfl, Nat.le_of_ble_eq_true rfl⟩) (pB_V hK hP hD (ci := 12) (q0 := 0) rfl rfl) rfl rfl hl.1 rfl (lv_room (Nat.le_of_ble_eq_true rfl)) dX12_acts_149 ⟨Nat.le_of_ble_eq_true rfl, Nat.le_of_ble_eq_true rfl⟩) hS hA hP hD (fun u10 H locs hw10 hP hD hS => ?_)
    obtain ⟨i10, q10, c10, d10⟩ := u10
    have hw10 : True ∧ mInv i10 c10 ∧ (∀ k, k ∉ ([] : List Nat) → i10 k = i k) ∧ (∀ k, k ∉ ([23, 24] : List Nat) → c10 k = c k) ∧ ((c10 23) = upd (c 23) w1.toNatClampNeg (1 : Int32)) ∧ ((c10 24) = upd (c 24) w1.toNatClampNeg w2) := hw10
    obtain ⟨hw10, hI, hei10, hec10, hxp10_0, hxp10_1⟩ := hw10
    have hxp10_0 : (c10 23) = upd (c 23) w1.toNatClampNeg (1 : Int32) := hxp10_0
    have hxp10_1 : (c10 24) = upd (c 24) w1.toNatClampNeg w2 := hxp10_1
    have hfi : ∀ k, k ∉ ([] : List Nat) → i10 k = i k := fr_z hfi hei10 (by decide +kernel) (by decide +kernel)
    have hfc : ∀ k, k ∉ ([23, 24] : List Nat) → c10 k = c k := fr_z hfc hec10 (by decide +kernel) (by decide +kernel)
    have hP : va_P D vwCl (mW o a t i10 q10 c10 d10) H := hP
    have hD : va_D A (mW o a t i10 q10 c10 d10) := hD
    refine lv_goto (tgt := 272) hx hb dX12_acts_152 (by decide +kernel) ?_
    exact rw_vret (i10, q10, c10, d10) hx hb hr hlocks hS (hK.sub (tys' := []) [] rfl) hP hD dX12_acts_272 ⟨trivial, hI, fr_w hfi (by decide +kernel), fr_w hfc (by decide +kernel), (show TI (i 5).toInt (fun z => Kd (c 3) (c 6) z 0) (i 22).toInt (c10 23) (c10 24) from by rw [hxp10_0, hxp10_1]; exact TI_held (by omega) hs_T (by omega) (by show ¬ (c 23 w1.toInt.toNat).toInt = -9; have h9 := (hs_A.2.2.1 (by omega)).1; omega) (hs_A.2.2.1 (by omega)).2 (by decide +kernel) (by omega) (fun q9 => (hs_A.2.2.2.1 (by omega)).2 ((Ch_nx (fun e9 => (hs_A.2.2.2.1 (by omega)).1 e9.symm)).mp q9))), (show AcR v1.toInt (c 23) (c 24) (c 25) (c 26) (c10 23) (c10 24) (c10 25) (c10 26) (sbI v1.toInt (i 22) w1) w1 (plF v1.toInt (zM (c 3) (c 6) (i 5).toInt) (fMn (i 5).toInt (c 23)) (nF (i 5).toInt (c 23) (c 24)) (i 22).toInt w1.toInt) (fun h : Int => (v1.toInt = 0 ∧ ∃ dr bw im : Int, FeM (c 3) (c 6) (c 9) (c 10) (c 11) (c 12) (c 13) (i 8).toInt (c 24 (i 22).toInt.toNat).toInt w1.toInt h dr bw im) ∨ (¬ v1.toInt = 0 ∧ h = plH v1.toInt (nF (i 5).toInt (c 23) (c 24)) (i 22).toInt 0 w1.toInt w2.toInt)) from Or.inl ⟨by omega, ⟨(1 : Int32), w2, by unfold plF; rw [if_neg (by omega), if_neg (by omega), if_neg (by omega), if_neg (by omega), if_pos (by omega)]; decide, Or.inr ⟨by omega, by unfold plH; rw [if_neg (by omega), if_neg (by omega), if_neg (by omega), if_pos (by omega)]⟩, by rw [sbI_x (by omega), hxp10_0], by rw [sbI_x (by omega), hxp10_1]⟩, hfc 25 (by decide +kernel), hfc 26 (by decide +kernel)⟩)⟩
  · refine lv_tableIn (off := 154) (tgt := 155) hx hb dX12_acts_1 (by omega) (by omega) (by rw [f1]; rfl) (by decide +kernel) ?_
    refine lv_aload_n hx hb dX12_acts_155 rfl (lv_at hl 0 rfl) ?_
    refine mget_25 hx hb hts (fun _ h => List.mem_cons_of_mem _ (List.mem_append_right _ h)) hown hK hP (hts (.fieldLink RX12 56 "TalePlayModel" "nOpen" "[Z") (List.mem_cons_of_mem _ (List.mem_append_left _ (List.mem_append_right _ (List.mem_append_right _ (List.mem_of_getElem? (i := 0) rfl)))))) dX12_acts_156 ?_
    refine lv_iload_n hx hb dX12_acts_159 rfl (lv_at hl 2 rfl) ?_
    refine lv_iload_n hx hb dX12_acts_160 rfl (lv_at hl 1 rfl) ?_
    refine lv_iconst (v := 5) hx hb dX12_acts_161 (by decide +kernel) ?_
    refine lv_icmp_ne (tgt := 169) hx hb dX12_acts_162 (by decide +kernel) (fun c11 => ?_) (fun c11 => ?_)
    · have f11 := mt (ti_eq (a := v1.toInt) (b := 5) rfl (by decide +kernel)).mpr c11
      refine lv_iconst (v := 0) hx hb dX12_acts_169 (by decide +kernel) ?_
      refine mst_25 hx hb hK hP hD hS (vp_in_iff.mpr (by have h9 : w1.toInt = w1.toInt := rfl; omega)) (nb_z (show 0 ≤ (0 : Int32).toInt ∧ (0 : Int32).toInt ≤ 1 from by decide +kernel)) dX12_acts_170 (fun H locs hP hD hS => ?_)
      have hI := mInv_c hI (k := 25) (j := (w1 : Int32).toNatClampNeg) (x := 0) (show 0 ≤ (0 : Int32).toInt ∧ (0 : Int32).toInt ≤ 1 from by decide +kernel)
      have hfc : ∀ k, k ∉ ([25] : List Nat) → (updA c 25 (w1 : Int32).toNatClampNeg 0) k = c k := fr_cz hfc (by decide +kernel) (by decide +kernel)
      refine lv_goto (tgt := 272) hx hb dX12_acts_171 (by decide +kernel) ?_
      exact rw_vret (i, q, (updA c 25 (w1 : Int32).toNatClampNeg 0), d) hx hb hr hlocks hS (hK.sub (tys' := []) [] rfl) hP hD dX12_acts_272 ⟨trivial, hI, fr_w hfi (by decide +kernel), fr_w hfc (by decide +kernel), (show TI (i 5).toInt (fun z => Kd (c 3) (c 6) z 0) (i 22).toInt ((updA c 25 (w1 : Int32).toNatClampNeg 0) 23) ((updA c 25 (w1 : Int32).toNatClampNeg 0) 24) from hs_T), (show AcR v1.toInt (c 23) (c 24) (c 25) (c 26) ((updA c 25 (w1 : Int32).toNatClampNeg 0) 23) ((updA c 25 (w1 : Int32).toNatClampNeg 0) 24) ((updA c 25 (w1 : Int32).toNatClampNeg 0) 25) ((updA c 25 (w1 : Int32).toNatClampNeg 0) 26) (sbI v1.toInt (i 22) w1) w1 (plF v1.toInt (zM (c 3) (c 6) (i 5).toInt) (fMn (i 5).toInt (c 23)) (nF (i 5).toInt (c 23) (c 24)) (i 22).toInt w1.toInt) (fun h : Int => (v1.toInt = 0 ∧ ∃ dr bw im : Int, FeM (c 3) (c 6) (c 9) (c 10) (c 11) (c 12) (c 13) (i 8).toInt (c 24 (i 22).toInt.toNat).toInt w1.toInt h dr bw im) ∨ (¬ v1.toInt = 0 ∧ h = plH v1.toInt (nF (i 5).toInt (c 23) (c 24)) (i 22).toInt 0 w1.toInt w2.toInt)) from Or.inr (Or.inl ⟨by omega, rfl, rfl, ⟨_, sm_0 (by omega), rfl⟩, rfl⟩))⟩
    · have f11 := (ti_eq (a := v1.toInt) (b := 5) rfl (by decide +kernel)).mp c11
      refine lv_iconst (v := 1) hx hb dX12_acts_165 (by decide +kernel) ?_
      refine lv_goto (tgt := 170) hx hb dX12_acts_166 (by decide +kernel) ?_
      refine mst_25 hx hb hK hP hD hS (vp_in_iff.mpr (by have h9 : w1.toInt = w1.toInt := rfl; omega)) (nb_z (show 0 ≤ (1 : Int32).toInt ∧ (1 : Int32).toInt ≤ 1 from by decide +kernel)) dX12_acts_170 (fun H locs hP hD hS => ?_)
      have hI := mInv_c hI (k := 25) (j := (w1 : Int32).toNatClampNeg) (x := 1) (show 0 ≤ (1 : Int32).toInt ∧ (1 : Int32).toInt ≤ 1 from by decide +kernel)
      have hfc : ∀ k, k ∉ ([25] : List Nat) → (updA c 25 (w1 : Int32).toNatClampNeg 1) k = c k := fr_cz hfc (by decide +kernel) (by decide +kernel)
      refine lv_goto (tgt := 272) hx hb dX12_acts_171 (by decide +kernel) ?_
      exact rw_vret (i, q, (updA c 25 (w1 : Int32).toNatClampNeg 1), d) hx hb hr hlocks hS (hK.sub (tys' := []) [] rfl) hP hD dX12_acts_272 ⟨trivial, hI, fr_w hfi (by decide +kernel), fr_w hfc (by decide +kernel), (show TI (i 5).toInt (fun z => Kd (c 3) (c 6) z 0) (i 22).toInt ((updA c 25 (w1 : Int32).toNatClampNeg 1) 23) ((updA c 25 (w1 : Int32).toNatClampNeg 1) 24) from hs_T), (show AcR v1.toInt (c 23) (c 24) (c 25) (c 26) ((updA c 25 (w1 : Int32).toNatClampNeg 1) 23) ((updA c 25 (w1 : Int32).toNatClampNeg 1) 24) ((updA c 25 (w1 : Int32).toNatClampNeg 1) 25) ((updA c 25 (w1 : Int32).toNatClampNeg 1) 26) (sbI v1.toInt (i 22) w1) w1 (plF v1.toInt (zM (c 3) (c 6) (i 5).toInt) (fMn (i 5).toInt (c 23)) (nF (i 5).toInt (c 23) (c 24)) (i 22).toInt w1.toInt) (fun h : Int => (v1.toInt = 0 ∧ ∃ dr bw im : Int, FeM (c 3) (c 6) (c 9) (c 10) (c 11) (c 12) (c 13) (i 8).toInt (c 24 (i 22).toInt.toNat).toInt w1.toInt h dr bw im) ∨ (¬ v1.toInt = 0 ∧ h = plH v1.toInt (nF (i 5).toInt (c 23) (c 24)) (i 22).toInt 0 w1.toInt w2.toInt)) from Or.inr (Or.inl ⟨by omega, rfl, rfl, ⟨_, sm_1 (by omega), rfl⟩, rfl⟩))⟩
  · refine lv_tableIn (off := 154) (tgt := 155) hx hb dX12_acts_1 (by omega) (by omega) (by rw [f1]; rfl) (by decide +kernel) ?_
    refine lv_aload_n hx hb dX12_acts_155 rfl (lv_at hl 0 rfl) ?_
    refine mget_25 hx hb hts (fun _ h => List.mem_cons_of_mem _ (List.mem_append_right _ h)) hown hK hP (hts (.fieldLink RX12 56 "TalePlayModel" "nOpen" "[Z") (List.mem_cons_of_mem _ (List.mem_append_left _ (List.mem_append_right _ (List.mem_append_right _ (List.mem_of_getElem? (i := 0) rfl)))))) dX12_acts_156 ?_
    refine lv_iload_n hx hb dX12_acts_159 rfl (lv_at hl 2 rfl) ?_
    refine lv_iload_n hx hb dX12_acts_160 rfl (lv_at hl 1 rfl) ?_
    refine lv_iconst (v := 5) hx hb dX12_acts_161 (by decide +kernel) ?_
    refine lv_icmp_ne (tgt := 169) hx hb dX12_acts_162 (by decide +kernel) (fun c12 => ?_) (fun c12 => ?_)
    · have f12 := mt (ti_eq (a := v1.toInt) (b := 5) rfl (by decide +kernel)).mpr c12
      refine lv_iconst (v := 0) hx hb dX12_acts_169 (by decide +kernel) ?_
      refine mst_25 hx hb hK hP hD hS (vp_in_iff.mpr (by have h9 : w1.toInt = w1.toInt := rfl; omega)) (nb_z (show 0 ≤ (0 : Int32).toInt ∧ (0 : Int32).toInt ≤ 1 from by decide +kernel)) dX12_acts_170 (fun H locs hP hD hS => ?_)
      have hI := mInv_c hI (k := 25) (j := (w1 : Int32).toNatClampNeg) (x := 0) (show 0 ≤ (0 : Int32).toInt ∧ (0 : Int32).toInt ≤ 1 from by decide +kernel)
      have hfc : ∀ k, k ∉ ([25] : List Nat) → (updA c 25 (w1 : Int32).toNatClampNeg 0) k = c k := fr_cz hfc (by decide +kernel) (by decide +kernel)
      refine lv_goto (tgt := 272) hx hb dX12_acts_171 (by decide +kernel) ?_
      exact rw_vret (i, q, (updA c 25 (w1 : Int32).toNatClampNeg 0), d) hx hb hr hlocks hS (hK.sub (tys' := []) [] rfl) hP hD dX12_acts_272 ⟨trivial, hI, fr_w hfi (by decide +kernel), fr_w hfc (by decide +kernel), (show TI (i 5).toInt (fun z => Kd (c 3) (c 6) z 0) (i 22).toInt ((updA c 25 (w1 : Int32).toNatClampNeg 0) 23) ((updA c 25 (w1 : Int32).toNatClampNeg 0) 24) from hs_T), (show AcR v1.toInt (c 23) (c 24) (c 25) (c 26) ((updA c 25 (w1 : Int32).toNatClampNeg 0) 23) ((updA c 25 (w1 : Int32).toNatClampNeg 0) 24) ((updA c 25 (w1 : Int32).toNatClampNeg 0) 25) ((updA c 25 (w1 : Int32).toNatClampNeg 0) 26) (sbI v1.toInt (i 22) w1) w1 (plF v1.toInt (zM (c 3) (c 6) (i 5).toInt) (fMn (i 5).toInt (c 23)) (nF (i 5).toInt (c 23) (c 24)) (i 22).toInt w1.toInt) (fun h : Int => (v1.toInt = 0 ∧ ∃ dr bw im : Int, FeM (c 3) (c 6) (c 9) (c 10) (c 11) (c 12) (c 13) (i 8).toInt (c 24 (i 22).toInt.toNat).toInt w1.toInt h dr bw im) ∨ (¬ v1.toInt = 0 ∧ h = plH v1.toInt (nF (i 5).toInt (c 23) (c 24)) (i 22).toInt 0 w1.toInt w2.toInt)) from Or.inr (Or.inl ⟨by omega, rfl, rfl, ⟨_, sm_0 (by omega), rfl⟩, rfl⟩))⟩
    · have f12 := (ti_eq (a := v1.toInt) (b := 5) rfl (by decide +kernel)).mp c12
      refine lv_iconst (v := 1) hx hb dX12_acts_165 (by decide +kernel) ?_
      refine lv_goto (tgt := 170) hx hb dX12_acts_166 (by decide +kernel) ?_
      refine mst_25 hx hb hK hP hD hS (vp_in_iff.mpr (by have h9 : w1.toInt = w1.toInt := rfl; omega)) (nb_z (show 0 ≤ (1 : Int32).toInt ∧ (1 : Int32).toInt ≤ 1 from by decide +kernel)) dX12_acts_170 (fun H locs hP hD hS => ?_)
      have hI := mInv_c hI (k := 25) (j := (w1 : Int32).toNatClampNeg) (x := 1) (show 0 ≤ (1 : Int32).toInt ∧ (1 : Int32).toInt ≤ 1 from by decide +kernel)
      have hfc : ∀ k, k ∉ ([25] : List Nat) → (updA c 25 (w1 : Int32).toNatClampNeg 1) k = c k := fr_cz hfc (by decide +kernel) (by decide +kernel)
      refine lv_goto (tgt := 272) hx hb dX12_acts_171 (by decide +kernel) ?_
      exact rw_vret (i, q, (updA c 25 (w1 : Int32).toNatClampNeg 1), d) hx hb hr hlocks hS (hK.sub (tys' := []) [] rfl) hP hD dX12_acts_272 ⟨trivial, hI, fr_w hfi (by decide +kernel), fr_w hfc (by decide +kernel), (show TI (i 5).toInt (fun z => Kd (c 3) (c 6) z 0) (i 22).toInt ((updA c 25 (w1 : Int32).toNatClampNeg 1) 23) ((updA c 25 (w1 : Int32).toNatClampNeg 1) 24) from hs_T), (show AcR v1.toInt (c 23) (c 24) (c 25) (c 26) ((updA c 25 (w1 : Int32).toNatClampNeg 1) 23) ((updA c 25 (w1 : Int32).toNatClampNeg 1) 24) ((updA c 25 (w1 : Int32).toNatClampNeg 1) 25) ((updA c 25 (w1 : Int32).toNatClampNeg 1) 26) (sbI v1.toInt (i 22) w1) w1 (plF v1.toInt (zM (c 3) (c 6) (i 5).toInt) (fMn (i 5).toInt (c 23)) (nF (i 5).toInt (c 23) (c 24)) (i 22).toInt w1.toInt) (fun h : Int => (v1.toInt = 0 ∧ ∃ dr bw im : Int, FeM (c 3) (c 6) (c 9) (c 10) (c 11) (c 12) (c 13) (i 8).toInt (c 24 (i 22).toInt.toNat).toInt w1.toInt h dr bw im) ∨ (¬ v1.toInt = 0 ∧ h = plH v1.toInt (nF (i 5).toInt (c 23) (c 24)) (i 22).toInt 0 w1.toInt w2.toInt)) from Or.inr (Or.inl ⟨by omega, rfl, rfl, ⟨_, sm_1 (by omega), rfl⟩, rfl⟩))⟩
  · refine lv_tableIn (off := 173) (tgt := 174) hx hb dX12_acts_1 (by omega) (by omega) (by rw [f1]; rfl) (by decide +kernel) ?_
    refine lv_aload_n hx hb dX12_acts_174 rfl (lv_at hl 0 rfl) ?_
    refine mget_26 hx hb hts (fun _ h => List.mem_cons_of_mem _ (List.mem_append_right _ h)) hown hK hP (hts (.fieldLink RX12 59 "TalePlayModel" "nLocked" "[Z") (List.mem_cons_of_mem _ (List.mem_append_left _ (List.mem_append_right _ (List.mem_append_right _ (List.mem_of_getElem? (i := 1) rfl)))))) dX12_acts_175 ?_
    refine lv_iload_n hx hb dX12_acts_178 rfl (lv_at hl 2 rfl) ?_
    refine lv_iload_n hx hb dX12_acts_179 rfl (lv_at hl 1 rfl) ?_
    refine lv_bipush (v := 8) hx hb dX12_acts_180 (by decide +kernel) ?_
    refine lv_icmp_ne (tgt := 189) hx hb dX12_acts_182 (by decide +kernel) (fun c13 => ?_) (fun c13 => ?_)
    · have f13 := mt (ti_eq (a := v1.toInt) (b := 8) rfl (by decide +kernel)).mpr c13
      refine lv_iconst (v := 0) hx hb dX12_acts_189 (by decide +kernel) ?_
      refine mst_26 hx hb hK hP hD hS (vp_in_iff.mpr (by have h9 : w1.toInt = w1.toInt := rfl; omega)) (nb_z (show 0 ≤ (0 : Int32).toInt ∧ (0 : Int32).toInt ≤ 1 from by decide +kernel)) dX12_acts_190 (fun H locs hP hD hS => ?_)
      have hI := mInv_c hI (k := 26) (j := (w1 : Int32).toNatClampNeg) (x := 0) (show 0 ≤ (0 : Int32).toInt ∧ (0 : Int32).toInt ≤ 1 from by decide +kernel)
      have hfc : ∀ k, k ∉ ([26] : List Nat) → (updA c 26 (w1 : Int32).toNatClampNeg 0) k = c k := fr_cz hfc (by decide +kernel) (by decide +kernel)
      refine lv_goto (tgt := 272) hx hb dX12_acts_191 (by decide +kernel) ?_
      exact rw_vret (i, q, (updA c 26 (w1 : Int32).toNatClampNeg 0), d) hx hb hr hlocks hS (hK.sub (tys' := []) [] rfl) hP hD dX12_acts_272 ⟨trivial, hI, fr_w hfi (by decide +kernel), fr_w hfc (by decide +kernel), (show TI (i 5).toInt (fun z => Kd (c 3) (c 6) z 0) (i 22).toInt ((updA c 26 (w1 : Int32).toNatClampNeg 0) 23) ((updA c 26 (w1 : Int32).toNatClampNeg 0) 24) from hs_T), (show AcR v1.toInt (c 23) (c 24) (c 25) (c 26) ((updA c 26 (w1 : Int32).toNatClampNeg 0) 23) ((updA c 26 (w1 : Int32).toNatClampNeg 0) 24) ((updA c 26 (w1 : Int32).toNatClampNeg 0) 25) ((updA c 26 (w1 : Int32).toNatClampNeg 0) 26) (sbI v1.toInt (i 22) w1) w1 (plF v1.toInt (zM (c 3) (c 6) (i 5).toInt) (fMn (i 5).toInt (c 23)) (nF (i 5).toInt (c 23) (c 24)) (i 22).toInt w1.toInt) (fun h : Int => (v1.toInt = 0 ∧ ∃ dr bw im : Int, FeM (c 3) (c 6) (c 9) (c 10) (c 11) (c 12) (c 13) (i 8).toInt (c 24 (i 22).toInt.toNat).toInt w1.toInt h dr bw im) ∨ (¬ v1.toInt = 0 ∧ h = plH v1.toInt (nF (i 5).toInt (c 23) (c 24)) (i 22).toInt 0 w1.toInt w2.toInt)) from Or.inr (Or.inr (Or.inl ⟨by omega, rfl, rfl, rfl, ⟨_, sm_0 (by omega), rfl⟩⟩)))⟩
    · have f13 := (ti_eq (a := v1.toInt) (b := 8) rfl (by decide +kernel)).mp c13
      refine lv_iconst (v := 1) hx hb dX12_acts_185 (by decide +kernel) ?_
      refine lv_goto (tgt := 190) hx hb dX12_acts_186 (by decide +kernel) ?_
      refine mst_26 hx hb hK hP hD hS (vp_in_iff.mpr (by have h9 : w1.toInt = w1.toInt := rfl; omega)) (nb_z (show 0 ≤ (1 : Int32).toInt ∧ (1 : Int32).toInt ≤ 1 from by decide +kernel)) dX12_acts_190 (fun H locs hP hD hS => ?_)
      have hI := mInv_c hI (k := 26) (j := (w1 : Int32).toNatClampNeg) (x := 1) (show 0 ≤ (1 : Int32).toInt ∧ (1 : Int32).toInt ≤ 1 from by decide +kernel)
      have hfc : ∀ k, k ∉ ([26] : List Nat) → (updA c 26 (w1 : Int32).toNatClampNeg 1) k = c k := fr_cz hfc (by decide +kernel) (by decide +kernel)
      refine lv_goto (tgt := 272) hx hb dX12_acts_191 (by decide +kernel) ?_
      exact rw_vret (i, q, (updA c 26 (w1 : Int32).toNatClampNeg 1), d) hx hb hr hlocks hS (hK.sub (tys' := []) [] rfl) hP hD dX12_acts_272 ⟨trivial, hI, fr_w hfi (by decide +kernel), fr_w hfc (by decide +kernel), (show TI (i 5).toInt (fun z => Kd (c 3) (c 6) z 0) (i 22).toInt ((updA c 26 (w1 : Int32).toNatClampNeg 1) 23) ((updA c 26 (w1 : Int32).toNatClampNeg 1) 24) from hs_T), (show AcR v1.toInt (c 23) (c 24) (c 25) (c 26) ((updA c 26 (w1 : Int32).toNatClampNeg 1) 23) ((updA c 26 (w1 : Int32).toNatClampNeg 1) 24) ((updA c 26 (w1 : Int32).toNatClampNeg 1) 25) ((updA c 26 (w1 : Int32).toNatClampNeg 1) 26) (sbI v1.toInt (i 22) w1) w1 (plF v1.toInt (zM (c 3) (c 6) (i 5).toInt) (fMn (i 5).toInt (c 23)) (nF (i 5).toInt (c 23) (c 24)) (i 22).toInt w1.toInt) (fun h : Int => (v1.toInt = 0 ∧ ∃ dr bw im : Int, FeM (c 3) (c 6) (c 9) (c 10) (c 11) (c 12) (c 13) (i 8).toInt (c 24 (i 22).toInt.toNat).toInt w1.toInt h dr bw im) ∨ (¬ v1.toInt = 0 ∧ h = plH v1.toInt (nF (i 5).toInt (c 23) (c 24)) (i 22).toInt 0 w1.toInt w2.toInt)) from Or.inr (Or.inr (Or.inl ⟨by omega, rfl, rfl, rfl, ⟨_, sm_1 (by omega), rfl⟩⟩)))⟩
  · refine lv_tableIn (off := 173) (tgt := 174) hx hb dX12_acts_1 (by omega) (by omega) (by rw [f1]; rfl) (by decide +kernel) ?_
    refine lv_aload_n hx hb dX12_acts_174 rfl (lv_at hl 0 rfl) ?_
    refine mget_26 hx hb hts (fun _ h => List.mem_cons_of_mem _ (List.mem_append_right _ h)) hown hK hP (hts (.fieldLink RX12 59 "TalePlayModel" "nLocked" "[Z") (List.mem_cons_of_mem _ (List.mem_append_left _ (List.mem_append_right _ (List.mem_append_right _ (List.mem_of_getElem? (i := 1) rfl)))))) dX12_acts_175 ?_
    refine lv_iload_n hx hb dX12_acts_178 rfl (lv_at hl 2 rfl) ?_
    refine lv_iload_n hx hb dX12_acts_179 rfl (lv_at hl 1 rfl) ?_
    refine lv_bipush (v := 8) hx hb dX12_acts_180 (by decide +kernel) ?_
    refine lv_icmp_ne (tgt := 189) hx hb dX12_acts_182 (by decide +kernel) (fun c14 => ?_) (fun c14 => ?_)
    · have f14 := mt (ti_eq (a := v1.toInt) (b := 8) rfl (by decide +kernel)).mpr c14
      refine lv_iconst (v := 0) hx hb dX12_acts_189 (by decide +kernel) ?_
      refine mst_26 hx hb hK hP hD hS (vp_in_iff.mpr (by have h9 : w1.toInt = w1.toInt := rfl; omega)) (nb_z (show 0 ≤ (0 : Int32).toInt ∧ (0 : Int32).toInt ≤ 1 from by decide +kernel)) dX12_acts_190 (fun H locs hP hD hS => ?_)
      have hI := mInv_c hI (k := 26) (j := (w1 : Int32).toNatClampNeg) (x := 0) (show 0 ≤ (0 : Int32).toInt ∧ (0 : Int32).toInt ≤ 1 from by decide +kernel)
      have hfc : ∀ k, k ∉ ([26] : List Nat) → (updA c 26 (w1 : Int32).toNatClampNeg 0) k = c k := fr_cz hfc (by decide +kernel) (by decide +kernel)
      refine lv_goto (tgt := 272) hx hb dX12_acts_191 (by decide +kernel) ?_
      exact rw_vret (i, q, (updA c 26 (w1 : Int32).toNatClampNeg 0), d) hx hb hr hlocks hS (hK.sub (tys' := []) [] rfl) hP hD dX12_acts_272 ⟨trivial, hI, fr_w hfi (by decide +kernel), fr_w hfc (by decide +kernel), (show TI (i 5).toInt (fun z => Kd (c 3) (c 6) z 0) (i 22).toInt ((updA c 26 (w1 : Int32).toNatClampNeg 0) 23) ((updA c 26 (w1 : Int32).toNatClampNeg 0) 24) from hs_T), (show AcR v1.toInt (c 23) (c 24) (c 25) (c 26) ((updA c 26 (w1 : Int32).toNatClampNeg 0) 23) ((updA c 26 (w1 : Int32).toNatClampNeg 0) 24) ((updA c 26 (w1 : Int32).toNatClampNeg 0) 25) ((updA c 26 (w1 : Int32).toNatClampNeg 0) 26) (sbI v1.toInt (i 22) w1) w1 (plF v1.toInt (zM (c 3) (c 6) (i 5).toInt) (fMn (i 5).toInt (c 23)) (nF (i 5).toInt (c 23) (c 24)) (i 22).toInt w1.toInt) (fun h : Int => (v1.toInt = 0 ∧ ∃ dr bw im : Int, FeM (c 3) (c 6) (c 9) (c 10) (c 11) (c 12) (c 13) (i 8).toInt (c 24 (i 22).toInt.toNat).toInt w1.toInt h dr bw im) ∨ (¬ v1.toInt = 0 ∧ h = plH v1.toInt (nF (i 5).toInt (c 23) (c 24)) (i 22).toInt 0 w1.toInt w2.toInt)) from Or.inr (Or.inr (Or.inl ⟨by omega, rfl, rfl, rfl, ⟨_, sm_0 (by omega), rfl⟩⟩)))⟩
    · have f14 := (ti_eq (a := v1.toInt) (b := 8) rfl (by decide +kernel)).mp c14
      refine lv_iconst (v := 1) hx hb dX12_acts_185 (by decide +kernel) ?_
      refine lv_goto (tgt := 190) hx hb dX12_acts_186 (by decide +kernel) ?_
      refine mst_26 hx hb hK hP hD hS (vp_in_iff.mpr (by have h9 : w1.toInt = w1.toInt := rfl; omega)) (nb_z (show 0 ≤ (1 : Int32).toInt ∧ (1 : Int32).toInt ≤ 1 from by decide +kernel)) dX12_acts_190 (fun H locs hP hD hS => ?_)
      have hI := mInv_c hI (k := 26) (j := (w1 : Int32).toNatClampNeg) (x := 1) (show 0 ≤ (1 : Int32).toInt ∧ (1 : Int32).toInt ≤ 1 from by decide +kernel)
      have hfc : ∀ k, k ∉ ([26] : List Nat) → (updA c 26 (w1 : Int32).toNatClampNeg 1) k = c k := fr_cz hfc (by decide +kernel) (by decide +kernel)
      refine lv_goto (tgt := 272) hx hb dX12_acts_191 (by decide +kernel) ?_
      exact rw_vret (i, q, (updA c 26 (w1 : Int32).toNatClampNeg 1), d) hx hb hr hlocks hS (hK.sub (tys' := []) [] rfl) hP hD dX12_acts_272 ⟨trivial, hI, fr_w hfi (by decide +kernel), fr_w hfc (by decide +kernel), (show TI (i 5).toInt (fun z => Kd (c 3) (c 6) z 0) (i 22).toInt ((updA c 26 (w1 : Int32).toNatClampNeg 1) 23) ((updA c 26 (w1 : Int32).toNatClampNeg 1) 24) from hs_T), (show AcR v1.toInt (c 23) (c 24) (c 25) (c 26) ((updA c 26 (w1 : Int32).toNatClampNeg 1) 23) ((updA c 26 (w1 : Int32).toNatClampNeg 1) 24) ((updA c 26 (w1 : Int32).toNatClampNeg 1) 25) ((updA c 26 (w1 : Int32).toNatClampNeg 1) 26) (sbI v1.toInt (i 22) w1) w1 (plF v1.toInt (zM (c 3) (c 6) (i 5).toInt) (fMn (i 5).toInt (c 23)) (nF (i 5).toInt (c 23) (c 24)) (i 22).toInt w1.toInt) (fun h : Int => (v1.toInt = 0 ∧ ∃ dr bw im : Int, FeM (c 3) (c 6) (c 9) (c 10) (c 11) (c 12) (c 13) (i 8).toInt (c 24 (i 22).toInt.toNat).toInt w1.toInt h dr bw im) ∨ (¬ v1.toInt = 0 ∧ h = plH v1.toInt (nF (i 5).toInt (c 23) (c 24)) (i 22).toInt 0 w1.toInt w2.toInt)) from Or.inr (Or.inr (Or.inl ⟨by omega, rfl, rfl, rfl, ⟨_, sm_1 (by omega), rfl⟩⟩)))⟩
  · refine lv_tableIn (off := 193) (tgt := 194) hx hb dX12_acts_1 (by omega) (by omega) (by rw [f1]; rfl) (by decide +kernel) ?_
    refine lv_aload_n hx hb dX12_acts_194 rfl (lv_at hl 0 rfl) ?_
    refine lv_iload_n hx hb dX12_acts_195 rfl (lv_at hl 2 rfl) ?_
    refine lv_iconst (v := 3) hx hb dX12_acts_196 (by decide +kernel) ?_
    refine lv_aload_n hx hb dX12_acts_197 rfl (lv_at hl 0 rfl) ?_
    refine mget_22 (v := (i 22)) rfl hx hb hts (fun _ h => List.mem_cons_of_mem _ (List.mem_append_right _ h)) hown hK hP (hts (.fieldLink RX12 155 "TalePlayModel" "player" "I") (List.mem_cons_of_mem _ (List.mem_append_left _ (List.mem_append_left _ (List.mem_of_getElem? (i := 1) rfl))))) dX12_acts_198 ?_
    refine al_callv (va_runV (As := [.int w1, .int 3, .int (i 22)]) (rest := []) ⟨hx, hb, hml, hown, hts⟩ (s_X12_lay l D s.heap.size o a t i q c d w1 3 (i 22) hI (show 0 ≤ w1.toInt ∧ w1.toInt ≤ 29 from by have h91 : (3 : Int32).toInt = 3 := (by decide +kernel); omega) (show 3 = -9 ∨ (0 ≤ 3 ∧ 3 ≤ 4) from by decide +kernel) (show (i 22).toInt = -9 ∨ (0 ≤ (i 22).toInt ∧ (i 22).toInt ≤ 29) from by have h91 : (3 : Int32).toInt = 3 := (by decide +kernel); omega)) (cwV 3 hts gm_X12_acts_X12_lay rfl rfl rfl (by decide +kernel) ⟨Nat.le_of_ble_eq_true rfl, Nat.le_of_ble_eq_true rfl⟩) (pB_V hK hP hD (ci := 12) (q0 := 0) rfl rfl) rfl rfl hl.1 rfl (lv_room (Nat.le_of_ble_eq_true rfl)) dX12_acts_201 ⟨Nat.le_of_ble_eq_true rfl, Nat.le_of_ble_eq_true rfl⟩) hS hA hP hD (fun u15 H locs hw15 hP hD hS => ?_)
    obtain ⟨i15, q15, c15, d15⟩ := u15
    have hw15 : True ∧ mInv i15 c15 ∧ (∀ k, k ∉ ([] : List Nat) → i15 k = i k) ∧ (∀ k, k ∉ ([23, 24] : List Nat) → c15 k = c k) ∧ ((c15 23) = upd (c 23) w1.toNatClampNeg (3 : Int32)) ∧ ((c15 24) = upd (c 24) w1.toNatClampNeg (i 22)) := hw15
    obtain ⟨hw15, hI, hei15, hec15, hxp15_0, hxp15_1⟩ := hw15
    have hxp15_0 : (c15 23) = upd (c 23) w1.toNatClampNeg (3 : Int32) := hxp15_0
    have hxp15_1 : (c15 24) = upd (c 24) w1.toNatClampNeg (i 22) := hxp15_1
    have hfi : ∀ k, k ∉ ([] : List Nat) → i15 k = i k := fr_z hfi hei15 (by decide +kernel) (by decide +kernel)
    have hfc : ∀ k, k ∉ ([23, 24] : List Nat) → c15 k = c k := fr_z hfc hec15 (by decide +kernel) (by decide +kernel)
    have hP : va_P D vwCl (mW o a t i15 q15 c15 d15) H := hP
    have hD : va_D A (mW o a t i15 q15 c15 d15) := hD
    refine lv_goto (tgt := 272) hx hb dX12_acts_204 (by decide +kernel) ?_
    exact rw_vret (i15, q15, c15, d15) hx hb hr hlocks hS (hK.sub (tys' := []) [] rfl) hP hD dX12_acts_272 ⟨trivial, hI, fr_w hfi (by decide +kernel), fr_w hfc (by decide +kernel), (show TI (i 5).toInt (fun z => Kd (c 3) (c 6) z 0) (i 22).toInt (c15 23) (c15 24) from by rw [hxp15_0, hxp15_1]; exact TI_held (by omega) hs_T (by omega) (by show ¬ (c 23 w1.toInt.toNat).toInt = -9; have h9 := (hs_A.2.2.1 (by omega)).1; omega) (hs_A.2.2.1 (by omega)).2 (by decide +kernel) (by omega) (Ch_held hsp hs_T.2.2.2.1 hp0 (by omega) ((nF_at (by omega) rfl (by show ¬ (c 23 w1.toInt.toNat).toInt = -9; have h9 := (hs_A.2.2.1 (by omega)).1; omega) rfl).trans (hs_A.2.2.1 (by omega)).2) (by omega))), (show AcR v1.toInt (c 23) (c 24) (c 25) (c 26) (c15 23) (c15 24) (c15 25) (c15 26) (sbI v1.toInt (i 22) w1) w1 (plF v1.toInt (zM (c 3) (c 6) (i 5).toInt) (fMn (i 5).toInt (c 23)) (nF (i 5).toInt (c 23) (c 24)) (i 22).toInt w1.toInt) (fun h : Int => (v1.toInt = 0 ∧ ∃ dr bw im : Int, FeM (c 3) (c 6) (c 9) (c 10) (c 11) (c 12) (c 13) (i 8).toInt (c 24 (i 22).toInt.toNat).toInt w1.toInt h dr bw im) ∨ (¬ v1.toInt = 0 ∧ h = plH v1.toInt (nF (i 5).toInt (c 23) (c 24)) (i 22).toInt 0 w1.toInt w2.toInt)) from Or.inl ⟨by omega, ⟨(3 : Int32), (i 22), by unfold plF; rw [if_neg (by omega), if_neg (by omega), if_neg (by omega), if_neg (by omega), if_neg (by omega), if_pos (by omega)]; decide, Or.inr ⟨by omega, by unfold plH; rw [if_neg (by omega), if_pos (by omega)]⟩, by rw [sbI_x (by omega), hxp15_0], by rw [sbI_x (by omega), hxp15_1]⟩, hfc 25 (by decide +kernel), hfc 26 (by decide +kernel)⟩)⟩
  · refine lv_tableIn (off := 206) (tgt := 207) hx hb dX12_acts_1 (by omega) (by omega) (by rw [f1]; rfl) (by decide +kernel) ?_
    refine lv_aload_n hx hb dX12_acts_207 rfl (lv_at hl 0 rfl) ?_
    refine lv_aload_n hx hb dX12_acts_208 rfl (lv_at hl 0 rfl) ?_
    refine mget_22 (v := (i 22)) rfl hx hb hts (fun _ h => List.mem_cons_of_mem _ (List.mem_append_right _ h)) hown hK hP (hts (.fieldLink RX12 155 "TalePlayModel" "player" "I") (List.mem_cons_of_mem _ (List.mem_append_left _ (List.mem_append_left _ (List.mem_of_getElem? (i := 1) rfl))))) dX12_acts_209 ?_
    refine lv_aload_n hx hb dX12_acts_212 rfl (lv_at hl 0 rfl) ?_
    refine mget_47 hx hb hts (fun _ h => List.mem_cons_of_mem _ (List.mem_append_right _ h)) hown hK hP (hts (.fieldLink RX12 98 "TalePlayModel" "isBox" "[Z") (List.mem_cons_of_mem _ (List.mem_append_left _ (List.mem_append_right _ (List.mem_append_right _ (List.mem_of_getElem? (i := 2) rfl)))))) dX12_acts_213 ?_
    refine lv_iload_n hx hb dX12_acts_216 rfl (lv_at hl 2 rfl) ?_
    refine mld_47 hx hb hK hP (vp_in_iff.mpr (by have h9 : w1.toInt = w1.toInt := rfl; omega)) dX12_acts_217 (fun x16 ex16 => ?_)
    have rx16 : 0 ≤ x16.toInt ∧ x16.toInt ≤ 1 := by rw [ex16]; exact hI.2 47 _
    have gx16 : (c 47 (w1 : Int32).toNatClampNeg).toInt = x16.toInt := by rw [ex16]
    refine lv_if_eq (tgt := 225) hx hb dX12_acts_218 (by decide +kernel) (fun c17 => ?_) (fun c17 => ?_)
    · have f17 := (ti_eq (a := x16.toInt) (b := 0) rfl (by decide +kernel)).mp c17
      refine lv_iconst (v := 1) hx hb dX12_acts_225 (by decide +kernel) ?_
      refine lv_iload_n hx hb dX12_acts_226 rfl (lv_at hl 2 rfl) ?_
      have hK8 := (hs_A.2.2.2.2.1 (by omega)).1
      have hne8 : ¬ w1.toInt = (i 22).toInt := fun e9 => by rcases hK8 with q9 | q9; exact Kd_ab (a := 3) (b := 5) h6 (by omega) (by omega) (by omega) q9 (by rw [e9]; exact hs_P); exact Kd_ab (a := 4) (b := 5) h6 (by omega) (by omega) (by omega) q9 (by rw [e9]; exact hs_P)
      have hm8 : ∃ m, 0 ≤ m ∧ Ch (nF (i 5).toInt (c 23) (c 24)) w1.toInt m ∧ Ch (nF (i 5).toInt (c 23) (c 24)) (i 22).toInt m := by rcases hs_R w1.toInt (by omega) (by omega) (hs_A.2.2.2.2.1 (by omega)).2.2 with q9 | q9 | q9; exact absurd q9 hne8; (have q8 := (hs_C w1.toInt (by omega) (by omega)).2.2 q9; rcases hK8 with q7 | q7; exact absurd q8 (Kd_ab (a := 3) (b := 2) h6 (by omega) (by omega) (by omega) q7); exact absurd q8 (Kd_ab (a := 4) (b := 2) h6 (by omega) (by omega) (by omega) q7)); exact q9
      refine al_callv (va_runV (As := [.int (i 22), .int 1, .int w1]) (rest := []) ⟨hx, hb, hml, hown, hts⟩ (s_X12_lay l D s.heap.size o a t i q c d (i 22) 1 w1 hI (show 0 ≤ (i 22).toInt ∧ (i 22).toInt ≤ 29 from by have h91 : (1 : Int32).toInt = 1 := (by decide +kernel); omega) (show 1 = -9 ∨ (0 ≤ 1 ∧ 1 ≤ 4) from by decide +kernel) (show w1.toInt = -9 ∨ (0 ≤ w1.toInt ∧ w1.toInt ≤ 29) from by have h91 : (1 : Int32).toInt = 1 := (by decide +kernel); omega)) (cwV 3 hts gm_X12_acts_X12_lay rfl rfl rfl (by decide +kernel) ⟨Nat.le_of_ble_eq_true rfl, Nat.le_of_ble_eq_true rfl⟩) (pB_V hK hP hD (ci := 12) (q0 := 0) rfl rfl) rfl rfl hl.1 rfl (lv_room (Nat.le_of_ble_eq_true rfl)) dX12_acts_227 ⟨Nat.le_of_ble_eq_true rfl, Nat.le_of_ble_eq_true rfl⟩) hS hA hP hD (fun u18 H locs hw18 hP hD hS => ?_)
      obtain ⟨i18, q18, c18, d18⟩ := u18
      have hw18 : True ∧ mInv i18 c18 ∧ (∀ k, k ∉ ([] : List Nat) → i18 k = i k) ∧ (∀ k, k ∉ ([23, 24] : List Nat) → c18 k = c k) ∧ ((c18 23) = upd (c 23) (i 22).toNatClampNeg (1 : Int32)) ∧ ((c18 24) = upd (c 24) (i 22).toNatClampNeg w1) := hw18
      obtain ⟨hw18, hI, hei18, hec18, hxp18_0, hxp18_1⟩ := hw18
      have hxp18_0 : (c18 23) = upd (c 23) (i 22).toNatClampNeg (1 : Int32) := hxp18_0
      have hxp18_1 : (c18 24) = upd (c 24) (i 22).toNatClampNeg w1 := hxp18_1
      have hfi : ∀ k, k ∉ ([] : List Nat) → i18 k = i k := fr_z hfi hei18 (by decide +kernel) (by decide +kernel)
      have hfc : ∀ k, k ∉ ([23, 24] : List Nat) → c18 k = c k := fr_z hfc hec18 (by decide +kernel) (by decide +kernel)
      have hP : va_P D vwCl (mW o a t i18 q18 c18 d18) H := hP
      have hD : va_D A (mW o a t i18 q18 c18 d18) := hD
      refine lv_goto (tgt := 272) hx hb dX12_acts_230 (by decide +kernel) ?_
      exact rw_vret (i18, q18, c18, d18) hx hb hr hlocks hS (hK.sub (tys' := []) [] rfl) hP hD dX12_acts_272 ⟨trivial, hI, fr_w hfi (by decide +kernel), fr_w hfc (by decide +kernel), (show TI (i 5).toInt (fun z => Kd (c 3) (c 6) z 0) (i 22).toInt (c18 23) (c18 24) from by rw [hxp18_0, hxp18_1]; exact TI_enter (by omega) h6 hs_T rfl (by decide +kernel) (by omega) hne8 (hs_A.2.2.2.2.1 (by omega)).2.1 hm8), (show AcR v1.toInt (c 23) (c 24) (c 25) (c 26) (c18 23) (c18 24) (c18 25) (c18 26) (sbI v1.toInt (i 22) w1) w1 (plF v1.toInt (zM (c 3) (c 6) (i 5).toInt) (fMn (i 5).toInt (c 23)) (nF (i 5).toInt (c 23) (c 24)) (i 22).toInt w1.toInt) (fun h : Int => (v1.toInt = 0 ∧ ∃ dr bw im : Int, FeM (c 3) (c 6) (c 9) (c 10) (c 11) (c 12) (c 13) (i 8).toInt (c 24 (i 22).toInt.toNat).toInt w1.toInt h dr bw im) ∨ (¬ v1.toInt = 0 ∧ h = plH v1.toInt (nF (i 5).toInt (c 23) (c 24)) (i 22).toInt 0 w1.toInt w2.toInt)) from Or.inl ⟨by omega, ⟨(1 : Int32), w1, by unfold plF; rw [if_neg (by omega), if_neg (by omega), if_neg (by omega), if_neg (by omega), if_neg (by omega), if_neg (by omega), if_pos (by omega)]; rw [if_neg (by have h9 := hs_E w1.toInt (by omega) (by omega); have h8 : (c 47 w1.toInt.toNat).toInt = x16.toInt := gx16; have h7 := h9.1; omega)]; decide, Or.inr ⟨by omega, by unfold plH; rw [if_neg (by omega), if_neg (by omega), if_neg (by omega), if_neg (by omega), if_pos (by omega)]⟩, by rw [sbI_p (by omega), hxp18_0], by rw [sbI_p (by omega), hxp18_1]⟩, hfc 25 (by decide +kernel), hfc 26 (by decide +kernel)⟩)⟩
    · have f17 := mt (ti_eq (a := x16.toInt) (b := 0) rfl (by decide +kernel)).mpr c17
      refine lv_iconst (v := 0) hx hb dX12_acts_221 (by decide +kernel) ?_
      refine lv_goto (tgt := 226) hx hb dX12_acts_222 (by decide +kernel) ?_
      refine lv_iload_n hx hb dX12_acts_226 rfl (lv_at hl 2 rfl) ?_
      have hK8 := (hs_A.2.2.2.2.1 (by omega)).1
      have hne8 : ¬ w1.toInt = (i 22).toInt := fun e9 => by rcases hK8 with q9 | q9; exact Kd_ab (a := 3) (b := 5) h6 (by omega) (by omega) (by omega) q9 (by rw [e9]; exact hs_P); exact Kd_ab (a := 4) (b := 5) h6 (by omega) (by omega) (by omega) q9 (by rw [e9]; exact hs_P)
      have hm8 : ∃ m, 0 ≤ m ∧ Ch (nF (i 5).toInt (c 23) (c 24)) w1.toInt m ∧ Ch (nF (i 5).toInt (c 23) (c 24)) (i 22).toInt m := by rcases hs_R w1.toInt (by omega) (by omega) (hs_A.2.2.2.2.1 (by omega)).2.2 with q9 | q9 | q9; exact absurd q9 hne8; (have q8 := (hs_C w1.toInt (by omega) (by omega)).2.2 q9; rcases hK8 with q7 | q7; exact absurd q8 (Kd_ab (a := 3) (b := 2) h6 (by omega) (by omega) (by omega) q7); exact absurd q8 (Kd_ab (a := 4) (b := 2) h6 (by omega) (by omega) (by omega) q7)); exact q9
      refine al_callv (va_runV (As := [.int (i 22), .int 0, .int w1]) (rest := []) ⟨hx, hb, hml, hown, hts⟩ (s_X12_lay l D s.heap.size o a t i q c d (i 22) 0 w1 hI (show 0 ≤ (i 22).toInt ∧ (i 22).toInt ≤ 29 from by have h91 : (0 : Int32).toInt = 0 := (by decide +kernel); omega) (show 0 = -9 ∨ (0 ≤ 0 ∧ 0 ≤ 4) from by decide +kernel) (show w1.toInt = -9 ∨ (0 ≤ w1.toInt ∧ w1.toInt ≤ 29) from by have h91 : (0 : Int32).toInt = 0 := (by decide +kernel); omega)) (cwV 3 hts gm_X12_acts_X12_lay rfl rfl rfl (by decide +kernel) ⟨Nat.le_of_ble_eq_true rfl, Nat.le_of_ble_eq_true rfl⟩) (pB_V hK hP hD (ci := 12) (q0 := 0) rfl rfl) rfl rfl hl.1 rfl (lv_room (Nat.le_of_ble_eq_true rfl)) dX12_acts_227 ⟨Nat.le_of_ble_eq_true rfl, Nat.le_of_ble_eq_true rfl⟩) hS hA hP hD (fun u19 H locs hw19 hP hD hS => ?_)
      obtain ⟨i19, q19, c19, d19⟩ := u19
      have hw19 : True ∧ mInv i19 c19 ∧ (∀ k, k ∉ ([] : List Nat) → i19 k = i k) ∧ (∀ k, k ∉ ([23, 24] : List Nat) → c19 k = c k) ∧ ((c19 23) = upd (c 23) (i 22).toNatClampNeg (0 : Int32)) ∧ ((c19 24) = upd (c 24) (i 22).toNatClampNeg w1) := hw19
      obtain ⟨hw19, hI, hei19, hec19, hxp19_0, hxp19_1⟩ := hw19
      have hxp19_0 : (c19 23) = upd (c 23) (i 22).toNatClampNeg (0 : Int32) := hxp19_0
      have hxp19_1 : (c19 24) = upd (c 24) (i 22).toNatClampNeg w1 := hxp19_1
      have hfi : ∀ k, k ∉ ([] : List Nat) → i19 k = i k := fr_z hfi hei19 (by decide +kernel) (by decide +kernel)
      have hfc : ∀ k, k ∉ ([23, 24] : List Nat) → c19 k = c k := fr_z hfc hec19 (by decide +kernel) (by decide +kernel)
      have hP : va_P D vwCl (mW o a t i19 q19 c19 d19) H := hP
      have hD : va_D A (mW o a t i19 q19 c19 d19) := hD
      refine lv_goto (tgt := 272) hx hb dX12_acts_230 (by decide +kernel) ?_
      exact rw_vret (i19, q19, c19, d19) hx hb hr hlocks hS (hK.sub (tys' := []) [] rfl) hP hD dX12_acts_272 ⟨trivial, hI, fr_w hfi (by decide +kernel), fr_w hfc (by decide +kernel), (show TI (i 5).toInt (fun z => Kd (c 3) (c 6) z 0) (i 22).toInt (c19 23) (c19 24) from by rw [hxp19_0, hxp19_1]; exact TI_enter (by omega) h6 hs_T rfl (by decide +kernel) (by omega) hne8 (hs_A.2.2.2.2.1 (by omega)).2.1 hm8), (show AcR v1.toInt (c 23) (c 24) (c 25) (c 26) (c19 23) (c19 24) (c19 25) (c19 26) (sbI v1.toInt (i 22) w1) w1 (plF v1.toInt (zM (c 3) (c 6) (i 5).toInt) (fMn (i 5).toInt (c 23)) (nF (i 5).toInt (c 23) (c 24)) (i 22).toInt w1.toInt) (fun h : Int => (v1.toInt = 0 ∧ ∃ dr bw im : Int, FeM (c 3) (c 6) (c 9) (c 10) (c 11) (c 12) (c 13) (i 8).toInt (c 24 (i 22).toInt.toNat).toInt w1.toInt h dr bw im) ∨ (¬ v1.toInt = 0 ∧ h = plH v1.toInt (nF (i 5).toInt (c 23) (c 24)) (i 22).toInt 0 w1.toInt w2.toInt)) from Or.inl ⟨by omega, ⟨(0 : Int32), w1, by unfold plF; rw [if_neg (by omega), if_neg (by omega), if_neg (by omega), if_neg (by omega), if_neg (by omega), if_neg (by omega), if_pos (by omega)]; rw [if_pos (by have h9 := hs_E w1.toInt (by omega) (by omega); have h8 : (c 47 w1.toInt.toNat).toInt = x16.toInt := gx16; have h7 := h9.1; omega)]; decide, Or.inr ⟨by omega, by unfold plH; rw [if_neg (by omega), if_neg (by omega), if_neg (by omega), if_neg (by omega), if_pos (by omega)]⟩, by rw [sbI_p (by omega), hxp19_0], by rw [sbI_p (by omega), hxp19_1]⟩, hfc 25 (by decide +kernel), hfc 26 (by decide +kernel)⟩)⟩
  · refine lv_tableIn (off := 232) (tgt := 233) hx hb dX12_acts_1 (by omega) (by omega) (by rw [f1]; rfl) (by decide +kernel) ?_
    refine lv_aload_n hx hb dX12_acts_233 rfl (lv_at hl 0 rfl) ?_
    refine lv_aload_n hx hb dX12_acts_234 rfl (lv_at hl 0 rfl) ?_
    refine mget_22 (v := (i 22)) rfl hx hb hts (fun _ h => List.mem_cons_of_mem _ (List.mem_append_right _ h)) hown hK hP (hts (.fieldLink RX12 155 "TalePlayModel" "player" "I") (List.mem_cons_of_mem _ (List.mem_append_left _ (List.mem_append_left _ (List.mem_of_getElem? (i := 1) rfl))))) dX12_acts_235 ?_
    refine lv_aload_n hx hb dX12_acts_238 rfl (lv_at hl 0 rfl) ?_
    refine mget_23 hx hb hts (fun _ h => List.mem_cons_of_mem _ (List.mem_append_right _ h)) hown hK hP (hts (.fieldLink RX12 50 "TalePlayModel" "nForm" "[I") (List.mem_cons_of_mem _ (List.mem_append_left _ (List.mem_append_right _ (List.mem_append_left _ (List.mem_of_getElem? (i := 15) rfl)))))) dX12_acts_239 ?_
    refine lv_aload_n hx hb dX12_acts_242 rfl (lv_at hl 0 rfl) ?_
    refine mget_24 hx hb hts (fun _ h => List.mem_cons_of_mem _ (List.mem_append_right _ h)) hown hK hP (hts (.fieldLink RX12 53 "TalePlayModel" "nAt" "[I") (List.mem_cons_of_mem _ (List.mem_append_left _ (List.mem_append_left _ (List.mem_of_getElem? (i := 0) rfl))))) dX12_acts_243 ?_
    refine lv_aload_n hx hb dX12_acts_246 rfl (lv_at hl 0 rfl) ?_
    refine mget_22 (v := (i 22)) rfl hx hb hts (fun _ h => List.mem_cons_of_mem _ (List.mem_append_right _ h)) hown hK hP (hts (.fieldLink RX12 155 "TalePlayModel" "player" "I") (List.mem_cons_of_mem _ (List.mem_append_left _ (List.mem_append_left _ (List.mem_of_getElem? (i := 1) rfl))))) dX12_acts_247 ?_
    refine mld_24 hx hb hK hP (vp_in_iff.mpr (by have h9 : (i 22).toInt = (i 22).toInt := rfl; omega)) dX12_acts_250 (fun x20 ex20 => ?_)
    have rx20 : x20.toInt = -9 ∨ (0 ≤ x20.toInt ∧ x20.toInt ≤ 29) := by rw [ex20]; exact hI.2 24 _
    have gx20 : (c 24 ((i 22) : Int32).toNatClampNeg).toInt = x20.toInt := by rw [ex20]
    refine mld_23 hx hb hK hP (vp_in_iff.mpr (by have h9 : x20.toInt = x20.toInt := rfl; omega)) dX12_acts_251 (fun x21 ex21 => ?_)
    have rx21 : x21.toInt = -9 ∨ (0 ≤ x21.toInt ∧ x21.toInt ≤ 4) := by rw [ex21]; exact hI.2 23 _
    have gx21 : (c 23 (x20 : Int32).toNatClampNeg).toInt = x21.toInt := by rw [ex21]
    refine lv_aload_n hx hb dX12_acts_252 rfl (lv_at hl 0 rfl) ?_
    refine mget_24 hx hb hts (fun _ h => List.mem_cons_of_mem _ (List.mem_append_right _ h)) hown hK hP (hts (.fieldLink RX12 53 "TalePlayModel" "nAt" "[I") (List.mem_cons_of_mem _ (List.mem_append_left _ (List.mem_append_left _ (List.mem_of_getElem? (i := 0) rfl))))) dX12_acts_253 ?_
    refine lv_aload_n hx hb dX12_acts_256 rfl (lv_at hl 0 rfl) ?_
    refine mget_24 hx hb hts (fun _ h => List.mem_cons_of_mem _ (List.mem_append_right _ h)) hown hK hP (hts (.fieldLink RX12 53 "TalePlayModel" "nAt" "[I") (List.mem_cons_of_mem _ (List.mem_append_left _ (List.mem_append_left _ (List.mem_of_getElem? (i := 0) rfl))))) dX12_acts_257 ?_
    refine lv_aload_n hx hb dX12_acts_260 rfl (lv_at hl 0 rfl) ?_
    refine mget_22 (v := (i 22)) rfl hx hb hts (fun _ h => List.mem_cons_of_mem _ (List.mem_append_right _ h)) hown hK hP (hts (.fieldLink RX12 155 "TalePlayModel" "player" "I") (List.mem_cons_of_mem _ (List.mem_append_left _ (List.mem_append_left _ (List.mem_of_getElem? (i := 1) rfl))))) dX12_acts_261 ?_
    refine mld_24 hx hb hK hP (vp_in_iff.mpr (by have h9 : (i 22).toInt = (i 22).toInt := rfl; omega)) dX12_acts_264 (fun x22 ex22 => ?_)
    have rx22 : x22.toInt = -9 ∨ (0 ≤ x22.toInt ∧ x22.toInt ≤ 29) := by rw [ex22]; exact hI.2 24 _
    have gx22 : (c 24 ((i 22) : Int32).toNatClampNeg).toInt = x22.toInt := by rw [ex22]
    refine mld_24 hx hb hK hP (vp_in_iff.mpr (by have h9 : x22.toInt = x22.toInt := rfl; omega)) dX12_acts_265 (fun x23 ex23 => ?_)
    have rx23 : x23.toInt = -9 ∨ (0 ≤ x23.toInt ∧ x23.toInt ≤ 29) := by rw [ex23]; exact hI.2 24 _
    have gx23 : (c 24 (x22 : Int32).toNatClampNeg).toInt = x23.toInt := by rw [ex23]
    refine al_callv (va_runV (As := [.int (i 22), .int x21, .int x23]) (rest := []) ⟨hx, hb, hml, hown, hts⟩ (s_X12_lay l D s.heap.size o a t i q c d (i 22) x21 x23 hI (show 0 ≤ (i 22).toInt ∧ (i 22).toInt ≤ 29 from by omega) (show x21.toInt = -9 ∨ (0 ≤ x21.toInt ∧ x21.toInt ≤ 4) from by omega) (show x23.toInt = -9 ∨ (0 ≤ x23.toInt ∧ x23.toInt ≤ 29) from by omega)) (cwV 3 hts gm_X12_acts_X12_lay rfl rfl rfl (by decide +kernel) ⟨Nat.le_of_ble_eq_true rfl, Nat.le_of_ble_eq_true rfl⟩) (pB_V hK hP hD (ci := 12) (q0 := 0) rfl rfl) rfl rfl hl.1 rfl (lv_room (Nat.le_of_ble_eq_true rfl)) dX12_acts_266 ⟨Nat.le_of_ble_eq_true rfl, Nat.le_of_ble_eq_true rfl⟩) hS hA hP hD (fun u24 H locs hw24 hP hD hS => ?_)
    obtain ⟨i24, q24, c24, d24⟩ := u24
    have hw24 : True ∧ mInv i24 c24 ∧ (∀ k, k ∉ ([] : List Nat) → i24 k = i k) ∧ (∀ k, k ∉ ([23, 24] : List Nat) → c24 k = c k) ∧ ((c24 23) = upd (c 23) (i 22).toNatClampNeg x21) ∧ ((c24 24) = upd (c 24) (i 22).toNatClampNeg x23) := hw24
    obtain ⟨hw24, hI, hei24, hec24, hxp24_0, hxp24_1⟩ := hw24
    have hxp24_0 : (c24 23) = upd (c 23) (i 22).toNatClampNeg x21 := hxp24_0
    have hxp24_1 : (c24 24) = upd (c 24) (i 22).toNatClampNeg x23 := hxp24_1
    have hfi : ∀ k, k ∉ ([] : List Nat) → i24 k = i k := fr_z hfi hei24 (by decide +kernel) (by decide +kernel)
    have hfc : ∀ k, k ∉ ([23, 24] : List Nat) → c24 k = c k := fr_z hfc hec24 (by decide +kernel) (by decide +kernel)
    have hP : va_P D vwCl (mW o a t i24 q24 c24 d24) H := hP
    have hD : va_D A (mW o a t i24 q24 c24 d24) := hD
    refine lv_goto (tgt := 272) hx hb dX12_acts_269 (by decide +kernel) ?_
    exact rw_vret (i24, q24, c24, d24) hx hb hr hlocks hS (hK.sub (tys' := []) [] rfl) hP hD dX12_acts_272 ⟨trivial, hI, fr_w hfi (by decide +kernel), fr_w hfc (by decide +kernel), (show TI (i 5).toInt (fun z => Kd (c 3) (c 6) z 0) (i 22).toInt (c24 23) (c24 24) from by rw [hxp24_0, hxp24_1]; exact TI_leave (at_ := x20) (by omega) hs_T rfl ex20 (by have h9 := hs_A.2.2.2.2.2 (by omega); rw [show (c 24 (i 22).toInt.toNat).toInt = x20.toInt from gx20] at h9; exact h9) ex21 (by rw [ex23, show x22 = x20 from ex22.trans ex20.symm])), (show AcR v1.toInt (c 23) (c 24) (c 25) (c 26) (c24 23) (c24 24) (c24 25) (c24 26) (sbI v1.toInt (i 22) w1) w1 (plF v1.toInt (zM (c 3) (c 6) (i 5).toInt) (fMn (i 5).toInt (c 23)) (nF (i 5).toInt (c 23) (c 24)) (i 22).toInt w1.toInt) (fun h : Int => (v1.toInt = 0 ∧ ∃ dr bw im : Int, FeM (c 3) (c 6) (c 9) (c 10) (c 11) (c 12) (c 13) (i 8).toInt (c 24 (i 22).toInt.toNat).toInt w1.toInt h dr bw im) ∨ (¬ v1.toInt = 0 ∧ h = plH v1.toInt (nF (i 5).toInt (c 23) (c 24)) (i 22).toInt 0 w1.toInt w2.toInt)) from Or.inl ⟨by omega, ⟨x21, x23, by unfold plF; rw [if_neg (by omega), if_neg (by omega), if_neg (by omega), if_neg (by omega), if_neg (by omega), if_neg (by omega), if_neg (by omega), hnp, show (fMn (i 5).toInt (c 23)) (c 24 (i 22).toInt.toNat).toInt = (c 23 (c 24 (i 22).toInt.toNat).toInt.toNat).toInt from fMn_i hpa, (show (c 24 (i 22).toInt.toNat).toInt = x20.toInt from gx20)]; exact gx21.symm, Or.inr ⟨by omega, by unfold plH; rw [if_neg (by omega), if_neg (by omega), if_neg (by omega), if_neg (by omega), if_neg (by omega), hnp, (show (c 24 (i 22).toInt.toNat).toInt = x20.toInt from gx20)]; exact (nF_at (x := x20) (by omega) ex21 (by have h9 := hs_A.2.2.2.2.2 (by omega); rw [(show (c 24 (i 22).toInt.toNat).toInt = x20.toInt from gx20)] at h9; have h8 : (c 23 x20.toInt.toNat).toInt = x21.toInt := gx21; omega) (by rw [ex23, show x22 = x20 from ex22.trans ex20.symm])).symm⟩, by rw [sbI_p (by omega), hxp24_0], by rw [sbI_p (by omega), hxp24_1]⟩, hfc 25 (by decide +kernel), hfc 26 (by decide +kernel)⟩)⟩

