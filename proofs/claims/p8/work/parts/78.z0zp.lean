set_option maxHeartbeats 4000000 in
set_option maxRecDepth 100000 in
theorem s_X12_triedAll_t (l : Launch) (D : va_G) (sz : Nat) (o : Nat) (a : Nat → Nat) (t : Nat → ClassId) (i : Nat → Int32) (q : Int64) (c : Nat → Nat → Int32) (d : Nat → Nat → Int64) (s1 : Int32) (hI : mInv i c) (hs1 : 0 ≤ s1.toInt ∧ s1.toInt < (i 50).toInt ∧ (i 50).toInt < 300) (hp : 0 ≤ (i 22).toInt) (hs_C : Cc (c 3) (c 6) (c 47) (c 48) (c 49) (i 5).toInt) (hs_S : SJ (c 3) (c 6) (c 9) (c 10) (c 11) (c 13) (i 2).toInt (i 5).toInt (i 8).toInt) (hs_P : Kd (c 3) (c 6) (i 22).toInt 5) (hs_Q : SQ (c 3) (c 6) (c 51) (c 52) (i 5).toInt (i 22).toInt (i 50).toInt) (h33 : (i 33).toInt = 0) : Met l yX12_triedAll wm_X12_triedAll ({ frames := 6, cells := 0, slots := 0, locals := 142 }) (va_Pc [.ref o, .int s1] (pB D sz (mW o a t i q c d) (mT t))) (va_Qi (fun (r : Int32) (u : MS) => (0 ≤ r.toInt ∧ r.toInt ≤ 1) ∧ mInv u.1 u.2.2.1 ∧ (∀ k, k ∉ ([16, 17, 18, 19, 36, 40, 41, 42, 50] : List Nat) → u.1 k = i k) ∧ (∀ k, k ∉ ([23, 24, 25, 26, 38, 39, 43, 44, 51, 52, 53, 54, 55] : List Nat) → u.2.2.1 k = c k) ∧ (SQ (u.2.2.1 3) (u.2.2.1 6) (u.2.2.1 51) (u.2.2.1 52) (u.1 5).toInt (u.1 22).toInt (u.1 50).toInt) ∧ ((i 50).toInt ≤ (u.1 50).toInt) ∧ (U9 (u.2.2.1 51) (u.2.2.1 52) (u.2.2.1 53) (c 51) (c 52) (c 53))) (oC D (va_A (mW o a t i q c d) sz) (fun u : MS => mW o a t u.1 u.2.1 u.2.2.1 u.2.2.2) (fun _ => [])) (va_A (mW o a t i q c d) sz)) 0 0 (va_A (mW o a t i q c d) sz) := by
  refine Met.ofW (cc := cX12_triedAll) (maxL := 7) (ret := (some .boolean)) (by decide +kernel) rfl ?_
  intro p e s m args below meth cd s₁ B hml hv
  obtain ⟨rfl, hsz, hP, hK, hD0⟩ := hv
  have hx := B.exec
  have hb := B.bytes
  have hr := B.returns
  have hts := atoms_spec (ws := wm_X12_triedAll) B.pre
  have hown : s.vm.findClass RX12 = some m.cls := findClass_of_methodNamed B.named
  have hlocks := B.notSynchronized
  subst hsz
  have hD := hD0.self (sz := s.heap.size)
  generalize hAe : va_A (mW o a t i q c d) s.heap.size = A at hD ⊢
  have hA : ∀ q : Nat, s.heap.size ≤ q → A q := fun q h => by rw [← hAe]; exact Or.inr h
  have hS : va_S A s.heap s.heap [] := va_S.rf
  have hfi : ∀ k, k ∉ ([] : List Nat) → i k = i k := fun _ _ => rfl
  have hfc : ∀ k, k ∉ ([] : List Nat) → c k = c k := fun _ _ => rfl
  have hl := lv_entry ([.ref o, .int s1]) (n := 7) (Nat.le_of_ble_eq_true rfl)
  rw [lg_entry_eq]
  generalize (lg_sl ([.ref o, .int s1]) ++ List.replicate (7 - (lg_sl ([.ref o, .int s1])).length) Slot.unset).toArray = ls at hl ⊢
  have hl : lv_has ls 7 [(0, .ref o), (1, .int s1)] := hl
  have rb5_i : 0 ≤ (i 5).toInt ∧ (i 5).toInt ≤ 30 := hI.1 5
  have rb22_i : (i 22).toInt = -9 ∨ (0 ≤ (i 22).toInt ∧ (i 22).toInt ≤ 29) := hI.1 22
  have rb50_i : 0 ≤ (i 50).toInt ∧ (i 50).toInt ≤ 300 := hI.1 50
  refine lv_aload_n hx hb dX12_triedAll_0 rfl (lv_at hl 0 rfl) ?_
  refine lv_iload_n hx hb dX12_triedAll_1 rfl (lv_at hl 1 rfl) ?_
  refine al_callv (va_runV (As := [.int s1]) (rest := []) ⟨hx, hb, hml, hown, hts⟩ (s_X12_giveState_t l D s.heap.size o a t i q c d s1 hI (show 0 ≤ s1.toInt ∧ s1.toInt ≤ 300 from by omega)) (cwV 1 hts gm_X12_triedAll_X12_giveState rfl rfl rfl (by decide +kernel) ⟨Nat.le_of_ble_eq_true rfl, Nat.le_of_ble_eq_true rfl⟩) (pB_V hK hP hD (ci := 12) (q0 := 0) rfl rfl) rfl rfl hl.1 rfl (lv_room (Nat.le_of_ble_eq_true rfl)) dX12_triedAll_2 ⟨Nat.le_of_ble_eq_true rfl, Nat.le_of_ble_eq_true rfl⟩) hS hA hP hD (fun u1 H locs hw1 hP hD hS => ?_)
  obtain ⟨i1, q1, c1, d1⟩ := u1
  have hw1 : True ∧ mInv i1 c1 ∧ (∀ k, k ∉ ([] : List Nat) → i1 k = i k) ∧ (∀ k, k ∉ ([23, 24, 25, 26] : List Nat) → c1 k = c k) ∧ (GB (c1 23) (c1 24) (c 51) (c 52) s1.toInt.toNat (i 5).toInt) ∧ (GS (c1 25) (c1 26) (c 53) s1.toInt.toNat (i 5).toInt) := hw1
  obtain ⟨hw1, hI, hei1, hec1, hxp1_0, hxp1_1⟩ := hw1
  have hxp1_0 : GB (c1 23) (c1 24) (c 51) (c 52) s1.toInt.toNat (i 5).toInt := hxp1_0
  have hxp1_1 : GS (c1 25) (c1 26) (c 53) s1.toInt.toNat (i 5).toInt := hxp1_1
  have hfi : ∀ k, k ∉ ([] : List Nat) → i1 k = i k := fr_z hfi hei1 (by decide +kernel) (by decide +kernel)
  have hfc : ∀ k, k ∉ ([23, 24, 25, 26] : List Nat) → c1 k = c k := fr_z hfc hec1 (by decide +kernel) (by decide +kernel)
  have hP : va_P D vwCl (mW o a t i1 q1 c1 d1) H := hP
  have hD : va_D A (mW o a t i1 q1 c1 d1) := hD
  have hs_B : GB (c1 23) (c1 24) (c1 51) (c1 52) s1.toInt.toNat (i 5).toInt := by rw [show c1 51 = c 51 from hfc 51 (by decide +kernel), show c1 52 = c 52 from hfc 52 (by decide +kernel)]; exact hxp1_0
  have hs_T : TI (i 5).toInt (fun z => Kd (c 3) (c 6) z 0) (i 22).toInt (c1 23) (c1 24) := TI_ext (hs_Q s1.toInt.toNat (Or.inl (by omega))) hxp1_0
  have hs_Q : SQ (c 3) (c 6) (c1 51) (c1 52) (i 5).toInt (i 22).toInt ((i1 50) : Int32).toInt := by rw [show c1 51 = c 51 from hfc 51 (by decide +kernel), show c1 52 = c 52 from hfc 52 (by decide +kernel), show i1 50 = i 50 from hfi 50 (by decide +kernel)]; exact hs_Q
  have hs_U : U9 (c1 51) (c1 52) (c1 53) (c 51) (c 52) (c 53) := by rw [show c1 51 = c 51 from hfc 51 (by decide +kernel), show c1 52 = c 52 from hfc 52 (by decide +kernel), show c1 53 = c 53 from hfc 53 (by decide +kernel)]; exact U9_r
  refine lv_aload_n hx hb dX12_triedAll_5 rfl (lv_at hl 0 rfl) ?_
  have rb5_i1 : 0 ≤ (i1 5).toInt ∧ (i1 5).toInt ≤ 30 := hI.1 5
  have re5_i1 : (i1 5).toInt = (i 5).toInt := congrArg Int32.toInt (hfi 5 (by decide +kernel))
  have rb22_i1 : (i1 22).toInt = -9 ∨ (0 ≤ (i1 22).toInt ∧ (i1 22).toInt ≤ 29) := hI.1 22
  have re22_i1 : (i1 22).toInt = (i 22).toInt := congrArg Int32.toInt (hfi 22 (by decide +kernel))
  refine al_callv (va_runV (As := []) (rest := []) ⟨hx, hb, hml, hown, hts⟩ (s_X12_lookAround l D H.size o a t i1 q1 c1 d1  hI (by rw [show c1 3 = c 3 from hfc 3 (by decide +kernel), show c1 6 = c 6 from hfc 6 (by decide +kernel), show i1 5 = i 5 from hfi 5 (by decide +kernel), show i1 22 = i 22 from hfi 22 (by decide +kernel)]; exact hs_T) (by rw [show c1 3 = c 3 from hfc 3 (by decide +kernel), show c1 6 = c 6 from hfc 6 (by decide +kernel), show c1 47 = c 47 from hfc 47 (by decide +kernel), show c1 48 = c 48 from hfc 48 (by decide +kernel), show c1 49 = c 49 from hfc 49 (by decide +kernel), show i1 5 = i 5 from hfi 5 (by decide +kernel)]; exact hs_C)) (cwV 0 hts gm_X12_triedAll_X12_lookAround rfl rfl rfl (by decide +kernel) ⟨Nat.le_of_ble_eq_true rfl, Nat.le_of_ble_eq_true rfl⟩) (pB_V hK hP hD (ci := 12) (q0 := 0) rfl rfl) rfl rfl hl.1 rfl (lv_room (Nat.le_of_ble_eq_true rfl)) dX12_triedAll_6 ⟨Nat.le_of_ble_eq_true rfl, Nat.le_of_ble_eq_true rfl⟩) hS hA hP hD (fun u2 H locs hw2 hP hD hS => ?_)
  obtain ⟨i2, q2, c2, d2⟩ := u2
  have hw2 : True ∧ mInv i2 c2 ∧ (∀ k, k ∉ ([40, 41, 42] : List Nat) → i2 k = i1 k) ∧ (∀ k, k ∉ ([43, 44] : List Nat) → c2 k = c1 k) ∧ (RQ (c2 44) (c1 49) (nF (i1 5).toInt (c1 23) (c1 24)) (i1 22).toInt (i1 5).toInt) := hw2
  obtain ⟨hw2, hI, hei2, hec2, hxp2_0⟩ := hw2
  have hxp2_0 : RQ (c2 44) (c 49) (nF (i 5).toInt (c1 23) (c1 24)) (i 22).toInt (i 5).toInt := by have h9 := hxp2_0; rw [show c1 49 = c 49 from hfc 49 (by decide +kernel), show i1 5 = i 5 from hfi 5 (by decide +kernel), show i1 22 = i 22 from hfi 22 (by decide +kernel)] at h9; exact h9
  have hfi : ∀ k, k ∉ ([40, 41, 42] : List Nat) → i2 k = i k := fr_z hfi hei2 (by decide +kernel) (by decide +kernel)
  have hfc : ∀ k, k ∉ ([23, 24, 25, 26, 43, 44] : List Nat) → c2 k = c k := fr_z hfc hec2 (by decide +kernel) (by decide +kernel)
  have hP : va_P D vwCl (mW o a t i2 q2 c2 d2) H := hP
  have hD : va_D A (mW o a t i2 q2 c2 d2) := hD
  have hs_T : TI (i 5).toInt (fun z => Kd (c 3) (c 6) z 0) (i 22).toInt (c2 23) (c2 24) := by rw [show c2 23 = c1 23 from hec2 23 (by decide +kernel), show c2 24 = c1 24 from hec2 24 (by decide +kernel)]; exact hs_T
  have hs_B : GB (c2 23) (c2 24) (c2 51) (c2 52) s1.toInt.toNat (i 5).toInt := by rw [show c2 23 = c1 23 from hec2 23 (by decide +kernel), show c2 24 = c1 24 from hec2 24 (by decide +kernel), show c2 51 = c1 51 from hec2 51 (by decide +kernel), show c2 52 = c1 52 from hec2 52 (by decide +kernel)]; exact hs_B
  have hs_Q : SQ (c 3) (c 6) (c2 51) (c2 52) (i 5).toInt (i 22).toInt ((i2 50) : Int32).toInt := by rw [show c2 51 = c1 51 from hec2 51 (by decide +kernel), show c2 52 = c1 52 from hec2 52 (by decide +kernel), show i2 50 = i1 50 from hei2 50 (by decide +kernel)]; exact hs_Q
  have hs_U : U9 (c2 51) (c2 52) (c2 53) (c 51) (c 52) (c 53) := by rw [show c2 51 = c1 51 from hec2 51 (by decide +kernel), show c2 52 = c1 52 from hec2 52 (by decide +kernel), show c2 53 = c1 53 from hec2 53 (by decide +kernel)]; exact hs_U
  have rb50_i2 : 0 ≤ (i2 50).toInt ∧ (i2 50).toInt ≤ 300 := hI.1 50
  have re50_i2 : (i2 50).toInt = (i 50).toInt := congrArg Int32.toInt (hfi 50 (by decide +kernel))
  have hs_R : RQ (c2 44) (c 49) (nF (i 5).toInt (c2 23) (c2 24)) (i 22).toInt (i 5).toInt := by rw [show c2 23 = c1 23 from hec2 23 (by decide +kernel), show c2 24 = c1 24 from hec2 24 (by decide +kernel)]; exact hxp2_0
  refine lv_iconst (v := 0) hx hb dX12_triedAll_9 (by decide +kernel) ?_
  refine lv_istore_n (lv' := [(2, .int 0), (0, .ref o), (1, .int s1)]) hx hb dX12_triedAll_10 rfl hl (by decide +kernel) rfl (fun ls hl => ?_)
  have lp3 : ∀ (fu : Nat) (i3 : Nat → Int32) (q3 : Int64) (c3 : Nat → Nat → Int32) (d3 : Nat → Nat → Int64) (y3_2 : Int32), mInv i3 c3 → (∀ k, k ∉ ([16, 17, 18, 19, 36, 40, 41, 42, 50] : List Nat) → i3 k = i k) → (∀ k, k ∉ ([23, 24, 25, 26, 38, 39, 43, 44, 51, 52, 53, 54, 55] : List Nat) → c3 k = c k) → (TI (i 5).toInt (fun z => Kd (c 3) (c 6) z 0) (i 22).toInt (c3 23) (c3 24)) → (GB (c3 23) (c3 24) (c3 51) (c3 52) s1.toInt.toNat (i 5).toInt) → (SQ (c 3) (c 6) (c3 51) (c3 52) (i 5).toInt (i 22).toInt ((i3 50) : Int32).toInt) → (U9 (c3 51) (c3 52) (c3 53) (c 51) (c 52) (c 53)) → (RQ (c3 44) (c 49) (nF (i 5).toInt (c3 23) (c3 24)) (i 22).toInt (i 5).toInt) → (0 ≤ y3_2.toInt ∧ y3_2.toInt ≤ 12) → (s1.toInt < ((i3 50) : Int32).toInt ∧ (i 50).toInt ≤ ((i3 50) : Int32).toInt) → (12 - y3_2.toInt).toNat < fu → ∀ (H : Heap) (locs : List Loc) (ls : Array Slot), va_P D vwCl (mW o a t i3 q3 c3 d3) H → va_D A (mW o a t i3 q3 c3 d3) → va_S A s.heap H locs → lv_has ls 7 [(2, .int y3_2), (0, .ref o), (1, .int s1)] → W p l e (headSpec wm_X12_triedAll ({ frames := 6, cells := 0, slots := 0, locals := 142 })).room s m ([.ref o, .int s1] : List Value).toArray below meth cd H locs 0 0 (MQ below (va_Qi (fun (r : Int32) (u : MS) => (0 ≤ r.toInt ∧ r.toInt ≤ 1) ∧ mInv u.1 u.2.2.1 ∧ (∀ k, k ∉ ([16, 17, 18, 19, 36, 40, 41, 42, 50] : List Nat) → u.1 k = i k) ∧ (∀ k, k ∉ ([23, 24, 25, 26, 38, 39, 43, 44, 51, 52, 53, 54, 55] : List Nat) → u.2.2.1 k = c k) ∧ (SQ (u.2.2.1 3) (u.2.2.1 6) (u.2.2.1 51) (u.2.2.1 52) (u.1 5).toInt (u.1 22).toInt (u.1 50).toInt) ∧ ((i 50).toInt ≤ (u.1 50).toInt) ∧ (U9 (u.2.2.1 51) (u.2.2.1 52) (u.2.2.1 53) (c 51) (c 52) (c 53))) (oC D A (fun u : MS => mW o a t u.1 u.2.1 u.2.2.1 u.2.2.2) (fun _ => [])) A) ([.ref o, .int s1] : List Value).toArray s 0 0 A) (F0 m 11 ls []) := by
    intro fu
    induction fu with
    | zero => intro i3 q3 c3 d3 y3_2 hI hfi hfc hs_T hs_B hs_Q hs_U hs_R hy3_2 hz3_0 hm; exact absurd hm (Nat.not_lt_zero _)
    | succ fu ih =>
      intro i3 q3 c3 d3 y3_2 hI hfi hfc hs_T hs_B hs_Q hs_U hs_R hy3_2 hz3_0 hm H locs ls hP hD hS hl
      have ih3 := ih
      refine lv_iload_n hx hb dX12_triedAll_11 rfl (lv_at hl 0 rfl) ?_
      refine lv_bipush (v := 12) hx hb dX12_triedAll_12 (by decide +kernel) ?_
      refine lv_icmp_ge (tgt := 120) hx hb dX12_triedAll_14 (by decide +kernel) (fun c4 => ?_) (fun c4 => ?_)
      · have f4 := (ti_le (a := 12) (b := y3_2.toInt) (by decide +kernel) rfl).mp c4
        refine lv_iconst (v := 0) hx hb dX12_triedAll_120 (by decide +kernel) ?_
        exact rw_zret (i3, q3, c3, d3) hx hb hr hlocks hS (hK.sub (tys' := []) [] rfl) hP hD rfl dX12_triedAll_121 ⟨(show 0 ≤ (0 : Int32).toInt ∧ (0 : Int32).toInt ≤ 1 from by decide +kernel), hI, fr_w hfi (by decide +kernel), fr_w hfc (by decide +kernel), (show SQ (c3 3) (c3 6) (c3 51) (c3 52) ((i3 5) : Int32).toInt ((i3 22) : Int32).toInt ((i3 50) : Int32).toInt from by rw [show c3 3 = c 3 from hfc 3 (by decide +kernel), show c3 6 = c 6 from hfc 6 (by decide +kernel), show i3 5 = i 5 from hfi 5 (by decide +kernel), show i3 22 = i 22 from hfi 22 (by decide +kernel)]; exact hs_Q), (show (i 50).toInt ≤ ((i3 50) : Int32).toInt from by have h51 : (0 : Int32).toInt = 0 := (by decide +kernel); omega), (show U9 (c3 51) (c3 52) (c3 53) (c 51) (c 52) (c 53) from hs_U)⟩
      · have f4 := mt (ti_le (a := 12) (b := y3_2.toInt) (by decide +kernel) rfl).mpr c4
        refine lv_iload_n hx hb dX12_triedAll_17 rfl (lv_at hl 0 rfl) ?_
        have jn5 : ∀ (z5_0 : Int32), ((y3_2.toInt = 0 → z5_0.toInt = 10) ∧ (1 ≤ y3_2.toInt ∧ y3_2.toInt ≤ 10 → z5_0.toInt = (i 5).toInt) ∧ 0 ≤ z5_0.toInt ∧ z5_0.toInt ≤ 30) → ∀ (H : Heap) (locs : List Loc) (ls : Array Slot), va_P D vwCl (mW o a t i3 q3 c3 d3) H → va_D A (mW o a t i3 q3 c3 d3) → va_S A s.heap H locs → lv_has ls 7 [(2, .int y3_2), (0, .ref o), (1, .int s1)] → W p l e (headSpec wm_X12_triedAll ({ frames := 6, cells := 0, slots := 0, locals := 142 })).room s m ([.ref o, .int s1] : List Value).toArray below meth cd H locs 0 0 (MQ below (va_Qi (fun (r : Int32) (u : MS) => (0 ≤ r.toInt ∧ r.toInt ≤ 1) ∧ mInv u.1 u.2.2.1 ∧ (∀ k, k ∉ ([16, 17, 18, 19, 36, 40, 41, 42, 50] : List Nat) → u.1 k = i k) ∧ (∀ k, k ∉ ([23, 24, 25, 26, 38, 39, 43, 44, 51, 52, 53, 54, 55] : List Nat) → u.2.2.1 k = c k) ∧ (SQ (u.2.2.1 3) (u.2.2.1 6) (u.2.2.1 51) (u.2.2.1 52) (u.1 5).toInt (u.1 22).toInt (u.1 50).toInt) ∧ ((i 50).toInt ≤ (u.1 50).toInt) ∧ (U9 (u.2.2.1 51) (u.2.2.1 52) (u.2.2.1 53) (c 51) (c 52) (c 53))) (oC D A (fun u : MS => mW o a t u.1 u.2.1 u.2.2.1 u.2.2.2) (fun _ => [])) A) ([.ref o, .int s1] : List Value).toArray s 0 0 A) (F0 m 40 ls [.int z5_0]) := by
          intro z5_0 hz5_0 H locs ls hP hD hS hl
          refine lv_istore_n (lv' := [(3, .int z5_0), (2, .int y3_2), (0, .ref o), (1, .int s1)]) hx hb dX12_triedAll_40 rfl hl (by decide +kernel) rfl (fun ls hl => ?_)
          refine lv_iconst (v := 0) hx hb dX12_triedAll_41 (by decide +kernel) ?_
          refine lv_istore (lv' := [(4, .int 0), (3, .int z5_0), (2, .int y3_2), (0, .ref o), (1, .int s1)]) hx hb dX12_triedAll_42 hl (by decide +kernel) rfl (fun ls hl => ?_)
          have lp6 : ∀ (fu : Nat) (i6 : Nat → Int32) (q6 : Int64) (c6 : Nat → Nat → Int32) (d6 : Nat → Nat → Int64) (y6_4 : Int32), mInv i6 c6 → (∀ k, k ∉ ([16, 17, 18, 19, 36, 40, 41, 42, 50] : List Nat) → i6 k = i k) → (∀ k, k ∉ ([23, 24, 25, 26, 38, 39, 43, 44, 51, 52, 53, 54, 55] : List Nat) → c6 k = c k) → (TI (i 5).toInt (fun z => Kd (c 3) (c 6) z 0) (i 22).toInt (c6 23) (c6 24)) → (GB (c6 23) (c6 24) (c6 51) (c6 52) s1.toInt.toNat (i 5).toInt) → (SQ (c 3) (c 6) (c6 51) (c6 52) (i 5).toInt (i 22).toInt ((i6 50) : Int32).toInt) → (U9 (c6 51) (c6 52) (c6 53) (c 51) (c 52) (c 53)) → (RQ (c6 44) (c 49) (nF (i 5).toInt (c6 23) (c6 24)) (i 22).toInt (i 5).toInt) → (0 ≤ y6_4.toInt ∧ y6_4.toInt ≤ 30) → (s1.toInt < ((i6 50) : Int32).toInt ∧ (i 50).toInt ≤ ((i6 50) : Int32).toInt) → (30 - y6_4.toInt).toNat < fu → ∀ (H : Heap) (locs : List Loc) (ls : Array Slot), va_P D vwCl (mW o a t i6 q6 c6 d6) H → va_D A (mW o a t i6 q6 c6 d6) → va_S A s.heap H locs → lv_has ls 7 [(4, .int y6_4), (3, .int z5_0), (2, .int y3_2), (0, .ref o), (1, .int s1)] → W p l e (headSpec wm_X12_triedAll ({ frames := 6, cells := 0, slots := 0, locals := 142 })).room s m ([.ref o, .int s1] : List Value).toArray below meth cd H locs 0 0 (MQ below (va_Qi (fun (r : Int32) (u : MS) => (0 ≤ r.toInt ∧ r.toInt ≤ 1) ∧ mInv u.1 u.2.2.1 ∧ (∀ k, k ∉ ([16, 17, 18, 19, 36, 40, 41, 42, 50] : List Nat) → u.1 k = i k) ∧ (∀ k, k ∉ ([23, 24, 25, 26, 38, 39, 43, 44, 51, 52, 53, 54, 55] : List Nat) → u.2.2.1 k = c k) ∧ (SQ (u.2.2.1 3) (u.2.2.1 6) (u.2.2.1 51) (u.2.2.1 52) (u.1 5).toInt (u.1 22).toInt (u.1 50).toInt) ∧ ((i 50).toInt ≤ (u.1 50).toInt) ∧ (U9 (u.2.2.1 51) (u.2.2.1 52) (u.2.2.1 53) (c 51) (c 52) (c 53))) (oC D A (fun u : MS => mW o a t u.1 u.2.1 u.2.2.1 u.2.2.2) (fun _ => [])) A) ([.ref o, .int s1] : List Value).toArray s 0 0 A) (F0 m 44 ls []) := by
            intro fu
            induction fu with
            | zero => intro i6 q6 c6 d6 y6_4 hI hfi hfc hs_T hs_B hs_Q hs_U hs_R hy6_4 hz6_0 hm; exact absurd hm (Nat.not_lt_zero _)
            | succ fu ih =>
              intro i6 q6 c6 d6 y6_4 hI hfi hfc hs_T hs_B hs_Q hs_U hs_R hy6_4 hz6_0 hm H locs ls hP hD hS hl
              have ih6 := ih
              refine lv_iload hx hb dX12_triedAll_44 (lv_at hl 0 rfl) ?_
              refine lv_iload_n hx hb dX12_triedAll_46 rfl (lv_at hl 1 rfl) ?_
              refine lv_icmp_ge (tgt := 114) hx hb dX12_triedAll_47 (by decide +kernel) (fun c7 => ?_) (fun c7 => ?_)
              · have f7 := (ti_le (a := z5_0.toInt) (b := y6_4.toInt) rfl rfl).mp c7
                obtain ⟨x8, ex8⟩ : ∃ y : Int32, y = y3_2 + 1 := ⟨_, rfl⟩
                have tx8 := ti_add (a := y3_2.toInt) (b := 1) ex8 rfl (by decide +kernel) (by omega) (by omega)
                refine lv_iinc (v := x8) (lv' := [(2, .int x8), (4, .int y6_4), (3, .int z5_0), (0, .ref o), (1, .int s1)]) hx hb dX12_triedAll_114 hl (k := 2) rfl (by rw [ex8]; rfl) (by decide +kernel) rfl (fun ls hl => ?_)
                refine lv_goto (tgt := 11) hx hb dX12_triedAll_117 (by decide +kernel) ?_
                exact ih3 i6 q6 c6 d6 x8 hI (fr_w hfi (by decide +kernel)) (fr_w hfc (by decide +kernel)) hs_T hs_B hs_Q hs_U hs_R (show 0 ≤ x8.toInt ∧ x8.toInt ≤ 12 from by have h50 : x8.toInt = (y3_2.toInt + 1) := tx8; omega) (show s1.toInt < ((i6 50) : Int32).toInt ∧ (i 50).toInt ≤ ((i6 50) : Int32).toInt from by have h50 : x8.toInt = (y3_2.toInt + 1) := tx8; omega) (by have h50 : x8.toInt = (y3_2.toInt + 1) := tx8; omega) _ _ _ hP hD hS (lv_sub hl [0, 3, 4] rfl)
              · have f7 := mt (ti_le (a := z5_0.toInt) (b := y6_4.toInt) rfl rfl).mpr c7
                refine lv_iload_n hx hb dX12_triedAll_50 rfl (lv_at hl 2 rfl) ?_
                have hPc := hP.sub (ws' := []) [] rfl
                have hKc := hK.sub (tys' := []) [] rfl
                refine ro_calli (va_runS (As := [.int y3_2]) (rest := []) ⟨hx, hb, hml, hown, hts⟩ (c_X12_hasSecond l D H.size y3_2) (va_cwS 1 hts gm_X12_triedAll_X12_hasSecond rfl rfl rfl (by decide +kernel) ⟨Nat.le_of_ble_eq_true rfl, Nat.le_of_ble_eq_true rfl⟩) (pA_S hKc hPc) rfl rfl hl.1 rfl (lv_room (Nat.le_of_ble_eq_true rfl)) dX12_triedAll_51 ⟨Nat.le_of_ble_eq_true rfl, Nat.le_of_ble_eq_true rfl⟩) hS hA hP (fun r9 u9 H locs hw9 hP hS => ?_)
                have hw9 : r9 = if (y3_2.toInt = 3 ∨ y3_2.toInt = 4 ∨ y3_2.toInt = 7 ∨ y3_2.toInt = 8) then 1 else 0 := hw9
                have jn10 : ∀ (z10_0 : Int32), ((y3_2.toInt = 3 ∨ y3_2.toInt = 4 ∨ y3_2.toInt = 7 ∨ y3_2.toInt = 8 → z10_0.toInt = (i 5).toInt) ∧ 0 ≤ z10_0.toInt ∧ z10_0.toInt ≤ 30) → ∀ (H : Heap) (locs : List Loc) (ls : Array Slot), va_P D vwCl (mW o a t i6 q6 c6 d6) H → va_D A (mW o a t i6 q6 c6 d6) → va_S A s.heap H locs → lv_has ls 7 [(4, .int y6_4), (3, .int z5_0), (2, .int y3_2), (0, .ref o), (1, .int s1)] → W p l e (headSpec wm_X12_triedAll ({ frames := 6, cells := 0, slots := 0, locals := 142 })).room s m ([.ref o, .int s1] : List Value).toArray below meth cd H locs 0 0 (MQ below (va_Qi (fun (r : Int32) (u : MS) => (0 ≤ r.toInt ∧ r.toInt ≤ 1) ∧ mInv u.1 u.2.2.1 ∧ (∀ k, k ∉ ([16, 17, 18, 19, 36, 40, 41, 42, 50] : List Nat) → u.1 k = i k) ∧ (∀ k, k ∉ ([23, 24, 25, 26, 38, 39, 43, 44, 51, 52, 53, 54, 55] : List Nat) → u.2.2.1 k = c k) ∧ (SQ (u.2.2.1 3) (u.2.2.1 6) (u.2.2.1 51) (u.2.2.1 52) (u.1 5).toInt (u.1 22).toInt (u.1 50).toInt) ∧ ((i 50).toInt ≤ (u.1 50).toInt) ∧ (U9 (u.2.2.1 51) (u.2.2.1 52) (u.2.2.1 53) (c 51) (c 52) (c 53))) (oC D A (fun u : MS => mW o a t u.1 u.2.1 u.2.2.1 u.2.2.2) (fun _ => [])) A) ([.ref o, .int s1] : List Value).toArray s 0 0 A) (F0 m 65 ls [.int z10_0]) := by
                  intro z10_0 hz10_0 H locs ls hP hD hS hl
                  refine lv_istore (lv' := [(5, .int z10_0), (4, .int y6_4), (3, .int z5_0), (2, .int y3_2), (0, .ref o), (1, .int s1)]) hx hb dX12_triedAll_65 hl (by decide +kernel) rfl (fun ls hl => ?_)
                  refine lv_iconst (v := 0) hx hb dX12_triedAll_67 (by decide +kernel) ?_
                  refine lv_istore (lv' := [(6, .int 0), (5, .int z10_0), (4, .int y6_4), (3, .int z5_0), (2, .int y3_2), (0, .ref o), (1, .int s1)]) hx hb dX12_triedAll_68 hl (by decide +kernel) rfl (fun ls hl => ?_)
                  have lp11 : ∀ (fu : Nat) (i11 : Nat → Int32) (q11 : Int64) (c11 : Nat → Nat → Int32) (d11 : Nat → Nat → Int64) (y11_6 : Int32), mInv i11 c11 → (∀ k, k ∉ ([16, 17, 18, 19, 36, 40, 41, 42, 50] : List Nat) → i11 k = i k) → (∀ k, k ∉ ([23, 24, 25, 26, 38, 39, 43, 44, 51, 52, 53, 54, 55] : List Nat) → c11 k = c k) → (TI (i 5).toInt (fun z => Kd (c 3) (c 6) z 0) (i 22).toInt (c11 23) (c11 24)) → (GB (c11 23) (c11 24) (c11 51) (c11 52) s1.toInt.toNat (i 5).toInt) → (SQ (c 3) (c 6) (c11 51) (c11 52) (i 5).toInt (i 22).toInt ((i11 50) : Int32).toInt) → (U9 (c11 51) (c11 52) (c11 53) (c 51) (c 52) (c 53)) → (RQ (c11 44) (c 49) (nF (i 5).toInt (c11 23) (c11 24)) (i 22).toInt (i 5).toInt) → (0 ≤ y11_6.toInt ∧ y11_6.toInt ≤ 30) → (s1.toInt < ((i11 50) : Int32).toInt ∧ (i 50).toInt ≤ ((i11 50) : Int32).toInt) → (30 - y11_6.toInt).toNat < fu → ∀ (H : Heap) (locs : List Loc) (ls : Array Slot), va_P D vwCl (mW o a t i11 q11 c11 d11) H → va_D A (mW o a t i11 q11 c11 d11) → va_S A s.heap H locs → lv_has ls 7 [(6, .int y11_6), (5, .int z10_0), (4, .int y6_4), (3, .int z5_0), (2, .int y3_2), (0, .ref o), (1, .int s1)] → W p l e (headSpec wm_X12_triedAll ({ frames := 6, cells := 0, slots := 0, locals := 142 })).room s m ([.ref o, .int s1] : List Value).toArray below meth cd H locs 0 0 (MQ below (va_Qi (fun (r : Int32) (u : MS) => (0 ≤ r.toInt ∧ r.toInt ≤ 1) ∧ mInv u.1 u.2.2.1 ∧ (∀ k, k ∉ ([16, 17, 18, 19, 36, 40, 41, 42, 50] : List Nat) → u.1 k = i k) ∧ (∀ k, k ∉ ([23, 24, 25, 26, 38, 39, 43, 44, 51, 52, 53, 54, 55] : List Nat) → u.2.2.1 k = c k) ∧ (SQ (u.2.2.1 3) (u.2.2.1 6) (u.2.2.1 51) (u.2.2.1 52) (u.1 5).toInt (u.1 22).toInt (u.1 50).toInt) ∧ ((i 50).toInt ≤ (u.1 50).toInt) ∧ (U9 (u.2.2.1 51) (u.2.2.1 52) (u.2.2.1 53) (c 51) (c 52) (c 53))) (oC D A (fun u : MS => mW o a t u.1 u.2.1 u.2.2.1 u.2.2.2) (fun _ => [])) A) ([.ref o, .int s1] : List Value).toArray s 0 0 A) (F0 m 70 ls []) := by
                    intro fu
                    induction fu with
                    | zero => intro i11 q11 c11 d11 y11_6 hI hfi hfc hs_T hs_B hs_Q hs_U hs_R hy11_6 hz11_0 hm; exact absurd hm (Nat.not_lt_zero _)
                    | succ fu ih =>
                      intro i11 q11 c11 d11 y11_6 hI hfi hfc hs_T hs_B hs_Q hs_U hs_R hy11_6 hz11_0 hm H locs ls hP hD hS hl
                      have ih11 := ih
                      refine lv_iload hx hb dX12_triedAll_70 (lv_at hl 0 rfl) ?_
                      refine lv_iload hx hb dX12_triedAll_72 (lv_at hl 1 rfl) ?_
                      have jn12 : (s1.toInt < ((i11 50) : Int32).toInt ∧ (i 50).toInt ≤ ((i11 50) : Int32).toInt) → ∀ (H : Heap) (locs : List Loc) (ls : Array Slot), va_P D vwCl (mW o a t i11 q11 c11 d11) H → va_D A (mW o a t i11 q11 c11 d11) → va_S A s.heap H locs → lv_has ls 7 [(6, .int y11_6), (5, .int z10_0), (4, .int y6_4), (3, .int z5_0), (2, .int y3_2), (0, .ref o), (1, .int s1)] → W p l e (headSpec wm_X12_triedAll ({ frames := 6, cells := 0, slots := 0, locals := 142 })).room s m ([.ref o, .int s1] : List Value).toArray below meth cd H locs 0 0 (MQ below (va_Qi (fun (r : Int32) (u : MS) => (0 ≤ r.toInt ∧ r.toInt ≤ 1) ∧ mInv u.1 u.2.2.1 ∧ (∀ k, k ∉ ([16, 17, 18, 19, 36, 40, 41, 42, 50] : List Nat) → u.1 k = i k) ∧ (∀ k, k ∉ ([23, 24, 25, 26, 38, 39, 43, 44, 51, 52, 53, 54, 55] : List Nat) → u.2.2.1 k = c k) ∧ (SQ (u.2.2.1 3) (u.2.2.1 6) (u.2.2.1 51) (u.2.2.1 52) (u.1 5).toInt (u.1 22).toInt (u.1 50).toInt) ∧ ((i 50).toInt ≤ (u.1 50).toInt) ∧ (U9 (u.2.2.1 51) (u.2.2.1 52) (u.2.2.1 53) (c 51) (c 52) (c 53))) (oC D A (fun u : MS => mW o a t u.1 u.2.1 u.2.2.1 u.2.2.2) (fun _ => [])) A) ([.ref o, .int s1] : List Value).toArray s 0 0 A) (F0 m 108 ls []) := by
                        intro hz12_0 H locs ls hP hD hS hl
                        obtain ⟨x13, ex13⟩ : ∃ y : Int32, y = y6_4 + 1 := ⟨_, rfl⟩
                        have tx13 := ti_add (a := y6_4.toInt) (b := 1) ex13 rfl (by decide +kernel) (by omega) (by omega)
                        refine lv_iinc (v := x13) (lv' := [(4, .int x13), (6, .int y11_6), (5, .int z10_0), (3, .int z5_0), (2, .int y3_2), (0, .ref o), (1, .int s1)]) hx hb dX12_triedAll_108 hl (k := 2) rfl (by rw [ex13]; rfl) (by decide +kernel) rfl (fun ls hl => ?_)
                        refine lv_goto (tgt := 44) hx hb dX12_triedAll_111 (by decide +kernel) ?_
                        exact ih6 i11 q11 c11 d11 x13 hI (fr_w hfi (by decide +kernel)) (fr_w hfc (by decide +kernel)) hs_T hs_B hs_Q hs_U hs_R (show 0 ≤ x13.toInt ∧ x13.toInt ≤ 30 from by have h50 : x13.toInt = (y6_4.toInt + 1) := tx13; omega) (show s1.toInt < ((i11 50) : Int32).toInt ∧ (i 50).toInt ≤ ((i11 50) : Int32).toInt from by have h50 : x13.toInt = (y6_4.toInt + 1) := tx13; omega) (by have h50 : x13.toInt = (y6_4.toInt + 1) := tx13; omega) _ _ _ hP hD hS (lv_sub hl [0, 3, 4, 5, 6] rfl)
                      refine lv_icmp_ge (tgt := 108) hx hb dX12_triedAll_74 (by decide +kernel) (fun c14 => ?_) (fun c14 => ?_)
                      · have f14 := (ti_le (a := z10_0.toInt) (b := y11_6.toInt) rfl rfl).mp c14
                        exact jn12   (show s1.toInt < ((i11 50) : Int32).toInt ∧ (i 50).toInt ≤ ((i11 50) : Int32).toInt from by omega) _ _ _ hP hD hS (lv_sub hl [0, 1, 2, 3, 4, 5, 6] rfl)
                      · have f14 := mt (ti_le (a := z10_0.toInt) (b := y11_6.toInt) rfl rfl).mpr c14
                        refine lv_aload_n hx hb dX12_triedAll_77 rfl (lv_at hl 5 rfl) ?_
                        refine mget_50 (v := (i11 50)) rfl hx hb hts (fun _ h => List.mem_cons_of_mem _ (List.mem_append_right _ h)) hown hK hP (hts (.fieldLink RX12 410 "TalePlayModel" "states" "I") (List.mem_cons_of_mem _ (List.mem_append_left _ (List.mem_append_right _ (List.mem_append_right _ (List.mem_append_right _ (List.mem_append_left _ (List.mem_of_getElem? (i := 4) rfl)))))))) dX12_triedAll_78 ?_
                        have rb50_i11 : 0 ≤ (i11 50).toInt ∧ (i11 50).toInt ≤ 300 := hI.1 50
                        refine lv_sipush (v := 300) hx hb dX12_triedAll_81 (by decide +kernel) ?_
                        refine lv_icmp_ge (tgt := 108) hx hb dX12_triedAll_84 (by decide +kernel) (fun c15 => ?_) (fun c15 => ?_)
                        · have f15 := (ti_le (a := 300) (b := (i11 50).toInt) (by decide +kernel) rfl).mp c15
                          exact jn12   (show s1.toInt < ((i11 50) : Int32).toInt ∧ (i 50).toInt ≤ ((i11 50) : Int32).toInt from by omega) _ _ _ hP hD hS (lv_sub hl [0, 1, 2, 3, 4, 5, 6] rfl)
                        · have f15 := mt (ti_le (a := 300) (b := (i11 50).toInt) (by decide +kernel) rfl).mpr c15
                          refine lv_aload_n hx hb dX12_triedAll_87 rfl (lv_at hl 5 rfl) ?_
                          refine lv_iload_n hx hb dX12_triedAll_88 rfl (lv_at hl 6 rfl) ?_
                          refine lv_iload_n hx hb dX12_triedAll_89 rfl (lv_at hl 4 rfl) ?_
                          refine lv_iload hx hb dX12_triedAll_90 (lv_at hl 2 rfl) ?_
                          refine lv_iload hx hb dX12_triedAll_92 (lv_at hl 0 rfl) ?_
                          have rb2_i11 : 6 ≤ (i11 2).toInt ∧ (i11 2).toInt ≤ 24 := hI.1 2
                          have re2_i11 : (i11 2).toInt = (i 2).toInt := congrArg Int32.toInt (hfi 2 (by decide +kernel))
                          have rb5_i11 : 0 ≤ (i11 5).toInt ∧ (i11 5).toInt ≤ 30 := hI.1 5
                          have re5_i11 : (i11 5).toInt = (i 5).toInt := congrArg Int32.toInt (hfi 5 (by decide +kernel))
                          have rb8_i11 : 0 ≤ (i11 8).toInt ∧ (i11 8).toInt ≤ 200 := hI.1 8
                          have re8_i11 : (i11 8).toInt = (i 8).toInt := congrArg Int32.toInt (hfi 8 (by decide +kernel))
                          have rb22_i11 : (i11 22).toInt = -9 ∨ (0 ≤ (i11 22).toInt ∧ (i11 22).toInt ≤ 29) := hI.1 22
                          have re22_i11 : (i11 22).toInt = (i 22).toInt := congrArg Int32.toInt (hfi 22 (by decide +kernel))
                          have rb33_i11 : 0 ≤ (i11 33).toInt ∧ (i11 33).toInt ≤ 1 := hI.1 33
                          have re33_i11 : (i11 33).toInt = (i 33).toInt := congrArg Int32.toInt (hfi 33 (by decide +kernel))
                          refine al_calli (va_runV (As := [.int s1, .int y3_2, .int y6_4, .int y11_6]) (rest := []) ⟨hx, hb, hml, hown, hts⟩ (s_X12_tried_t l D H.size o a t i11 q11 c11 d11 s1 y3_2 y6_4 y11_6 hI (show 0 ≤ s1.toInt ∧ s1.toInt < ((i11 50) : Int32).toInt ∧ ((i11 50) : Int32).toInt < 300 from by omega) (show 0 ≤ y3_2.toInt ∧ y3_2.toInt ≤ 11 from by omega) (show y3_2.toInt = 0 → 0 ≤ y6_4.toInt ∧ y6_4.toInt ≤ 9 from by omega) (show 1 ≤ y3_2.toInt ∧ y3_2.toInt ≤ 10 → 0 ≤ y6_4.toInt ∧ y6_4.toInt < ((i11 5) : Int32).toInt from by omega) (show y3_2.toInt = 3 ∨ y3_2.toInt = 4 ∨ y3_2.toInt = 7 ∨ y3_2.toInt = 8 → 0 ≤ y11_6.toInt ∧ y11_6.toInt < ((i11 5) : Int32).toInt from by omega) (by rw [show c11 3 = c 3 from hfc 3 (by decide +kernel), show c11 6 = c 6 from hfc 6 (by decide +kernel), show i11 5 = i 5 from hfi 5 (by decide +kernel), show i11 22 = i 22 from hfi 22 (by decide +kernel)]; exact hs_T) (by rw [show c11 3 = c 3 from hfc 3 (by decide +kernel), show c11 6 = c 6 from hfc 6 (by decide +kernel), show c11 47 = c 47 from hfc 47 (by decide +kernel), show c11 48 = c 48 from hfc 48 (by decide +kernel), show c11 49 = c 49 from hfc 49 (by decide +kernel), show i11 5 = i 5 from hfi 5 (by decide +kernel)]; exact hs_C) (by rw [show c11 3 = c 3 from hfc 3 (by decide +kernel), show c11 6 = c 6 from hfc 6 (by decide +kernel), show c11 9 = c 9 from hfc 9 (by decide +kernel), show c11 10 = c 10 from hfc 10 (by decide +kernel), show c11 11 = c 11 from hfc 11 (by decide +kernel), show c11 13 = c 13 from hfc 13 (by decide +kernel), show i11 2 = i 2 from hfi 2 (by decide +kernel), show i11 5 = i 5 from hfi 5 (by decide +kernel), show i11 8 = i 8 from hfi 8 (by decide +kernel)]; exact hs_S) (by rw [show c11 3 = c 3 from hfc 3 (by decide +kernel), show c11 6 = c 6 from hfc 6 (by decide +kernel), show i11 22 = i 22 from hfi 22 (by decide +kernel)]; exact hs_P) (by rw [show c11 49 = c 49 from hfc 49 (by decide +kernel), show i11 5 = i 5 from hfi 5 (by decide +kernel), show i11 22 = i 22 from hfi 22 (by decide +kernel)]; exact hs_R) (by rw [show c11 3 = c 3 from hfc 3 (by decide +kernel), show c11 6 = c 6 from hfc 6 (by decide +kernel), show i11 5 = i 5 from hfi 5 (by decide +kernel), show i11 22 = i 22 from hfi 22 (by decide +kernel)]; exact hs_Q) (by rw [show i11 5 = i 5 from hfi 5 (by decide +kernel)]; exact hs_B) (show ((i11 33) : Int32).toInt = 0 from by omega)) (cwV 4 hts gm_X12_triedAll_X12_tried rfl rfl rfl (by decide +kernel) ⟨Nat.le_of_ble_eq_true rfl, Nat.le_of_ble_eq_true rfl⟩) (pB_V hK hP hD (ci := 12) (q0 := 0) rfl rfl) rfl rfl hl.1 rfl (lv_room (Nat.le_of_ble_eq_true rfl)) dX12_triedAll_94 ⟨Nat.le_of_ble_eq_true rfl, Nat.le_of_ble_eq_true rfl⟩) hS hA hP hD (fun r16 u16 H locs hw16 hP hD hS => ?_)
                          obtain ⟨i16, q16, c16, d16⟩ := u16
                          have hw16 : (0 ≤ r16.toInt ∧ r16.toInt ≤ 1) ∧ mInv i16 c16 ∧ (∀ k, k ∉ ([16, 17, 18, 19, 36, 50] : List Nat) → i16 k = i11 k) ∧ (∀ k, k ∉ ([23, 24, 25, 26, 38, 39, 51, 52, 53, 54, 55] : List Nat) → c16 k = c11 k) ∧ (SQ (c16 3) (c16 6) (c16 51) (c16 52) (i16 5).toInt (i16 22).toInt (i16 50).toInt) ∧ (GB (c16 23) (c16 24) (c16 51) (c16 52) s1.toInt.toNat (i16 5).toInt) ∧ (RQ (c16 44) (c16 49) (nF (i16 5).toInt (c16 23) (c16 24)) (i16 22).toInt (i16 5).toInt) ∧ (TI (i16 5).toInt (fun z => Kd (c16 3) (c16 6) z 0) (i16 22).toInt (c16 23) (c16 24)) ∧ ((i11 50).toInt ≤ (i16 50).toInt ∧ (i16 50).toInt ≤ (i11 50).toInt + 1) ∧ (U9 (c16 51) (c16 52) (c16 53) (c11 51) (c11 52) (c11 53)) := hw16
                          obtain ⟨hw16, hI, hei16, hec16, hxp16_0, hxp16_1, hxp16_2, hxp16_3, hxp16_4, hxp16_5⟩ := hw16
                          have hxp16_0 : SQ (c16 3) (c16 6) (c16 51) (c16 52) (i16 5).toInt (i16 22).toInt (i16 50).toInt := hxp16_0
                          have hxp16_1 : GB (c16 23) (c16 24) (c16 51) (c16 52) s1.toInt.toNat (i16 5).toInt := hxp16_1
                          have hxp16_2 : RQ (c16 44) (c16 49) (nF (i16 5).toInt (c16 23) (c16 24)) (i16 22).toInt (i16 5).toInt := hxp16_2
                          have hxp16_3 : TI (i16 5).toInt (fun z => Kd (c16 3) (c16 6) z 0) (i16 22).toInt (c16 23) (c16 24) := hxp16_3
                          have hxp16_4 : (i11 50).toInt ≤ (i16 50).toInt ∧ (i16 50).toInt ≤ (i11 50).toInt + 1 := hxp16_4
                          have hxp16_5 : U9 (c16 51) (c16 52) (c16 53) (c11 51) (c11 52) (c11 53) := hxp16_5
                          have hfi : ∀ k, k ∉ ([16, 17, 18, 19, 36, 40, 41, 42, 50] : List Nat) → i16 k = i k := fr_z hfi hei16 (by decide +kernel) (by decide +kernel)
                          have hfc : ∀ k, k ∉ ([23, 24, 25, 26, 38, 39, 43, 44, 51, 52, 53, 54, 55] : List Nat) → c16 k = c k := fr_z hfc hec16 (by decide +kernel) (by decide +kernel)
                          have hP : va_P D vwCl (mW o a t i16 q16 c16 d16) H := hP
                          have hD : va_D A (mW o a t i16 q16 c16 d16) := hD
                          have hs_Q : SQ (c 3) (c 6) (c16 51) (c16 52) (i 5).toInt (i 22).toInt ((i16 50) : Int32).toInt := by have h9 := hxp16_0; rw [show c16 3 = c 3 from hfc 3 (by decide +kernel), show c16 6 = c 6 from hfc 6 (by decide +kernel), show i16 5 = i 5 from hfi 5 (by decide +kernel), show i16 22 = i 22 from hfi 22 (by decide +kernel)] at h9; exact h9
                          have hs_B : GB (c16 23) (c16 24) (c16 51) (c16 52) s1.toInt.toNat (i 5).toInt := by have h9 := hxp16_1; rw [show i16 5 = i 5 from hfi 5 (by decide +kernel)] at h9; exact h9
                          have hs_R : RQ (c16 44) (c 49) (nF (i 5).toInt (c16 23) (c16 24)) (i 22).toInt (i 5).toInt := by have h9 := hxp16_2; rw [show c16 49 = c 49 from hfc 49 (by decide +kernel), show i16 5 = i 5 from hfi 5 (by decide +kernel), show i16 22 = i 22 from hfi 22 (by decide +kernel)] at h9; exact h9
                          have hs_T : TI (i 5).toInt (fun z => Kd (c 3) (c 6) z 0) (i 22).toInt (c16 23) (c16 24) := by have h9 := hxp16_3; rw [show c16 3 = c 3 from hfc 3 (by decide +kernel), show c16 6 = c 6 from hfc 6 (by decide +kernel), show i16 5 = i 5 from hfi 5 (by decide +kernel), show i16 22 = i 22 from hfi 22 (by decide +kernel)] at h9; exact h9
                          have hs_U : U9 (c16 51) (c16 52) (c16 53) (c 51) (c 52) (c 53) := U9_t hs_U hxp16_5
                          refine lv_if_eq (tgt := 102) hx hb dX12_triedAll_97 (by decide +kernel) (fun c17 => ?_) (fun c17 => ?_)
                          · have f17 := (ti_eq (a := r16.toInt) (b := 0) rfl (by decide +kernel)).mp c17
                            obtain ⟨x18, ex18⟩ : ∃ y : Int32, y = y11_6 + 1 := ⟨_, rfl⟩
                            have tx18 := ti_add (a := y11_6.toInt) (b := 1) ex18 rfl (by decide +kernel) (by omega) (by omega)
                            refine lv_iinc (v := x18) (lv' := [(6, .int x18), (5, .int z10_0), (4, .int y6_4), (3, .int z5_0), (2, .int y3_2), (0, .ref o), (1, .int s1)]) hx hb dX12_triedAll_102 hl (k := 0) rfl (by rw [ex18]; rfl) (by decide +kernel) rfl (fun ls hl => ?_)
                            refine lv_goto (tgt := 70) hx hb dX12_triedAll_105 (by decide +kernel) ?_
                            exact ih11 i16 q16 c16 d16 x18 hI (fr_w hfi (by decide +kernel)) (fr_w hfc (by decide +kernel)) hs_T hs_B hs_Q hs_U hs_R (show 0 ≤ x18.toInt ∧ x18.toInt ≤ 30 from by have h50 : x18.toInt = (y11_6.toInt + 1) := tx18; omega) (show s1.toInt < ((i16 50) : Int32).toInt ∧ (i 50).toInt ≤ ((i16 50) : Int32).toInt from by have h50 : x18.toInt = (y11_6.toInt + 1) := tx18; omega) (by have h50 : x18.toInt = (y11_6.toInt + 1) := tx18; omega) _ _ _ hP hD hS (lv_sub hl [0, 1, 2, 3, 4, 5, 6] rfl)
                          · have f17 := mt (ti_eq (a := r16.toInt) (b := 0) rfl (by decide +kernel)).mpr c17
                            refine lv_iconst (v := 1) hx hb dX12_triedAll_100 (by decide +kernel) ?_
                            exact rw_zret (i16, q16, c16, d16) hx hb hr hlocks hS (hK.sub (tys' := []) [] rfl) hP hD rfl dX12_triedAll_101 ⟨(show 0 ≤ (1 : Int32).toInt ∧ (1 : Int32).toInt ≤ 1 from by decide +kernel), hI, fr_w hfi (by decide +kernel), fr_w hfc (by decide +kernel), (show SQ (c16 3) (c16 6) (c16 51) (c16 52) ((i16 5) : Int32).toInt ((i16 22) : Int32).toInt ((i16 50) : Int32).toInt from by rw [show c16 3 = c 3 from hfc 3 (by decide +kernel), show c16 6 = c 6 from hfc 6 (by decide +kernel), show i16 5 = i 5 from hfi 5 (by decide +kernel), show i16 22 = i 22 from hfi 22 (by decide +kernel)]; exact hs_Q), (show (i 50).toInt ≤ ((i16 50) : Int32).toInt from by have h51 : (1 : Int32).toInt = 1 := (by decide +kernel); omega), (show U9 (c16 51) (c16 52) (c16 53) (c 51) (c 52) (c 53) from hs_U)⟩
                  exact lp11 _ i6 q6 c6 d6 (0 : Int32) hI (fr_w hfi (by decide +kernel)) (fr_w hfc (by decide +kernel)) hs_T hs_B hs_Q hs_U hs_R (show 0 ≤ (0 : Int32).toInt ∧ (0 : Int32).toInt ≤ 30 from by decide +kernel) (show s1.toInt < ((i6 50) : Int32).toInt ∧ (i 50).toInt ≤ ((i6 50) : Int32).toInt from by have h50 : (0 : Int32).toInt = 0 := (by decide +kernel); omega) (Nat.lt_succ_self _) _ _ _ hP hD hS (lv_sub hl [0, 1, 2, 3, 4, 5, 6] rfl)
                refine lv_if_eq (tgt := 64) hx hb dX12_triedAll_54 (by decide +kernel) (fun c19 => ?_) (fun c19 => ?_)
                · have f19 := fl_f hw9 c19
                  refine lv_iconst (v := 1) hx hb dX12_triedAll_64 (by decide +kernel) ?_
                  exact jn10  (1 : Int32) (show (y3_2.toInt = 3 ∨ y3_2.toInt = 4 ∨ y3_2.toInt = 7 ∨ y3_2.toInt = 8 → (1 : Int32).toInt = (i 5).toInt) ∧ 0 ≤ (1 : Int32).toInt ∧ (1 : Int32).toInt ≤ 30 from by have h55 : (1 : Int32).toInt = 1 := (by decide +kernel); omega) _ _ _ hP hD hS (lv_sub hl [0, 1, 2, 3, 4] rfl)
                · have f19 := fl_t hw9 c19
                  refine lv_aload_n hx hb dX12_triedAll_57 rfl (lv_at hl 3 rfl) ?_
                  refine mget_5 (v := (i6 5)) rfl hx hb hts (fun _ h => List.mem_cons_of_mem _ (List.mem_append_right _ h)) hown hK hP (hts (.fieldLink RX12 177 "TalePlayModel" "objects" "I") (List.mem_cons_of_mem _ (List.mem_append_left _ (List.mem_append_left _ (List.mem_of_getElem? (i := 5) rfl))))) dX12_triedAll_58 ?_
                  have rb5_i6 : 0 ≤ (i6 5).toInt ∧ (i6 5).toInt ≤ 30 := hI.1 5
                  have re5_i6 : (i6 5).toInt = (i 5).toInt := congrArg Int32.toInt (hfi 5 (by decide +kernel))
                  refine lv_goto (tgt := 65) hx hb dX12_triedAll_61 (by decide +kernel) ?_
                  exact jn10  (i6 5) (show (y3_2.toInt = 3 ∨ y3_2.toInt = 4 ∨ y3_2.toInt = 7 ∨ y3_2.toInt = 8 → (i6 5).toInt = (i 5).toInt) ∧ 0 ≤ (i6 5).toInt ∧ (i6 5).toInt ≤ 30 from by omega) _ _ _ hP hD hS (lv_sub hl [0, 1, 2, 3, 4] rfl)
          exact lp6 _ i3 q3 c3 d3 (0 : Int32) hI (fr_w hfi (by decide +kernel)) (fr_w hfc (by decide +kernel)) hs_T hs_B hs_Q hs_U hs_R (show 0 ≤ (0 : Int32).toInt ∧ (0 : Int32).toInt ≤ 30 from by decide +kernel) (show s1.toInt < ((i3 50) : Int32).toInt ∧ (i 50).toInt ≤ ((i3 50) : Int32).toInt from by have h50 : (0 : Int32).toInt = 0 := (by decide +kernel); omega) (Nat.lt_succ_self _) _ _ _ hP hD hS (lv_sub hl [0, 1, 2, 3, 4] rfl)
        refine lv_if_ne (tgt := 26) hx hb dX12_triedAll_18 (by decide +kernel) (fun c20 => ?_) (fun c20 => ?_)
        · have f20 := mt (ti_eq (a := y3_2.toInt) (b := 0) rfl (by decide +kernel)).mpr c20
          refine lv_iload_n hx hb dX12_triedAll_26 rfl (lv_at hl 0 rfl) ?_
          refine lv_bipush (v := 11) hx hb dX12_triedAll_27 (by decide +kernel) ?_
          refine lv_icmp_ne (tgt := 36) hx hb dX12_triedAll_29 (by decide +kernel) (fun c21 => ?_) (fun c21 => ?_)
          · have f21 := mt (ti_eq (a := y3_2.toInt) (b := 11) rfl (by decide +kernel)).mpr c21
            refine lv_aload_n hx hb dX12_triedAll_36 rfl (lv_at hl 1 rfl) ?_
            refine mget_5 (v := (i3 5)) rfl hx hb hts (fun _ h => List.mem_cons_of_mem _ (List.mem_append_right _ h)) hown hK hP (hts (.fieldLink RX12 177 "TalePlayModel" "objects" "I") (List.mem_cons_of_mem _ (List.mem_append_left _ (List.mem_append_left _ (List.mem_of_getElem? (i := 5) rfl))))) dX12_triedAll_37 ?_
            have rb5_i3 : 0 ≤ (i3 5).toInt ∧ (i3 5).toInt ≤ 30 := hI.1 5
            have re5_i3 : (i3 5).toInt = (i 5).toInt := congrArg Int32.toInt (hfi 5 (by decide +kernel))
            exact jn5  (i3 5) (show (y3_2.toInt = 0 → (i3 5).toInt = 10) ∧ (1 ≤ y3_2.toInt ∧ y3_2.toInt ≤ 10 → (i3 5).toInt = (i 5).toInt) ∧ 0 ≤ (i3 5).toInt ∧ (i3 5).toInt ≤ 30 from by omega) _ _ _ hP hD hS (lv_sub hl [0, 1, 2] rfl)
          · have f21 := (ti_eq (a := y3_2.toInt) (b := 11) rfl (by decide +kernel)).mp c21
            refine lv_iconst (v := 1) hx hb dX12_triedAll_32 (by decide +kernel) ?_
            refine lv_goto (tgt := 40) hx hb dX12_triedAll_33 (by decide +kernel) ?_
            exact jn5  (1 : Int32) (show (y3_2.toInt = 0 → (1 : Int32).toInt = 10) ∧ (1 ≤ y3_2.toInt ∧ y3_2.toInt ≤ 10 → (1 : Int32).toInt = (i 5).toInt) ∧ 0 ≤ (1 : Int32).toInt ∧ (1 : Int32).toInt ≤ 30 from by have h53 : (1 : Int32).toInt = 1 := (by decide +kernel); omega) _ _ _ hP hD hS (lv_sub hl [0, 1, 2] rfl)
        · have f20 := (ti_eq (a := y3_2.toInt) (b := 0) rfl (by decide +kernel)).mp c20
          refine lv_bipush (v := 10) hx hb dX12_triedAll_21 (by decide +kernel) ?_
          refine lv_goto (tgt := 40) hx hb dX12_triedAll_23 (by decide +kernel) ?_
          exact jn5  (10 : Int32) (show (y3_2.toInt = 0 → (10 : Int32).toInt = 10) ∧ (1 ≤ y3_2.toInt ∧ y3_2.toInt ≤ 10 → (10 : Int32).toInt = (i 5).toInt) ∧ 0 ≤ (10 : Int32).toInt ∧ (10 : Int32).toInt ≤ 30 from by have h53 : (10 : Int32).toInt = 10 := (by decide +kernel); omega) _ _ _ hP hD hS (lv_sub hl [0, 1, 2] rfl)
  exact lp3 _ i2 q2 c2 d2 (0 : Int32) hI (fr_w hfi (by decide +kernel)) (fr_w hfc (by decide +kernel)) hs_T hs_B hs_Q hs_U hs_R (show 0 ≤ (0 : Int32).toInt ∧ (0 : Int32).toInt ≤ 12 from by decide +kernel) (show s1.toInt < ((i2 50) : Int32).toInt ∧ (i 50).toInt ≤ ((i2 50) : Int32).toInt from by have h50 : (0 : Int32).toInt = 0 := (by decide +kernel); omega) (Nat.lt_succ_self _) _ _ _ hP hD hS (lv_sub hl [0, 1, 2] rfl)

