set_option maxHeartbeats 4000000 in
set_option maxRecDepth 100000 in
theorem s_X12_isFlagBarred_e (l : Launch) (D : va_G) (sz : Nat) (o : Nat) (a : Nat → Nat) (t : Nat → ClassId) (i : Nat → Int32) (q : Int64) (c : Nat → Nat → Int32) (d : Nat → Nat → Int64) (w1 : Int32) (f : Int32) (v1 : Int32) (hI : mInv i c) (hw1 : 0 ≤ w1.toInt ∧ w1.toInt ≤ 29) (hf : 0 ≤ f.toInt ∧ f.toInt ≤ 5) (hv1 : 0 ≤ v1.toInt ∧ v1.toInt ≤ 1) (hrm : (i 15).toInt = 0) : Met l yX12_isFlagBarred wm_X12_isFlagBarred ({ frames := 1, cells := 0, slots := 0, locals := 25 }) (va_Pc [.ref o, .int w1, .int f, .int v1] (pB D sz (mW o a t i q c d) (mT t))) (va_Qi (fun (r : Int32) (u : MS) => ((0 ≤ r.toInt ∧ r.toInt ≤ 1) ∧ (Sm r (FbM (c 9) (c 10) (c 11) (c 12) (c 13) (i 8).toInt w1.toInt f.toInt v1.toInt))) ∧ mInv u.1 u.2.2.1 ∧ (∀ k, k ∉ ([15] : List Nat) → u.1 k = i k) ∧ (∀ k, k ∉ ([14] : List Nat) → u.2.2.1 k = c k)) (oC D (va_A (mW o a t i q c d) sz) (fun u : MS => mW o a t u.1 u.2.1 u.2.2.1 u.2.2.2) (fun _ => [])) (va_A (mW o a t i q c d) sz)) 0 0 (va_A (mW o a t i q c d) sz) := by
  refine Met.ofW (cc := cX12_isFlagBarred) (maxL := 5) (ret := (some .boolean)) (by decide +kernel) rfl ?_
  intro p e s m args below meth cd s₁ B hml hv
  obtain ⟨rfl, hsz, hP, hK, hD0⟩ := hv
  have hx := B.exec
  have hb := B.bytes
  have hr := B.returns
  have hts := atoms_spec (ws := wm_X12_isFlagBarred) B.pre
  have hown : s.vm.findClass RX12 = some m.cls := findClass_of_methodNamed B.named
  have hlocks := B.notSynchronized
  subst hsz
  have hD := hD0.self (sz := s.heap.size)
  generalize hAe : va_A (mW o a t i q c d) s.heap.size = A at hD ⊢
  have hA : ∀ q : Nat, s.heap.size ≤ q → A q := fun q h => by rw [← hAe]; exact Or.inr h
  have hS : va_S A s.heap s.heap [] := va_S.rf
  have hfi : ∀ k, k ∉ ([] : List Nat) → i k = i k := fun _ _ => rfl
  have hfc : ∀ k, k ∉ ([] : List Nat) → c k = c k := fun _ _ => rfl
  have hl := lv_entry ([.ref o, .int w1, .int f, .int v1]) (n := 5) (Nat.le_of_ble_eq_true rfl)
  rw [lg_entry_eq]
  generalize (lg_sl ([.ref o, .int w1, .int f, .int v1]) ++ List.replicate (5 - (lg_sl ([.ref o, .int w1, .int f, .int v1])).length) Slot.unset).toArray = ls at hl ⊢
  have hl : lv_has ls 5 [(0, .ref o), (1, .int w1), (2, .int f), (3, .int v1)] := hl
  refine lv_aload_n hx hb dX12_isFlagBarred_0 rfl (lv_at hl 0 rfl) ?_
  refine lv_bipush (v := 6) hx hb dX12_isFlagBarred_1 (by decide +kernel) ?_
  refine lv_iload_n hx hb dX12_isFlagBarred_3 rfl (lv_at hl 1 rfl) ?_
  refine lv_iload_n hx hb dX12_isFlagBarred_4 rfl (lv_at hl 2 rfl) ?_
  refine lv_iconst (v := 1) hx hb dX12_isFlagBarred_5 (by decide +kernel) ?_
  refine lv_iload_n hx hb dX12_isFlagBarred_6 rfl (lv_at hl 3 rfl) ?_
  refine lv_isub hx hb dX12_isFlagBarred_7 ?_
  refine lv_topi (fun x1 ex1 => ?_)
  have tx1 := ti_sub (a := 1) (b := v1.toInt) ex1 (by decide +kernel) rfl (by omega) (by omega)
  have rb8_i : 0 ≤ (i 8).toInt ∧ (i 8).toInt ≤ 200 := hI.1 8
  refine ro_calli (va_runV (As := [.int 6, .int w1, .int f, .int x1]) (rest := []) ⟨hx, hb, hml, hown, hts⟩ (s_X12_saidSo_e l D s.heap.size o a t i q c d 6 w1 f x1 hI ) (cwV 4 hts gm_X12_isFlagBarred_X12_saidSo rfl rfl rfl (by decide +kernel) ⟨Nat.le_of_ble_eq_true rfl, Nat.le_of_ble_eq_true rfl⟩) (pA_V hK hP (ci := 12) (q0 := 0) rfl rfl) rfl rfl hl.1 rfl (lv_room (Nat.le_of_ble_eq_true rfl)) dX12_isFlagBarred_8 ⟨Nat.le_of_ble_eq_true rfl, Nat.le_of_ble_eq_true rfl⟩) hS hA hP (fun r2 u2 H locs hw2 hP hS => ?_)
  have hw2 : ((r2.toInt = -9 ∨ (0 ≤ r2.toInt ∧ r2.toInt ≤ 199)) ∧ (r2.toInt = fsF (sE (c 9) (c 10) (c 11) (c 12) (c 13) 6 w1.toInt f.toInt x1.toInt) (i 8).toInt.toNat)) := hw2
  obtain ⟨hw2, hr2_0⟩ := hw2
  have hr2_0 : r2.toInt = fsF (sE (c 9) (c 10) (c 11) (c 12) (c 13) 6 w1.toInt f.toInt x1.toInt) (i 8).toInt.toNat := hr2_0
  have hA1 : r2.toInt = fsF (sE (c 9) (c 10) (c 11) (c 12) (c 13) 6 w1.toInt f.toInt (1 - v1.toInt)) (i 8).toInt.toNat := by have h9 := hr2_0; rw [show x1.toInt = 1 - v1.toInt from tx1] at h9; exact h9
  refine lv_istore (lv' := [(4, .int r2), (0, .ref o), (1, .int w1), (2, .int f), (3, .int v1)]) hx hb dX12_isFlagBarred_11 hl (by decide +kernel) rfl (fun ls hl => ?_)
  refine lv_iload hx hb dX12_isFlagBarred_13 (lv_at hl 0 rfl) ?_
  refine lv_bipush (v := (-9)) hx hb dX12_isFlagBarred_15 (by decide +kernel) ?_
  refine lv_icmp_ne (tgt := 47) hx hb dX12_isFlagBarred_17 (by decide +kernel) (fun c3 => ?_) (fun c3 => ?_)
  · have f3 := mt (ti_eq (a := r2.toInt) (b := (-9)) rfl (by decide +kernel)).mpr c3
    refine lv_iload hx hb dX12_isFlagBarred_47 (lv_at hl 0 rfl) ?_
    refine lv_bipush (v := (-9)) hx hb dX12_isFlagBarred_49 (by decide +kernel) ?_
    have jn4 : ∀ (y4_4 : Int32), (y4_4.toInt = -9 ∨ (0 ≤ y4_4.toInt ∧ y4_4.toInt ≤ 199)) → ((y4_4.toInt = -9 ∧ ¬ FbM (c 9) (c 10) (c 11) (c 12) (c 13) (i 8).toInt w1.toInt f.toInt v1.toInt) ∨ (¬ y4_4.toInt = -9 ∧ FbM (c 9) (c 10) (c 11) (c 12) (c 13) (i 8).toInt w1.toInt f.toInt v1.toInt)) → ∀ (H : Heap) (locs : List Loc) (ls : Array Slot), va_P D vwCl (mW o a t i q c d) H → va_D A (mW o a t i q c d) → va_S A s.heap H locs → lv_has ls 5 [(0, .ref o), (1, .int w1), (2, .int f), (3, .int v1), (4, .int y4_4)] → W p l e (headSpec wm_X12_isFlagBarred ({ frames := 1, cells := 0, slots := 0, locals := 25 })).room s m ([.ref o, .int w1, .int f, .int v1] : List Value).toArray below meth cd H locs 0 0 (MQ below (va_Qi (fun (r : Int32) (u : MS) => ((0 ≤ r.toInt ∧ r.toInt ≤ 1) ∧ (Sm r (FbM (c 9) (c 10) (c 11) (c 12) (c 13) (i 8).toInt w1.toInt f.toInt v1.toInt))) ∧ mInv u.1 u.2.2.1 ∧ (∀ k, k ∉ ([15] : List Nat) → u.1 k = i k) ∧ (∀ k, k ∉ ([14] : List Nat) → u.2.2.1 k = c k)) (oC D A (fun u : MS => mW o a t u.1 u.2.1 u.2.2.1 u.2.2.2) (fun _ => [])) A) ([.ref o, .int w1, .int f, .int v1] : List Value).toArray s 0 0 A) (F0 m 94 ls []) := by
      intro y4_4 hy4_4 hz4_0 H locs ls hP hD hS hl
      refine lv_iload hx hb dX12_isFlagBarred_94 (lv_at hl 4 rfl) ?_
      refine lv_bipush (v := (-9)) hx hb dX12_isFlagBarred_96 (by decide +kernel) ?_
      refine lv_icmp_eq (tgt := 107) hx hb dX12_isFlagBarred_98 (by decide +kernel) (fun c5 => ?_) (fun c5 => ?_)
      · have f5 := (ti_eq (a := y4_4.toInt) (b := (-9)) rfl (by decide +kernel)).mp c5
        refine lv_iload hx hb dX12_isFlagBarred_107 (lv_at hl 4 rfl) ?_
        refine lv_bipush (v := (-9)) hx hb dX12_isFlagBarred_109 (by decide +kernel) ?_
        refine lv_icmp_eq (tgt := 118) hx hb dX12_isFlagBarred_111 (by decide +kernel) (fun c6 => ?_) (fun c6 => ?_)
        · have f6 := (ti_eq (a := y4_4.toInt) (b := (-9)) rfl (by decide +kernel)).mp c6
          refine lv_iconst (v := 0) hx hb dX12_isFlagBarred_118 (by decide +kernel) ?_
          exact rw_zret (i, q, c, d) hx hb hr hlocks hS (hK.sub (tys' := []) [] rfl) hP hD rfl dX12_isFlagBarred_119 ⟨⟨(show 0 ≤ (0 : Int32).toInt ∧ (0 : Int32).toInt ≤ 1 from by have h9 : (0 : Int32).toInt = 0 := (by decide +kernel); omega), (show Sm (0 : Int32) (FbM (c 9) (c 10) (c 11) (c 12) (c 13) (i 8).toInt w1.toInt f.toInt v1.toInt) from sm_0 (by rcases hz4_0 with h9 | h9; (· exact h9.2); (· exfalso; omega)))⟩, hI, fr_w hfi (by decide +kernel), fr_w hfc (by decide +kernel)⟩
        · have f6 := mt (ti_eq (a := y4_4.toInt) (b := (-9)) rfl (by decide +kernel)).mpr c6
          refine lv_iconst (v := 1) hx hb dX12_isFlagBarred_114 (by decide +kernel) ?_
          refine lv_goto (tgt := 119) hx hb dX12_isFlagBarred_115 (by decide +kernel) ?_
          exact rw_zret (i, q, c, d) hx hb hr hlocks hS (hK.sub (tys' := []) [] rfl) hP hD rfl dX12_isFlagBarred_119 ⟨⟨(show 0 ≤ (1 : Int32).toInt ∧ (1 : Int32).toInt ≤ 1 from by have h9 : (1 : Int32).toInt = 1 := (by decide +kernel); omega), (show Sm (1 : Int32) (FbM (c 9) (c 10) (c 11) (c 12) (c 13) (i 8).toInt w1.toInt f.toInt v1.toInt) from sm_1 (by rcases hz4_0 with h9 | h9; (· exfalso; omega); (· exact h9.2)))⟩, hI, fr_w hfi (by decide +kernel), fr_w hfc (by decide +kernel)⟩
      · have f5 := mt (ti_eq (a := y4_4.toInt) (b := (-9)) rfl (by decide +kernel)).mpr c5
        refine lv_aload_n hx hb dX12_isFlagBarred_101 rfl (lv_at hl 0 rfl) ?_
        refine lv_iload hx hb dX12_isFlagBarred_102 (lv_at hl 4 rfl) ?_
        have rb15_i : 0 ≤ (i 15).toInt ∧ (i 15).toInt ≤ 200 := hI.1 15
        refine al_callv (va_runV (As := [.int y4_4]) (rest := []) ⟨hx, hb, hml, hown, hts⟩ (s_X12_clashes l D H.size o a t i q c d y4_4 hI (show 0 ≤ y4_4.toInt ∧ y4_4.toInt ≤ 199 from by omega) (show ((i 15) : Int32).toInt ≤ 199 from by omega)) (cwV 1 hts gm_X12_isFlagBarred_X12_clashes rfl rfl rfl (by decide +kernel) ⟨Nat.le_of_ble_eq_true rfl, Nat.le_of_ble_eq_true rfl⟩) (pB_V hK hP hD (ci := 12) (q0 := 0) rfl rfl) rfl rfl hl.1 rfl (lv_room (Nat.le_of_ble_eq_true rfl)) dX12_isFlagBarred_104 ⟨Nat.le_of_ble_eq_true rfl, Nat.le_of_ble_eq_true rfl⟩) hS hA hP hD (fun u7 H locs hw7 hP hD hS => ?_)
        obtain ⟨i7, q7, c7, d7⟩ := u7
        have hw7 : True ∧ mInv i7 c7 ∧ (∀ k, k ∉ ([15] : List Nat) → i7 k = i k) ∧ (∀ k, k ∉ ([14] : List Nat) → c7 k = c k) ∧ ((i7 15).toInt = (i 15).toInt + 1) := hw7
        obtain ⟨hw7, hI, hei7, hec7, hxp7_0⟩ := hw7
        have hxp7_0 : (i7 15).toInt = (i 15).toInt + 1 := hxp7_0
        have hfi : ∀ k, k ∉ ([15] : List Nat) → i7 k = i k := fr_z hfi hei7 (by decide +kernel) (by decide +kernel)
        have hfc : ∀ k, k ∉ ([14] : List Nat) → c7 k = c k := fr_z hfc hec7 (by decide +kernel) (by decide +kernel)
        have hP : va_P D vwCl (mW o a t i7 q7 c7 d7) H := hP
        have hD : va_D A (mW o a t i7 q7 c7 d7) := hD
        refine lv_iload hx hb dX12_isFlagBarred_107 (lv_at hl 4 rfl) ?_
        refine lv_bipush (v := (-9)) hx hb dX12_isFlagBarred_109 (by decide +kernel) ?_
        refine lv_icmp_eq (tgt := 118) hx hb dX12_isFlagBarred_111 (by decide +kernel) (fun c8 => ?_) (fun c8 => ?_)
        · have f8 := (ti_eq (a := y4_4.toInt) (b := (-9)) rfl (by decide +kernel)).mp c8
          refine lv_iconst (v := 0) hx hb dX12_isFlagBarred_118 (by decide +kernel) ?_
          exact rw_zret (i7, q7, c7, d7) hx hb hr hlocks hS (hK.sub (tys' := []) [] rfl) hP hD rfl dX12_isFlagBarred_119 ⟨⟨(show 0 ≤ (0 : Int32).toInt ∧ (0 : Int32).toInt ≤ 1 from by have h9 : (0 : Int32).toInt = 0 := (by decide +kernel); omega), (show Sm (0 : Int32) (FbM (c 9) (c 10) (c 11) (c 12) (c 13) (i 8).toInt w1.toInt f.toInt v1.toInt) from sm_0 (by rcases hz4_0 with h9 | h9; (· exact h9.2); (· exfalso; omega)))⟩, hI, fr_w hfi (by decide +kernel), fr_w hfc (by decide +kernel)⟩
        · have f8 := mt (ti_eq (a := y4_4.toInt) (b := (-9)) rfl (by decide +kernel)).mpr c8
          refine lv_iconst (v := 1) hx hb dX12_isFlagBarred_114 (by decide +kernel) ?_
          refine lv_goto (tgt := 119) hx hb dX12_isFlagBarred_115 (by decide +kernel) ?_
          exact rw_zret (i7, q7, c7, d7) hx hb hr hlocks hS (hK.sub (tys' := []) [] rfl) hP hD rfl dX12_isFlagBarred_119 ⟨⟨(show 0 ≤ (1 : Int32).toInt ∧ (1 : Int32).toInt ≤ 1 from by have h9 : (1 : Int32).toInt = 1 := (by decide +kernel); omega), (show Sm (1 : Int32) (FbM (c 9) (c 10) (c 11) (c 12) (c 13) (i 8).toInt w1.toInt f.toInt v1.toInt) from sm_1 (by rcases hz4_0 with h9 | h9; (· exfalso; omega); (· exact h9.2)))⟩, hI, fr_w hfi (by decide +kernel), fr_w hfc (by decide +kernel)⟩
    refine lv_icmp_ne (tgt := 94) hx hb dX12_isFlagBarred_51 (by decide +kernel) (fun c9 => ?_) (fun c9 => ?_)
    · have f9 := mt (ti_eq (a := r2.toInt) (b := (-9)) rfl (by decide +kernel)).mpr c9
      exact jn4 r2  (show r2.toInt = -9 ∨ (0 ≤ r2.toInt ∧ r2.toInt ≤ 199) from by omega) (show (r2.toInt = -9 ∧ ¬ FbM (c 9) (c 10) (c 11) (c 12) (c 13) (i 8).toInt w1.toInt f.toInt v1.toInt) ∨ (¬ r2.toInt = -9 ∧ FbM (c 9) (c 10) (c 11) (c 12) (c 13) (i 8).toInt w1.toInt f.toInt v1.toInt) from by unfold FbM; omega) _ _ _ hP hD hS (lv_sub hl [1, 2, 3, 4, 0] rfl)
    · have f9 := (ti_eq (a := r2.toInt) (b := (-9)) rfl (by decide +kernel)).mp c9
      refine lv_iload_n hx hb dX12_isFlagBarred_54 rfl (lv_at hl 3 rfl) ?_
      refine lv_iconst (v := 4) hx hb dX12_isFlagBarred_55 (by decide +kernel) ?_
      refine lv_icmp_ne (tgt := 94) hx hb dX12_isFlagBarred_56 (by decide +kernel) (fun c10 => ?_) (fun c10 => ?_)
      · have f10 := mt (ti_eq (a := f.toInt) (b := 4) rfl (by decide +kernel)).mpr c10
        exact jn4 r2  (show r2.toInt = -9 ∨ (0 ≤ r2.toInt ∧ r2.toInt ≤ 199) from by omega) (show (r2.toInt = -9 ∧ ¬ FbM (c 9) (c 10) (c 11) (c 12) (c 13) (i 8).toInt w1.toInt f.toInt v1.toInt) ∨ (¬ r2.toInt = -9 ∧ FbM (c 9) (c 10) (c 11) (c 12) (c 13) (i 8).toInt w1.toInt f.toInt v1.toInt) from by unfold FbM; omega) _ _ _ hP hD hS (lv_sub hl [1, 2, 3, 4, 0] rfl)
      · have f10 := (ti_eq (a := f.toInt) (b := 4) rfl (by decide +kernel)).mp c10
        refine lv_iload_n hx hb dX12_isFlagBarred_59 rfl (lv_at hl 4 rfl) ?_
        refine lv_if_ne (tgt := 94) hx hb dX12_isFlagBarred_60 (by decide +kernel) (fun c11 => ?_) (fun c11 => ?_)
        · have f11 := mt (ti_eq (a := v1.toInt) (b := 0) rfl (by decide +kernel)).mpr c11
          exact jn4 r2  (show r2.toInt = -9 ∨ (0 ≤ r2.toInt ∧ r2.toInt ≤ 199) from by omega) (show (r2.toInt = -9 ∧ ¬ FbM (c 9) (c 10) (c 11) (c 12) (c 13) (i 8).toInt w1.toInt f.toInt v1.toInt) ∨ (¬ r2.toInt = -9 ∧ FbM (c 9) (c 10) (c 11) (c 12) (c 13) (i 8).toInt w1.toInt f.toInt v1.toInt) from by unfold FbM; omega) _ _ _ hP hD hS (lv_sub hl [1, 2, 3, 4, 0] rfl)
        · have f11 := (ti_eq (a := v1.toInt) (b := 0) rfl (by decide +kernel)).mp c11
          refine lv_aload_n hx hb dX12_isFlagBarred_63 rfl (lv_at hl 1 rfl) ?_
          refine lv_iload_n hx hb dX12_isFlagBarred_64 rfl (lv_at hl 2 rfl) ?_
          refine ro_calli (va_runV (As := [.int w1]) (rest := []) ⟨hx, hb, hml, hown, hts⟩ (s_X12_placing l D H.size o a t i q c d w1 hI ) (cwV 1 hts gm_X12_isFlagBarred_X12_placing rfl rfl rfl (by decide +kernel) ⟨Nat.le_of_ble_eq_true rfl, Nat.le_of_ble_eq_true rfl⟩) (pA_V hK hP (ci := 12) (q0 := 0) rfl rfl) rfl rfl hl.1 rfl (lv_room (Nat.le_of_ble_eq_true rfl)) dX12_isFlagBarred_65 ⟨Nat.le_of_ble_eq_true rfl, Nat.le_of_ble_eq_true rfl⟩) hS hA hP (fun r12 u12 H locs hw12 hP hS => ?_)
          have hw12 : ((r12.toInt = -9 ∨ (0 ≤ r12.toInt ∧ r12.toInt ≤ 199)) ∧ (r12.toInt = pL (c 9) (c 10) (c 13) (i 8).toInt w1.toInt)) := hw12
          obtain ⟨hw12, hr12_0⟩ := hw12
          have hr12_0 : r12.toInt = pL (c 9) (c 10) (c 13) (i 8).toInt w1.toInt := hr12_0
          refine lv_bipush (v := (-9)) hx hb dX12_isFlagBarred_68 (by decide +kernel) ?_
          refine lv_icmp_eq (tgt := 94) hx hb dX12_isFlagBarred_70 (by decide +kernel) (fun c13 => ?_) (fun c13 => ?_)
          · have f13 := (ti_eq (a := r12.toInt) (b := (-9)) rfl (by decide +kernel)).mp c13
            exact jn4 r2  (show r2.toInt = -9 ∨ (0 ≤ r2.toInt ∧ r2.toInt ≤ 199) from by omega) (show (r2.toInt = -9 ∧ ¬ FbM (c 9) (c 10) (c 11) (c 12) (c 13) (i 8).toInt w1.toInt f.toInt v1.toInt) ∨ (¬ r2.toInt = -9 ∧ FbM (c 9) (c 10) (c 11) (c 12) (c 13) (i 8).toInt w1.toInt f.toInt v1.toInt) from by unfold FbM; omega) _ _ _ hP hD hS (lv_sub hl [1, 2, 3, 4, 0] rfl)
          · have f13 := mt (ti_eq (a := r12.toInt) (b := (-9)) rfl (by decide +kernel)).mpr c13
            refine lv_aload_n hx hb dX12_isFlagBarred_73 rfl (lv_at hl 1 rfl) ?_
            refine mget_9 hx hb hts (fun _ h => List.mem_cons_of_mem _ (List.mem_append_right _ h)) hown hK hP (hts (.fieldLink RX12 25 "TalePlayModel" "form" "[I") (List.mem_cons_of_mem _ (List.mem_append_left _ (List.mem_append_left _ (List.mem_of_getElem? (i := 7) rfl))))) dX12_isFlagBarred_74 ?_
            refine lv_aload_n hx hb dX12_isFlagBarred_77 rfl (lv_at hl 1 rfl) ?_
            refine lv_iload_n hx hb dX12_isFlagBarred_78 rfl (lv_at hl 2 rfl) ?_
            refine ro_calli (va_runV (As := [.int w1]) (rest := [.ref (a 9)]) ⟨hx, hb, hml, hown, hts⟩ (s_X12_placing l D H.size o a t i q c d w1 hI ) (cwV 1 hts gm_X12_isFlagBarred_X12_placing rfl rfl rfl (by decide +kernel) ⟨Nat.le_of_ble_eq_true rfl, Nat.le_of_ble_eq_true rfl⟩) (pA_V hK hP (ci := 12) (q0 := 0) rfl rfl) rfl rfl hl.1 rfl (lv_room (Nat.le_of_ble_eq_true rfl)) dX12_isFlagBarred_79 ⟨Nat.le_of_ble_eq_true rfl, Nat.le_of_ble_eq_true rfl⟩) hS hA hP (fun r14 u14 H locs hw14 hP hS => ?_)
            have hw14 : ((r14.toInt = -9 ∨ (0 ≤ r14.toInt ∧ r14.toInt ≤ 199)) ∧ (r14.toInt = pL (c 9) (c 10) (c 13) (i 8).toInt w1.toInt)) := hw14
            obtain ⟨hw14, hr14_0⟩ := hw14
            have hr14_0 : r14.toInt = pL (c 9) (c 10) (c 13) (i 8).toInt w1.toInt := hr14_0
            refine mld_9 hx hb hK hP (vp_in_iff.mpr (by have h9 : r14.toInt = r14.toInt := rfl; omega)) dX12_isFlagBarred_82 (fun x15 ex15 => ?_)
            have rx15 : 0 ≤ x15.toInt ∧ x15.toInt ≤ 7 := by rw [ex15]; exact hI.2 9 _
            have gx15 : (c 9 (r14 : Int32).toNatClampNeg).toInt = x15.toInt := by rw [ex15]
            have hA3 : (c 9 (pL (c 9) (c 10) (c 13) (i 8).toInt w1.toInt).toNat).toInt = x15.toInt := by rw [← hr14_0]; exact gx15
            refine lv_iconst (v := 3) hx hb dX12_isFlagBarred_83 (by decide +kernel) ?_
            refine lv_icmp_ne (tgt := 94) hx hb dX12_isFlagBarred_84 (by decide +kernel) (fun c16 => ?_) (fun c16 => ?_)
            · have f16 := mt (ti_eq (a := x15.toInt) (b := 3) rfl (by decide +kernel)).mpr c16
              exact jn4 r2  (show r2.toInt = -9 ∨ (0 ≤ r2.toInt ∧ r2.toInt ≤ 199) from by omega) (show (r2.toInt = -9 ∧ ¬ FbM (c 9) (c 10) (c 11) (c 12) (c 13) (i 8).toInt w1.toInt f.toInt v1.toInt) ∨ (¬ r2.toInt = -9 ∧ FbM (c 9) (c 10) (c 11) (c 12) (c 13) (i 8).toInt w1.toInt f.toInt v1.toInt) from by unfold FbM; omega) _ _ _ hP hD hS (lv_sub hl [1, 2, 3, 4, 0] rfl)
            · have f16 := (ti_eq (a := x15.toInt) (b := 3) rfl (by decide +kernel)).mp c16
              refine lv_aload_n hx hb dX12_isFlagBarred_87 rfl (lv_at hl 1 rfl) ?_
              refine lv_iload_n hx hb dX12_isFlagBarred_88 rfl (lv_at hl 2 rfl) ?_
              refine ro_calli (va_runV (As := [.int w1]) (rest := []) ⟨hx, hb, hml, hown, hts⟩ (s_X12_placing l D H.size o a t i q c d w1 hI ) (cwV 1 hts gm_X12_isFlagBarred_X12_placing rfl rfl rfl (by decide +kernel) ⟨Nat.le_of_ble_eq_true rfl, Nat.le_of_ble_eq_true rfl⟩) (pA_V hK hP (ci := 12) (q0 := 0) rfl rfl) rfl rfl hl.1 rfl (lv_room (Nat.le_of_ble_eq_true rfl)) dX12_isFlagBarred_89 ⟨Nat.le_of_ble_eq_true rfl, Nat.le_of_ble_eq_true rfl⟩) hS hA hP (fun r17 u17 H locs hw17 hP hS => ?_)
              have hw17 : ((r17.toInt = -9 ∨ (0 ≤ r17.toInt ∧ r17.toInt ≤ 199)) ∧ (r17.toInt = pL (c 9) (c 10) (c 13) (i 8).toInt w1.toInt)) := hw17
              obtain ⟨hw17, hr17_0⟩ := hw17
              have hr17_0 : r17.toInt = pL (c 9) (c 10) (c 13) (i 8).toInt w1.toInt := hr17_0
              refine lv_istore (lv' := [(4, .int r17), (0, .ref o), (1, .int w1), (2, .int f), (3, .int v1)]) hx hb dX12_isFlagBarred_92 hl (by decide +kernel) rfl (fun ls hl => ?_)
              exact jn4 r17  (show r17.toInt = -9 ∨ (0 ≤ r17.toInt ∧ r17.toInt ≤ 199) from by omega) (show (r17.toInt = -9 ∧ ¬ FbM (c 9) (c 10) (c 11) (c 12) (c 13) (i 8).toInt w1.toInt f.toInt v1.toInt) ∨ (¬ r17.toInt = -9 ∧ FbM (c 9) (c 10) (c 11) (c 12) (c 13) (i 8).toInt w1.toInt f.toInt v1.toInt) from by unfold FbM; omega) _ _ _ hP hD hS (lv_sub hl [1, 2, 3, 4, 0] rfl)
  · have f3 := (ti_eq (a := r2.toInt) (b := (-9)) rfl (by decide +kernel)).mp c3
    refine lv_iload_n hx hb dX12_isFlagBarred_20 rfl (lv_at hl 4 rfl) ?_
    refine lv_iconst (v := 1) hx hb dX12_isFlagBarred_21 (by decide +kernel) ?_
    refine lv_icmp_ne (tgt := 47) hx hb dX12_isFlagBarred_22 (by decide +kernel) (fun c18 => ?_) (fun c18 => ?_)
    · have f18 := mt (ti_eq (a := v1.toInt) (b := 1) rfl (by decide +kernel)).mpr c18
      refine lv_iload hx hb dX12_isFlagBarred_47 (lv_at hl 0 rfl) ?_
      refine lv_bipush (v := (-9)) hx hb dX12_isFlagBarred_49 (by decide +kernel) ?_
      have jn19 : ∀ (y19_4 : Int32), (y19_4.toInt = -9 ∨ (0 ≤ y19_4.toInt ∧ y19_4.toInt ≤ 199)) → ((y19_4.toInt = -9 ∧ ¬ FbM (c 9) (c 10) (c 11) (c 12) (c 13) (i 8).toInt w1.toInt f.toInt v1.toInt) ∨ (¬ y19_4.toInt = -9 ∧ FbM (c 9) (c 10) (c 11) (c 12) (c 13) (i 8).toInt w1.toInt f.toInt v1.toInt)) → ∀ (H : Heap) (locs : List Loc) (ls : Array Slot), va_P D vwCl (mW o a t i q c d) H → va_D A (mW o a t i q c d) → va_S A s.heap H locs → lv_has ls 5 [(0, .ref o), (1, .int w1), (2, .int f), (3, .int v1), (4, .int y19_4)] → W p l e (headSpec wm_X12_isFlagBarred ({ frames := 1, cells := 0, slots := 0, locals := 25 })).room s m ([.ref o, .int w1, .int f, .int v1] : List Value).toArray below meth cd H locs 0 0 (MQ below (va_Qi (fun (r : Int32) (u : MS) => ((0 ≤ r.toInt ∧ r.toInt ≤ 1) ∧ (Sm r (FbM (c 9) (c 10) (c 11) (c 12) (c 13) (i 8).toInt w1.toInt f.toInt v1.toInt))) ∧ mInv u.1 u.2.2.1 ∧ (∀ k, k ∉ ([15] : List Nat) → u.1 k = i k) ∧ (∀ k, k ∉ ([14] : List Nat) → u.2.2.1 k = c k)) (oC D A (fun u : MS => mW o a t u.1 u.2.1 u.2.2.1 u.2.2.2) (fun _ => [])) A) ([.ref o, .int w1, .int f, .int v1] : List Value).toArray s 0 0 A) (F0 m 94 ls []) := by
        intro y19_4 hy19_4 hz19_0 H locs ls hP hD hS hl
        refine lv_iload hx hb dX12_isFlagBarred_94 (lv_at hl 4 rfl) ?_
        refine lv_bipush (v := (-9)) hx hb dX12_isFlagBarred_96 (by decide +kernel) ?_
        refine lv_icmp_eq (tgt := 107) hx hb dX12_isFlagBarred_98 (by decide +kernel) (fun c20 => ?_) (fun c20 => ?_)
        · have f20 := (ti_eq (a := y19_4.toInt) (b := (-9)) rfl (by decide +kernel)).mp c20
          refine lv_iload hx hb dX12_isFlagBarred_107 (lv_at hl 4 rfl) ?_
          refine lv_bipush (v := (-9)) hx hb dX12_isFlagBarred_109 (by decide +kernel) ?_
          refine lv_icmp_eq (tgt := 118) hx hb dX12_isFlagBarred_111 (by decide +kernel) (fun c21 => ?_) (fun c21 => ?_)
          · have f21 := (ti_eq (a := y19_4.toInt) (b := (-9)) rfl (by decide +kernel)).mp c21
            refine lv_iconst (v := 0) hx hb dX12_isFlagBarred_118 (by decide +kernel) ?_
            exact rw_zret (i, q, c, d) hx hb hr hlocks hS (hK.sub (tys' := []) [] rfl) hP hD rfl dX12_isFlagBarred_119 ⟨⟨(show 0 ≤ (0 : Int32).toInt ∧ (0 : Int32).toInt ≤ 1 from by have h9 : (0 : Int32).toInt = 0 := (by decide +kernel); omega), (show Sm (0 : Int32) (FbM (c 9) (c 10) (c 11) (c 12) (c 13) (i 8).toInt w1.toInt f.toInt v1.toInt) from sm_0 (by rcases hz19_0 with h9 | h9; (· exact h9.2); (· exfalso; omega)))⟩, hI, fr_w hfi (by decide +kernel), fr_w hfc (by decide +kernel)⟩
          · have f21 := mt (ti_eq (a := y19_4.toInt) (b := (-9)) rfl (by decide +kernel)).mpr c21
            refine lv_iconst (v := 1) hx hb dX12_isFlagBarred_114 (by decide +kernel) ?_
            refine lv_goto (tgt := 119) hx hb dX12_isFlagBarred_115 (by decide +kernel) ?_
            exact rw_zret (i, q, c, d) hx hb hr hlocks hS (hK.sub (tys' := []) [] rfl) hP hD rfl dX12_isFlagBarred_119 ⟨⟨(show 0 ≤ (1 : Int32).toInt ∧ (1 : Int32).toInt ≤ 1 from by have h9 : (1 : Int32).toInt = 1 := (by decide +kernel); omega), (show Sm (1 : Int32) (FbM (c 9) (c 10) (c 11) (c 12) (c 13) (i 8).toInt w1.toInt f.toInt v1.toInt) from sm_1 (by rcases hz19_0 with h9 | h9; (· exfalso; omega); (· exact h9.2)))⟩, hI, fr_w hfi (by decide +kernel), fr_w hfc (by decide +kernel)⟩
        · have f20 := mt (ti_eq (a := y19_4.toInt) (b := (-9)) rfl (by decide +kernel)).mpr c20
          refine lv_aload_n hx hb dX12_isFlagBarred_101 rfl (lv_at hl 0 rfl) ?_
          refine lv_iload hx hb dX12_isFlagBarred_102 (lv_at hl 4 rfl) ?_
          have rb15_i : 0 ≤ (i 15).toInt ∧ (i 15).toInt ≤ 200 := hI.1 15
          refine al_callv (va_runV (As := [.int y19_4]) (rest := []) ⟨hx, hb, hml, hown, hts⟩ (s_X12_clashes l D H.size o a t i q c d y19_4 hI (show 0 ≤ y19_4.toInt ∧ y19_4.toInt ≤ 199 from by omega) (show ((i 15) : Int32).toInt ≤ 199 from by omega)) (cwV 1 hts gm_X12_isFlagBarred_X12_clashes rfl rfl rfl (by decide +kernel) ⟨Nat.le_of_ble_eq_true rfl, Nat.le_of_ble_eq_true rfl⟩) (pB_V hK hP hD (ci := 12) (q0 := 0) rfl rfl) rfl rfl hl.1 rfl (lv_room (Nat.le_of_ble_eq_true rfl)) dX12_isFlagBarred_104 ⟨Nat.le_of_ble_eq_true rfl, Nat.le_of_ble_eq_true rfl⟩) hS hA hP hD (fun u22 H locs hw22 hP hD hS => ?_)
          obtain ⟨i22, q22, c22, d22⟩ := u22
          have hw22 : True ∧ mInv i22 c22 ∧ (∀ k, k ∉ ([15] : List Nat) → i22 k = i k) ∧ (∀ k, k ∉ ([14] : List Nat) → c22 k = c k) ∧ ((i22 15).toInt = (i 15).toInt + 1) := hw22
          obtain ⟨hw22, hI, hei22, hec22, hxp22_0⟩ := hw22
          have hxp22_0 : (i22 15).toInt = (i 15).toInt + 1 := hxp22_0
          have hfi : ∀ k, k ∉ ([15] : List Nat) → i22 k = i k := fr_z hfi hei22 (by decide +kernel) (by decide +kernel)
          have hfc : ∀ k, k ∉ ([14] : List Nat) → c22 k = c k := fr_z hfc hec22 (by decide +kernel) (by decide +kernel)
          have hP : va_P D vwCl (mW o a t i22 q22 c22 d22) H := hP
          have hD : va_D A (mW o a t i22 q22 c22 d22) := hD
          refine lv_iload hx hb dX12_isFlagBarred_107 (lv_at hl 4 rfl) ?_
          refine lv_bipush (v := (-9)) hx hb dX12_isFlagBarred_109 (by decide +kernel) ?_
          refine lv_icmp_eq (tgt := 118) hx hb dX12_isFlagBarred_111 (by decide +kernel) (fun c23 => ?_) (fun c23 => ?_)
          · have f23 := (ti_eq (a := y19_4.toInt) (b := (-9)) rfl (by decide +kernel)).mp c23
            refine lv_iconst (v := 0) hx hb dX12_isFlagBarred_118 (by decide +kernel) ?_
            exact rw_zret (i22, q22, c22, d22) hx hb hr hlocks hS (hK.sub (tys' := []) [] rfl) hP hD rfl dX12_isFlagBarred_119 ⟨⟨(show 0 ≤ (0 : Int32).toInt ∧ (0 : Int32).toInt ≤ 1 from by have h9 : (0 : Int32).toInt = 0 := (by decide +kernel); omega), (show Sm (0 : Int32) (FbM (c 9) (c 10) (c 11) (c 12) (c 13) (i 8).toInt w1.toInt f.toInt v1.toInt) from sm_0 (by rcases hz19_0 with h9 | h9; (· exact h9.2); (· exfalso; omega)))⟩, hI, fr_w hfi (by decide +kernel), fr_w hfc (by decide +kernel)⟩
          · have f23 := mt (ti_eq (a := y19_4.toInt) (b := (-9)) rfl (by decide +kernel)).mpr c23
            refine lv_iconst (v := 1) hx hb dX12_isFlagBarred_114 (by decide +kernel) ?_
            refine lv_goto (tgt := 119) hx hb dX12_isFlagBarred_115 (by decide +kernel) ?_
            exact rw_zret (i22, q22, c22, d22) hx hb hr hlocks hS (hK.sub (tys' := []) [] rfl) hP hD rfl dX12_isFlagBarred_119 ⟨⟨(show 0 ≤ (1 : Int32).toInt ∧ (1 : Int32).toInt ≤ 1 from by have h9 : (1 : Int32).toInt = 1 := (by decide +kernel); omega), (show Sm (1 : Int32) (FbM (c 9) (c 10) (c 11) (c 12) (c 13) (i 8).toInt w1.toInt f.toInt v1.toInt) from sm_1 (by rcases hz19_0 with h9 | h9; (· exfalso; omega); (· exact h9.2)))⟩, hI, fr_w hfi (by decide +kernel), fr_w hfc (by decide +kernel)⟩
      refine lv_icmp_ne (tgt := 94) hx hb dX12_isFlagBarred_51 (by decide +kernel) (fun c24 => ?_) (fun c24 => ?_)
      · have f24 := mt (ti_eq (a := r2.toInt) (b := (-9)) rfl (by decide +kernel)).mpr c24
        exact jn19 r2  (show r2.toInt = -9 ∨ (0 ≤ r2.toInt ∧ r2.toInt ≤ 199) from by omega) (show (r2.toInt = -9 ∧ ¬ FbM (c 9) (c 10) (c 11) (c 12) (c 13) (i 8).toInt w1.toInt f.toInt v1.toInt) ∨ (¬ r2.toInt = -9 ∧ FbM (c 9) (c 10) (c 11) (c 12) (c 13) (i 8).toInt w1.toInt f.toInt v1.toInt) from by unfold FbM; omega) _ _ _ hP hD hS (lv_sub hl [1, 2, 3, 4, 0] rfl)
      · have f24 := (ti_eq (a := r2.toInt) (b := (-9)) rfl (by decide +kernel)).mp c24
        refine lv_iload_n hx hb dX12_isFlagBarred_54 rfl (lv_at hl 3 rfl) ?_
        refine lv_iconst (v := 4) hx hb dX12_isFlagBarred_55 (by decide +kernel) ?_
        refine lv_icmp_ne (tgt := 94) hx hb dX12_isFlagBarred_56 (by decide +kernel) (fun c25 => ?_) (fun c25 => ?_)
        · have f25 := mt (ti_eq (a := f.toInt) (b := 4) rfl (by decide +kernel)).mpr c25
          exact jn19 r2  (show r2.toInt = -9 ∨ (0 ≤ r2.toInt ∧ r2.toInt ≤ 199) from by omega) (show (r2.toInt = -9 ∧ ¬ FbM (c 9) (c 10) (c 11) (c 12) (c 13) (i 8).toInt w1.toInt f.toInt v1.toInt) ∨ (¬ r2.toInt = -9 ∧ FbM (c 9) (c 10) (c 11) (c 12) (c 13) (i 8).toInt w1.toInt f.toInt v1.toInt) from by unfold FbM; omega) _ _ _ hP hD hS (lv_sub hl [1, 2, 3, 4, 0] rfl)
        · have f25 := (ti_eq (a := f.toInt) (b := 4) rfl (by decide +kernel)).mp c25
          refine lv_iload_n hx hb dX12_isFlagBarred_59 rfl (lv_at hl 4 rfl) ?_
          refine lv_if_ne (tgt := 94) hx hb dX12_isFlagBarred_60 (by decide +kernel) (fun c26 => ?_) (fun c26 => ?_)
          · have f26 := mt (ti_eq (a := v1.toInt) (b := 0) rfl (by decide +kernel)).mpr c26
            exact jn19 r2  (show r2.toInt = -9 ∨ (0 ≤ r2.toInt ∧ r2.toInt ≤ 199) from by omega) (show (r2.toInt = -9 ∧ ¬ FbM (c 9) (c 10) (c 11) (c 12) (c 13) (i 8).toInt w1.toInt f.toInt v1.toInt) ∨ (¬ r2.toInt = -9 ∧ FbM (c 9) (c 10) (c 11) (c 12) (c 13) (i 8).toInt w1.toInt f.toInt v1.toInt) from by unfold FbM; omega) _ _ _ hP hD hS (lv_sub hl [1, 2, 3, 4, 0] rfl)
          · have f26 := (ti_eq (a := v1.toInt) (b := 0) rfl (by decide +kernel)).mp c26
            refine lv_aload_n hx hb dX12_isFlagBarred_63 rfl (lv_at hl 1 rfl) ?_
            refine lv_iload_n hx hb dX12_isFlagBarred_64 rfl (lv_at hl 2 rfl) ?_
            refine ro_calli (va_runV (As := [.int w1]) (rest := []) ⟨hx, hb, hml, hown, hts⟩ (s_X12_placing l D H.size o a t i q c d w1 hI ) (cwV 1 hts gm_X12_isFlagBarred_X12_placing rfl rfl rfl (by decide +kernel) ⟨Nat.le_of_ble_eq_true rfl, Nat.le_of_ble_eq_true rfl⟩) (pA_V hK hP (ci := 12) (q0 := 0) rfl rfl) rfl rfl hl.1 rfl (lv_room (Nat.le_of_ble_eq_true rfl)) dX12_isFlagBarred_65 ⟨Nat.le_of_ble_eq_true rfl, Nat.le_of_ble_eq_true rfl⟩) hS hA hP (fun r27 u27 H locs hw27 hP hS => ?_)
            have hw27 : ((r27.toInt = -9 ∨ (0 ≤ r27.toInt ∧ r27.toInt ≤ 199)) ∧ (r27.toInt = pL (c 9) (c 10) (c 13) (i 8).toInt w1.toInt)) := hw27
            obtain ⟨hw27, hr27_0⟩ := hw27
            have hr27_0 : r27.toInt = pL (c 9) (c 10) (c 13) (i 8).toInt w1.toInt := hr27_0
            refine lv_bipush (v := (-9)) hx hb dX12_isFlagBarred_68 (by decide +kernel) ?_
            refine lv_icmp_eq (tgt := 94) hx hb dX12_isFlagBarred_70 (by decide +kernel) (fun c28 => ?_) (fun c28 => ?_)
            · have f28 := (ti_eq (a := r27.toInt) (b := (-9)) rfl (by decide +kernel)).mp c28
              exact jn19 r2  (show r2.toInt = -9 ∨ (0 ≤ r2.toInt ∧ r2.toInt ≤ 199) from by omega) (show (r2.toInt = -9 ∧ ¬ FbM (c 9) (c 10) (c 11) (c 12) (c 13) (i 8).toInt w1.toInt f.toInt v1.toInt) ∨ (¬ r2.toInt = -9 ∧ FbM (c 9) (c 10) (c 11) (c 12) (c 13) (i 8).toInt w1.toInt f.toInt v1.toInt) from by unfold FbM; omega) _ _ _ hP hD hS (lv_sub hl [1, 2, 3, 4, 0] rfl)
            · have f28 := mt (ti_eq (a := r27.toInt) (b := (-9)) rfl (by decide +kernel)).mpr c28
              refine lv_aload_n hx hb dX12_isFlagBarred_73 rfl (lv_at hl 1 rfl) ?_
              refine mget_9 hx hb hts (fun _ h => List.mem_cons_of_mem _ (List.mem_append_right _ h)) hown hK hP (hts (.fieldLink RX12 25 "TalePlayModel" "form" "[I") (List.mem_cons_of_mem _ (List.mem_append_left _ (List.mem_append_left _ (List.mem_of_getElem? (i := 7) rfl))))) dX12_isFlagBarred_74 ?_
              refine lv_aload_n hx hb dX12_isFlagBarred_77 rfl (lv_at hl 1 rfl) ?_
              refine lv_iload_n hx hb dX12_isFlagBarred_78 rfl (lv_at hl 2 rfl) ?_
              refine ro_calli (va_runV (As := [.int w1]) (rest := [.ref (a 9)]) ⟨hx, hb, hml, hown, hts⟩ (s_X12_placing l D H.size o a t i q c d w1 hI ) (cwV 1 hts gm_X12_isFlagBarred_X12_placing rfl rfl rfl (by decide +kernel) ⟨Nat.le_of_ble_eq_true rfl, Nat.le_of_ble_eq_true rfl⟩) (pA_V hK hP (ci := 12) (q0 := 0) rfl rfl) rfl rfl hl.1 rfl (lv_room (Nat.le_of_ble_eq_true rfl)) dX12_isFlagBarred_79 ⟨Nat.le_of_ble_eq_true rfl, Nat.le_of_ble_eq_true rfl⟩) hS hA hP (fun r29 u29 H locs hw29 hP hS => ?_)
              have hw29 : ((r29.toInt = -9 ∨ (0 ≤ r29.toInt ∧ r29.toInt ≤ 199)) ∧ (r29.toInt = pL (c 9) (c 10) (c 13) (i 8).toInt w1.toInt)) := hw29
              obtain ⟨hw29, hr29_0⟩ := hw29
              have hr29_0 : r29.toInt = pL (c 9) (c 10) (c 13) (i 8).toInt w1.toInt := hr29_0
              refine mld_9 hx hb hK hP (vp_in_iff.mpr (by have h9 : r29.toInt = r29.toInt := rfl; omega)) dX12_isFlagBarred_82 (fun x30 ex30 => ?_)
              have rx30 : 0 ≤ x30.toInt ∧ x30.toInt ≤ 7 := by rw [ex30]; exact hI.2 9 _
              have gx30 : (c 9 (r29 : Int32).toNatClampNeg).toInt = x30.toInt := by rw [ex30]
              have hA3 : (c 9 (pL (c 9) (c 10) (c 13) (i 8).toInt w1.toInt).toNat).toInt = x30.toInt := by rw [← hr29_0]; exact gx30
              refine lv_iconst (v := 3) hx hb dX12_isFlagBarred_83 (by decide +kernel) ?_
              refine lv_icmp_ne (tgt := 94) hx hb dX12_isFlagBarred_84 (by decide +kernel) (fun c31 => ?_) (fun c31 => ?_)
              · have f31 := mt (ti_eq (a := x30.toInt) (b := 3) rfl (by decide +kernel)).mpr c31
                exact jn19 r2  (show r2.toInt = -9 ∨ (0 ≤ r2.toInt ∧ r2.toInt ≤ 199) from by omega) (show (r2.toInt = -9 ∧ ¬ FbM (c 9) (c 10) (c 11) (c 12) (c 13) (i 8).toInt w1.toInt f.toInt v1.toInt) ∨ (¬ r2.toInt = -9 ∧ FbM (c 9) (c 10) (c 11) (c 12) (c 13) (i 8).toInt w1.toInt f.toInt v1.toInt) from by unfold FbM; omega) _ _ _ hP hD hS (lv_sub hl [1, 2, 3, 4, 0] rfl)
              · have f31 := (ti_eq (a := x30.toInt) (b := 3) rfl (by decide +kernel)).mp c31
                refine lv_aload_n hx hb dX12_isFlagBarred_87 rfl (lv_at hl 1 rfl) ?_
                refine lv_iload_n hx hb dX12_isFlagBarred_88 rfl (lv_at hl 2 rfl) ?_
                refine ro_calli (va_runV (As := [.int w1]) (rest := []) ⟨hx, hb, hml, hown, hts⟩ (s_X12_placing l D H.size o a t i q c d w1 hI ) (cwV 1 hts gm_X12_isFlagBarred_X12_placing rfl rfl rfl (by decide +kernel) ⟨Nat.le_of_ble_eq_true rfl, Nat.le_of_ble_eq_true rfl⟩) (pA_V hK hP (ci := 12) (q0 := 0) rfl rfl) rfl rfl hl.1 rfl (lv_room (Nat.le_of_ble_eq_true rfl)) dX12_isFlagBarred_89 ⟨Nat.le_of_ble_eq_true rfl, Nat.le_of_ble_eq_true rfl⟩) hS hA hP (fun r32 u32 H locs hw32 hP hS => ?_)
                have hw32 : ((r32.toInt = -9 ∨ (0 ≤ r32.toInt ∧ r32.toInt ≤ 199)) ∧ (r32.toInt = pL (c 9) (c 10) (c 13) (i 8).toInt w1.toInt)) := hw32
                obtain ⟨hw32, hr32_0⟩ := hw32
                have hr32_0 : r32.toInt = pL (c 9) (c 10) (c 13) (i 8).toInt w1.toInt := hr32_0
                refine lv_istore (lv' := [(4, .int r32), (0, .ref o), (1, .int w1), (2, .int f), (3, .int v1)]) hx hb dX12_isFlagBarred_92 hl (by decide +kernel) rfl (fun ls hl => ?_)
                exact jn19 r32  (show r32.toInt = -9 ∨ (0 ≤ r32.toInt ∧ r32.toInt ≤ 199) from by omega) (show (r32.toInt = -9 ∧ ¬ FbM (c 9) (c 10) (c 11) (c 12) (c 13) (i 8).toInt w1.toInt f.toInt v1.toInt) ∨ (¬ r32.toInt = -9 ∧ FbM (c 9) (c 10) (c 11) (c 12) (c 13) (i 8).toInt w1.toInt f.toInt v1.toInt) from by unfold FbM; omega) _ _ _ hP hD hS (lv_sub hl [1, 2, 3, 4, 0] rfl)
    · have f18 := (ti_eq (a := v1.toInt) (b := 1) rfl (by decide +kernel)).mp c18
      refine lv_iload_n hx hb dX12_isFlagBarred_25 rfl (lv_at hl 3 rfl) ?_
      refine lv_if_eq (tgt := 34) hx hb dX12_isFlagBarred_26 (by decide +kernel) (fun c33 => ?_) (fun c33 => ?_)
      · have f33 := (ti_eq (a := f.toInt) (b := 0) rfl (by decide +kernel)).mp c33
        refine lv_aload_n hx hb dX12_isFlagBarred_34 rfl (lv_at hl 1 rfl) ?_
        refine lv_bipush (v := 6) hx hb dX12_isFlagBarred_35 (by decide +kernel) ?_
        refine lv_iload_n hx hb dX12_isFlagBarred_37 rfl (lv_at hl 2 rfl) ?_
        refine lv_iconst (v := 1) hx hb dX12_isFlagBarred_38 (by decide +kernel) ?_
        refine lv_iload_n hx hb dX12_isFlagBarred_39 rfl (lv_at hl 3 rfl) ?_
        refine lv_isub hx hb dX12_isFlagBarred_40 ?_
        refine lv_topi (fun x34 ex34 => ?_)
        have tx34 := ti_sub (a := 1) (b := f.toInt) ex34 (by decide +kernel) rfl (by omega) (by omega)
        refine lv_iconst (v := 1) hx hb dX12_isFlagBarred_41 (by decide +kernel) ?_
        refine ro_calli (va_runV (As := [.int 6, .int w1, .int x34, .int 1]) (rest := []) ⟨hx, hb, hml, hown, hts⟩ (s_X12_saidSo_e l D H.size o a t i q c d 6 w1 x34 1 hI ) (cwV 4 hts gm_X12_isFlagBarred_X12_saidSo rfl rfl rfl (by decide +kernel) ⟨Nat.le_of_ble_eq_true rfl, Nat.le_of_ble_eq_true rfl⟩) (pA_V hK hP (ci := 12) (q0 := 0) rfl rfl) rfl rfl hl.1 rfl (lv_room (Nat.le_of_ble_eq_true rfl)) dX12_isFlagBarred_42 ⟨Nat.le_of_ble_eq_true rfl, Nat.le_of_ble_eq_true rfl⟩) hS hA hP (fun r35 u35 H locs hw35 hP hS => ?_)
        have hw35 : ((r35.toInt = -9 ∨ (0 ≤ r35.toInt ∧ r35.toInt ≤ 199)) ∧ (r35.toInt = fsF (sE (c 9) (c 10) (c 11) (c 12) (c 13) 6 w1.toInt x34.toInt 1) (i 8).toInt.toNat)) := hw35
        obtain ⟨hw35, hr35_0⟩ := hw35
        have hr35_0 : r35.toInt = fsF (sE (c 9) (c 10) (c 11) (c 12) (c 13) 6 w1.toInt x34.toInt 1) (i 8).toInt.toNat := hr35_0
        have hA2 : r35.toInt = fsF (sE (c 9) (c 10) (c 11) (c 12) (c 13) 6 w1.toInt (1 - f.toInt) 1) (i 8).toInt.toNat := by have h9 := hr35_0; rw [show x34.toInt = 1 - f.toInt from tx34] at h9; exact h9
        refine lv_istore (lv' := [(4, .int r35), (0, .ref o), (1, .int w1), (2, .int f), (3, .int v1)]) hx hb dX12_isFlagBarred_45 hl (by decide +kernel) rfl (fun ls hl => ?_)
        refine lv_iload hx hb dX12_isFlagBarred_47 (lv_at hl 0 rfl) ?_
        refine lv_bipush (v := (-9)) hx hb dX12_isFlagBarred_49 (by decide +kernel) ?_
        have jn36 : ∀ (y36_4 : Int32), (y36_4.toInt = -9 ∨ (0 ≤ y36_4.toInt ∧ y36_4.toInt ≤ 199)) → ((y36_4.toInt = -9 ∧ ¬ FbM (c 9) (c 10) (c 11) (c 12) (c 13) (i 8).toInt w1.toInt f.toInt v1.toInt) ∨ (¬ y36_4.toInt = -9 ∧ FbM (c 9) (c 10) (c 11) (c 12) (c 13) (i 8).toInt w1.toInt f.toInt v1.toInt)) → ∀ (H : Heap) (locs : List Loc) (ls : Array Slot), va_P D vwCl (mW o a t i q c d) H → va_D A (mW o a t i q c d) → va_S A s.heap H locs → lv_has ls 5 [(0, .ref o), (1, .int w1), (2, .int f), (3, .int v1), (4, .int y36_4)] → W p l e (headSpec wm_X12_isFlagBarred ({ frames := 1, cells := 0, slots := 0, locals := 25 })).room s m ([.ref o, .int w1, .int f, .int v1] : List Value).toArray below meth cd H locs 0 0 (MQ below (va_Qi (fun (r : Int32) (u : MS) => ((0 ≤ r.toInt ∧ r.toInt ≤ 1) ∧ (Sm r (FbM (c 9) (c 10) (c 11) (c 12) (c 13) (i 8).toInt w1.toInt f.toInt v1.toInt))) ∧ mInv u.1 u.2.2.1 ∧ (∀ k, k ∉ ([15] : List Nat) → u.1 k = i k) ∧ (∀ k, k ∉ ([14] : List Nat) → u.2.2.1 k = c k)) (oC D A (fun u : MS => mW o a t u.1 u.2.1 u.2.2.1 u.2.2.2) (fun _ => [])) A) ([.ref o, .int w1, .int f, .int v1] : List Value).toArray s 0 0 A) (F0 m 94 ls []) := by
          intro y36_4 hy36_4 hz36_0 H locs ls hP hD hS hl
          refine lv_iload hx hb dX12_isFlagBarred_94 (lv_at hl 4 rfl) ?_
          refine lv_bipush (v := (-9)) hx hb dX12_isFlagBarred_96 (by decide +kernel) ?_
          refine lv_icmp_eq (tgt := 107) hx hb dX12_isFlagBarred_98 (by decide +kernel) (fun c37 => ?_) (fun c37 => ?_)
          · have f37 := (ti_eq (a := y36_4.toInt) (b := (-9)) rfl (by decide +kernel)).mp c37
            refine lv_iload hx hb dX12_isFlagBarred_107 (lv_at hl 4 rfl) ?_
            refine lv_bipush (v := (-9)) hx hb dX12_isFlagBarred_109 (by decide +kernel) ?_
            refine lv_icmp_eq (tgt := 118) hx hb dX12_isFlagBarred_111 (by decide +kernel) (fun c38 => ?_) (fun c38 => ?_)
            · have f38 := (ti_eq (a := y36_4.toInt) (b := (-9)) rfl (by decide +kernel)).mp c38
              refine lv_iconst (v := 0) hx hb dX12_isFlagBarred_118 (by decide +kernel) ?_
              exact rw_zret (i, q, c, d) hx hb hr hlocks hS (hK.sub (tys' := []) [] rfl) hP hD rfl dX12_isFlagBarred_119 ⟨⟨(show 0 ≤ (0 : Int32).toInt ∧ (0 : Int32).toInt ≤ 1 from by have h9 : (0 : Int32).toInt = 0 := (by decide +kernel); omega), (show Sm (0 : Int32) (FbM (c 9) (c 10) (c 11) (c 12) (c 13) (i 8).toInt w1.toInt f.toInt v1.toInt) from sm_0 (by rcases hz36_0 with h9 | h9; (· exact h9.2); (· exfalso; omega)))⟩, hI, fr_w hfi (by decide +kernel), fr_w hfc (by decide +kernel)⟩
            · have f38 := mt (ti_eq (a := y36_4.toInt) (b := (-9)) rfl (by decide +kernel)).mpr c38
              refine lv_iconst (v := 1) hx hb dX12_isFlagBarred_114 (by decide +kernel) ?_
              refine lv_goto (tgt := 119) hx hb dX12_isFlagBarred_115 (by decide +kernel) ?_
              exact rw_zret (i, q, c, d) hx hb hr hlocks hS (hK.sub (tys' := []) [] rfl) hP hD rfl dX12_isFlagBarred_119 ⟨⟨(show 0 ≤ (1 : Int32).toInt ∧ (1 : Int32).toInt ≤ 1 from by have h9 : (1 : Int32).toInt = 1 := (by decide +kernel); omega), (show Sm (1 : Int32) (FbM (c 9) (c 10) (c 11) (c 12) (c 13) (i 8).toInt w1.toInt f.toInt v1.toInt) from sm_1 (by rcases hz36_0 with h9 | h9; (· exfalso; omega); (· exact h9.2)))⟩, hI, fr_w hfi (by decide +kernel), fr_w hfc (by decide +kernel)⟩
          · have f37 := mt (ti_eq (a := y36_4.toInt) (b := (-9)) rfl (by decide +kernel)).mpr c37
            refine lv_aload_n hx hb dX12_isFlagBarred_101 rfl (lv_at hl 0 rfl) ?_
            refine lv_iload hx hb dX12_isFlagBarred_102 (lv_at hl 4 rfl) ?_
            have rb15_i : 0 ≤ (i 15).toInt ∧ (i 15).toInt ≤ 200 := hI.1 15
            refine al_callv (va_runV (As := [.int y36_4]) (rest := []) ⟨hx, hb, hml, hown, hts⟩ (s_X12_clashes l D H.size o a t i q c d y36_4 hI (show 0 ≤ y36_4.toInt ∧ y36_4.toInt ≤ 199 from by omega) (show ((i 15) : Int32).toInt ≤ 199 from by omega)) (cwV 1 hts gm_X12_isFlagBarred_X12_clashes rfl rfl rfl (by decide +kernel) ⟨Nat.le_of_ble_eq_true rfl, Nat.le_of_ble_eq_true rfl⟩) (pB_V hK hP hD (ci := 12) (q0 := 0) rfl rfl) rfl rfl hl.1 rfl (lv_room (Nat.le_of_ble_eq_true rfl)) dX12_isFlagBarred_104 ⟨Nat.le_of_ble_eq_true rfl, Nat.le_of_ble_eq_true rfl⟩) hS hA hP hD (fun u39 H locs hw39 hP hD hS => ?_)
            obtain ⟨i39, q39, c39, d39⟩ := u39
            have hw39 : True ∧ mInv i39 c39 ∧ (∀ k, k ∉ ([15] : List Nat) → i39 k = i k) ∧ (∀ k, k ∉ ([14] : List Nat) → c39 k = c k) ∧ ((i39 15).toInt = (i 15).toInt + 1) := hw39
            obtain ⟨hw39, hI, hei39, hec39, hxp39_0⟩ := hw39
            have hxp39_0 : (i39 15).toInt = (i 15).toInt + 1 := hxp39_0
            have hfi : ∀ k, k ∉ ([15] : List Nat) → i39 k = i k := fr_z hfi hei39 (by decide +kernel) (by decide +kernel)
            have hfc : ∀ k, k ∉ ([14] : List Nat) → c39 k = c k := fr_z hfc hec39 (by decide +kernel) (by decide +kernel)
            have hP : va_P D vwCl (mW o a t i39 q39 c39 d39) H := hP
            have hD : va_D A (mW o a t i39 q39 c39 d39) := hD
            refine lv_iload hx hb dX12_isFlagBarred_107 (lv_at hl 4 rfl) ?_
            refine lv_bipush (v := (-9)) hx hb dX12_isFlagBarred_109 (by decide +kernel) ?_
            refine lv_icmp_eq (tgt := 118) hx hb dX12_isFlagBarred_111 (by decide +kernel) (fun c40 => ?_) (fun c40 => ?_)
            · have f40 := (ti_eq (a := y36_4.toInt) (b := (-9)) rfl (by decide +kernel)).mp c40
              refine lv_iconst (v := 0) hx hb dX12_isFlagBarred_118 (by decide +kernel) ?_
              exact rw_zret (i39, q39, c39, d39) hx hb hr hlocks hS (hK.sub (tys' := []) [] rfl) hP hD rfl dX12_isFlagBarred_119 ⟨⟨(show 0 ≤ (0 : Int32).toInt ∧ (0 : Int32).toInt ≤ 1 from by have h9 : (0 : Int32).toInt = 0 := (by decide +kernel); omega), (show Sm (0 : Int32) (FbM (c 9) (c 10) (c 11) (c 12) (c 13) (i 8).toInt w1.toInt f.toInt v1.toInt) from sm_0 (by rcases hz36_0 with h9 | h9; (· exact h9.2); (· exfalso; omega)))⟩, hI, fr_w hfi (by decide +kernel), fr_w hfc (by decide +kernel)⟩
            · have f40 := mt (ti_eq (a := y36_4.toInt) (b := (-9)) rfl (by decide +kernel)).mpr c40
              refine lv_iconst (v := 1) hx hb dX12_isFlagBarred_114 (by decide +kernel) ?_
              refine lv_goto (tgt := 119) hx hb dX12_isFlagBarred_115 (by decide +kernel) ?_
              exact rw_zret (i39, q39, c39, d39) hx hb hr hlocks hS (hK.sub (tys' := []) [] rfl) hP hD rfl dX12_isFlagBarred_119 ⟨⟨(show 0 ≤ (1 : Int32).toInt ∧ (1 : Int32).toInt ≤ 1 from by have h9 : (1 : Int32).toInt = 1 := (by decide +kernel); omega), (show Sm (1 : Int32) (FbM (c 9) (c 10) (c 11) (c 12) (c 13) (i 8).toInt w1.toInt f.toInt v1.toInt) from sm_1 (by rcases hz36_0 with h9 | h9; (· exfalso; omega); (· exact h9.2)))⟩, hI, fr_w hfi (by decide +kernel), fr_w hfc (by decide +kernel)⟩
        refine lv_icmp_ne (tgt := 94) hx hb dX12_isFlagBarred_51 (by decide +kernel) (fun c41 => ?_) (fun c41 => ?_)
        · have f41 := mt (ti_eq (a := r35.toInt) (b := (-9)) rfl (by decide +kernel)).mpr c41
          exact jn36 r35  (show r35.toInt = -9 ∨ (0 ≤ r35.toInt ∧ r35.toInt ≤ 199) from by omega) (show (r35.toInt = -9 ∧ ¬ FbM (c 9) (c 10) (c 11) (c 12) (c 13) (i 8).toInt w1.toInt f.toInt v1.toInt) ∨ (¬ r35.toInt = -9 ∧ FbM (c 9) (c 10) (c 11) (c 12) (c 13) (i 8).toInt w1.toInt f.toInt v1.toInt) from by unfold FbM; omega) _ _ _ hP hD hS (lv_sub hl [1, 2, 3, 4, 0] rfl)
        · have f41 := (ti_eq (a := r35.toInt) (b := (-9)) rfl (by decide +kernel)).mp c41
          refine lv_iload_n hx hb dX12_isFlagBarred_54 rfl (lv_at hl 3 rfl) ?_
          refine lv_iconst (v := 4) hx hb dX12_isFlagBarred_55 (by decide +kernel) ?_
          refine lv_icmp_ne (tgt := 94) hx hb dX12_isFlagBarred_56 (by decide +kernel) (fun c42 => ?_) (fun c42 => ?_)
          · have f42 := mt (ti_eq (a := f.toInt) (b := 4) rfl (by decide +kernel)).mpr c42
            exact jn36 r35  (show r35.toInt = -9 ∨ (0 ≤ r35.toInt ∧ r35.toInt ≤ 199) from by omega) (show (r35.toInt = -9 ∧ ¬ FbM (c 9) (c 10) (c 11) (c 12) (c 13) (i 8).toInt w1.toInt f.toInt v1.toInt) ∨ (¬ r35.toInt = -9 ∧ FbM (c 9) (c 10) (c 11) (c 12) (c 13) (i 8).toInt w1.toInt f.toInt v1.toInt) from by unfold FbM; omega) _ _ _ hP hD hS (lv_sub hl [1, 2, 3, 4, 0] rfl)
          · have f42 := (ti_eq (a := f.toInt) (b := 4) rfl (by decide +kernel)).mp c42
            refine lv_iload_n hx hb dX12_isFlagBarred_59 rfl (lv_at hl 4 rfl) ?_
            refine lv_if_ne (tgt := 94) hx hb dX12_isFlagBarred_60 (by decide +kernel) (fun c43 => ?_) (fun c43 => ?_)
            · have f43 := mt (ti_eq (a := v1.toInt) (b := 0) rfl (by decide +kernel)).mpr c43
              exact jn36 r35  (show r35.toInt = -9 ∨ (0 ≤ r35.toInt ∧ r35.toInt ≤ 199) from by omega) (show (r35.toInt = -9 ∧ ¬ FbM (c 9) (c 10) (c 11) (c 12) (c 13) (i 8).toInt w1.toInt f.toInt v1.toInt) ∨ (¬ r35.toInt = -9 ∧ FbM (c 9) (c 10) (c 11) (c 12) (c 13) (i 8).toInt w1.toInt f.toInt v1.toInt) from by unfold FbM; omega) _ _ _ hP hD hS (lv_sub hl [1, 2, 3, 4, 0] rfl)
            · have f43 := (ti_eq (a := v1.toInt) (b := 0) rfl (by decide +kernel)).mp c43
              refine lv_aload_n hx hb dX12_isFlagBarred_63 rfl (lv_at hl 1 rfl) ?_
              refine lv_iload_n hx hb dX12_isFlagBarred_64 rfl (lv_at hl 2 rfl) ?_
              refine ro_calli (va_runV (As := [.int w1]) (rest := []) ⟨hx, hb, hml, hown, hts⟩ (s_X12_placing l D H.size o a t i q c d w1 hI ) (cwV 1 hts gm_X12_isFlagBarred_X12_placing rfl rfl rfl (by decide +kernel) ⟨Nat.le_of_ble_eq_true rfl, Nat.le_of_ble_eq_true rfl⟩) (pA_V hK hP (ci := 12) (q0 := 0) rfl rfl) rfl rfl hl.1 rfl (lv_room (Nat.le_of_ble_eq_true rfl)) dX12_isFlagBarred_65 ⟨Nat.le_of_ble_eq_true rfl, Nat.le_of_ble_eq_true rfl⟩) hS hA hP (fun r44 u44 H locs hw44 hP hS => ?_)
              have hw44 : ((r44.toInt = -9 ∨ (0 ≤ r44.toInt ∧ r44.toInt ≤ 199)) ∧ (r44.toInt = pL (c 9) (c 10) (c 13) (i 8).toInt w1.toInt)) := hw44
              obtain ⟨hw44, hr44_0⟩ := hw44
              have hr44_0 : r44.toInt = pL (c 9) (c 10) (c 13) (i 8).toInt w1.toInt := hr44_0
              refine lv_bipush (v := (-9)) hx hb dX12_isFlagBarred_68 (by decide +kernel) ?_
              refine lv_icmp_eq (tgt := 94) hx hb dX12_isFlagBarred_70 (by decide +kernel) (fun c45 => ?_) (fun c45 => ?_)
              · have f45 := (ti_eq (a := r44.toInt) (b := (-9)) rfl (by decide +kernel)).mp c45
                exact jn36 r35  (show r35.toInt = -9 ∨ (0 ≤ r35.toInt ∧ r35.toInt ≤ 199) from by omega) (show (r35.toInt = -9 ∧ ¬ FbM (c 9) (c 10) (c 11) (c 12) (c 13) (i 8).toInt w1.toInt f.toInt v1.toInt) ∨ (¬ r35.toInt = -9 ∧ FbM (c 9) (c 10) (c 11) (c 12) (c 13) (i 8).toInt w1.toInt f.toInt v1.toInt) from by unfold FbM; omega) _ _ _ hP hD hS (lv_sub hl [1, 2, 3, 4, 0] rfl)
              · have f45 := mt (ti_eq (a := r44.toInt) (b := (-9)) rfl (by decide +kernel)).mpr c45
                refine lv_aload_n hx hb dX12_isFlagBarred_73 rfl (lv_at hl 1 rfl) ?_
                refine mget_9 hx hb hts (fun _ h => List.mem_cons_of_mem _ (List.mem_append_right _ h)) hown hK hP (hts (.fieldLink RX12 25 "TalePlayModel" "form" "[I") (List.mem_cons_of_mem _ (List.mem_append_left _ (List.mem_append_left _ (List.mem_of_getElem? (i := 7) rfl))))) dX12_isFlagBarred_74 ?_
                refine lv_aload_n hx hb dX12_isFlagBarred_77 rfl (lv_at hl 1 rfl) ?_
                refine lv_iload_n hx hb dX12_isFlagBarred_78 rfl (lv_at hl 2 rfl) ?_
                refine ro_calli (va_runV (As := [.int w1]) (rest := [.ref (a 9)]) ⟨hx, hb, hml, hown, hts⟩ (s_X12_placing l D H.size o a t i q c d w1 hI ) (cwV 1 hts gm_X12_isFlagBarred_X12_placing rfl rfl rfl (by decide +kernel) ⟨Nat.le_of_ble_eq_true rfl, Nat.le_of_ble_eq_true rfl⟩) (pA_V hK hP (ci := 12) (q0 := 0) rfl rfl) rfl rfl hl.1 rfl (lv_room (Nat.le_of_ble_eq_true rfl)) dX12_isFlagBarred_79 ⟨Nat.le_of_ble_eq_true rfl, Nat.le_of_ble_eq_true rfl⟩) hS hA hP (fun r46 u46 H locs hw46 hP hS => ?_)
                have hw46 : ((r46.toInt = -9 ∨ (0 ≤ r46.toInt ∧ r46.toInt ≤ 199)) ∧ (r46.toInt = pL (c 9) (c 10) (c 13) (i 8).toInt w1.toInt)) := hw46
                obtain ⟨hw46, hr46_0⟩ := hw46
                have hr46_0 : r46.toInt = pL (c 9) (c 10) (c 13) (i 8).toInt w1.toInt := hr46_0
                refine mld_9 hx hb hK hP (vp_in_iff.mpr (by have h9 : r46.toInt = r46.toInt := rfl; omega)) dX12_isFlagBarred_82 (fun x47 ex47 => ?_)
                have rx47 : 0 ≤ x47.toInt ∧ x47.toInt ≤ 7 := by rw [ex47]; exact hI.2 9 _
                have gx47 : (c 9 (r46 : Int32).toNatClampNeg).toInt = x47.toInt := by rw [ex47]
                have hA3 : (c 9 (pL (c 9) (c 10) (c 13) (i 8).toInt w1.toInt).toNat).toInt = x47.toInt := by rw [← hr46_0]; exact gx47
                refine lv_iconst (v := 3) hx hb dX12_isFlagBarred_83 (by decide +kernel) ?_
                refine lv_icmp_ne (tgt := 94) hx hb dX12_isFlagBarred_84 (by decide +kernel) (fun c48 => ?_) (fun c48 => ?_)
                · have f48 := mt (ti_eq (a := x47.toInt) (b := 3) rfl (by decide +kernel)).mpr c48
                  exact jn36 r35  (show r35.toInt = -9 ∨ (0 ≤ r35.toInt ∧ r35.toInt ≤ 199) from by omega) (show (r35.toInt = -9 ∧ ¬ FbM (c 9) (c 10) (c 11) (c 12) (c 13) (i 8).toInt w1.toInt f.toInt v1.toInt) ∨ (¬ r35.toInt = -9 ∧ FbM (c 9) (c 10) (c 11) (c 12) (c 13) (i 8).toInt w1.toInt f.toInt v1.toInt) from by unfold FbM; omega) _ _ _ hP hD hS (lv_sub hl [1, 2, 3, 4, 0] rfl)
                · have f48 := (ti_eq (a := x47.toInt) (b := 3) rfl (by decide +kernel)).mp c48
                  refine lv_aload_n hx hb dX12_isFlagBarred_87 rfl (lv_at hl 1 rfl) ?_
                  refine lv_iload_n hx hb dX12_isFlagBarred_88 rfl (lv_at hl 2 rfl) ?_
                  refine ro_calli (va_runV (As := [.int w1]) (rest := []) ⟨hx, hb, hml, hown, hts⟩ (s_X12_placing l D H.size o a t i q c d w1 hI ) (cwV 1 hts gm_X12_isFlagBarred_X12_placing rfl rfl rfl (by decide +kernel) ⟨Nat.le_of_ble_eq_true rfl, Nat.le_of_ble_eq_true rfl⟩) (pA_V hK hP (ci := 12) (q0 := 0) rfl rfl) rfl rfl hl.1 rfl (lv_room (Nat.le_of_ble_eq_true rfl)) dX12_isFlagBarred_89 ⟨Nat.le_of_ble_eq_true rfl, Nat.le_of_ble_eq_true rfl⟩) hS hA hP (fun r49 u49 H locs hw49 hP hS => ?_)
                  have hw49 : ((r49.toInt = -9 ∨ (0 ≤ r49.toInt ∧ r49.toInt ≤ 199)) ∧ (r49.toInt = pL (c 9) (c 10) (c 13) (i 8).toInt w1.toInt)) := hw49
                  obtain ⟨hw49, hr49_0⟩ := hw49
                  have hr49_0 : r49.toInt = pL (c 9) (c 10) (c 13) (i 8).toInt w1.toInt := hr49_0
                  refine lv_istore (lv' := [(4, .int r49), (0, .ref o), (1, .int w1), (2, .int f), (3, .int v1)]) hx hb dX12_isFlagBarred_92 hl (by decide +kernel) rfl (fun ls hl => ?_)
                  exact jn36 r49  (show r49.toInt = -9 ∨ (0 ≤ r49.toInt ∧ r49.toInt ≤ 199) from by omega) (show (r49.toInt = -9 ∧ ¬ FbM (c 9) (c 10) (c 11) (c 12) (c 13) (i 8).toInt w1.toInt f.toInt v1.toInt) ∨ (¬ r49.toInt = -9 ∧ FbM (c 9) (c 10) (c 11) (c 12) (c 13) (i 8).toInt w1.toInt f.toInt v1.toInt) from by unfold FbM; omega) _ _ _ hP hD hS (lv_sub hl [1, 2, 3, 4, 0] rfl)
      · have f33 := mt (ti_eq (a := f.toInt) (b := 0) rfl (by decide +kernel)).mpr c33
        refine lv_iload_n hx hb dX12_isFlagBarred_29 rfl (lv_at hl 3 rfl) ?_
        refine lv_iconst (v := 1) hx hb dX12_isFlagBarred_30 (by decide +kernel) ?_
        refine lv_icmp_ne (tgt := 47) hx hb dX12_isFlagBarred_31 (by decide +kernel) (fun c50 => ?_) (fun c50 => ?_)
        · have f50 := mt (ti_eq (a := f.toInt) (b := 1) rfl (by decide +kernel)).mpr c50
          refine lv_iload hx hb dX12_isFlagBarred_47 (lv_at hl 0 rfl) ?_
          refine lv_bipush (v := (-9)) hx hb dX12_isFlagBarred_49 (by decide +kernel) ?_
          have jn51 : ∀ (y51_4 : Int32), (y51_4.toInt = -9 ∨ (0 ≤ y51_4.toInt ∧ y51_4.toInt ≤ 199)) → ((y51_4.toInt = -9 ∧ ¬ FbM (c 9) (c 10) (c 11) (c 12) (c 13) (i 8).toInt w1.toInt f.toInt v1.toInt) ∨ (¬ y51_4.toInt = -9 ∧ FbM (c 9) (c 10) (c 11) (c 12) (c 13) (i 8).toInt w1.toInt f.toInt v1.toInt)) → ∀ (H : Heap) (locs : List Loc) (ls : Array Slot), va_P D vwCl (mW o a t i q c d) H → va_D A (mW o a t i q c d) → va_S A s.heap H locs → lv_has ls 5 [(0, .ref o), (1, .int w1), (2, .int f), (3, .int v1), (4, .int y51_4)] → W p l e (headSpec wm_X12_isFlagBarred ({ frames := 1, cells := 0, slots := 0, locals := 25 })).room s m ([.ref o, .int w1, .int f, .int v1] : List Value).toArray below meth cd H locs 0 0 (MQ below (va_Qi (fun (r : Int32) (u : MS) => ((0 ≤ r.toInt ∧ r.toInt ≤ 1) ∧ (Sm r (FbM (c 9) (c 10) (c 11) (c 12) (c 13) (i 8).toInt w1.toInt f.toInt v1.toInt))) ∧ mInv u.1 u.2.2.1 ∧ (∀ k, k ∉ ([15] : List Nat) → u.1 k = i k) ∧ (∀ k, k ∉ ([14] : List Nat) → u.2.2.1 k = c k)) (oC D A (fun u : MS => mW o a t u.1 u.2.1 u.2.2.1 u.2.2.2) (fun _ => [])) A) ([.ref o, .int w1, .int f, .int v1] : List Value).toArray s 0 0 A) (F0 m 94 ls []) := by
            intro y51_4 hy51_4 hz51_0 H locs ls hP hD hS hl
            refine lv_iload hx hb dX12_isFlagBarred_94 (lv_at hl 4 rfl) ?_
            refine lv_bipush (v := (-9)) hx hb dX12_isFlagBarred_96 (by decide +kernel) ?_
            refine lv_icmp_eq (tgt := 107) hx hb dX12_isFlagBarred_98 (by decide +kernel) (fun c52 => ?_) (fun c52 => ?_)
            · have f52 := (ti_eq (a := y51_4.toInt) (b := (-9)) rfl (by decide +kernel)).mp c52
              refine lv_iload hx hb dX12_isFlagBarred_107 (lv_at hl 4 rfl) ?_
              refine lv_bipush (v := (-9)) hx hb dX12_isFlagBarred_109 (by decide +kernel) ?_
              refine lv_icmp_eq (tgt := 118) hx hb dX12_isFlagBarred_111 (by decide +kernel) (fun c53 => ?_) (fun c53 => ?_)
              · have f53 := (ti_eq (a := y51_4.toInt) (b := (-9)) rfl (by decide +kernel)).mp c53
                refine lv_iconst (v := 0) hx hb dX12_isFlagBarred_118 (by decide +kernel) ?_
                exact rw_zret (i, q, c, d) hx hb hr hlocks hS (hK.sub (tys' := []) [] rfl) hP hD rfl dX12_isFlagBarred_119 ⟨⟨(show 0 ≤ (0 : Int32).toInt ∧ (0 : Int32).toInt ≤ 1 from by have h9 : (0 : Int32).toInt = 0 := (by decide +kernel); omega), (show Sm (0 : Int32) (FbM (c 9) (c 10) (c 11) (c 12) (c 13) (i 8).toInt w1.toInt f.toInt v1.toInt) from sm_0 (by rcases hz51_0 with h9 | h9; (· exact h9.2); (· exfalso; omega)))⟩, hI, fr_w hfi (by decide +kernel), fr_w hfc (by decide +kernel)⟩
              · have f53 := mt (ti_eq (a := y51_4.toInt) (b := (-9)) rfl (by decide +kernel)).mpr c53
                refine lv_iconst (v := 1) hx hb dX12_isFlagBarred_114 (by decide +kernel) ?_
                refine lv_goto (tgt := 119) hx hb dX12_isFlagBarred_115 (by decide +kernel) ?_
                exact rw_zret (i, q, c, d) hx hb hr hlocks hS (hK.sub (tys' := []) [] rfl) hP hD rfl dX12_isFlagBarred_119 ⟨⟨(show 0 ≤ (1 : Int32).toInt ∧ (1 : Int32).toInt ≤ 1 from by have h9 : (1 : Int32).toInt = 1 := (by decide +kernel); omega), (show Sm (1 : Int32) (FbM (c 9) (c 10) (c 11) (c 12) (c 13) (i 8).toInt w1.toInt f.toInt v1.toInt) from sm_1 (by rcases hz51_0 with h9 | h9; (· exfalso; omega); (· exact h9.2)))⟩, hI, fr_w hfi (by decide +kernel), fr_w hfc (by decide +kernel)⟩
            · have f52 := mt (ti_eq (a := y51_4.toInt) (b := (-9)) rfl (by decide +kernel)).mpr c52
              refine lv_aload_n hx hb dX12_isFlagBarred_101 rfl (lv_at hl 0 rfl) ?_
              refine lv_iload hx hb dX12_isFlagBarred_102 (lv_at hl 4 rfl) ?_
              have rb15_i : 0 ≤ (i 15).toInt ∧ (i 15).toInt ≤ 200 := hI.1 15
              refine al_callv (va_runV (As := [.int y51_4]) (rest := []) ⟨hx, hb, hml, hown, hts⟩ (s_X12_clashes l D H.size o a t i q c d y51_4 hI (show 0 ≤ y51_4.toInt ∧ y51_4.toInt ≤ 199 from by omega) (show ((i 15) : Int32).toInt ≤ 199 from by omega)) (cwV 1 hts gm_X12_isFlagBarred_X12_clashes rfl rfl rfl (by decide +kernel) ⟨Nat.le_of_ble_eq_true rfl, Nat.le_of_ble_eq_true rfl⟩) (pB_V hK hP hD (ci := 12) (q0 := 0) rfl rfl) rfl rfl hl.1 rfl (lv_room (Nat.le_of_ble_eq_true rfl)) dX12_isFlagBarred_104 ⟨Nat.le_of_ble_eq_true rfl, Nat.le_of_ble_eq_true rfl⟩) hS hA hP hD (fun u54 H locs hw54 hP hD hS => ?_)
              obtain ⟨i54, q54, c54, d54⟩ := u54
              have hw54 : True ∧ mInv i54 c54 ∧ (∀ k, k ∉ ([15] : List Nat) → i54 k = i k) ∧ (∀ k, k ∉ ([14] : List Nat) → c54 k = c k) ∧ ((i54 15).toInt = (i 15).toInt + 1) := hw54
              obtain ⟨hw54, hI, hei54, hec54, hxp54_0⟩ := hw54
              have hxp54_0 : (i54 15).toInt = (i 15).toInt + 1 := hxp54_0
              have hfi : ∀ k, k ∉ ([15] : List Nat) → i54 k = i k := fr_z hfi hei54 (by decide +kernel) (by decide +kernel)
              have hfc : ∀ k, k ∉ ([14] : List Nat) → c54 k = c k := fr_z hfc hec54 (by decide +kernel) (by decide +kernel)
              have hP : va_P D vwCl (mW o a t i54 q54 c54 d54) H := hP
              have hD : va_D A (mW o a t i54 q54 c54 d54) := hD
              refine lv_iload hx hb dX12_isFlagBarred_107 (lv_at hl 4 rfl) ?_
              refine lv_bipush (v := (-9)) hx hb dX12_isFlagBarred_109 (by decide +kernel) ?_
              refine lv_icmp_eq (tgt := 118) hx hb dX12_isFlagBarred_111 (by decide +kernel) (fun c55 => ?_) (fun c55 => ?_)
              · have f55 := (ti_eq (a := y51_4.toInt) (b := (-9)) rfl (by decide +kernel)).mp c55
                refine lv_iconst (v := 0) hx hb dX12_isFlagBarred_118 (by decide +kernel) ?_
                exact rw_zret (i54, q54, c54, d54) hx hb hr hlocks hS (hK.sub (tys' := []) [] rfl) hP hD rfl dX12_isFlagBarred_119 ⟨⟨(show 0 ≤ (0 : Int32).toInt ∧ (0 : Int32).toInt ≤ 1 from by have h9 : (0 : Int32).toInt = 0 := (by decide +kernel); omega), (show Sm (0 : Int32) (FbM (c 9) (c 10) (c 11) (c 12) (c 13) (i 8).toInt w1.toInt f.toInt v1.toInt) from sm_0 (by rcases hz51_0 with h9 | h9; (· exact h9.2); (· exfalso; omega)))⟩, hI, fr_w hfi (by decide +kernel), fr_w hfc (by decide +kernel)⟩
              · have f55 := mt (ti_eq (a := y51_4.toInt) (b := (-9)) rfl (by decide +kernel)).mpr c55
                refine lv_iconst (v := 1) hx hb dX12_isFlagBarred_114 (by decide +kernel) ?_
                refine lv_goto (tgt := 119) hx hb dX12_isFlagBarred_115 (by decide +kernel) ?_
                exact rw_zret (i54, q54, c54, d54) hx hb hr hlocks hS (hK.sub (tys' := []) [] rfl) hP hD rfl dX12_isFlagBarred_119 ⟨⟨(show 0 ≤ (1 : Int32).toInt ∧ (1 : Int32).toInt ≤ 1 from by have h9 : (1 : Int32).toInt = 1 := (by decide +kernel); omega), (show Sm (1 : Int32) (FbM (c 9) (c 10) (c 11) (c 12) (c 13) (i 8).toInt w1.toInt f.toInt v1.toInt) from sm_1 (by rcases hz51_0 with h9 | h9; (· exfalso; omega); (· exact h9.2)))⟩, hI, fr_w hfi (by decide +kernel), fr_w hfc (by decide +kernel)⟩
          refine lv_icmp_ne (tgt := 94) hx hb dX12_isFlagBarred_51 (by decide +kernel) (fun c56 => ?_) (fun c56 => ?_)
          · have f56 := mt (ti_eq (a := r2.toInt) (b := (-9)) rfl (by decide +kernel)).mpr c56
            exact jn51 r2  (show r2.toInt = -9 ∨ (0 ≤ r2.toInt ∧ r2.toInt ≤ 199) from by omega) (show (r2.toInt = -9 ∧ ¬ FbM (c 9) (c 10) (c 11) (c 12) (c 13) (i 8).toInt w1.toInt f.toInt v1.toInt) ∨ (¬ r2.toInt = -9 ∧ FbM (c 9) (c 10) (c 11) (c 12) (c 13) (i 8).toInt w1.toInt f.toInt v1.toInt) from by unfold FbM; omega) _ _ _ hP hD hS (lv_sub hl [1, 2, 3, 4, 0] rfl)
          · have f56 := (ti_eq (a := r2.toInt) (b := (-9)) rfl (by decide +kernel)).mp c56
            refine lv_iload_n hx hb dX12_isFlagBarred_54 rfl (lv_at hl 3 rfl) ?_
            refine lv_iconst (v := 4) hx hb dX12_isFlagBarred_55 (by decide +kernel) ?_
            refine lv_icmp_ne (tgt := 94) hx hb dX12_isFlagBarred_56 (by decide +kernel) (fun c57 => ?_) (fun c57 => ?_)
            · have f57 := mt (ti_eq (a := f.toInt) (b := 4) rfl (by decide +kernel)).mpr c57
              exact jn51 r2  (show r2.toInt = -9 ∨ (0 ≤ r2.toInt ∧ r2.toInt ≤ 199) from by omega) (show (r2.toInt = -9 ∧ ¬ FbM (c 9) (c 10) (c 11) (c 12) (c 13) (i 8).toInt w1.toInt f.toInt v1.toInt) ∨ (¬ r2.toInt = -9 ∧ FbM (c 9) (c 10) (c 11) (c 12) (c 13) (i 8).toInt w1.toInt f.toInt v1.toInt) from by unfold FbM; omega) _ _ _ hP hD hS (lv_sub hl [1, 2, 3, 4, 0] rfl)
            · have f57 := (ti_eq (a := f.toInt) (b := 4) rfl (by decide +kernel)).mp c57
              refine lv_iload_n hx hb dX12_isFlagBarred_59 rfl (lv_at hl 4 rfl) ?_
              refine lv_if_ne (tgt := 94) hx hb dX12_isFlagBarred_60 (by decide +kernel) (fun c58 => ?_) (fun c58 => ?_)
              · have f58 := mt (ti_eq (a := v1.toInt) (b := 0) rfl (by decide +kernel)).mpr c58
                exact jn51 r2  (show r2.toInt = -9 ∨ (0 ≤ r2.toInt ∧ r2.toInt ≤ 199) from by omega) (show (r2.toInt = -9 ∧ ¬ FbM (c 9) (c 10) (c 11) (c 12) (c 13) (i 8).toInt w1.toInt f.toInt v1.toInt) ∨ (¬ r2.toInt = -9 ∧ FbM (c 9) (c 10) (c 11) (c 12) (c 13) (i 8).toInt w1.toInt f.toInt v1.toInt) from by unfold FbM; omega) _ _ _ hP hD hS (lv_sub hl [1, 2, 3, 4, 0] rfl)
              · have f58 := (ti_eq (a := v1.toInt) (b := 0) rfl (by decide +kernel)).mp c58
                refine lv_aload_n hx hb dX12_isFlagBarred_63 rfl (lv_at hl 1 rfl) ?_
                refine lv_iload_n hx hb dX12_isFlagBarred_64 rfl (lv_at hl 2 rfl) ?_
                refine ro_calli (va_runV (As := [.int w1]) (rest := []) ⟨hx, hb, hml, hown, hts⟩ (s_X12_placing l D H.size o a t i q c d w1 hI ) (cwV 1 hts gm_X12_isFlagBarred_X12_placing rfl rfl rfl (by decide +kernel) ⟨Nat.le_of_ble_eq_true rfl, Nat.le_of_ble_eq_true rfl⟩) (pA_V hK hP (ci := 12) (q0 := 0) rfl rfl) rfl rfl hl.1 rfl (lv_room (Nat.le_of_ble_eq_true rfl)) dX12_isFlagBarred_65 ⟨Nat.le_of_ble_eq_true rfl, Nat.le_of_ble_eq_true rfl⟩) hS hA hP (fun r59 u59 H locs hw59 hP hS => ?_)
                have hw59 : ((r59.toInt = -9 ∨ (0 ≤ r59.toInt ∧ r59.toInt ≤ 199)) ∧ (r59.toInt = pL (c 9) (c 10) (c 13) (i 8).toInt w1.toInt)) := hw59
                obtain ⟨hw59, hr59_0⟩ := hw59
                have hr59_0 : r59.toInt = pL (c 9) (c 10) (c 13) (i 8).toInt w1.toInt := hr59_0
                refine lv_bipush (v := (-9)) hx hb dX12_isFlagBarred_68 (by decide +kernel) ?_
                refine lv_icmp_eq (tgt := 94) hx hb dX12_isFlagBarred_70 (by decide +kernel) (fun c60 => ?_) (fun c60 => ?_)
                · have f60 := (ti_eq (a := r59.toInt) (b := (-9)) rfl (by decide +kernel)).mp c60
                  exact jn51 r2  (show r2.toInt = -9 ∨ (0 ≤ r2.toInt ∧ r2.toInt ≤ 199) from by omega) (show (r2.toInt = -9 ∧ ¬ FbM (c 9) (c 10) (c 11) (c 12) (c 13) (i 8).toInt w1.toInt f.toInt v1.toInt) ∨ (¬ r2.toInt = -9 ∧ FbM (c 9) (c 10) (c 11) (c 12) (c 13) (i 8).toInt w1.toInt f.toInt v1.toInt) from by unfold FbM; omega) _ _ _ hP hD hS (lv_sub hl [1, 2, 3, 4, 0] rfl)
                · have f60 := mt (ti_eq (a := r59.toInt) (b := (-9)) rfl (by decide +kernel)).mpr c60
                  refine lv_aload_n hx hb dX12_isFlagBarred_73 rfl (lv_at hl 1 rfl) ?_
                  refine mget_9 hx hb hts (fun _ h => List.mem_cons_of_mem _ (List.mem_append_right _ h)) hown hK hP (hts (.fieldLink RX12 25 "TalePlayModel" "form" "[I") (List.mem_cons_of_mem _ (List.mem_append_left _ (List.mem_append_left _ (List.mem_of_getElem? (i := 7) rfl))))) dX12_isFlagBarred_74 ?_
                  refine lv_aload_n hx hb dX12_isFlagBarred_77 rfl (lv_at hl 1 rfl) ?_
                  refine lv_iload_n hx hb dX12_isFlagBarred_78 rfl (lv_at hl 2 rfl) ?_
                  refine ro_calli (va_runV (As := [.int w1]) (rest := [.ref (a 9)]) ⟨hx, hb, hml, hown, hts⟩ (s_X12_placing l D H.size o a t i q c d w1 hI ) (cwV 1 hts gm_X12_isFlagBarred_X12_placing rfl rfl rfl (by decide +kernel) ⟨Nat.le_of_ble_eq_true rfl, Nat.le_of_ble_eq_true rfl⟩) (pA_V hK hP (ci := 12) (q0 := 0) rfl rfl) rfl rfl hl.1 rfl (lv_room (Nat.le_of_ble_eq_true rfl)) dX12_isFlagBarred_79 ⟨Nat.le_of_ble_eq_true rfl, Nat.le_of_ble_eq_true rfl⟩) hS hA hP (fun r61 u61 H locs hw61 hP hS => ?_)
                  have hw61 : ((r61.toInt = -9 ∨ (0 ≤ r61.toInt ∧ r61.toInt ≤ 199)) ∧ (r61.toInt = pL (c 9) (c 10) (c 13) (i 8).toInt w1.toInt)) := hw61
                  obtain ⟨hw61, hr61_0⟩ := hw61
                  have hr61_0 : r61.toInt = pL (c 9) (c 10) (c 13) (i 8).toInt w1.toInt := hr61_0
                  refine mld_9 hx hb hK hP (vp_in_iff.mpr (by have h9 : r61.toInt = r61.toInt := rfl; omega)) dX12_isFlagBarred_82 (fun x62 ex62 => ?_)
                  have rx62 : 0 ≤ x62.toInt ∧ x62.toInt ≤ 7 := by rw [ex62]; exact hI.2 9 _
                  have gx62 : (c 9 (r61 : Int32).toNatClampNeg).toInt = x62.toInt := by rw [ex62]
                  have hA3 : (c 9 (pL (c 9) (c 10) (c 13) (i 8).toInt w1.toInt).toNat).toInt = x62.toInt := by rw [← hr61_0]; exact gx62
                  refine lv_iconst (v := 3) hx hb dX12_isFlagBarred_83 (by decide +kernel) ?_
                  refine lv_icmp_ne (tgt := 94) hx hb dX12_isFlagBarred_84 (by decide +kernel) (fun c63 => ?_) (fun c63 => ?_)
                  · have f63 := mt (ti_eq (a := x62.toInt) (b := 3) rfl (by decide +kernel)).mpr c63
                    exact jn51 r2  (show r2.toInt = -9 ∨ (0 ≤ r2.toInt ∧ r2.toInt ≤ 199) from by omega) (show (r2.toInt = -9 ∧ ¬ FbM (c 9) (c 10) (c 11) (c 12) (c 13) (i 8).toInt w1.toInt f.toInt v1.toInt) ∨ (¬ r2.toInt = -9 ∧ FbM (c 9) (c 10) (c 11) (c 12) (c 13) (i 8).toInt w1.toInt f.toInt v1.toInt) from by unfold FbM; omega) _ _ _ hP hD hS (lv_sub hl [1, 2, 3, 4, 0] rfl)
                  · have f63 := (ti_eq (a := x62.toInt) (b := 3) rfl (by decide +kernel)).mp c63
                    refine lv_aload_n hx hb dX12_isFlagBarred_87 rfl (lv_at hl 1 rfl) ?_
                    refine lv_iload_n hx hb dX12_isFlagBarred_88 rfl (lv_at hl 2 rfl) ?_
                    refine ro_calli (va_runV (As := [.int w1]) (rest := []) ⟨hx, hb, hml, hown, hts⟩ (s_X12_placing l D H.size o a t i q c d w1 hI ) (cwV 1 hts gm_X12_isFlagBarred_X12_placing rfl rfl rfl (by decide +kernel) ⟨Nat.le_of_ble_eq_true rfl, Nat.le_of_ble_eq_true rfl⟩) (pA_V hK hP (ci := 12) (q0 := 0) rfl rfl) rfl rfl hl.1 rfl (lv_room (Nat.le_of_ble_eq_true rfl)) dX12_isFlagBarred_89 ⟨Nat.le_of_ble_eq_true rfl, Nat.le_of_ble_eq_true rfl⟩) hS hA hP (fun r64 u64 H locs hw64 hP hS => ?_)
                    have hw64 : ((r64.toInt = -9 ∨ (0 ≤ r64.toInt ∧ r64.toInt ≤ 199)) ∧ (r64.toInt = pL (c 9) (c 10) (c 13) (i 8).toInt w1.toInt)) := hw64
                    obtain ⟨hw64, hr64_0⟩ := hw64
                    have hr64_0 : r64.toInt = pL (c 9) (c 10) (c 13) (i 8).toInt w1.toInt := hr64_0
                    refine lv_istore (lv' := [(4, .int r64), (0, .ref o), (1, .int w1), (2, .int f), (3, .int v1)]) hx hb dX12_isFlagBarred_92 hl (by decide +kernel) rfl (fun ls hl => ?_)
                    exact jn51 r64  (show r64.toInt = -9 ∨ (0 ≤ r64.toInt ∧ r64.toInt ≤ 199) from by omega) (show (r64.toInt = -9 ∧ ¬ FbM (c 9) (c 10) (c 11) (c 12) (c 13) (i 8).toInt w1.toInt f.toInt v1.toInt) ∨ (¬ r64.toInt = -9 ∧ FbM (c 9) (c 10) (c 11) (c 12) (c 13) (i 8).toInt w1.toInt f.toInt v1.toInt) from by unfold FbM; omega) _ _ _ hP hD hS (lv_sub hl [1, 2, 3, 4, 0] rfl)
        · have f50 := (ti_eq (a := f.toInt) (b := 1) rfl (by decide +kernel)).mp c50
          refine lv_aload_n hx hb dX12_isFlagBarred_34 rfl (lv_at hl 1 rfl) ?_
          refine lv_bipush (v := 6) hx hb dX12_isFlagBarred_35 (by decide +kernel) ?_
          refine lv_iload_n hx hb dX12_isFlagBarred_37 rfl (lv_at hl 2 rfl) ?_
          refine lv_iconst (v := 1) hx hb dX12_isFlagBarred_38 (by decide +kernel) ?_
          refine lv_iload_n hx hb dX12_isFlagBarred_39 rfl (lv_at hl 3 rfl) ?_
          refine lv_isub hx hb dX12_isFlagBarred_40 ?_
          refine lv_topi (fun x65 ex65 => ?_)
          have tx65 := ti_sub (a := 1) (b := f.toInt) ex65 (by decide +kernel) rfl (by omega) (by omega)
          refine lv_iconst (v := 1) hx hb dX12_isFlagBarred_41 (by decide +kernel) ?_
          refine ro_calli (va_runV (As := [.int 6, .int w1, .int x65, .int 1]) (rest := []) ⟨hx, hb, hml, hown, hts⟩ (s_X12_saidSo_e l D H.size o a t i q c d 6 w1 x65 1 hI ) (cwV 4 hts gm_X12_isFlagBarred_X12_saidSo rfl rfl rfl (by decide +kernel) ⟨Nat.le_of_ble_eq_true rfl, Nat.le_of_ble_eq_true rfl⟩) (pA_V hK hP (ci := 12) (q0 := 0) rfl rfl) rfl rfl hl.1 rfl (lv_room (Nat.le_of_ble_eq_true rfl)) dX12_isFlagBarred_42 ⟨Nat.le_of_ble_eq_true rfl, Nat.le_of_ble_eq_true rfl⟩) hS hA hP (fun r66 u66 H locs hw66 hP hS => ?_)
          have hw66 : ((r66.toInt = -9 ∨ (0 ≤ r66.toInt ∧ r66.toInt ≤ 199)) ∧ (r66.toInt = fsF (sE (c 9) (c 10) (c 11) (c 12) (c 13) 6 w1.toInt x65.toInt 1) (i 8).toInt.toNat)) := hw66
          obtain ⟨hw66, hr66_0⟩ := hw66
          have hr66_0 : r66.toInt = fsF (sE (c 9) (c 10) (c 11) (c 12) (c 13) 6 w1.toInt x65.toInt 1) (i 8).toInt.toNat := hr66_0
          have hA2 : r66.toInt = fsF (sE (c 9) (c 10) (c 11) (c 12) (c 13) 6 w1.toInt (1 - f.toInt) 1) (i 8).toInt.toNat := by have h9 := hr66_0; rw [show x65.toInt = 1 - f.toInt from tx65] at h9; exact h9
          refine lv_istore (lv' := [(4, .int r66), (0, .ref o), (1, .int w1), (2, .int f), (3, .int v1)]) hx hb dX12_isFlagBarred_45 hl (by decide +kernel) rfl (fun ls hl => ?_)
          refine lv_iload hx hb dX12_isFlagBarred_47 (lv_at hl 0 rfl) ?_
          refine lv_bipush (v := (-9)) hx hb dX12_isFlagBarred_49 (by decide +kernel) ?_
          have jn67 : ∀ (y67_4 : Int32), (y67_4.toInt = -9 ∨ (0 ≤ y67_4.toInt ∧ y67_4.toInt ≤ 199)) → ((y67_4.toInt = -9 ∧ ¬ FbM (c 9) (c 10) (c 11) (c 12) (c 13) (i 8).toInt w1.toInt f.toInt v1.toInt) ∨ (¬ y67_4.toInt = -9 ∧ FbM (c 9) (c 10) (c 11) (c 12) (c 13) (i 8).toInt w1.toInt f.toInt v1.toInt)) → ∀ (H : Heap) (locs : List Loc) (ls : Array Slot), va_P D vwCl (mW o a t i q c d) H → va_D A (mW o a t i q c d) → va_S A s.heap H locs → lv_has ls 5 [(0, .ref o), (1, .int w1), (2, .int f), (3, .int v1), (4, .int y67_4)] → W p l e (headSpec wm_X12_isFlagBarred ({ frames := 1, cells := 0, slots := 0, locals := 25 })).room s m ([.ref o, .int w1, .int f, .int v1] : List Value).toArray below meth cd H locs 0 0 (MQ below (va_Qi (fun (r : Int32) (u : MS) => ((0 ≤ r.toInt ∧ r.toInt ≤ 1) ∧ (Sm r (FbM (c 9) (c 10) (c 11) (c 12) (c 13) (i 8).toInt w1.toInt f.toInt v1.toInt))) ∧ mInv u.1 u.2.2.1 ∧ (∀ k, k ∉ ([15] : List Nat) → u.1 k = i k) ∧ (∀ k, k ∉ ([14] : List Nat) → u.2.2.1 k = c k)) (oC D A (fun u : MS => mW o a t u.1 u.2.1 u.2.2.1 u.2.2.2) (fun _ => [])) A) ([.ref o, .int w1, .int f, .int v1] : List Value).toArray s 0 0 A) (F0 m 94 ls []) := by
            intro y67_4 hy67_4 hz67_0 H locs ls hP hD hS hl
            refine lv_iload hx hb dX12_isFlagBarred_94 (lv_at hl 4 rfl) ?_
            refine lv_bipush (v := (-9)) hx hb dX12_isFlagBarred_96 (by decide +kernel) ?_
            refine lv_icmp_eq (tgt := 107) hx hb dX12_isFlagBarred_98 (by decide +kernel) (fun c68 => ?_) (fun c68 => ?_)
            · have f68 := (ti_eq (a := y67_4.toInt) (b := (-9)) rfl (by decide +kernel)).mp c68
              refine lv_iload hx hb dX12_isFlagBarred_107 (lv_at hl 4 rfl) ?_
              refine lv_bipush (v := (-9)) hx hb dX12_isFlagBarred_109 (by decide +kernel) ?_
              refine lv_icmp_eq (tgt := 118) hx hb dX12_isFlagBarred_111 (by decide +kernel) (fun c69 => ?_) (fun c69 => ?_)
              · have f69 := (ti_eq (a := y67_4.toInt) (b := (-9)) rfl (by decide +kernel)).mp c69
                refine lv_iconst (v := 0) hx hb dX12_isFlagBarred_118 (by decide +kernel) ?_
                exact rw_zret (i, q, c, d) hx hb hr hlocks hS (hK.sub (tys' := []) [] rfl) hP hD rfl dX12_isFlagBarred_119 ⟨⟨(show 0 ≤ (0 : Int32).toInt ∧ (0 : Int32).toInt ≤ 1 from by have h9 : (0 : Int32).toInt = 0 := (by decide +kernel); omega), (show Sm (0 : Int32) (FbM (c 9) (c 10) (c 11) (c 12) (c 13) (i 8).toInt w1.toInt f.toInt v1.toInt) from sm_0 (by rcases hz67_0 with h9 | h9; (· exact h9.2); (· exfalso; omega)))⟩, hI, fr_w hfi (by decide +kernel), fr_w hfc (by decide +kernel)⟩
              · have f69 := mt (ti_eq (a := y67_4.toInt) (b := (-9)) rfl (by decide +kernel)).mpr c69
                refine lv_iconst (v := 1) hx hb dX12_isFlagBarred_114 (by decide +kernel) ?_
                refine lv_goto (tgt := 119) hx hb dX12_isFlagBarred_115 (by decide +kernel) ?_
                exact rw_zret (i, q, c, d) hx hb hr hlocks hS (hK.sub (tys' := []) [] rfl) hP hD rfl dX12_isFlagBarred_119 ⟨⟨(show 0 ≤ (1 : Int32).toInt ∧ (1 : Int32).toInt ≤ 1 from by have h9 : (1 : Int32).toInt = 1 := (by decide +kernel); omega), (show Sm (1 : Int32) (FbM (c 9) (c 10) (c 11) (c 12) (c 13) (i 8).toInt w1.toInt f.toInt v1.toInt) from sm_1 (by rcases hz67_0 with h9 | h9; (· exfalso; omega); (· exact h9.2)))⟩, hI, fr_w hfi (by decide +kernel), fr_w hfc (by decide +kernel)⟩
            · have f68 := mt (ti_eq (a := y67_4.toInt) (b := (-9)) rfl (by decide +kernel)).mpr c68
              refine lv_aload_n hx hb dX12_isFlagBarred_101 rfl (lv_at hl 0 rfl) ?_
              refine lv_iload hx hb dX12_isFlagBarred_102 (lv_at hl 4 rfl) ?_
              have rb15_i : 0 ≤ (i 15).toInt ∧ (i 15).toInt ≤ 200 := hI.1 15
              refine al_callv (va_runV (As := [.int y67_4]) (rest := []) ⟨hx, hb, hml, hown, hts⟩ (s_X12_clashes l D H.size o a t i q c d y67_4 hI (show 0 ≤ y67_4.toInt ∧ y67_4.toInt ≤ 199 from by omega) (show ((i 15) : Int32).toInt ≤ 199 from by omega)) (cwV 1 hts gm_X12_isFlagBarred_X12_clashes rfl rfl rfl (by decide +kernel) ⟨Nat.le_of_ble_eq_true rfl, Nat.le_of_ble_eq_true rfl⟩) (pB_V hK hP hD (ci := 12) (q0 := 0) rfl rfl) rfl rfl hl.1 rfl (lv_room (Nat.le_of_ble_eq_true rfl)) dX12_isFlagBarred_104 ⟨Nat.le_of_ble_eq_true rfl, Nat.le_of_ble_eq_true rfl⟩) hS hA hP hD (fun u70 H locs hw70 hP hD hS => ?_)
              obtain ⟨i70, q70, c70, d70⟩ := u70
              have hw70 : True ∧ mInv i70 c70 ∧ (∀ k, k ∉ ([15] : List Nat) → i70 k = i k) ∧ (∀ k, k ∉ ([14] : List Nat) → c70 k = c k) ∧ ((i70 15).toInt = (i 15).toInt + 1) := hw70
              obtain ⟨hw70, hI, hei70, hec70, hxp70_0⟩ := hw70
              have hxp70_0 : (i70 15).toInt = (i 15).toInt + 1 := hxp70_0
              have hfi : ∀ k, k ∉ ([15] : List Nat) → i70 k = i k := fr_z hfi hei70 (by decide +kernel) (by decide +kernel)
              have hfc : ∀ k, k ∉ ([14] : List Nat) → c70 k = c k := fr_z hfc hec70 (by decide +kernel) (by decide +kernel)
              have hP : va_P D vwCl (mW o a t i70 q70 c70 d70) H := hP
              have hD : va_D A (mW o a t i70 q70 c70 d70) := hD
              refine lv_iload hx hb dX12_isFlagBarred_107 (lv_at hl 4 rfl) ?_
              refine lv_bipush (v := (-9)) hx hb dX12_isFlagBarred_109 (by decide +kernel) ?_
              refine lv_icmp_eq (tgt := 118) hx hb dX12_isFlagBarred_111 (by decide +kernel) (fun c71 => ?_) (fun c71 => ?_)
              · have f71 := (ti_eq (a := y67_4.toInt) (b := (-9)) rfl (by decide +kernel)).mp c71
                refine lv_iconst (v := 0) hx hb dX12_isFlagBarred_118 (by decide +kernel) ?_
                exact rw_zret (i70, q70, c70, d70) hx hb hr hlocks hS (hK.sub (tys' := []) [] rfl) hP hD rfl dX12_isFlagBarred_119 ⟨⟨(show 0 ≤ (0 : Int32).toInt ∧ (0 : Int32).toInt ≤ 1 from by have h9 : (0 : Int32).toInt = 0 := (by decide +kernel); omega), (show Sm (0 : Int32) (FbM (c 9) (c 10) (c 11) (c 12) (c 13) (i 8).toInt w1.toInt f.toInt v1.toInt) from sm_0 (by rcases hz67_0 with h9 | h9; (· exact h9.2); (· exfalso; omega)))⟩, hI, fr_w hfi (by decide +kernel), fr_w hfc (by decide +kernel)⟩
              · have f71 := mt (ti_eq (a := y67_4.toInt) (b := (-9)) rfl (by decide +kernel)).mpr c71
                refine lv_iconst (v := 1) hx hb dX12_isFlagBarred_114 (by decide +kernel) ?_
                refine lv_goto (tgt := 119) hx hb dX12_isFlagBarred_115 (by decide +kernel) ?_
                exact rw_zret (i70, q70, c70, d70) hx hb hr hlocks hS (hK.sub (tys' := []) [] rfl) hP hD rfl dX12_isFlagBarred_119 ⟨⟨(show 0 ≤ (1 : Int32).toInt ∧ (1 : Int32).toInt ≤ 1 from by have h9 : (1 : Int32).toInt = 1 := (by decide +kernel); omega), (show Sm (1 : Int32) (FbM (c 9) (c 10) (c 11) (c 12) (c 13) (i 8).toInt w1.toInt f.toInt v1.toInt) from sm_1 (by rcases hz67_0 with h9 | h9; (· exfalso; omega); (· exact h9.2)))⟩, hI, fr_w hfi (by decide +kernel), fr_w hfc (by decide +kernel)⟩
          refine lv_icmp_ne (tgt := 94) hx hb dX12_isFlagBarred_51 (by decide +kernel) (fun c72 => ?_) (fun c72 => ?_)
          · have f72 := mt (ti_eq (a := r66.toInt) (b := (-9)) rfl (by decide +kernel)).mpr c72
            exact jn67 r66  (show r66.toInt = -9 ∨ (0 ≤ r66.toInt ∧ r66.toInt ≤ 199) from by omega) (show (r66.toInt = -9 ∧ ¬ FbM (c 9) (c 10) (c 11) (c 12) (c 13) (i 8).toInt w1.toInt f.toInt v1.toInt) ∨ (¬ r66.toInt = -9 ∧ FbM (c 9) (c 10) (c 11) (c 12) (c 13) (i 8).toInt w1.toInt f.toInt v1.toInt) from by unfold FbM; omega) _ _ _ hP hD hS (lv_sub hl [1, 2, 3, 4, 0] rfl)
          · have f72 := (ti_eq (a := r66.toInt) (b := (-9)) rfl (by decide +kernel)).mp c72
            refine lv_iload_n hx hb dX12_isFlagBarred_54 rfl (lv_at hl 3 rfl) ?_
            refine lv_iconst (v := 4) hx hb dX12_isFlagBarred_55 (by decide +kernel) ?_
            refine lv_icmp_ne (tgt := 94) hx hb dX12_isFlagBarred_56 (by decide +kernel) (fun c73 => ?_) (fun c73 => ?_)
            · have f73 := mt (ti_eq (a := f.toInt) (b := 4) rfl (by decide +kernel)).mpr c73
              exact jn67 r66  (show r66.toInt = -9 ∨ (0 ≤ r66.toInt ∧ r66.toInt ≤ 199) from by omega) (show (r66.toInt = -9 ∧ ¬ FbM (c 9) (c 10) (c 11) (c 12) (c 13) (i 8).toInt w1.toInt f.toInt v1.toInt) ∨ (¬ r66.toInt = -9 ∧ FbM (c 9) (c 10) (c 11) (c 12) (c 13) (i 8).toInt w1.toInt f.toInt v1.toInt) from by unfold FbM; omega) _ _ _ hP hD hS (lv_sub hl [1, 2, 3, 4, 0] rfl)
            · have f73 := (ti_eq (a := f.toInt) (b := 4) rfl (by decide +kernel)).mp c73
              refine lv_iload_n hx hb dX12_isFlagBarred_59 rfl (lv_at hl 4 rfl) ?_
              refine lv_if_ne (tgt := 94) hx hb dX12_isFlagBarred_60 (by decide +kernel) (fun c74 => ?_) (fun c74 => ?_)
              · have f74 := mt (ti_eq (a := v1.toInt) (b := 0) rfl (by decide +kernel)).mpr c74
                exact jn67 r66  (show r66.toInt = -9 ∨ (0 ≤ r66.toInt ∧ r66.toInt ≤ 199) from by omega) (show (r66.toInt = -9 ∧ ¬ FbM (c 9) (c 10) (c 11) (c 12) (c 13) (i 8).toInt w1.toInt f.toInt v1.toInt) ∨ (¬ r66.toInt = -9 ∧ FbM (c 9) (c 10) (c 11) (c 12) (c 13) (i 8).toInt w1.toInt f.toInt v1.toInt) from by unfold FbM; omega) _ _ _ hP hD hS (lv_sub hl [1, 2, 3, 4, 0] rfl)
              · have f74 := (ti_eq (a := v1.toInt) (b := 0) rfl (by decide +kernel)).mp c74
                refine lv_aload_n hx hb dX12_isFlagBarred_63 rfl (lv_at hl 1 rfl) ?_
                refine lv_iload_n hx hb dX12_isFlagBarred_64 rfl (lv_at hl 2 rfl) ?_
                refine ro_calli (va_runV (As := [.int w1]) (rest := []) ⟨hx, hb, hml, hown, hts⟩ (s_X12_placing l D H.size o a t i q c d w1 hI ) (cwV 1 hts gm_X12_isFlagBarred_X12_placing rfl rfl rfl (by decide +kernel) ⟨Nat.le_of_ble_eq_true rfl, Nat.le_of_ble_eq_true rfl⟩) (pA_V hK hP (ci := 12) (q0 := 0) rfl rfl) rfl rfl hl.1 rfl (lv_room (Nat.le_of_ble_eq_true rfl)) dX12_isFlagBarred_65 ⟨Nat.le_of_ble_eq_true rfl, Nat.le_of_ble_eq_true rfl⟩) hS hA hP (fun r75 u75 H locs hw75 hP hS => ?_)
                have hw75 : ((r75.toInt = -9 ∨ (0 ≤ r75.toInt ∧ r75.toInt ≤ 199)) ∧ (r75.toInt = pL (c 9) (c 10) (c 13) (i 8).toInt w1.toInt)) := hw75
                obtain ⟨hw75, hr75_0⟩ := hw75
                have hr75_0 : r75.toInt = pL (c 9) (c 10) (c 13) (i 8).toInt w1.toInt := hr75_0
                refine lv_bipush (v := (-9)) hx hb dX12_isFlagBarred_68 (by decide +kernel) ?_
                refine lv_icmp_eq (tgt := 94) hx hb dX12_isFlagBarred_70 (by decide +kernel) (fun c76 => ?_) (fun c76 => ?_)
                · have f76 := (ti_eq (a := r75.toInt) (b := (-9)) rfl (by decide +kernel)).mp c76
                  exact jn67 r66  (show r66.toInt = -9 ∨ (0 ≤ r66.toInt ∧ r66.toInt ≤ 199) from by omega) (show (r66.toInt = -9 ∧ ¬ FbM (c 9) (c 10) (c 11) (c 12) (c 13) (i 8).toInt w1.toInt f.toInt v1.toInt) ∨ (¬ r66.toInt = -9 ∧ FbM (c 9) (c 10) (c 11) (c 12) (c 13) (i 8).toInt w1.toInt f.toInt v1.toInt) from by unfold FbM; omega) _ _ _ hP hD hS (lv_sub hl [1, 2, 3, 4, 0] rfl)
                · have f76 := mt (ti_eq (a := r75.toInt) (b := (-9)) rfl (by decide +kernel)).mpr c76
                  refine lv_aload_n hx hb dX12_isFlagBarred_73 rfl (lv_at hl 1 rfl) ?_
                  refine mget_9 hx hb hts (fun _ h => List.mem_cons_of_mem _ (List.mem_append_right _ h)) hown hK hP (hts (.fieldLink RX12 25 "TalePlayModel" "form" "[I") (List.mem_cons_of_mem _ (List.mem_append_left _ (List.mem_append_left _ (List.mem_of_getElem? (i := 7) rfl))))) dX12_isFlagBarred_74 ?_
                  refine lv_aload_n hx hb dX12_isFlagBarred_77 rfl (lv_at hl 1 rfl) ?_
                  refine lv_iload_n hx hb dX12_isFlagBarred_78 rfl (lv_at hl 2 rfl) ?_
                  refine ro_calli (va_runV (As := [.int w1]) (rest := [.ref (a 9)]) ⟨hx, hb, hml, hown, hts⟩ (s_X12_placing l D H.size o a t i q c d w1 hI ) (cwV 1 hts gm_X12_isFlagBarred_X12_placing rfl rfl rfl (by decide +kernel) ⟨Nat.le_of_ble_eq_true rfl, Nat.le_of_ble_eq_true rfl⟩) (pA_V hK hP (ci := 12) (q0 := 0) rfl rfl) rfl rfl hl.1 rfl (lv_room (Nat.le_of_ble_eq_true rfl)) dX12_isFlagBarred_79 ⟨Nat.le_of_ble_eq_true rfl, Nat.le_of_ble_eq_true rfl⟩) hS hA hP (fun r77 u77 H locs hw77 hP hS => ?_)
                  have hw77 : ((r77.toInt = -9 ∨ (0 ≤ r77.toInt ∧ r77.toInt ≤ 199)) ∧ (r77.toInt = pL (c 9) (c 10) (c 13) (i 8).toInt w1.toInt)) := hw77
                  obtain ⟨hw77, hr77_0⟩ := hw77
                  have hr77_0 : r77.toInt = pL (c 9) (c 10) (c 13) (i 8).toInt w1.toInt := hr77_0
                  refine mld_9 hx hb hK hP (vp_in_iff.mpr (by have h9 : r77.toInt = r77.toInt := rfl; omega)) dX12_isFlagBarred_82 (fun x78 ex78 => ?_)
                  have rx78 : 0 ≤ x78.toInt ∧ x78.toInt ≤ 7 := by rw [ex78]; exact hI.2 9 _
                  have gx78 : (c 9 (r77 : Int32).toNatClampNeg).toInt = x78.toInt := by rw [ex78]
                  have hA3 : (c 9 (pL (c 9) (c 10) (c 13) (i 8).toInt w1.toInt).toNat).toInt = x78.toInt := by rw [← hr77_0]; exact gx78
                  refine lv_iconst (v := 3) hx hb dX12_isFlagBarred_83 (by decide +kernel) ?_
                  refine lv_icmp_ne (tgt := 94) hx hb dX12_isFlagBarred_84 (by decide +kernel) (fun c79 => ?_) (fun c79 => ?_)
                  · have f79 := mt (ti_eq (a := x78.toInt) (b := 3) rfl (by decide +kernel)).mpr c79
                    exact jn67 r66  (show r66.toInt = -9 ∨ (0 ≤ r66.toInt ∧ r66.toInt ≤ 199) from by omega) (show (r66.toInt = -9 ∧ ¬ FbM (c 9) (c 10) (c 11) (c 12) (c 13) (i 8).toInt w1.toInt f.toInt v1.toInt) ∨ (¬ r66.toInt = -9 ∧ FbM (c 9) (c 10) (c 11) (c 12) (c 13) (i 8).toInt w1.toInt f.toInt v1.toInt) from by unfold FbM; omega) _ _ _ hP hD hS (lv_sub hl [1, 2, 3, 4, 0] rfl)
                  · have f79 := (ti_eq (a := x78.toInt) (b := 3) rfl (by decide +kernel)).mp c79
                    refine lv_aload_n hx hb dX12_isFlagBarred_87 rfl (lv_at hl 1 rfl) ?_
                    refine lv_iload_n hx hb dX12_isFlagBarred_88 rfl (lv_at hl 2 rfl) ?_
                    refine ro_calli (va_runV (As := [.int w1]) (rest := []) ⟨hx, hb, hml, hown, hts⟩ (s_X12_placing l D H.size o a t i q c d w1 hI ) (cwV 1 hts gm_X12_isFlagBarred_X12_placing rfl rfl rfl (by decide +kernel) ⟨Nat.le_of_ble_eq_true rfl, Nat.le_of_ble_eq_true rfl⟩) (pA_V hK hP (ci := 12) (q0 := 0) rfl rfl) rfl rfl hl.1 rfl (lv_room (Nat.le_of_ble_eq_true rfl)) dX12_isFlagBarred_89 ⟨Nat.le_of_ble_eq_true rfl, Nat.le_of_ble_eq_true rfl⟩) hS hA hP (fun r80 u80 H locs hw80 hP hS => ?_)
                    have hw80 : ((r80.toInt = -9 ∨ (0 ≤ r80.toInt ∧ r80.toInt ≤ 199)) ∧ (r80.toInt = pL (c 9) (c 10) (c 13) (i 8).toInt w1.toInt)) := hw80
                    obtain ⟨hw80, hr80_0⟩ := hw80
                    have hr80_0 : r80.toInt = pL (c 9) (c 10) (c 13) (i 8).toInt w1.toInt := hr80_0
                    refine lv_istore (lv' := [(4, .int r80), (0, .ref o), (1, .int w1), (2, .int f), (3, .int v1)]) hx hb dX12_isFlagBarred_92 hl (by decide +kernel) rfl (fun ls hl => ?_)
                    exact jn67 r80  (show r80.toInt = -9 ∨ (0 ≤ r80.toInt ∧ r80.toInt ≤ 199) from by omega) (show (r80.toInt = -9 ∧ ¬ FbM (c 9) (c 10) (c 11) (c 12) (c 13) (i 8).toInt w1.toInt f.toInt v1.toInt) ∨ (¬ r80.toInt = -9 ∧ FbM (c 9) (c 10) (c 11) (c 12) (c 13) (i 8).toInt w1.toInt f.toInt v1.toInt) from by unfold FbM; omega) _ _ _ hP hD hS (lv_sub hl [1, 2, 3, 4, 0] rfl)

