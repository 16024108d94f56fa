def wm_X12_begin : List Cond := .code yX12_begin cX12_begin 5 (some .int) :: (([.methodLink RX12 180 yX12_isObject, .instanceMethod yX12_isObject, .selects RX12 yX12_isObject yX12_isObject, .initialized RX12, .code yX12_isObject cX12_isObject 2 (some .boolean), .fieldLink RX12 177 "TalePlayModel" "objects" "I", .methodLink RX12 166 yX12_in, .static yX12_in, .code yX12_in cX12_in 6 (some .boolean), .methodLink RX12 184 yX12_isOf, .instanceMethod yX12_isOf, .selects RX12 yX12_isOf yX12_isOf, .code yX12_isOf cX12_isOf 4 (some .boolean), .fieldLink RX12 19 "TalePlayModel" "kindOf" "[I", .fieldLink RX12 13 "TalePlayModel" "parentOf" "[I", .fieldLink RX12 155 "TalePlayModel" "player" "I", .fieldLink RX12 291 "TalePlayModel" "turns" "I", .methodLink RX12 208 yX12_placing, .instanceMethod yX12_placing, .selects RX12 yX12_placing yX12_placing, .code yX12_placing cX12_placing 3 (some .int), .fieldLink RX12 202 "TalePlayModel" "sentences" "I", .fieldLink RX12 37 "TalePlayModel" "isSaid" "[Z", .fieldLink RX12 25 "TalePlayModel" "form" "[I", .fieldLink RX12 28 "TalePlayModel" "left" "[I", .fieldLink RX12 50 "TalePlayModel" "nForm" "[I", .fieldLink RX12 53 "TalePlayModel" "nAt" "[I", .fieldLink RX12 56 "TalePlayModel" "nOpen" "[Z", .methodLink RX12 191 yX12_isShutter, .instanceMethod yX12_isShutter, .selects RX12 yX12_isShutter yX12_isShutter, .code yX12_isShutter cX12_isShutter 2 (some .boolean), .fieldLink RX12 59 "TalePlayModel" "nLocked" "[Z", .methodLink RX12 256 yX12_saidFlag, .instanceMethod yX12_saidFlag, .selects RX12 yX12_saidFlag yX12_saidFlag, .code yX12_saidFlag cX12_saidFlag 4 (some .int), .methodLink RX12 216 yX12_saidSo, .instanceMethod yX12_saidSo, .selects RX12 yX12_saidSo yX12_saidSo, .code yX12_saidSo cX12_saidSo 6 (some .int), .fieldLink RX12 31 "TalePlayModel" "middle" "[I", .fieldLink RX12 34 "TalePlayModel" "right" "[I", .fieldLink RX12 16 "TalePlayModel" "defaults" "[I", .methodLink RX12 233 yX12_meets, .instanceMethod yX12_meets, .selects RX12 yX12_meets yX12_meets, .code yX12_meets cX12_meets 2 (some .int), .fieldLink RX12 161 "TalePlayModel" "latest" "I", .fieldLink RX12 7 "TalePlayModel" "came" "[I"] : List Cond) ++ wsX120)
set_option maxRecDepth 20000 in
theorem gm_X12_begin_X12_isObject : GoodIn wm_X12_begin (wsV RX12 180 RX12 yX12_isObject wm_X12_isObject) := goodIn_app (goodIn_of _ (by decide +kernel)) (goodIn_r _ [5, 6, 7, 8, 4, 9, 51, 52, 53, 54, 55, 56, 57, 58, 59, 60, 61, 62, 63, 64, 65, 66, 67, 68, 69, 70, 71, 72, 73, 74, 75, 76, 77, 78, 79, 80, 81, 82, 83, 84, 85, 86, 87, 88, 89, 90, 91, 92, 93, 94, 95, 96, 97, 98, 99, 100, 101, 102, 103, 104, 105, 106, 107, 108, 109, 110, 111, 112, 113, 114, 115, 116, 117, 118, 119] (by decide +kernel) (by decide +kernel))
set_option maxRecDepth 20000 in
theorem gm_X12_begin_X12_isOf : GoodIn wm_X12_begin (wsV RX12 184 RX12 yX12_isOf wm_X12_isOf) := goodIn_app (goodIn_of _ (by decide +kernel)) (goodIn_r _ [13, 14, 15, 51, 52, 53, 54, 55, 56, 57, 58, 59, 60, 61, 62, 63, 64, 65, 66, 67, 68, 69, 70, 71, 72, 73, 74, 75, 76, 77, 78, 79, 80, 81, 82, 83, 84, 85, 86, 87, 88, 89, 90, 91, 92, 93, 94, 95, 96, 97, 98, 99, 100, 101, 102, 103, 104, 105, 106, 107, 108, 109, 110, 111, 112, 113, 114, 115, 116, 117, 118, 119] (by decide +kernel) (by decide +kernel))
set_option maxRecDepth 20000 in
theorem gm_X12_begin_X12_placing : GoodIn wm_X12_begin (wsV RX12 208 RX12 yX12_placing wm_X12_placing) := goodIn_app (goodIn_of _ (by decide +kernel)) (goodIn_r _ [21, 22, 23, 24, 25, 51, 52, 53, 54, 55, 56, 57, 58, 59, 60, 61, 62, 63, 64, 65, 66, 67, 68, 69, 70, 71, 72, 73, 74, 75, 76, 77, 78, 79, 80, 81, 82, 83, 84, 85, 86, 87, 88, 89, 90, 91, 92, 93, 94, 95, 96, 97, 98, 99, 100, 101, 102, 103, 104, 105, 106, 107, 108, 109, 110, 111, 112, 113, 114, 115, 116, 117, 118, 119] (by decide +kernel) (by decide +kernel))
set_option maxRecDepth 20000 in
theorem gm_X12_begin_X12_isShutter : GoodIn wm_X12_begin (wsV RX12 191 RX12 yX12_isShutter wm_X12_isShutter) := goodIn_app (goodIn_of _ (by decide +kernel)) (goodIn_r _ [32, 10, 11, 12, 4, 13, 14, 15, 51, 52, 53, 54, 55, 56, 57, 58, 59, 60, 61, 62, 63, 64, 65, 66, 67, 68, 69, 70, 71, 72, 73, 74, 75, 76, 77, 78, 79, 80, 81, 82, 83, 84, 85, 86, 87, 88, 89, 90, 91, 92, 93, 94, 95, 96, 97, 98, 99, 100, 101, 102, 103, 104, 105, 106, 107, 108, 109, 110, 111, 112, 113, 114, 115, 116, 117, 118, 119] (by decide +kernel) (by decide +kernel))
set_option maxRecDepth 20000 in
theorem gm_X12_begin_X12_saidFlag : GoodIn wm_X12_begin (wsV RX12 256 RX12 yX12_saidFlag wm_X12_saidFlag) := goodIn_app (goodIn_of _ (by decide +kernel)) (goodIn_r _ [37, 38, 39, 40, 4, 41, 22, 23, 24, 25, 42, 43, 14, 10, 11, 12, 13, 15, 44, 51, 52, 53, 54, 55, 56, 57, 58, 59, 60, 61, 62, 63, 64, 65, 66, 67, 68, 69, 70, 71, 72, 73, 74, 75, 76, 77, 78, 79, 80, 81, 82, 83, 84, 85, 86, 87, 88, 89, 90, 91, 92, 93, 94, 95, 96, 97, 98, 99, 100, 101, 102, 103, 104, 105, 106, 107, 108, 109, 110, 111, 112, 113, 114, 115, 116, 117, 118, 119] (by decide +kernel) (by decide +kernel))
set_option maxRecDepth 20000 in
theorem gm_X12_begin_X12_meets : GoodIn wm_X12_begin (wsV RX12 233 RX12 yX12_meets wm_X12_meets) := goodIn_app (goodIn_of _ (by decide +kernel)) (goodIn_r _ [48, 49, 50, 51, 52, 53, 54, 55, 56, 57, 58, 59, 60, 61, 62, 63, 64, 65, 66, 67, 68, 69, 70, 71, 72, 73, 74, 75, 76, 77, 78, 79, 80, 81, 82, 83, 84, 85, 86, 87, 88, 89, 90, 91, 92, 93, 94, 95, 96, 97, 98, 99, 100, 101, 102, 103, 104, 105, 106, 107, 108, 109, 110, 111, 112, 113, 114, 115, 116, 117, 118, 119] (by decide +kernel) (by decide +kernel))
set_option maxHeartbeats 4000000 in
set_option maxRecDepth 100000 in
theorem s_X12_begin (l : Launch) (D : va_G) (sz : Nat) (o : Nat) (a : Nat → Nat) (t : Nat → ClassId) (i : Nat → Int32) (q : Int64) (c : Nat → Nat → Int32) (d : Nat → Nat → Int64) (w : Int32) (hI : mInv i c) (hs_S : SJ (c 3) (c 6) (c 9) (c 10) (c 11) (c 13) (i 2).toInt (i 5).toInt (i 8).toInt) (hs_J : TJ (c 3) (c 6) (c 23) (c 24) (c 29) (c 30) (i 5).toInt (i 22).toInt (i 27).toInt) : Met l yX12_begin wm_X12_begin ({ frames := 2, cells := 0, slots := 0, locals := 48 }) (va_Pc [.ref o, .int w] (pB D sz (mW o a t i q c d) (mT t))) (va_Qi (fun (r : Int32) (u : MS) => True ∧ mInv u.1 u.2.2.1 ∧ (∀ k, k ∉ ([0, 22, 27] : List Nat) → u.1 k = i k) ∧ (∀ k, k ∉ ([1, 23, 24, 25, 26] : List Nat) → u.2.2.1 k = c k) ∧ (SJ (u.2.2.1 3) (u.2.2.1 6) (u.2.2.1 9) (u.2.2.1 10) (u.2.2.1 11) (u.2.2.1 13) (u.1 2).toInt (u.1 5).toInt (u.1 8).toInt) ∧ (TJ (u.2.2.1 3) (u.2.2.1 6) (u.2.2.1 23) (u.2.2.1 24) (u.2.2.1 29) (u.2.2.1 30) (u.1 5).toInt (u.1 22).toInt (u.1 27).toInt)) (oC D (va_A (mW o a t i q c d) sz) (fun u : MS => mW o a t u.1 u.2.1 u.2.2.1 u.2.2.2) (fun _ => [])) (va_A (mW o a t i q c d) sz)) 0 0 (va_A (mW o a t i q c d) sz) := by
  refine Met.ofW (cc := cX12_begin) (maxL := 5) (ret := (some .int)) (by decide) rfl ?_
  intro p e s m args below meth cd s₁ B hml hv
  obtain ⟨rfl, hsz, hP, hK, hD0⟩ := hv
  have hx := B.exec
  have hb := B.bytes
  have hr := B.returns
  have hts := atoms_spec (ws := wm_X12_begin) B.pre
  have hown : s.vm.findClass RX12 = some m.cls := findClass_of_methodNamed B.named
  have hlocks := B.notSynchronized
  subst hsz
  have hD := hD0.self (sz := s.heap.size)
  generalize hAe : va_A (mW o a t i q c d) s.heap.size = A at hD ⊢
  have hA : ∀ q : Nat, s.heap.size ≤ q → A q := fun q h => by rw [← hAe]; exact Or.inr h
  have hS : va_S A s.heap s.heap [] := va_S.rf
  have hfi : ∀ k, k ∉ ([] : List Nat) → i k = i k := fun _ _ => rfl
  have hfc : ∀ k, k ∉ ([] : List Nat) → c k = c k := fun _ _ => rfl
  have hl := lv_entry ([.ref o, .int w]) (n := 5) (Nat.le_of_ble_eq_true rfl)
  rw [lg_entry_eq]
  generalize (lg_sl ([.ref o, .int w]) ++ List.replicate (5 - (lg_sl ([.ref o, .int w])).length) Slot.unset).toArray = ls at hl ⊢
  have hl : lv_has ls 5 [(0, .ref o), (1, .int w)] := hl
  have rb5_i : 0 ≤ (i 5).toInt ∧ (i 5).toInt ≤ 30 := hI.1 5
  have rb8_i : 0 ≤ (i 8).toInt ∧ (i 8).toInt ≤ 200 := hI.1 8
  have hI0 := hI
  obtain ⟨rk, hrk⟩ := hs_S.2.2.2
  refine lv_aload_n hx hb dX12_begin_0 rfl (lv_at hl 0 rfl) ?_
  refine lv_iload_n hx hb dX12_begin_1 rfl (lv_at hl 1 rfl) ?_
  refine ro_calli (va_runV (As := [.int w]) (rest := []) ⟨hx, hb, hml, hown, hts⟩ (s_X12_isObject l D s.heap.size o a t i q c d w hI ) (cwV 1 hts gm_X12_begin_X12_isObject rfl rfl rfl (by decide +kernel) ⟨Nat.le_of_ble_eq_true rfl, Nat.le_of_ble_eq_true rfl⟩) (pA_V hK hP (ci := 12) (q0 := 0) rfl rfl) rfl rfl hl.1 rfl (lv_room (Nat.le_of_ble_eq_true rfl)) dX12_begin_2 ⟨Nat.le_of_ble_eq_true rfl, Nat.le_of_ble_eq_true rfl⟩) hS hA hP (fun r1 u1 H locs hw1 hP hS => ?_)
  have hw1 : r1 = if (0 ≤ w.toInt ∧ w.toInt ≤ (i 5).toInt - 1) then 1 else 0 := hw1
  refine lv_if_ne (tgt := 10) hx hb dX12_begin_5 (by decide) (fun c2 => ?_) (fun c2 => ?_)
  · have f2 := fl_t hw1 c2
    refine lv_aload_n hx hb dX12_begin_10 rfl (lv_at hl 0 rfl) ?_
    refine lv_iload_n hx hb dX12_begin_11 rfl (lv_at hl 1 rfl) ?_
    refine lv_iconst (v := 5) hx hb dX12_begin_12 (by decide) ?_
    refine ro_calli (va_runV (As := [.int w, .int 5]) (rest := []) ⟨hx, hb, hml, hown, hts⟩ (s_X12_isOf l D H.size o a t i q c d w 5 hI (show 0 ≤ w.toInt ∧ w.toInt ≤ 29 from by have h91 : (5 : Int32).toInt = 5 := (by decide); omega) (show 0 ≤ 5 from by have h91 : (5 : Int32).toInt = 5 := (by decide); omega)) (cwV 2 hts gm_X12_begin_X12_isOf rfl rfl rfl (by decide +kernel) ⟨Nat.le_of_ble_eq_true rfl, Nat.le_of_ble_eq_true rfl⟩) (pA_V hK hP (ci := 12) (q0 := 0) rfl rfl) rfl rfl hl.1 rfl (lv_room (Nat.le_of_ble_eq_true rfl)) dX12_begin_13 ⟨Nat.le_of_ble_eq_true rfl, Nat.le_of_ble_eq_true rfl⟩) hS hA hP (fun r3 u3 H locs hw3 hP hS => ?_)
    have hw3 : ((0 ≤ r3.toInt ∧ r3.toInt ≤ 1) ∧ (Sm r3 (Kd (c 3) (c 6) w.toInt 5))) := hw3
    obtain ⟨hw3, hr3_0⟩ := hw3
    have hr3_0 : Sm r3 (Kd (c 3) (c 6) w.toInt 5) := hr3_0
    refine lv_if_ne (tgt := 25) hx hb dX12_begin_16 (by decide) (fun c4 => ?_) (fun c4 => ?_)
    · have f4 := mt (ti_eq (a := r3.toInt) (b := 0) rfl (by decide)).mpr c4
      have s4 := sm_t hr3_0 c4
      have hP5 := s4
      refine lv_iload_n hx hb dX12_begin_25 rfl (lv_at hl 1 rfl) ?_
      refine lv_istore_n (lv' := [(2, .int w), (0, .ref o), (1, .int w)]) hx hb dX12_begin_26 rfl hl (by decide) rfl (fun ls hl => ?_)
      have lp5 : ∀ (fu : Nat) (y5_2 : Int32), (y5_2.toInt = -9 ∨ (0 ≤ y5_2.toInt ∧ y5_2.toInt ≤ 29)) → (∀ t, Ch (fP (c 9) (c 10) (c 11) (c 13) (i 8).toInt) y5_2.toInt t → Ch (fP (c 9) (c 10) (c 11) (c 13) (i 8).toInt) w.toInt t) → (y5_2.toInt = -9 ∨ (0 ≤ y5_2.toInt ∧ y5_2.toInt < (i 5).toInt)) → (if y5_2.toInt = -9 then 0 else rk y5_2.toInt + 1) < fu → ∀ (H : Heap) (locs : List Loc) (ls : Array Slot), va_P D vwCl (mW o a t i q c d) H → va_D A (mW o a t i q c d) → va_S A s.heap H locs → lv_has ls 5 [(2, .int y5_2), (0, .ref o), (1, .int w)] → W p l e (headSpec wm_X12_begin ({ frames := 2, cells := 0, slots := 0, locals := 48 })).room s m ([.ref o, .int w] : List Value).toArray below meth cd H locs 0 0 (MQ below (va_Qi (fun (r : Int32) (u : MS) => True ∧ mInv u.1 u.2.2.1 ∧ (∀ k, k ∉ ([0, 22, 27] : List Nat) → u.1 k = i k) ∧ (∀ k, k ∉ ([1, 23, 24, 25, 26] : List Nat) → u.2.2.1 k = c k) ∧ (SJ (u.2.2.1 3) (u.2.2.1 6) (u.2.2.1 9) (u.2.2.1 10) (u.2.2.1 11) (u.2.2.1 13) (u.1 2).toInt (u.1 5).toInt (u.1 8).toInt) ∧ (TJ (u.2.2.1 3) (u.2.2.1 6) (u.2.2.1 23) (u.2.2.1 24) (u.2.2.1 29) (u.2.2.1 30) (u.1 5).toInt (u.1 22).toInt (u.1 27).toInt)) (oC D A (fun u : MS => mW o a t u.1 u.2.1 u.2.2.1 u.2.2.2) (fun _ => [])) A) ([.ref o, .int w] : List Value).toArray s 0 0 A) (F0 m 27 ls []) := by
        intro fu
        induction fu with
        | zero => intro y5_2 hy5_2 hz5_0 hz5_1 hm; exact absurd hm (Nat.not_lt_zero _)
        | succ fu ih =>
          intro y5_2 hy5_2 hz5_0 hz5_1 hm H locs ls hP hD hS hl
          have ih5 := ih
          have hm5 := hm
          refine lv_iload_n hx hb dX12_begin_27 rfl (lv_at hl 0 rfl) ?_
          refine lv_bipush (v := (-9)) hx hb dX12_begin_28 (by decide) ?_
          have jn6 : (y5_2.toInt = -9 ∨ Kd (c 3) (c 6) y5_2.toInt 0) → ∀ (H : Heap) (locs : List Loc) (ls : Array Slot), va_P D vwCl (mW o a t i q c d) H → va_D A (mW o a t i q c d) → va_S A s.heap H locs → lv_has ls 5 [(2, .int y5_2), (0, .ref o), (1, .int w)] → W p l e (headSpec wm_X12_begin ({ frames := 2, cells := 0, slots := 0, locals := 48 })).room s m ([.ref o, .int w] : List Value).toArray below meth cd H locs 0 0 (MQ below (va_Qi (fun (r : Int32) (u : MS) => True ∧ mInv u.1 u.2.2.1 ∧ (∀ k, k ∉ ([0, 22, 27] : List Nat) → u.1 k = i k) ∧ (∀ k, k ∉ ([1, 23, 24, 25, 26] : List Nat) → u.2.2.1 k = c k) ∧ (SJ (u.2.2.1 3) (u.2.2.1 6) (u.2.2.1 9) (u.2.2.1 10) (u.2.2.1 11) (u.2.2.1 13) (u.1 2).toInt (u.1 5).toInt (u.1 8).toInt) ∧ (TJ (u.2.2.1 3) (u.2.2.1 6) (u.2.2.1 23) (u.2.2.1 24) (u.2.2.1 29) (u.2.2.1 30) (u.1 5).toInt (u.1 22).toInt (u.1 27).toInt)) (oC D A (fun u : MS => mW o a t u.1 u.2.1 u.2.2.1 u.2.2.2) (fun _ => [])) A) ([.ref o, .int w] : List Value).toArray s 0 0 A) (F0 m 71 ls []) := by
            intro hz6_0 H locs ls hP hD hS hl
            refine lv_iload_n hx hb dX12_begin_71 rfl (lv_at hl 0 rfl) ?_
            refine lv_bipush (v := (-9)) hx hb dX12_begin_72 (by decide) ?_
            refine lv_icmp_ne (tgt := 83) hx hb dX12_begin_74 (by decide) (fun c7 => ?_) (fun c7 => ?_)
            · have f7 := mt (ti_eq (a := y5_2.toInt) (b := (-9)) rfl (by decide)).mpr c7
              have hRoom := hz6_0.resolve_left (by omega)
              have hfo0 : ∀ s, 0 ≤ (c 9 s).toInt := fun s => by have h9 : 0 ≤ (c 9 s).toInt ∧ (c 9 s).toInt ≤ 7 := hI0.2 9 s; exact h9.1
              refine lv_iconst (v := 0) hx hb dX12_begin_83 (by decide) ?_
              refine lv_istore_n (lv' := [(3, .int 0), (2, .int y5_2), (0, .ref o), (1, .int w)]) hx hb dX12_begin_84 rfl hl (by decide) rfl (fun ls hl => ?_)
              have lp8 : ∀ (fu : Nat) (i8 : Nat → Int32) (q8 : Int64) (c8 : Nat → Nat → Int32) (d8 : Nat → Nat → Int64) (y8_3 : Int32), mInv i8 c8 → (∀ k, k ∉ ([] : List Nat) → i8 k = i k) → (∀ k, k ∉ ([23, 24, 25, 26] : List Nat) → c8 k = c k) → (0 ≤ y8_3.toInt ∧ y8_3.toInt ≤ 30 ∧ y8_3.toInt ≤ (i 5).toInt) → (BG (c 9) (c 10) (c 11) (c 13) (c8 23) (c8 24) (i 8).toInt y8_3.toInt) → (30 - y8_3.toInt).toNat < fu → ∀ (H : Heap) (locs : List Loc) (ls : Array Slot), va_P D vwCl (mW o a t i8 q8 c8 d8) H → va_D A (mW o a t i8 q8 c8 d8) → va_S A s.heap H locs → lv_has ls 5 [(3, .int y8_3), (2, .int y5_2), (0, .ref o), (1, .int w)] → W p l e (headSpec wm_X12_begin ({ frames := 2, cells := 0, slots := 0, locals := 48 })).room s m ([.ref o, .int w] : List Value).toArray below meth cd H locs 0 0 (MQ below (va_Qi (fun (r : Int32) (u : MS) => True ∧ mInv u.1 u.2.2.1 ∧ (∀ k, k ∉ ([0, 22, 27] : List Nat) → u.1 k = i k) ∧ (∀ k, k ∉ ([1, 23, 24, 25, 26] : List Nat) → u.2.2.1 k = c k) ∧ (SJ (u.2.2.1 3) (u.2.2.1 6) (u.2.2.1 9) (u.2.2.1 10) (u.2.2.1 11) (u.2.2.1 13) (u.1 2).toInt (u.1 5).toInt (u.1 8).toInt) ∧ (TJ (u.2.2.1 3) (u.2.2.1 6) (u.2.2.1 23) (u.2.2.1 24) (u.2.2.1 29) (u.2.2.1 30) (u.1 5).toInt (u.1 22).toInt (u.1 27).toInt)) (oC D A (fun u : MS => mW o a t u.1 u.2.1 u.2.2.1 u.2.2.2) (fun _ => [])) A) ([.ref o, .int w] : List Value).toArray s 0 0 A) (F0 m 85 ls []) := by
                intro fu
                induction fu with
                | zero => intro i8 q8 c8 d8 y8_3 hI hfi hfc hy8_3 hz8_0 hm; exact absurd hm (Nat.not_lt_zero _)
                | succ fu ih =>
                  intro i8 q8 c8 d8 y8_3 hI hfi hfc hy8_3 hz8_0 hm H locs ls hP hD hS hl
                  have ih8 := ih
                  refine lv_iload_n hx hb dX12_begin_85 rfl (lv_at hl 0 rfl) ?_
                  refine lv_aload_n hx hb dX12_begin_86 rfl (lv_at hl 2 rfl) ?_
                  refine mget_5 (v := (i8 5)) rfl hx hb hts (fun _ h => List.mem_cons_of_mem _ (List.mem_append_right _ h)) hown hK hP (hts (.fieldLink RX12 177 "TalePlayModel" "objects" "I") (by decide +kernel)) dX12_begin_87 ?_
                  have rb5_i8 : 0 ≤ (i8 5).toInt ∧ (i8 5).toInt ≤ 30 := hI.1 5
                  have re5_i8 : (i8 5).toInt = (i 5).toInt := congrArg Int32.toInt (hfi 5 (by decide))
                  refine lv_icmp_ge (tgt := 214) hx hb dX12_begin_90 (by decide) (fun c9 => ?_) (fun c9 => ?_)
                  · have f9 := (ti_le (a := (i8 5).toInt) (b := y8_3.toInt) rfl rfl).mp c9
                    refine lv_aload_n hx hb dX12_begin_214 rfl (lv_at hl 2 rfl) ?_
                    refine lv_iload_n hx hb dX12_begin_215 rfl (lv_at hl 3 rfl) ?_
                    refine mput_22 hx hb hts (fun _ h => List.mem_cons_of_mem _ (List.mem_append_right _ h)) hown hK hP hD hS (hts (.fieldLink RX12 155 "TalePlayModel" "player" "I") (by decide +kernel)) rfl rfl dX12_begin_216 (fun H locs hP hD hS => ?_)
                    have hI := mInv_i hI (k := 22) (v := w) (show (w : Int32).toInt = -9 ∨ (0 ≤ (w : Int32).toInt ∧ (w : Int32).toInt ≤ 29) from by omega)
                    have hfi : ∀ k, k ∉ ([22] : List Nat) → (upd i8 22 w) k = i k := fr_iz hfi (by decide) (by decide)
                    refine lv_aload_n hx hb dX12_begin_219 rfl (lv_at hl 2 rfl) ?_
                    refine lv_iconst (v := 0) hx hb dX12_begin_220 (by decide) ?_
                    refine mput_27 hx hb hts (fun _ h => List.mem_cons_of_mem _ (List.mem_append_right _ h)) hown hK hP hD hS (hts (.fieldLink RX12 291 "TalePlayModel" "turns" "I") (by decide +kernel)) rfl rfl dX12_begin_221 (fun H locs hP hD hS => ?_)
                    have hI := mInv_i hI (k := 27) (v := 0) (show 0 ≤ (0 : Int32).toInt ∧ (0 : Int32).toInt ≤ 100 from by have h9 : (0 : Int32).toInt = 0 := (by decide); omega)
                    have hfi : ∀ k, k ∉ ([22, 27] : List Nat) → (upd (upd i8 22 w) 27 0) k = i k := fr_iz hfi (by decide) (by decide)
                    refine lv_iload_n hx hb dX12_begin_224 rfl (lv_at hl 1 rfl) ?_
                    exact rw_iret ((upd (upd i8 22 w) 27 0), q8, c8, d8) hx hb hr hlocks hS (hK.sub (tys' := []) [] rfl) hP hD dX12_begin_225 ⟨trivial, hI, fr_w hfi (by decide), fr_w hfc (by decide), (show SJ (c8 3) (c8 6) (c8 9) (c8 10) (c8 11) (c8 13) ((i8 2) : Int32).toInt ((i8 5) : Int32).toInt ((i8 8) : Int32).toInt from by rw [show c8 3 = c 3 from hfc 3 (by decide), show c8 6 = c 6 from hfc 6 (by decide), show c8 9 = c 9 from hfc 9 (by decide), show c8 10 = c 10 from hfc 10 (by decide), show c8 11 = c 11 from hfc 11 (by decide), show c8 13 = c 13 from hfc 13 (by decide), show i8 2 = i 2 from hfi 2 (by decide), show i8 5 = i 5 from hfi 5 (by decide), show i8 8 = i 8 from hfi 8 (by decide)]; exact hs_S), (show TJ (c8 3) (c8 6) (c8 23) (c8 24) (c8 29) (c8 30) ((i8 5) : Int32).toInt (w : Int32).toInt (0 : Int32).toInt from by rw [show c8 3 = c 3 from hfc 3 (by decide), show c8 6 = c 6 from hfc 6 (by decide), show i8 5 = i 5 from hfi 5 (by decide)]; exact fun q9 => ⟨hP5, TI_begin (K6_of hI0) hs_S (by omega) hfo0 (fun s => (mI_mi hI0 s).1) (by rw [show (i 5).toInt = y8_3.toInt by omega]; exact hz8_0) (by omega) hP5 (by omega) hRoom (hz5_0 _ Ch_rf), fun t9 h9 => by have h8 : (0 : Int32).toInt = 0 := (by decide); omega⟩)⟩
                  · have f9 := mt (ti_le (a := (i8 5).toInt) (b := y8_3.toInt) rfl rfl).mpr c9
                    refine lv_aload_n hx hb dX12_begin_93 rfl (lv_at hl 2 rfl) ?_
                    refine lv_iload_n hx hb dX12_begin_94 rfl (lv_at hl 0 rfl) ?_
                    have rb8_i8 : 0 ≤ (i8 8).toInt ∧ (i8 8).toInt ≤ 200 := hI.1 8
                    have re8_i8 : (i8 8).toInt = (i 8).toInt := congrArg Int32.toInt (hfi 8 (by decide))
                    refine ro_calli (va_runV (As := [.int y8_3]) (rest := []) ⟨hx, hb, hml, hown, hts⟩ (s_X12_placing l D H.size o a t i8 q8 c8 d8 y8_3 hI ) (cwV 1 hts gm_X12_begin_X12_placing rfl rfl rfl (by decide +kernel) ⟨Nat.le_of_ble_eq_true rfl, Nat.le_of_ble_eq_true rfl⟩) (pA_V hK hP (ci := 12) (q0 := 0) rfl rfl) rfl rfl hl.1 rfl (lv_room (Nat.le_of_ble_eq_true rfl)) dX12_begin_95 ⟨Nat.le_of_ble_eq_true rfl, Nat.le_of_ble_eq_true rfl⟩) hS hA hP (fun r10 u10 H locs hw10 hP hS => ?_)
                    have hw10 : ((r10.toInt = -9 ∨ (0 ≤ r10.toInt ∧ r10.toInt ≤ 199)) ∧ (r10.toInt = pL (c8 9) (c8 10) (c8 13) (i8 8).toInt y8_3.toInt)) := hw10
                    obtain ⟨hw10, hr10_0⟩ := hw10
                    have hr10_0 : r10.toInt = pL (c 9) (c 10) (c 13) (i 8).toInt y8_3.toInt := by have h9 := hr10_0; rw [show c8 9 = c 9 from hfc 9 (by decide), show c8 10 = c 10 from hfc 10 (by decide), show c8 13 = c 13 from hfc 13 (by decide), show i8 8 = i 8 from hfi 8 (by decide)] at h9; exact h9
                    refine lv_istore (lv' := [(4, .int r10), (3, .int y8_3), (2, .int y5_2), (0, .ref o), (1, .int w)]) hx hb dX12_begin_98 hl (by decide) rfl (fun ls hl => ?_)
                    refine lv_aload_n hx hb dX12_begin_100 rfl (lv_at hl 3 rfl) ?_
                    refine mget_23 hx hb hts (fun _ h => List.mem_cons_of_mem _ (List.mem_append_right _ h)) hown hK hP (hts (.fieldLink RX12 50 "TalePlayModel" "nForm" "[I") (by decide +kernel)) dX12_begin_101 ?_
                    refine lv_iload_n hx hb dX12_begin_104 rfl (lv_at hl 1 rfl) ?_
                    refine lv_iload hx hb dX12_begin_105 (lv_at hl 0 rfl) ?_
                    refine lv_bipush (v := (-9)) hx hb dX12_begin_107 (by decide) ?_
                    have jn11 : ∀ (z11_0 : Int32), (z11_0.toInt = -9 ∨ (0 ≤ z11_0.toInt ∧ z11_0.toInt ≤ 4)) → ((pL (c 9) (c 10) (c 13) (i 8).toInt y8_3.toInt = -9 ∧ z11_0.toInt = -9) ∨ (¬ pL (c 9) (c 10) (c 13) (i 8).toInt y8_3.toInt = -9 ∧ z11_0.toInt = (c 9 (pL (c 9) (c 10) (c 13) (i 8).toInt y8_3.toInt).toNat).toInt)) → ∀ (H : Heap) (locs : List Loc) (ls : Array Slot), va_P D vwCl (mW o a t i8 q8 c8 d8) H → va_D A (mW o a t i8 q8 c8 d8) → va_S A s.heap H locs → lv_has ls 5 [(4, .int r10), (3, .int y8_3), (2, .int y5_2), (0, .ref o), (1, .int w)] → W p l e (headSpec wm_X12_begin ({ frames := 2, cells := 0, slots := 0, locals := 48 })).room s m ([.ref o, .int w] : List Value).toArray below meth cd H locs 0 0 (MQ below (va_Qi (fun (r : Int32) (u : MS) => True ∧ mInv u.1 u.2.2.1 ∧ (∀ k, k ∉ ([0, 22, 27] : List Nat) → u.1 k = i k) ∧ (∀ k, k ∉ ([1, 23, 24, 25, 26] : List Nat) → u.2.2.1 k = c k) ∧ (SJ (u.2.2.1 3) (u.2.2.1 6) (u.2.2.1 9) (u.2.2.1 10) (u.2.2.1 11) (u.2.2.1 13) (u.1 2).toInt (u.1 5).toInt (u.1 8).toInt) ∧ (TJ (u.2.2.1 3) (u.2.2.1 6) (u.2.2.1 23) (u.2.2.1 24) (u.2.2.1 29) (u.2.2.1 30) (u.1 5).toInt (u.1 22).toInt (u.1 27).toInt)) (oC D A (fun u : MS => mW o a t u.1 u.2.1 u.2.2.1 u.2.2.2) (fun _ => [])) A) ([.ref o, .int w] : List Value).toArray s 0 0 A) (F0 m 124 ls [.int z11_0, .int y8_3, .ref (a 23)]) := by
                      intro z11_0 hs11_0 hz11_0 H locs ls hP hD hS hl
                      refine mst_23 hx hb hK hP hD hS (vp_in_iff.mpr (by have h9 : y8_3.toInt = y8_3.toInt := rfl; omega)) dX12_begin_124 (fun H locs hP hD hS => ?_)
                      have hI := mInv_c hI (k := 23) (j := (y8_3 : Int32).toNatClampNeg) (x := z11_0) (show (z11_0 : Int32).toInt = -9 ∨ (0 ≤ (z11_0 : Int32).toInt ∧ (z11_0 : Int32).toInt ≤ 4) from by omega)
                      have hfc := fr_c hfc (k := 23) (j := (y8_3 : Int32).toNatClampNeg) (x := z11_0) (by decide)
                      refine lv_aload_n hx hb dX12_begin_125 rfl (lv_at hl 3 rfl) ?_
                      refine mget_24 hx hb hts (fun _ h => List.mem_cons_of_mem _ (List.mem_append_right _ h)) hown hK hP (hts (.fieldLink RX12 53 "TalePlayModel" "nAt" "[I") (by decide +kernel)) dX12_begin_126 ?_
                      refine lv_iload_n hx hb dX12_begin_129 rfl (lv_at hl 1 rfl) ?_
                      refine lv_iload hx hb dX12_begin_130 (lv_at hl 0 rfl) ?_
                      refine lv_bipush (v := (-9)) hx hb dX12_begin_132 (by decide) ?_
                      have jn12 : ∀ (z12_0 : Int32), (z12_0.toInt = -9 ∨ (0 ≤ z12_0.toInt ∧ z12_0.toInt ≤ 29)) → ((pL (c 9) (c 10) (c 13) (i 8).toInt y8_3.toInt = -9 ∧ z12_0.toInt = -9) ∨ (¬ pL (c 9) (c 10) (c 13) (i 8).toInt y8_3.toInt = -9 ∧ z12_0.toInt = (c 11 (pL (c 9) (c 10) (c 13) (i 8).toInt y8_3.toInt).toNat).toInt)) → ∀ (H : Heap) (locs : List Loc) (ls : Array Slot), va_P D vwCl (mW o a t i8 q8 (updA c8 23 (y8_3 : Int32).toNatClampNeg z11_0) d8) H → va_D A (mW o a t i8 q8 (updA c8 23 (y8_3 : Int32).toNatClampNeg z11_0) d8) → va_S A s.heap H locs → lv_has ls 5 [(4, .int r10), (3, .int y8_3), (2, .int y5_2), (0, .ref o), (1, .int w)] → W p l e (headSpec wm_X12_begin ({ frames := 2, cells := 0, slots := 0, locals := 48 })).room s m ([.ref o, .int w] : List Value).toArray below meth cd H locs 0 0 (MQ below (va_Qi (fun (r : Int32) (u : MS) => True ∧ mInv u.1 u.2.2.1 ∧ (∀ k, k ∉ ([0, 22, 27] : List Nat) → u.1 k = i k) ∧ (∀ k, k ∉ ([1, 23, 24, 25, 26] : List Nat) → u.2.2.1 k = c k) ∧ (SJ (u.2.2.1 3) (u.2.2.1 6) (u.2.2.1 9) (u.2.2.1 10) (u.2.2.1 11) (u.2.2.1 13) (u.1 2).toInt (u.1 5).toInt (u.1 8).toInt) ∧ (TJ (u.2.2.1 3) (u.2.2.1 6) (u.2.2.1 23) (u.2.2.1 24) (u.2.2.1 29) (u.2.2.1 30) (u.1 5).toInt (u.1 22).toInt (u.1 27).toInt)) (oC D A (fun u : MS => mW o a t u.1 u.2.1 u.2.2.1 u.2.2.2) (fun _ => [])) A) ([.ref o, .int w] : List Value).toArray s 0 0 A) (F0 m 149 ls [.int z12_0, .int y8_3, .ref (a 24)]) := by
                        intro z12_0 hs12_0 hz12_0 H locs ls hP hD hS hl
                        refine mst_24 hx hb hK hP hD hS (vp_in_iff.mpr (by have h9 : y8_3.toInt = y8_3.toInt := rfl; omega)) dX12_begin_149 (fun H locs hP hD hS => ?_)
                        have hI := mInv_c hI (k := 24) (j := (y8_3 : Int32).toNatClampNeg) (x := z12_0) (show (z12_0 : Int32).toInt = -9 ∨ (0 ≤ (z12_0 : Int32).toInt ∧ (z12_0 : Int32).toInt ≤ 29) from by omega)
                        have hfc := fr_c hfc (k := 24) (j := (y8_3 : Int32).toNatClampNeg) (x := z12_0) (by decide)
                        refine lv_aload_n hx hb dX12_begin_150 rfl (lv_at hl 3 rfl) ?_
                        refine mget_25 hx hb hts (fun _ h => List.mem_cons_of_mem _ (List.mem_append_right _ h)) hown hK hP (hts (.fieldLink RX12 56 "TalePlayModel" "nOpen" "[Z") (by decide +kernel)) dX12_begin_151 ?_
                        refine lv_iload_n hx hb dX12_begin_154 rfl (lv_at hl 1 rfl) ?_
                        refine lv_aload_n hx hb dX12_begin_155 rfl (lv_at hl 3 rfl) ?_
                        refine lv_iload_n hx hb dX12_begin_156 rfl (lv_at hl 1 rfl) ?_
                        refine ro_calli (va_runV (As := [.int y8_3]) (rest := [.int y8_3, .ref (a 25)]) ⟨hx, hb, hml, hown, hts⟩ (s_X12_isShutter l D H.size o a t i8 q8 (updA (updA c8 23 (y8_3 : Int32).toNatClampNeg z11_0) 24 (y8_3 : Int32).toNatClampNeg z12_0) d8 y8_3 hI (show 0 ≤ y8_3.toInt ∧ y8_3.toInt ≤ 29 from by omega)) (cwV 1 hts gm_X12_begin_X12_isShutter rfl rfl rfl (by decide +kernel) ⟨Nat.le_of_ble_eq_true rfl, Nat.le_of_ble_eq_true rfl⟩) (pA_V hK hP (ci := 12) (q0 := 0) rfl rfl) rfl rfl hl.1 rfl (lv_room (Nat.le_of_ble_eq_true rfl)) dX12_begin_157 ⟨Nat.le_of_ble_eq_true rfl, Nat.le_of_ble_eq_true rfl⟩) hS hA hP (fun r13 u13 H locs hw13 hP hS => ?_)
                        have hw13 : (0 ≤ r13.toInt ∧ r13.toInt ≤ 1) := hw13
                        have jn14 : ∀ (z14_0 : Int32), (z14_0.toInt = 0 ∨ z14_0.toInt = 1) → ∀ (H : Heap) (locs : List Loc) (ls : Array Slot), va_P D vwCl (mW o a t i8 q8 (updA (updA c8 23 (y8_3 : Int32).toNatClampNeg z11_0) 24 (y8_3 : Int32).toNatClampNeg z12_0) d8) H → va_D A (mW o a t i8 q8 (updA (updA c8 23 (y8_3 : Int32).toNatClampNeg z11_0) 24 (y8_3 : Int32).toNatClampNeg z12_0) d8) → va_S A s.heap H locs → lv_has ls 5 [(4, .int r10), (3, .int y8_3), (2, .int y5_2), (0, .ref o), (1, .int w)] → W p l e (headSpec wm_X12_begin ({ frames := 2, cells := 0, slots := 0, locals := 48 })).room s m ([.ref o, .int w] : List Value).toArray below meth cd H locs 0 0 (MQ below (va_Qi (fun (r : Int32) (u : MS) => True ∧ mInv u.1 u.2.2.1 ∧ (∀ k, k ∉ ([0, 22, 27] : List Nat) → u.1 k = i k) ∧ (∀ k, k ∉ ([1, 23, 24, 25, 26] : List Nat) → u.2.2.1 k = c k) ∧ (SJ (u.2.2.1 3) (u.2.2.1 6) (u.2.2.1 9) (u.2.2.1 10) (u.2.2.1 11) (u.2.2.1 13) (u.1 2).toInt (u.1 5).toInt (u.1 8).toInt) ∧ (TJ (u.2.2.1 3) (u.2.2.1 6) (u.2.2.1 23) (u.2.2.1 24) (u.2.2.1 29) (u.2.2.1 30) (u.1 5).toInt (u.1 22).toInt (u.1 27).toInt)) (oC D A (fun u : MS => mW o a t u.1 u.2.1 u.2.2.1 u.2.2.2) (fun _ => [])) A) ([.ref o, .int w] : List Value).toArray s 0 0 A) (F0 m 178 ls [.int z14_0, .int y8_3, .ref (a 25)]) := by
                          intro z14_0 hs14_0 H locs ls hP hD hS hl
                          refine mst_25 hx hb hK hP hD hS (vp_in_iff.mpr (by have h9 : y8_3.toInt = y8_3.toInt := rfl; omega)) (nb_z (show 0 ≤ (z14_0 : Int32).toInt ∧ (z14_0 : Int32).toInt ≤ 1 from by omega)) dX12_begin_178 (fun H locs hP hD hS => ?_)
                          have hI := mInv_c hI (k := 25) (j := (y8_3 : Int32).toNatClampNeg) (x := z14_0) (show 0 ≤ (z14_0 : Int32).toInt ∧ (z14_0 : Int32).toInt ≤ 1 from by omega)
                          have hfc := fr_c hfc (k := 25) (j := (y8_3 : Int32).toNatClampNeg) (x := z14_0) (by decide)
                          refine lv_aload_n hx hb dX12_begin_179 rfl (lv_at hl 3 rfl) ?_
                          refine mget_26 hx hb hts (fun _ h => List.mem_cons_of_mem _ (List.mem_append_right _ h)) hown hK hP (hts (.fieldLink RX12 59 "TalePlayModel" "nLocked" "[Z") (by decide +kernel)) dX12_begin_180 ?_
                          refine lv_iload_n hx hb dX12_begin_183 rfl (lv_at hl 1 rfl) ?_
                          refine lv_aload_n hx hb dX12_begin_184 rfl (lv_at hl 3 rfl) ?_
                          refine lv_iload_n hx hb dX12_begin_185 rfl (lv_at hl 1 rfl) ?_
                          refine ro_calli (va_runV (As := [.int y8_3]) (rest := [.int y8_3, .ref (a 26)]) ⟨hx, hb, hml, hown, hts⟩ (s_X12_isShutter l D H.size o a t i8 q8 (updA (updA (updA c8 23 (y8_3 : Int32).toNatClampNeg z11_0) 24 (y8_3 : Int32).toNatClampNeg z12_0) 25 (y8_3 : Int32).toNatClampNeg z14_0) d8 y8_3 hI (show 0 ≤ y8_3.toInt ∧ y8_3.toInt ≤ 29 from by omega)) (cwV 1 hts gm_X12_begin_X12_isShutter rfl rfl rfl (by decide +kernel) ⟨Nat.le_of_ble_eq_true rfl, Nat.le_of_ble_eq_true rfl⟩) (pA_V hK hP (ci := 12) (q0 := 0) rfl rfl) rfl rfl hl.1 rfl (lv_room (Nat.le_of_ble_eq_true rfl)) dX12_begin_186 ⟨Nat.le_of_ble_eq_true rfl, Nat.le_of_ble_eq_true rfl⟩) hS hA hP (fun r15 u15 H locs hw15 hP hS => ?_)
                          have hw15 : (0 ≤ r15.toInt ∧ r15.toInt ≤ 1) := hw15
                          have jn16 : ∀ (z16_0 : Int32), (z16_0.toInt = 0 ∨ z16_0.toInt = 1) → ∀ (H : Heap) (locs : List Loc) (ls : Array Slot), va_P D vwCl (mW o a t i8 q8 (updA (updA (updA c8 23 (y8_3 : Int32).toNatClampNeg z11_0) 24 (y8_3 : Int32).toNatClampNeg z12_0) 25 (y8_3 : Int32).toNatClampNeg z14_0) d8) H → va_D A (mW o a t i8 q8 (updA (updA (updA c8 23 (y8_3 : Int32).toNatClampNeg z11_0) 24 (y8_3 : Int32).toNatClampNeg z12_0) 25 (y8_3 : Int32).toNatClampNeg z14_0) d8) → va_S A s.heap H locs → lv_has ls 5 [(4, .int r10), (3, .int y8_3), (2, .int y5_2), (0, .ref o), (1, .int w)] → W p l e (headSpec wm_X12_begin ({ frames := 2, cells := 0, slots := 0, locals := 48 })).room s m ([.ref o, .int w] : List Value).toArray below meth cd H locs 0 0 (MQ below (va_Qi (fun (r : Int32) (u : MS) => True ∧ mInv u.1 u.2.2.1 ∧ (∀ k, k ∉ ([0, 22, 27] : List Nat) → u.1 k = i k) ∧ (∀ k, k ∉ ([1, 23, 24, 25, 26] : List Nat) → u.2.2.1 k = c k) ∧ (SJ (u.2.2.1 3) (u.2.2.1 6) (u.2.2.1 9) (u.2.2.1 10) (u.2.2.1 11) (u.2.2.1 13) (u.1 2).toInt (u.1 5).toInt (u.1 8).toInt) ∧ (TJ (u.2.2.1 3) (u.2.2.1 6) (u.2.2.1 23) (u.2.2.1 24) (u.2.2.1 29) (u.2.2.1 30) (u.1 5).toInt (u.1 22).toInt (u.1 27).toInt)) (oC D A (fun u : MS => mW o a t u.1 u.2.1 u.2.2.1 u.2.2.2) (fun _ => [])) A) ([.ref o, .int w] : List Value).toArray s 0 0 A) (F0 m 207 ls [.int z16_0, .int y8_3, .ref (a 26)]) := by
                            intro z16_0 hs16_0 H locs ls hP hD hS hl
                            refine mst_26 hx hb hK hP hD hS (vp_in_iff.mpr (by have h9 : y8_3.toInt = y8_3.toInt := rfl; omega)) (nb_z (show 0 ≤ (z16_0 : Int32).toInt ∧ (z16_0 : Int32).toInt ≤ 1 from by omega)) dX12_begin_207 (fun H locs hP hD hS => ?_)
                            have hI := mInv_c hI (k := 26) (j := (y8_3 : Int32).toNatClampNeg) (x := z16_0) (show 0 ≤ (z16_0 : Int32).toInt ∧ (z16_0 : Int32).toInt ≤ 1 from by omega)
                            have hfc := fr_c hfc (k := 26) (j := (y8_3 : Int32).toNatClampNeg) (x := z16_0) (by decide)
                            obtain ⟨x17, ex17⟩ : ∃ y : Int32, y = y8_3 + 1 := ⟨_, rfl⟩
                            have tx17 := ti_add (a := y8_3.toInt) (b := 1) ex17 rfl (by decide) (by omega) (by omega)
                            refine lv_iinc (v := x17) (lv' := [(3, .int x17), (4, .int r10), (2, .int y5_2), (0, .ref o), (1, .int w)]) hx hb dX12_begin_208 hl (k := 1) rfl (by rw [ex17]; rfl) (by decide) rfl (fun ls hl => ?_)
                            refine lv_goto (tgt := 85) hx hb dX12_begin_211 (by decide) ?_
                            exact ih8 i8 q8 (updA (updA (updA (updA c8 23 (y8_3 : Int32).toNatClampNeg z11_0) 24 (y8_3 : Int32).toNatClampNeg z12_0) 25 (y8_3 : Int32).toNatClampNeg z14_0) 26 (y8_3 : Int32).toNatClampNeg z16_0) d8 x17 hI (fr_w hfi (by decide)) (fr_w hfc (by decide)) (show 0 ≤ x17.toInt ∧ x17.toInt ≤ 30 ∧ x17.toInt ≤ (i 5).toInt from by have h50 : x17.toInt = (y8_3.toInt + 1) := tx17; omega) (show BG (c 9) (c 10) (c 11) (c 13) ((updA (updA (updA (updA c8 23 (y8_3 : Int32).toNatClampNeg z11_0) 24 (y8_3 : Int32).toNatClampNeg z12_0) 25 (y8_3 : Int32).toNatClampNeg z14_0) 26 (y8_3 : Int32).toNatClampNeg z16_0) 23) ((updA (updA (updA (updA c8 23 (y8_3 : Int32).toNatClampNeg z11_0) 24 (y8_3 : Int32).toNatClampNeg z12_0) 25 (y8_3 : Int32).toNatClampNeg z14_0) 26 (y8_3 : Int32).toNatClampNeg z16_0) 24) (i 8).toInt x17.toInt from BG_a hz8_0 (by omega) tx17 (by rcases hz11_0 with q9 | q9 <;> rcases hz12_0 with q8 | q8; exact Or.inl ⟨q9.1, q9.2, q8.2⟩; exact absurd q9.1 q8.1; exact absurd q8.1 q9.1; exact Or.inr ⟨q9.1, q9.2, q8.2⟩)) (by have h50 : x17.toInt = (y8_3.toInt + 1) := tx17; omega) _ _ _ hP hD hS (lv_sub hl [0, 2, 3, 4] rfl)
                          have jn18 : ∀ (H : Heap) (locs : List Loc) (ls : Array Slot), va_P D vwCl (mW o a t i8 q8 (updA (updA (updA c8 23 (y8_3 : Int32).toNatClampNeg z11_0) 24 (y8_3 : Int32).toNatClampNeg z12_0) 25 (y8_3 : Int32).toNatClampNeg z14_0) d8) H → va_D A (mW o a t i8 q8 (updA (updA (updA c8 23 (y8_3 : Int32).toNatClampNeg z11_0) 24 (y8_3 : Int32).toNatClampNeg z12_0) 25 (y8_3 : Int32).toNatClampNeg z14_0) d8) → va_S A s.heap H locs → lv_has ls 5 [(4, .int r10), (3, .int y8_3), (2, .int y5_2), (0, .ref o), (1, .int w)] → W p l e (headSpec wm_X12_begin ({ frames := 2, cells := 0, slots := 0, locals := 48 })).room s m ([.ref o, .int w] : List Value).toArray below meth cd H locs 0 0 (MQ below (va_Qi (fun (r : Int32) (u : MS) => True ∧ mInv u.1 u.2.2.1 ∧ (∀ k, k ∉ ([0, 22, 27] : List Nat) → u.1 k = i k) ∧ (∀ k, k ∉ ([1, 23, 24, 25, 26] : List Nat) → u.2.2.1 k = c k) ∧ (SJ (u.2.2.1 3) (u.2.2.1 6) (u.2.2.1 9) (u.2.2.1 10) (u.2.2.1 11) (u.2.2.1 13) (u.1 2).toInt (u.1 5).toInt (u.1 8).toInt) ∧ (TJ (u.2.2.1 3) (u.2.2.1 6) (u.2.2.1 23) (u.2.2.1 24) (u.2.2.1 29) (u.2.2.1 30) (u.1 5).toInt (u.1 22).toInt (u.1 27).toInt)) (oC D A (fun u : MS => mW o a t u.1 u.2.1 u.2.2.1 u.2.2.2) (fun _ => [])) A) ([.ref o, .int w] : List Value).toArray s 0 0 A) (F0 m 206 ls [.int y8_3, .ref (a 26)]) := by
                            intro H locs ls hP hD hS hl
                            refine lv_iconst (v := 0) hx hb dX12_begin_206 (by decide) ?_
                            exact jn16  (0 : Int32) (show (0 : Int32).toInt = 0 ∨ (0 : Int32).toInt = 1 from by have h55 : (0 : Int32).toInt = 0 := (by decide); omega) _ _ _ hP hD hS (lv_sub hl [0, 1, 2, 3, 4] rfl)
                          refine lv_if_eq (tgt := 206) hx hb dX12_begin_189 (by decide) (fun c19 => ?_) (fun c19 => ?_)
                          · have f19 := (ti_eq (a := r15.toInt) (b := 0) rfl (by decide)).mp c19
                            exact jn18    _ _ _ hP hD hS (lv_sub hl [0, 1, 2, 3, 4] rfl)
                          · have f19 := mt (ti_eq (a := r15.toInt) (b := 0) rfl (by decide)).mpr c19
                            refine lv_aload_n hx hb dX12_begin_192 rfl (lv_at hl 3 rfl) ?_
                            refine lv_iload_n hx hb dX12_begin_193 rfl (lv_at hl 1 rfl) ?_
                            refine lv_iconst (v := 1) hx hb dX12_begin_194 (by decide) ?_
                            refine ro_calli (va_runV (As := [.int y8_3, .int 1]) (rest := [.int y8_3, .ref (a 26)]) ⟨hx, hb, hml, hown, hts⟩ (s_X12_saidFlag l D H.size o a t i8 q8 (updA (updA (updA c8 23 (y8_3 : Int32).toNatClampNeg z11_0) 24 (y8_3 : Int32).toNatClampNeg z12_0) 25 (y8_3 : Int32).toNatClampNeg z14_0) d8 y8_3 1 hI (show 0 ≤ y8_3.toInt ∧ y8_3.toInt ≤ 29 from by have h91 : (1 : Int32).toInt = 1 := (by decide); omega) (show 0 ≤ 1 ∧ 1 ≤ 5 from by have h91 : (1 : Int32).toInt = 1 := (by decide); omega)) (cwV 2 hts gm_X12_begin_X12_saidFlag rfl rfl rfl (by decide +kernel) ⟨Nat.le_of_ble_eq_true rfl, Nat.le_of_ble_eq_true rfl⟩) (pA_V hK hP (ci := 12) (q0 := 0) rfl rfl) rfl rfl hl.1 rfl (lv_room (Nat.le_of_ble_eq_true rfl)) dX12_begin_195 ⟨Nat.le_of_ble_eq_true rfl, Nat.le_of_ble_eq_true rfl⟩) hS hA hP (fun r20 u20 H locs hw20 hP hS => ?_)
                            have hw20 : (r20.toInt = -9 ∨ (0 ≤ r20.toInt ∧ r20.toInt ≤ 1)) := hw20
                            refine lv_iconst (v := 1) hx hb dX12_begin_198 (by decide) ?_
                            refine lv_icmp_ne (tgt := 206) hx hb dX12_begin_199 (by decide) (fun c21 => ?_) (fun c21 => ?_)
                            · have f21 := mt (ti_eq (a := r20.toInt) (b := 1) rfl (by decide)).mpr c21
                              exact jn18    _ _ _ hP hD hS (lv_sub hl [0, 1, 2, 3, 4] rfl)
                            · have f21 := (ti_eq (a := r20.toInt) (b := 1) rfl (by decide)).mp c21
                              refine lv_iconst (v := 1) hx hb dX12_begin_202 (by decide) ?_
                              refine lv_goto (tgt := 207) hx hb dX12_begin_203 (by decide) ?_
                              exact jn16  (1 : Int32) (show (1 : Int32).toInt = 0 ∨ (1 : Int32).toInt = 1 from by have h55 : (1 : Int32).toInt = 1 := (by decide); omega) _ _ _ hP hD hS (lv_sub hl [0, 1, 2, 3, 4] rfl)
                        have jn22 : ∀ (H : Heap) (locs : List Loc) (ls : Array Slot), va_P D vwCl (mW o a t i8 q8 (updA (updA c8 23 (y8_3 : Int32).toNatClampNeg z11_0) 24 (y8_3 : Int32).toNatClampNeg z12_0) d8) H → va_D A (mW o a t i8 q8 (updA (updA c8 23 (y8_3 : Int32).toNatClampNeg z11_0) 24 (y8_3 : Int32).toNatClampNeg z12_0) d8) → va_S A s.heap H locs → lv_has ls 5 [(4, .int r10), (3, .int y8_3), (2, .int y5_2), (0, .ref o), (1, .int w)] → W p l e (headSpec wm_X12_begin ({ frames := 2, cells := 0, slots := 0, locals := 48 })).room s m ([.ref o, .int w] : List Value).toArray below meth cd H locs 0 0 (MQ below (va_Qi (fun (r : Int32) (u : MS) => True ∧ mInv u.1 u.2.2.1 ∧ (∀ k, k ∉ ([0, 22, 27] : List Nat) → u.1 k = i k) ∧ (∀ k, k ∉ ([1, 23, 24, 25, 26] : List Nat) → u.2.2.1 k = c k) ∧ (SJ (u.2.2.1 3) (u.2.2.1 6) (u.2.2.1 9) (u.2.2.1 10) (u.2.2.1 11) (u.2.2.1 13) (u.1 2).toInt (u.1 5).toInt (u.1 8).toInt) ∧ (TJ (u.2.2.1 3) (u.2.2.1 6) (u.2.2.1 23) (u.2.2.1 24) (u.2.2.1 29) (u.2.2.1 30) (u.1 5).toInt (u.1 22).toInt (u.1 27).toInt)) (oC D A (fun u : MS => mW o a t u.1 u.2.1 u.2.2.1 u.2.2.2) (fun _ => [])) A) ([.ref o, .int w] : List Value).toArray s 0 0 A) (F0 m 177 ls [.int y8_3, .ref (a 25)]) := by
                          intro H locs ls hP hD hS hl
                          refine lv_iconst (v := 0) hx hb dX12_begin_177 (by decide) ?_
                          exact jn14  (0 : Int32) (show (0 : Int32).toInt = 0 ∨ (0 : Int32).toInt = 1 from by have h55 : (0 : Int32).toInt = 0 := (by decide); omega) _ _ _ hP hD hS (lv_sub hl [0, 1, 2, 3, 4] rfl)
                        refine lv_if_eq (tgt := 177) hx hb dX12_begin_160 (by decide) (fun c23 => ?_) (fun c23 => ?_)
                        · have f23 := (ti_eq (a := r13.toInt) (b := 0) rfl (by decide)).mp c23
                          exact jn22    _ _ _ hP hD hS (lv_sub hl [0, 1, 2, 3, 4] rfl)
                        · have f23 := mt (ti_eq (a := r13.toInt) (b := 0) rfl (by decide)).mpr c23
                          refine lv_aload_n hx hb dX12_begin_163 rfl (lv_at hl 3 rfl) ?_
                          refine lv_iload_n hx hb dX12_begin_164 rfl (lv_at hl 1 rfl) ?_
                          refine lv_iconst (v := 0) hx hb dX12_begin_165 (by decide) ?_
                          refine ro_calli (va_runV (As := [.int y8_3, .int 0]) (rest := [.int y8_3, .ref (a 25)]) ⟨hx, hb, hml, hown, hts⟩ (s_X12_saidFlag l D H.size o a t i8 q8 (updA (updA c8 23 (y8_3 : Int32).toNatClampNeg z11_0) 24 (y8_3 : Int32).toNatClampNeg z12_0) d8 y8_3 0 hI (show 0 ≤ y8_3.toInt ∧ y8_3.toInt ≤ 29 from by have h91 : (0 : Int32).toInt = 0 := (by decide); omega) (show 0 ≤ 0 ∧ 0 ≤ 5 from by have h91 : (0 : Int32).toInt = 0 := (by decide); omega)) (cwV 2 hts gm_X12_begin_X12_saidFlag rfl rfl rfl (by decide +kernel) ⟨Nat.le_of_ble_eq_true rfl, Nat.le_of_ble_eq_true rfl⟩) (pA_V hK hP (ci := 12) (q0 := 0) rfl rfl) rfl rfl hl.1 rfl (lv_room (Nat.le_of_ble_eq_true rfl)) dX12_begin_166 ⟨Nat.le_of_ble_eq_true rfl, Nat.le_of_ble_eq_true rfl⟩) hS hA hP (fun r24 u24 H locs hw24 hP hS => ?_)
                          have hw24 : (r24.toInt = -9 ∨ (0 ≤ r24.toInt ∧ r24.toInt ≤ 1)) := hw24
                          refine lv_iconst (v := 1) hx hb dX12_begin_169 (by decide) ?_
                          refine lv_icmp_ne (tgt := 177) hx hb dX12_begin_170 (by decide) (fun c25 => ?_) (fun c25 => ?_)
                          · have f25 := mt (ti_eq (a := r24.toInt) (b := 1) rfl (by decide)).mpr c25
                            exact jn22    _ _ _ hP hD hS (lv_sub hl [0, 1, 2, 3, 4] rfl)
                          · have f25 := (ti_eq (a := r24.toInt) (b := 1) rfl (by decide)).mp c25
                            refine lv_iconst (v := 1) hx hb dX12_begin_173 (by decide) ?_
                            refine lv_goto (tgt := 178) hx hb dX12_begin_174 (by decide) ?_
                            exact jn14  (1 : Int32) (show (1 : Int32).toInt = 0 ∨ (1 : Int32).toInt = 1 from by have h55 : (1 : Int32).toInt = 1 := (by decide); omega) _ _ _ hP hD hS (lv_sub hl [0, 1, 2, 3, 4] rfl)
                      refine lv_icmp_ne (tgt := 142) hx hb dX12_begin_134 (by decide) (fun c26 => ?_) (fun c26 => ?_)
                      · have f26 := mt (ti_eq (a := r10.toInt) (b := (-9)) rfl (by decide)).mpr c26
                        refine lv_aload_n hx hb dX12_begin_142 rfl (lv_at hl 3 rfl) ?_
                        refine mget_11 hx hb hts (fun _ h => List.mem_cons_of_mem _ (List.mem_append_right _ h)) hown hK hP (hts (.fieldLink RX12 31 "TalePlayModel" "middle" "[I") (by decide +kernel)) dX12_begin_143 ?_
                        refine lv_iload hx hb dX12_begin_146 (lv_at hl 0 rfl) ?_
                        refine mld_11 hx hb hK hP (vp_in_iff.mpr (by have h9 : r10.toInt = r10.toInt := rfl; omega)) dX12_begin_148 (fun x27 ex27 => ?_)
                        have rx27 : 0 ≤ x27.toInt ∧ x27.toInt ≤ 29 := by rw [ex27]; exact hI.2 11 _
                        have gx27 : (c 11 (r10 : Int32).toNatClampNeg).toInt = x27.toInt := by rw [ex27, show (updA c8 23 (y8_3 : Int32).toNatClampNeg z11_0) 11 = c 11 from hfc 11 (by decide)]
                        exact jn12  x27 (show x27.toInt = -9 ∨ (0 ≤ x27.toInt ∧ x27.toInt ≤ 29) from by omega) (show (pL (c 9) (c 10) (c 13) (i 8).toInt y8_3.toInt = -9 ∧ x27.toInt = -9) ∨ (¬ pL (c 9) (c 10) (c 13) (i 8).toInt y8_3.toInt = -9 ∧ x27.toInt = (c 11 (pL (c 9) (c 10) (c 13) (i 8).toInt y8_3.toInt).toNat).toInt) from Or.inr ⟨by omega, by rw [← hr10_0]; exact gx27.symm⟩) _ _ _ hP hD hS (lv_sub hl [0, 1, 2, 3, 4] rfl)
                      · have f26 := (ti_eq (a := r10.toInt) (b := (-9)) rfl (by decide)).mp c26
                        refine lv_bipush (v := (-9)) hx hb dX12_begin_137 (by decide) ?_
                        refine lv_goto (tgt := 149) hx hb dX12_begin_139 (by decide) ?_
                        exact jn12  ((-9) : Int32) (show ((-9) : Int32).toInt = -9 ∨ (0 ≤ ((-9) : Int32).toInt ∧ ((-9) : Int32).toInt ≤ 29) from by have h55 : ((-9) : Int32).toInt = -9 := (by decide); omega) (show (pL (c 9) (c 10) (c 13) (i 8).toInt y8_3.toInt = -9 ∧ ((-9) : Int32).toInt = -9) ∨ (¬ pL (c 9) (c 10) (c 13) (i 8).toInt y8_3.toInt = -9 ∧ ((-9) : Int32).toInt = (c 11 (pL (c 9) (c 10) (c 13) (i 8).toInt y8_3.toInt).toNat).toInt) from Or.inl ⟨by omega, by decide⟩) _ _ _ hP hD hS (lv_sub hl [0, 1, 2, 3, 4] rfl)
                    refine lv_icmp_ne (tgt := 117) hx hb dX12_begin_109 (by decide) (fun c28 => ?_) (fun c28 => ?_)
                    · have f28 := mt (ti_eq (a := r10.toInt) (b := (-9)) rfl (by decide)).mpr c28
                      have h4f : (c 9 r10.toNatClampNeg).toInt < 5 := (fsF_r (P := mP (c 9) (c 10) (c 13) y8_3.toInt) hr10_0 (by omega)).2.2.2.1
                      refine lv_aload_n hx hb dX12_begin_117 rfl (lv_at hl 3 rfl) ?_
                      refine mget_9 hx hb hts (fun _ h => List.mem_cons_of_mem _ (List.mem_append_right _ h)) hown hK hP (hts (.fieldLink RX12 25 "TalePlayModel" "form" "[I") (by decide +kernel)) dX12_begin_118 ?_
                      refine lv_iload hx hb dX12_begin_121 (lv_at hl 0 rfl) ?_
                      refine mld_9 hx hb hK hP (vp_in_iff.mpr (by have h9 : r10.toInt = r10.toInt := rfl; omega)) dX12_begin_123 (fun x29 ex29 => ?_)
                      have rx29 : 0 ≤ x29.toInt ∧ x29.toInt ≤ 7 := by rw [ex29]; exact hI.2 9 _
                      have gx29 : (c 9 (r10 : Int32).toNatClampNeg).toInt = x29.toInt := by rw [ex29, show c8 9 = c 9 from hfc 9 (by decide)]
                      exact jn11  x29 (show x29.toInt = -9 ∨ (0 ≤ x29.toInt ∧ x29.toInt ≤ 4) from by omega) (show (pL (c 9) (c 10) (c 13) (i 8).toInt y8_3.toInt = -9 ∧ x29.toInt = -9) ∨ (¬ pL (c 9) (c 10) (c 13) (i 8).toInt y8_3.toInt = -9 ∧ x29.toInt = (c 9 (pL (c 9) (c 10) (c 13) (i 8).toInt y8_3.toInt).toNat).toInt) from Or.inr ⟨by omega, by rw [← hr10_0]; exact gx29.symm⟩) _ _ _ hP hD hS (lv_sub hl [0, 1, 2, 3, 4] rfl)
                    · have f28 := (ti_eq (a := r10.toInt) (b := (-9)) rfl (by decide)).mp c28
                      refine lv_bipush (v := (-9)) hx hb dX12_begin_112 (by decide) ?_
                      refine lv_goto (tgt := 124) hx hb dX12_begin_114 (by decide) ?_
                      exact jn11  ((-9) : Int32) (show ((-9) : Int32).toInt = -9 ∨ (0 ≤ ((-9) : Int32).toInt ∧ ((-9) : Int32).toInt ≤ 4) from by have h55 : ((-9) : Int32).toInt = -9 := (by decide); omega) (show (pL (c 9) (c 10) (c 13) (i 8).toInt y8_3.toInt = -9 ∧ ((-9) : Int32).toInt = -9) ∨ (¬ pL (c 9) (c 10) (c 13) (i 8).toInt y8_3.toInt = -9 ∧ ((-9) : Int32).toInt = (c 9 (pL (c 9) (c 10) (c 13) (i 8).toInt y8_3.toInt).toNat).toInt) from Or.inl ⟨by omega, by decide⟩) _ _ _ hP hD hS (lv_sub hl [0, 1, 2, 3, 4] rfl)
              exact lp8 _ i q c d (0 : Int32) hI (fr_w hfi (by decide)) (fr_w hfc (by decide)) (show 0 ≤ (0 : Int32).toInt ∧ (0 : Int32).toInt ≤ 30 ∧ (0 : Int32).toInt ≤ (i 5).toInt from by have h50 : (0 : Int32).toInt = 0 := (by decide); omega) (show BG (c 9) (c 10) (c 11) (c 13) (c 23) (c 24) (i 8).toInt (0 : Int32).toInt from BG_0 (by decide)) (Nat.lt_succ_self _) _ _ _ hP hD hS (lv_sub hl [0, 1, 2, 3] rfl)
            · have f7 := (ti_eq (a := y5_2.toInt) (b := (-9)) rfl (by decide)).mp c7
              refine lv_aload_n hx hb dX12_begin_77 rfl (lv_at hl 1 rfl) ?_
              refine lv_iconst (v := 1) hx hb dX12_begin_78 (by decide) ?_
              refine al_calli (va_runV (As := [.int 1]) (rest := []) ⟨hx, hb, hml, hown, hts⟩ (s_X12_meets l D H.size o a t i q c d 1 hI (show 1 ≤ 1 ∧ 1 ≤ 6 from by have h90 : (1 : Int32).toInt = 1 := (by decide); omega)) (cwV 1 hts gm_X12_begin_X12_meets rfl rfl rfl (by decide +kernel) ⟨Nat.le_of_ble_eq_true rfl, Nat.le_of_ble_eq_true rfl⟩) (pB_V hK hP hD (ci := 12) (q0 := 0) rfl rfl) rfl rfl hl.1 rfl (lv_room (Nat.le_of_ble_eq_true rfl)) dX12_begin_79 ⟨Nat.le_of_ble_eq_true rfl, Nat.le_of_ble_eq_true rfl⟩) hS hA hP hD (fun r30 u30 H locs hw30 hP hD hS => ?_)
              obtain ⟨i30, q30, c30, d30⟩ := u30
              have hw30 : r30 = (-3) ∧ mInv i30 c30 ∧ (∀ k, k ∉ ([0] : List Nat) → i30 k = i k) ∧ (∀ k, k ∉ ([1] : List Nat) → c30 k = c k) := hw30
              obtain ⟨hw30, hI, hei30, hec30⟩ := hw30
              have hfi : ∀ k, k ∉ ([0] : List Nat) → i30 k = i k := fr_z hfi hei30 (by decide) (by decide)
              have hfc : ∀ k, k ∉ ([1] : List Nat) → c30 k = c k := fr_z hfc hec30 (by decide) (by decide)
              have hP : va_P D vwCl (mW o a t i30 q30 c30 d30) H := hP
              have hD : va_D A (mW o a t i30 q30 c30 d30) := hD
              have hw30 : r30 = (-3) := hw30
              subst hw30
              exact rw_iret (i30, q30, c30, d30) hx hb hr hlocks hS (hK.sub (tys' := []) [] rfl) hP hD dX12_begin_82 ⟨trivial, hI, fr_w hfi (by decide), fr_w hfc (by decide), (show SJ (c30 3) (c30 6) (c30 9) (c30 10) (c30 11) (c30 13) ((i30 2) : Int32).toInt ((i30 5) : Int32).toInt ((i30 8) : Int32).toInt from by rw [show c30 3 = c 3 from hfc 3 (by decide), show c30 6 = c 6 from hfc 6 (by decide), show c30 9 = c 9 from hfc 9 (by decide), show c30 10 = c 10 from hfc 10 (by decide), show c30 11 = c 11 from hfc 11 (by decide), show c30 13 = c 13 from hfc 13 (by decide), show i30 2 = i 2 from hfi 2 (by decide), show i30 5 = i 5 from hfi 5 (by decide), show i30 8 = i 8 from hfi 8 (by decide)]; exact hs_S), (show TJ (c30 3) (c30 6) (c30 23) (c30 24) (c30 29) (c30 30) ((i30 5) : Int32).toInt ((i30 22) : Int32).toInt ((i30 27) : Int32).toInt from by rw [show c30 3 = c 3 from hfc 3 (by decide), show c30 6 = c 6 from hfc 6 (by decide), show c30 23 = c 23 from hfc 23 (by decide), show c30 24 = c 24 from hfc 24 (by decide), show c30 29 = c 29 from hfc 29 (by decide), show c30 30 = c 30 from hfc 30 (by decide), show i30 5 = i 5 from hfi 5 (by decide), show i30 22 = i 22 from hfi 22 (by decide), show i30 27 = i 27 from hfi 27 (by decide)]; exact hs_J)⟩
          refine lv_icmp_eq (tgt := 71) hx hb dX12_begin_30 (by decide) (fun c31 => ?_) (fun c31 => ?_)
          · have f31 := (ti_eq (a := y5_2.toInt) (b := (-9)) rfl (by decide)).mp c31
            exact jn6   (show y5_2.toInt = -9 ∨ Kd (c 3) (c 6) y5_2.toInt 0 from Or.inl (by omega)) _ _ _ hP hD hS (lv_sub hl [0, 1, 2] rfl)
          · have f31 := mt (ti_eq (a := y5_2.toInt) (b := (-9)) rfl (by decide)).mpr c31
            refine lv_aload_n hx hb dX12_begin_33 rfl (lv_at hl 1 rfl) ?_
            refine lv_iload_n hx hb dX12_begin_34 rfl (lv_at hl 0 rfl) ?_
            refine lv_iconst (v := 0) hx hb dX12_begin_35 (by decide) ?_
            refine ro_calli (va_runV (As := [.int y5_2, .int 0]) (rest := []) ⟨hx, hb, hml, hown, hts⟩ (s_X12_isOf l D H.size o a t i q c d y5_2 0 hI (show 0 ≤ y5_2.toInt ∧ y5_2.toInt ≤ 29 from by have h91 : (0 : Int32).toInt = 0 := (by decide); omega) (show 0 ≤ 0 from by have h91 : (0 : Int32).toInt = 0 := (by decide); omega)) (cwV 2 hts gm_X12_begin_X12_isOf rfl rfl rfl (by decide +kernel) ⟨Nat.le_of_ble_eq_true rfl, Nat.le_of_ble_eq_true rfl⟩) (pA_V hK hP (ci := 12) (q0 := 0) rfl rfl) rfl rfl hl.1 rfl (lv_room (Nat.le_of_ble_eq_true rfl)) dX12_begin_36 ⟨Nat.le_of_ble_eq_true rfl, Nat.le_of_ble_eq_true rfl⟩) hS hA hP (fun r32 u32 H locs hw32 hP hS => ?_)
            have hw32 : ((0 ≤ r32.toInt ∧ r32.toInt ≤ 1) ∧ (Sm r32 (Kd (c 3) (c 6) y5_2.toInt 0))) := hw32
            obtain ⟨hw32, hr32_0⟩ := hw32
            have hr32_0 : Sm r32 (Kd (c 3) (c 6) y5_2.toInt 0) := hr32_0
            refine lv_if_ne (tgt := 71) hx hb dX12_begin_39 (by decide) (fun c33 => ?_) (fun c33 => ?_)
            · have f33 := mt (ti_eq (a := r32.toInt) (b := 0) rfl (by decide)).mpr c33
              have s33 := sm_t hr32_0 c33
              exact jn6   (show y5_2.toInt = -9 ∨ Kd (c 3) (c 6) y5_2.toInt 0 from Or.inr s33) _ _ _ hP hD hS (lv_sub hl [0, 1, 2] rfl)
            · have f33 := (ti_eq (a := r32.toInt) (b := 0) rfl (by decide)).mp c33
              have s33 := sm_f hr32_0 c33
              refine lv_aload_n hx hb dX12_begin_42 rfl (lv_at hl 1 rfl) ?_
              refine lv_iload_n hx hb dX12_begin_43 rfl (lv_at hl 0 rfl) ?_
              refine ro_calli (va_runV (As := [.int y5_2]) (rest := []) ⟨hx, hb, hml, hown, hts⟩ (s_X12_placing l D H.size o a t i q c d y5_2 hI ) (cwV 1 hts gm_X12_begin_X12_placing rfl rfl rfl (by decide +kernel) ⟨Nat.le_of_ble_eq_true rfl, Nat.le_of_ble_eq_true rfl⟩) (pA_V hK hP (ci := 12) (q0 := 0) rfl rfl) rfl rfl hl.1 rfl (lv_room (Nat.le_of_ble_eq_true rfl)) dX12_begin_44 ⟨Nat.le_of_ble_eq_true rfl, Nat.le_of_ble_eq_true rfl⟩) hS hA hP (fun r34 u34 H locs hw34 hP hS => ?_)
              have hw34 : ((r34.toInt = -9 ∨ (0 ≤ r34.toInt ∧ r34.toInt ≤ 199)) ∧ (r34.toInt = pL (c 9) (c 10) (c 13) (i 8).toInt y5_2.toInt)) := hw34
              obtain ⟨hw34, hr34_0⟩ := hw34
              have hr34_0 : r34.toInt = pL (c 9) (c 10) (c 13) (i 8).toInt y5_2.toInt := hr34_0
              refine lv_bipush (v := (-9)) hx hb dX12_begin_47 (by decide) ?_
              have jn35 : ∀ (z35_0 : Int32), (z35_0.toInt = -9 ∨ (0 ≤ z35_0.toInt ∧ z35_0.toInt ≤ 29)) → (z35_0.toInt = fP (c 9) (c 10) (c 11) (c 13) (i 8).toInt y5_2.toInt) → (z35_0.toInt = -9 ∨ (0 ≤ z35_0.toInt ∧ z35_0.toInt < (i 5).toInt)) → ∀ (H : Heap) (locs : List Loc) (ls : Array Slot), va_P D vwCl (mW o a t i q c d) H → va_D A (mW o a t i q c d) → va_S A s.heap H locs → lv_has ls 5 [(2, .int y5_2), (0, .ref o), (1, .int w)] → W p l e (headSpec wm_X12_begin ({ frames := 2, cells := 0, slots := 0, locals := 48 })).room s m ([.ref o, .int w] : List Value).toArray below meth cd H locs 0 0 (MQ below (va_Qi (fun (r : Int32) (u : MS) => True ∧ mInv u.1 u.2.2.1 ∧ (∀ k, k ∉ ([0, 22, 27] : List Nat) → u.1 k = i k) ∧ (∀ k, k ∉ ([1, 23, 24, 25, 26] : List Nat) → u.2.2.1 k = c k) ∧ (SJ (u.2.2.1 3) (u.2.2.1 6) (u.2.2.1 9) (u.2.2.1 10) (u.2.2.1 11) (u.2.2.1 13) (u.1 2).toInt (u.1 5).toInt (u.1 8).toInt) ∧ (TJ (u.2.2.1 3) (u.2.2.1 6) (u.2.2.1 23) (u.2.2.1 24) (u.2.2.1 29) (u.2.2.1 30) (u.1 5).toInt (u.1 22).toInt (u.1 27).toInt)) (oC D A (fun u : MS => mW o a t u.1 u.2.1 u.2.2.1 u.2.2.2) (fun _ => [])) A) ([.ref o, .int w] : List Value).toArray s 0 0 A) (F0 m 67 ls [.int z35_0]) := by
                intro z35_0 hs35_0 hz35_0 hz35_1 H locs ls hP hD hS hl
                refine lv_istore_n (lv' := [(2, .int z35_0), (0, .ref o), (1, .int w)]) hx hb dX12_begin_67 rfl hl (by decide) rfl (fun ls hl => ?_)
                have hks : z35_0.toInt = -9 ∨ rk z35_0.toInt < rk y5_2.toInt := by rcases Int.lt_trichotomy z35_0.toInt (-9) with q9 | q9 | q9; exact Or.inr (by omega); exact Or.inl q9; (have q8 := hrk.2 y5_2.toInt (by omega) (by omega) (by rw [← hz35_0]; omega); rw [← hz35_0] at q8; exact Or.inr q8)
                refine lv_goto (tgt := 27) hx hb dX12_begin_68 (by decide) ?_
                exact ih5 z35_0 (show z35_0.toInt = -9 ∨ (0 ≤ z35_0.toInt ∧ z35_0.toInt ≤ 29) from by omega) (show ∀ t, Ch (fP (c 9) (c 10) (c 11) (c 13) (i 8).toInt) z35_0.toInt t → Ch (fP (c 9) (c 10) (c 11) (c 13) (i 8).toInt) w.toInt t from fun t9 h9 => hz5_0 t9 (Ch_up (by rw [← hz35_0]; exact h9))) (show z35_0.toInt = -9 ∨ (0 ≤ z35_0.toInt ∧ z35_0.toInt < (i 5).toInt) from hz35_1) (by rw [if_neg (show ¬ y5_2.toInt = -9 by omega)] at hm5; by_cases q9 : z35_0.toInt = -9; (rw [if_pos q9]; omega); (rw [if_neg q9]; omega)) _ _ _ hP hD hS (lv_sub hl [0, 1, 2] rfl)
              refine lv_icmp_ne (tgt := 57) hx hb dX12_begin_49 (by decide) (fun c36 => ?_) (fun c36 => ?_)
              · have f36 := mt (ti_eq (a := r34.toInt) (b := (-9)) rfl (by decide)).mpr c36
                refine lv_aload_n hx hb dX12_begin_57 rfl (lv_at hl 1 rfl) ?_
                refine mget_11 hx hb hts (fun _ h => List.mem_cons_of_mem _ (List.mem_append_right _ h)) hown hK hP (hts (.fieldLink RX12 31 "TalePlayModel" "middle" "[I") (by decide +kernel)) dX12_begin_58 ?_
                refine lv_aload_n hx hb dX12_begin_61 rfl (lv_at hl 1 rfl) ?_
                refine lv_iload_n hx hb dX12_begin_62 rfl (lv_at hl 0 rfl) ?_
                refine ro_calli (va_runV (As := [.int y5_2]) (rest := [.ref (a 11)]) ⟨hx, hb, hml, hown, hts⟩ (s_X12_placing l D H.size o a t i q c d y5_2 hI ) (cwV 1 hts gm_X12_begin_X12_placing rfl rfl rfl (by decide +kernel) ⟨Nat.le_of_ble_eq_true rfl, Nat.le_of_ble_eq_true rfl⟩) (pA_V hK hP (ci := 12) (q0 := 0) rfl rfl) rfl rfl hl.1 rfl (lv_room (Nat.le_of_ble_eq_true rfl)) dX12_begin_63 ⟨Nat.le_of_ble_eq_true rfl, Nat.le_of_ble_eq_true rfl⟩) hS hA hP (fun r37 u37 H locs hw37 hP hS => ?_)
                have hw37 : ((r37.toInt = -9 ∨ (0 ≤ r37.toInt ∧ r37.toInt ≤ 199)) ∧ (r37.toInt = pL (c 9) (c 10) (c 13) (i 8).toInt y5_2.toInt)) := hw37
                obtain ⟨hw37, hr37_0⟩ := hw37
                have hr37_0 : r37.toInt = pL (c 9) (c 10) (c 13) (i 8).toInt y5_2.toInt := hr37_0
                refine mld_11 hx hb hK hP (vp_in_iff.mpr (by have h9 : r37.toInt = r37.toInt := rfl; omega)) dX12_begin_66 (fun x38 ex38 => ?_)
                have rx38 : 0 ≤ x38.toInt ∧ x38.toInt ≤ 29 := by rw [ex38]; exact hI.2 11 _
                have gx38 : (c 11 (r37 : Int32).toNatClampNeg).toInt = x38.toInt := by rw [ex38]
                exact jn35  x38 (show x38.toInt = -9 ∨ (0 ≤ x38.toInt ∧ x38.toInt ≤ 29) from by omega) (show x38.toInt = fP (c 9) (c 10) (c 11) (c 13) (i 8).toInt y5_2.toInt from (fP_at (r := r37) (by omega) hr37_0 (by omega) gx38).symm) (show x38.toInt = -9 ∨ (0 ≤ x38.toInt ∧ x38.toInt < (i 5).toInt) from Or.inr ⟨by omega, by have h9 := fsF_r (P := mP (c 9) (c 10) (c 13) _) hr37_0 (by omega); have h8 := (hs_S.2.1 r37.toInt.toNat (by omega)).2.1 (by have h7 := h9.2.2.2.1; omega); have h6 : (c 11 r37.toNatClampNeg).toInt < (i 5).toInt := h8; omega⟩) _ _ _ hP hD hS (lv_sub hl [0, 1, 2] rfl)
              · have f36 := (ti_eq (a := r34.toInt) (b := (-9)) rfl (by decide)).mp c36
                refine lv_bipush (v := (-9)) hx hb dX12_begin_52 (by decide) ?_
                refine lv_goto (tgt := 67) hx hb dX12_begin_54 (by decide) ?_
                exact jn35  ((-9) : Int32) (show ((-9) : Int32).toInt = -9 ∨ (0 ≤ ((-9) : Int32).toInt ∧ ((-9) : Int32).toInt ≤ 29) from by have h53 : ((-9) : Int32).toInt = -9 := (by decide); omega) (show ((-9) : Int32).toInt = fP (c 9) (c 10) (c 11) (c 13) (i 8).toInt y5_2.toInt from by rw [fP_no (by omega)]; decide) (show ((-9) : Int32).toInt = -9 ∨ (0 ≤ ((-9) : Int32).toInt ∧ ((-9) : Int32).toInt < (i 5).toInt) from Or.inl (by decide)) _ _ _ hP hD hS (lv_sub hl [0, 1, 2] rfl)
      exact lp5 _ w (show w.toInt = -9 ∨ (0 ≤ w.toInt ∧ w.toInt ≤ 29) from by omega) (show ∀ t, Ch (fP (c 9) (c 10) (c 11) (c 13) (i 8).toInt) w.toInt t → Ch (fP (c 9) (c 10) (c 11) (c 13) (i 8).toInt) w.toInt t from fun _ h9 => h9) (show w.toInt = -9 ∨ (0 ≤ w.toInt ∧ w.toInt < (i 5).toInt) from by omega) (Nat.lt_succ_self _) _ _ _ hP hD hS (lv_sub hl [0, 1, 2] rfl)
    · have f4 := (ti_eq (a := r3.toInt) (b := 0) rfl (by decide)).mp c4
      have s4 := sm_f hr3_0 c4
      refine lv_aload_n hx hb dX12_begin_19 rfl (lv_at hl 0 rfl) ?_
      refine lv_iconst (v := 3) hx hb dX12_begin_20 (by decide) ?_
      refine al_calli (va_runV (As := [.int 3]) (rest := []) ⟨hx, hb, hml, hown, hts⟩ (s_X12_meets l D H.size o a t i q c d 3 hI (show 1 ≤ 3 ∧ 3 ≤ 6 from by have h90 : (3 : Int32).toInt = 3 := (by decide); omega)) (cwV 1 hts gm_X12_begin_X12_meets rfl rfl rfl (by decide +kernel) ⟨Nat.le_of_ble_eq_true rfl, Nat.le_of_ble_eq_true rfl⟩) (pB_V hK hP hD (ci := 12) (q0 := 0) rfl rfl) rfl rfl hl.1 rfl (lv_room (Nat.le_of_ble_eq_true rfl)) dX12_begin_21 ⟨Nat.le_of_ble_eq_true rfl, Nat.le_of_ble_eq_true rfl⟩) hS hA hP hD (fun r39 u39 H locs hw39 hP hD hS => ?_)
      obtain ⟨i39, q39, c39, d39⟩ := u39
      have hw39 : r39 = (-3) ∧ mInv i39 c39 ∧ (∀ k, k ∉ ([0] : List Nat) → i39 k = i k) ∧ (∀ k, k ∉ ([1] : List Nat) → c39 k = c k) := hw39
      obtain ⟨hw39, hI, hei39, hec39⟩ := hw39
      have hfi : ∀ k, k ∉ ([0] : List Nat) → i39 k = i k := fr_z hfi hei39 (by decide) (by decide)
      have hfc : ∀ k, k ∉ ([1] : List Nat) → c39 k = c k := fr_z hfc hec39 (by decide) (by decide)
      have hP : va_P D vwCl (mW o a t i39 q39 c39 d39) H := hP
      have hD : va_D A (mW o a t i39 q39 c39 d39) := hD
      have hw39 : r39 = (-3) := hw39
      subst hw39
      exact rw_iret (i39, q39, c39, d39) hx hb hr hlocks hS (hK.sub (tys' := []) [] rfl) hP hD dX12_begin_24 ⟨trivial, hI, fr_w hfi (by decide), fr_w hfc (by decide), (show SJ (c39 3) (c39 6) (c39 9) (c39 10) (c39 11) (c39 13) ((i39 2) : Int32).toInt ((i39 5) : Int32).toInt ((i39 8) : Int32).toInt from by rw [show c39 3 = c 3 from hfc 3 (by decide), show c39 6 = c 6 from hfc 6 (by decide), show c39 9 = c 9 from hfc 9 (by decide), show c39 10 = c 10 from hfc 10 (by decide), show c39 11 = c 11 from hfc 11 (by decide), show c39 13 = c 13 from hfc 13 (by decide), show i39 2 = i 2 from hfi 2 (by decide), show i39 5 = i 5 from hfi 5 (by decide), show i39 8 = i 8 from hfi 8 (by decide)]; exact hs_S), (show TJ (c39 3) (c39 6) (c39 23) (c39 24) (c39 29) (c39 30) ((i39 5) : Int32).toInt ((i39 22) : Int32).toInt ((i39 27) : Int32).toInt from by rw [show c39 3 = c 3 from hfc 3 (by decide), show c39 6 = c 6 from hfc 6 (by decide), show c39 23 = c 23 from hfc 23 (by decide), show c39 24 = c 24 from hfc 24 (by decide), show c39 29 = c 29 from hfc 29 (by decide), show c39 30 = c 30 from hfc 30 (by decide), show i39 5 = i 5 from hfi 5 (by decide), show i39 22 = i 22 from hfi 22 (by decide), show i39 27 = i 27 from hfi 27 (by decide)]; exact hs_J)⟩
  · have f2 := fl_f hw1 c2
    refine lv_iconst (v := (-1)) hx hb dX12_begin_8 (by decide) ?_
    exact rw_iret (i, q, c, d) hx hb hr hlocks hS (hK.sub (tys' := []) [] rfl) hP hD dX12_begin_9 ⟨trivial, hI, fr_w hfi (by decide), fr_w hfc (by decide), (show SJ (c 3) (c 6) (c 9) (c 10) (c 11) (c 13) ((i 2) : Int32).toInt ((i 5) : Int32).toInt ((i 8) : Int32).toInt from hs_S), (show TJ (c 3) (c 6) (c 23) (c 24) (c 29) (c 30) ((i 5) : Int32).toInt ((i 22) : Int32).toInt ((i 27) : Int32).toInt from hs_J)⟩

