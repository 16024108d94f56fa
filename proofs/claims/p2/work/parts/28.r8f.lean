def wm_X12_digest : List Cond := .code yX12_digest cX12_digest 6 (some .long) :: (([.constantLong RX12 453 (17), .fieldLink RX12 151 "TalePlayModel" "kinds" "I", .fieldLink RX12 155 "TalePlayModel" "player" "I", .fieldLink RX12 177 "TalePlayModel" "objects" "I", .fieldLink RX12 202 "TalePlayModel" "sentences" "I", .constantLong RX12 455 (31), .methodLink RX12 457 yX12_sentence, .instanceMethod yX12_sentence, .selects RX12 yX12_sentence yX12_sentence, .initialized RX12, .code yX12_sentence cX12_sentence 3 (some .int), .methodLink RX12 166 yX12_in, .static yX12_in, .code yX12_in cX12_in 6 (some .boolean), .constantLong RX12 252 (4), .fieldLink RX12 37 "TalePlayModel" "isSaid" "[Z", .fieldLink RX12 34 "TalePlayModel" "right" "[I", .fieldLink RX12 31 "TalePlayModel" "middle" "[I", .fieldLink RX12 28 "TalePlayModel" "left" "[I", .fieldLink RX12 25 "TalePlayModel" "form" "[I", .fieldLink RX12 19 "TalePlayModel" "kindOf" "[I", .fieldLink RX12 22 "TalePlayModel" "sizeOf" "[I", .methodLink RX12 208 yX12_placing, .instanceMethod yX12_placing, .selects RX12 yX12_placing yX12_placing, .code yX12_placing cX12_placing 3 (some .int), .methodLink RX12 407 yX12_told, .instanceMethod yX12_told, .selects RX12 yX12_told yX12_told, .code yX12_told cX12_told 3 (some .int), .methodLink RX12 404 yX12_roomOf, .instanceMethod yX12_roomOf, .selects RX12 yX12_roomOf yX12_roomOf, .code yX12_roomOf cX12_roomOf 3 (some .int), .methodLink RX12 184 yX12_isOf, .instanceMethod yX12_isOf, .selects RX12 yX12_isOf yX12_isOf, .code yX12_isOf cX12_isOf 4 (some .boolean), .fieldLink RX12 13 "TalePlayModel" "parentOf" "[I", .fieldLink RX12 50 "TalePlayModel" "nForm" "[I", .fieldLink RX12 53 "TalePlayModel" "nAt" "[I", .methodLink RX12 191 yX12_isShutter, .instanceMethod yX12_isShutter, .selects RX12 yX12_isShutter yX12_isShutter, .code yX12_isShutter cX12_isShutter 2 (some .boolean), .fieldLink RX12 56 "TalePlayModel" "nOpen" "[Z", .fieldLink RX12 59 "TalePlayModel" "nLocked" "[Z", .fieldLink RX12 86 "TalePlayModel" "seen" "[Z", .fieldLink RX12 89 "TalePlayModel" "reached" "[Z", .methodLink RX12 392 yX12_lookAtKinds, .instanceMethod yX12_lookAtKinds, .selects RX12 yX12_lookAtKinds yX12_lookAtKinds, .code yX12_lookAtKinds cX12_lookAtKinds 2 none, .fieldLink RX12 92 "TalePlayModel" "lit" "[Z", .methodLink RX12 256 yX12_saidFlag, .instanceMethod yX12_saidFlag, .selects RX12 yX12_saidFlag yX12_saidFlag, .code yX12_saidFlag cX12_saidFlag 4 (some .int), .methodLink RX12 216 yX12_saidSo, .instanceMethod yX12_saidSo, .selects RX12 yX12_saidSo yX12_saidSo, .code yX12_saidSo cX12_saidSo 6 (some .int), .fieldLink RX12 16 "TalePlayModel" "defaults" "[I", .fieldLink RX12 98 "TalePlayModel" "isBox" "[Z", .fieldLink RX12 101 "TalePlayModel" "isRoom" "[Z", .fieldLink RX12 104 "TalePlayModel" "isDoor" "[Z", .fieldLink RX12 95 "TalePlayModel" "glass" "[Z", .methodLink RX12 395 yX12_lookAround, .instanceMethod yX12_lookAround, .selects RX12 yX12_lookAround yX12_lookAround, .code yX12_lookAround cX12_lookAround 3 none, .methodLink RX12 331 yX12_shellOf, .instanceMethod yX12_shellOf, .selects RX12 yX12_shellOf yX12_shellOf, .code yX12_shellOf cX12_shellOf 3 (some .int), .methodLink RX12 324 yX12_shuts, .instanceMethod yX12_shuts, .selects RX12 yX12_shuts yX12_shuts, .code yX12_shuts cX12_shuts 3 (some .boolean), .fieldLink RX12 335 "TalePlayModel" "shell" "I", .fieldLink RX12 338 "TalePlayModel" "handShell" "I", .fieldLink RX12 341 "TalePlayModel" "isLight" "Z", .methodLink RX12 344 yX12_isInView, .instanceMethod yX12_isInView, .selects RX12 yX12_isInView yX12_isInView, .code yX12_isInView cX12_isInView 5 (some .boolean), .methodLink RX12 328 yX12_isSide, .instanceMethod yX12_isSide, .selects RX12 yX12_isSide yX12_isSide, .code yX12_isSide cX12_isSide 4 (some .boolean)] : List Cond) ++ wsX120)
set_option maxRecDepth 20000 in
theorem gm_X12_digest_X12_sentence : GoodIn wm_X12_digest (wsV RX12 457 RX12 yX12_sentence wm_X12_sentence) := goodIn_app (goodIn_of _ (by decide +kernel)) (goodIn_r _ [11, 5, 12, 13, 10, 14, 15, 16, 17, 18, 19, 20, 91, 92, 93, 94, 95, 96, 97, 98, 99, 100, 101, 102, 103, 104, 105, 106, 107, 108, 109, 110, 111, 112, 113, 114, 115, 116, 117, 118, 119, 120, 121, 122, 123, 124, 125, 126, 127, 128, 129, 130, 131, 132, 133, 134, 135, 136, 137, 138, 139, 140, 141, 142, 143, 144, 145, 146, 147, 148, 149, 150, 151, 152, 153, 154, 155, 156, 157, 158, 159] (by decide +kernel) (by decide +kernel))
set_option maxRecDepth 20000 in
theorem gm_X12_digest_X12_placing : GoodIn wm_X12_digest (wsV RX12 208 RX12 yX12_placing wm_X12_placing) := goodIn_app (goodIn_of _ (by decide +kernel)) (goodIn_r _ [26, 5, 16, 20, 19, 91, 92, 93, 94, 95, 96, 97, 98, 99, 100, 101, 102, 103, 104, 105, 106, 107, 108, 109, 110, 111, 112, 113, 114, 115, 116, 117, 118, 119, 120, 121, 122, 123, 124, 125, 126, 127, 128, 129, 130, 131, 132, 133, 134, 135, 136, 137, 138, 139, 140, 141, 142, 143, 144, 145, 146, 147, 148, 149, 150, 151, 152, 153, 154, 155, 156, 157, 158, 159] (by decide +kernel) (by decide +kernel))
set_option maxRecDepth 20000 in
theorem gm_X12_digest_X12_told : GoodIn wm_X12_digest (wsV RX12 407 RX12 yX12_told wm_X12_told) := goodIn_app (goodIn_of _ (by decide +kernel)) (goodIn_r _ [30, 31, 32, 33, 10, 34, 35, 36, 37, 38, 21, 39, 40, 41, 42, 43, 44, 45, 46, 47, 48, 49, 91, 92, 93, 94, 95, 96, 97, 98, 99, 100, 101, 102, 103, 104, 105, 106, 107, 108, 109, 110, 111, 112, 113, 114, 115, 116, 117, 118, 119, 120, 121, 122, 123, 124, 125, 126, 127, 128, 129, 130, 131, 132, 133, 134, 135, 136, 137, 138, 139, 140, 141, 142, 143, 144, 145, 146, 147, 148, 149, 150, 151, 152, 153, 154, 155, 156, 157, 158, 159] (by decide +kernel) (by decide +kernel))
set_option maxRecDepth 20000 in
theorem gm_X12_digest_X12_lookAtKinds : GoodIn wm_X12_digest (wsV RX12 392 RX12 yX12_lookAtKinds wm_X12_lookAtKinds) := goodIn_app (goodIn_of _ (by decide +kernel)) (goodIn_r _ [53, 4, 54, 55, 56, 57, 10, 58, 59, 60, 61, 62, 5, 16, 20, 19, 18, 17, 21, 35, 36, 37, 38, 39, 63, 64, 65, 66, 67, 91, 92, 93, 94, 95, 96, 97, 98, 99, 100, 101, 102, 103, 104, 105, 106, 107, 108, 109, 110, 111, 112, 113, 114, 115, 116, 117, 118, 119, 120, 121, 122, 123, 124, 125, 126, 127, 128, 129, 130, 131, 132, 133, 134, 135, 136, 137, 138, 139, 140, 141, 142, 143, 144, 145, 146, 147, 148, 149, 150, 151, 152, 153, 154, 155, 156, 157, 158, 159] (by decide +kernel) (by decide +kernel))
set_option maxRecDepth 20000 in
theorem gm_X12_digest_X12_lookAround : GoodIn wm_X12_digest (wsV RX12 395 RX12 yX12_lookAround wm_X12_lookAround) := goodIn_app (goodIn_of _ (by decide +kernel)) (goodIn_r _ [71, 72, 73, 74, 10, 75, 41, 3, 65, 76, 77, 78, 79, 64, 46, 67, 80, 81, 82, 4, 48, 49, 83, 84, 85, 86, 66, 40, 87, 88, 89, 90, 5, 16, 20, 18, 19, 54, 91, 92, 93, 94, 95, 96, 97, 98, 99, 100, 101, 102, 103, 104, 105, 106, 107, 108, 109, 110, 111, 112, 113, 114, 115, 116, 117, 118, 119, 120, 121, 122, 123, 124, 125, 126, 127, 128, 129, 130, 131, 132, 133, 134, 135, 136, 137, 138, 139, 140, 141, 142, 143, 144, 145, 146, 147, 148, 149, 150, 151, 152, 153, 154, 155, 156, 157, 158, 159] (by decide +kernel) (by decide +kernel))
set_option maxHeartbeats 4000000 in
set_option maxRecDepth 100000 in
theorem s_X12_digest (l : Launch) (D : va_G) (sz : Nat) (o : Nat) (a : Nat → Nat) (t : Nat → ClassId) (i : Nat → Int32) (q : Int64) (c : Nat → Nat → Int32) (d : Nat → Nat → Int64) (hI : mInv i c) (hs_S : SJ (c 3) (c 6) (c 9) (c 10) (c 11) (c 13) (i 2).toInt (i 5).toInt (i 8).toInt) (hs_J : TJ (c 3) (c 6) (c 23) (c 24) (c 29) (c 30) (i 5).toInt (i 22).toInt (i 27).toInt) : Met l yX12_digest wm_X12_digest ({ frames := 3, cells := 0, slots := 0, locals := 69 }) (va_Pc [.ref o] (pB D sz (mW o a t i q c d) (mT t))) (va_Ql (fun (r : Int64) (u : MS) => True ∧ mInv u.1 u.2.2.1 ∧ (∀ k, k ∉ ([40, 41, 42] : List Nat) → u.1 k = i k) ∧ (∀ k, k ∉ ([43, 44, 45, 46, 47, 48, 49] : List Nat) → u.2.2.1 k = c k)) (oC D (va_A (mW o a t i q c d) sz) (fun u : MS => mW o a t u.1 u.2.1 u.2.2.1 u.2.2.2) (fun _ => [])) (va_A (mW o a t i q c d) sz)) 0 0 (va_A (mW o a t i q c d) sz) := by
  refine Met.ofW (cc := cX12_digest) (maxL := 6) (ret := (some .long)) (by decide) rfl ?_
  intro p e s m args below meth cd s₁ B hml hv
  obtain ⟨rfl, hsz, hP, hK, hD0⟩ := hv
  have hx := B.exec
  have hb := B.bytes
  have hr := B.returns
  have hts := atoms_spec (ws := wm_X12_digest) B.pre
  have hown : s.vm.findClass RX12 = some m.cls := findClass_of_methodNamed B.named
  have hlocks := B.notSynchronized
  subst hsz
  have hD := hD0.self (sz := s.heap.size)
  generalize hAe : va_A (mW o a t i q c d) s.heap.size = A at hD ⊢
  have hA : ∀ q : Nat, s.heap.size ≤ q → A q := fun q h => by rw [← hAe]; exact Or.inr h
  have hS : va_S A s.heap s.heap [] := va_S.rf
  have hfi : ∀ k, k ∉ ([] : List Nat) → i k = i k := fun _ _ => rfl
  have hfc : ∀ k, k ∉ ([] : List Nat) → c k = c k := fun _ _ => rfl
  have hl := lv_entry ([.ref o]) (n := 6) (Nat.le_of_ble_eq_true rfl)
  rw [lg_entry_eq]
  generalize (lg_sl ([.ref o]) ++ List.replicate (6 - (lg_sl ([.ref o])).length) Slot.unset).toArray = ls at hl ⊢
  have hl : lv_has ls 6 [(0, .ref o)] := hl
  have rb5_i : 0 ≤ (i 5).toInt ∧ (i 5).toInt ≤ 30 := hI.1 5
  have rb22_i : (i 22).toInt = -9 ∨ (0 ≤ (i 22).toInt ∧ (i 22).toInt ≤ 29) := hI.1 22
  refine lv_ldc2 (v := 17) hx hb hown (hts (.constantLong RX12 453 (17)) (by decide +kernel)) dX12_digest_0 ?_
  refine lv_lstore_n (lv' := [(1, .long 17), (0, .ref o)]) hx hb dX12_digest_3 rfl hl (by decide) rfl (fun ls hl => ?_)
  refine lv_iconst (v := 0) hx hb dX12_digest_4 (by decide) ?_
  refine lv_istore_n (lv' := [(3, .int 0), (1, .long 17), (0, .ref o)]) hx hb dX12_digest_5 rfl hl (by decide) rfl (fun ls hl => ?_)
  have lp1 : ∀ (fu : Nat) (y1_3 : Int32) (y1_1 : Int64), (0 ≤ y1_3.toInt ∧ y1_3.toInt ≤ 24) → (24 - y1_3.toInt).toNat < fu → ∀ (H : Heap) (locs : List Loc) (ls : Array Slot), va_P D vwCl (mW o a t i q c d) H → va_D A (mW o a t i q c d) → va_S A s.heap H locs → lv_has ls 6 [(3, .int y1_3), (1, .long y1_1), (0, .ref o)] → W p l e (headSpec wm_X12_digest ({ frames := 3, cells := 0, slots := 0, locals := 69 })).room s m ([.ref o] : List Value).toArray below meth cd H locs 0 0 (MQ below (va_Ql (fun (r : Int64) (u : MS) => True ∧ mInv u.1 u.2.2.1 ∧ (∀ k, k ∉ ([40, 41, 42] : List Nat) → u.1 k = i k) ∧ (∀ k, k ∉ ([43, 44, 45, 46, 47, 48, 49] : List Nat) → u.2.2.1 k = c k)) (oC D A (fun u : MS => mW o a t u.1 u.2.1 u.2.2.1 u.2.2.2) (fun _ => [])) A) ([.ref o] : List Value).toArray s 0 0 A) (F0 m 6 ls []) := by
    intro fu
    induction fu with
    | zero => intro y1_3 y1_1 hy1_3 hm; exact absurd hm (Nat.not_lt_zero _)
    | succ fu ih =>
      intro y1_3 y1_1 hy1_3 hm H locs ls hP hD hS hl
      have ih1 := ih
      refine lv_iload_n hx hb dX12_digest_6 rfl (lv_at hl 0 rfl) ?_
      refine lv_aload_n hx hb dX12_digest_7 rfl (lv_at hl 2 rfl) ?_
      refine mget_2 (v := (i 2)) rfl hx hb hts (fun _ h => List.mem_cons_of_mem _ (List.mem_append_right _ h)) hown hK hP (hts (.fieldLink RX12 151 "TalePlayModel" "kinds" "I") (by decide +kernel)) dX12_digest_8 ?_
      have rb2_i : 6 ≤ (i 2).toInt ∧ (i 2).toInt ≤ 24 := hI.1 2
      refine lv_icmp_ge (tgt := 70) hx hb dX12_digest_11 (by decide) (fun c2 => ?_) (fun c2 => ?_)
      · have f2 := (ti_le (a := (i 2).toInt) (b := y1_3.toInt) rfl rfl).mp c2
        refine lv_aload_n hx hb dX12_digest_70 rfl (lv_at hl 2 rfl) ?_
        refine mget_22 (v := (i 22)) rfl hx hb hts (fun _ h => List.mem_cons_of_mem _ (List.mem_append_right _ h)) hown hK hP (hts (.fieldLink RX12 155 "TalePlayModel" "player" "I") (by decide +kernel)) dX12_digest_71 ?_
        refine lv_bipush (v := (-9)) hx hb dX12_digest_74 (by decide) ?_
        have jn3 : ∀ (i3 : Nat → Int32) (q3 : Int64) (c3 : Nat → Nat → Int32) (d3 : Nat → Nat → Int64), mInv i3 c3 → (∀ k, k ∉ ([40, 41, 42] : List Nat) → i3 k = i k) → (∀ k, k ∉ ([43, 44, 45, 46, 47, 48, 49] : List Nat) → c3 k = c k) → ∀ (H : Heap) (locs : List Loc) (ls : Array Slot), va_P D vwCl (mW o a t i3 q3 c3 d3) H → va_D A (mW o a t i3 q3 c3 d3) → va_S A s.heap H locs → lv_has ls 6 [(3, .int y1_3), (1, .long y1_1), (0, .ref o)] → W p l e (headSpec wm_X12_digest ({ frames := 3, cells := 0, slots := 0, locals := 69 })).room s m ([.ref o] : List Value).toArray below meth cd H locs 0 0 (MQ below (va_Ql (fun (r : Int64) (u : MS) => True ∧ mInv u.1 u.2.2.1 ∧ (∀ k, k ∉ ([40, 41, 42] : List Nat) → u.1 k = i k) ∧ (∀ k, k ∉ ([43, 44, 45, 46, 47, 48, 49] : List Nat) → u.2.2.1 k = c k)) (oC D A (fun u : MS => mW o a t u.1 u.2.1 u.2.2.1 u.2.2.2) (fun _ => [])) A) ([.ref o] : List Value).toArray s 0 0 A) (F0 m 87 ls []) := by
          intro i3 q3 c3 d3 hI hfi hfc H locs ls hP hD hS hl
          refine lv_iconst (v := 0) hx hb dX12_digest_87 (by decide) ?_
          refine lv_istore_n (lv' := [(3, .int 0), (1, .long y1_1), (0, .ref o)]) hx hb dX12_digest_88 rfl hl (by decide) rfl (fun ls hl => ?_)
          have lp4 : ∀ (fu : Nat) (y4_3 : Int32) (y4_1 : Int64), (0 ≤ y4_3.toInt ∧ y4_3.toInt ≤ 30 ∧ y4_3.toInt ≤ (i 5).toInt) → (30 - y4_3.toInt).toNat < fu → ∀ (H : Heap) (locs : List Loc) (ls : Array Slot), va_P D vwCl (mW o a t i3 q3 c3 d3) H → va_D A (mW o a t i3 q3 c3 d3) → va_S A s.heap H locs → lv_has ls 6 [(3, .int y4_3), (1, .long y4_1), (0, .ref o)] → W p l e (headSpec wm_X12_digest ({ frames := 3, cells := 0, slots := 0, locals := 69 })).room s m ([.ref o] : List Value).toArray below meth cd H locs 0 0 (MQ below (va_Ql (fun (r : Int64) (u : MS) => True ∧ mInv u.1 u.2.2.1 ∧ (∀ k, k ∉ ([40, 41, 42] : List Nat) → u.1 k = i k) ∧ (∀ k, k ∉ ([43, 44, 45, 46, 47, 48, 49] : List Nat) → u.2.2.1 k = c k)) (oC D A (fun u : MS => mW o a t u.1 u.2.1 u.2.2.1 u.2.2.2) (fun _ => [])) A) ([.ref o] : List Value).toArray s 0 0 A) (F0 m 89 ls []) := by
            intro fu
            induction fu with
            | zero => intro y4_3 y4_1 hy4_3 hm; exact absurd hm (Nat.not_lt_zero _)
            | succ fu ih =>
              intro y4_3 y4_1 hy4_3 hm H locs ls hP hD hS hl
              have ih4 := ih
              refine lv_iload_n hx hb dX12_digest_89 rfl (lv_at hl 0 rfl) ?_
              refine lv_aload_n hx hb dX12_digest_90 rfl (lv_at hl 2 rfl) ?_
              refine mget_5 (v := (i3 5)) rfl hx hb hts (fun _ h => List.mem_cons_of_mem _ (List.mem_append_right _ h)) hown hK hP (hts (.fieldLink RX12 177 "TalePlayModel" "objects" "I") (by decide +kernel)) dX12_digest_91 ?_
              have rb5_i3 : 0 ≤ (i3 5).toInt ∧ (i3 5).toInt ≤ 30 := hI.1 5
              have re5_i3 : (i3 5).toInt = (i 5).toInt := congrArg Int32.toInt (hfi 5 (by decide))
              refine lv_icmp_ge (tgt := 228) hx hb dX12_digest_94 (by decide) (fun c5 => ?_) (fun c5 => ?_)
              · have f5 := (ti_le (a := (i3 5).toInt) (b := y4_3.toInt) rfl rfl).mp c5
                refine lv_iconst (v := 0) hx hb dX12_digest_228 (by decide) ?_
                refine lv_istore_n (lv' := [(3, .int 0), (1, .long y4_1), (0, .ref o)]) hx hb dX12_digest_229 rfl hl (by decide) rfl (fun ls hl => ?_)
                have lp6 : ∀ (fu : Nat) (y6_3 : Int32) (y6_1 : Int64), (0 ≤ y6_3.toInt ∧ y6_3.toInt ≤ 200) → (200 - y6_3.toInt).toNat < fu → ∀ (H : Heap) (locs : List Loc) (ls : Array Slot), va_P D vwCl (mW o a t i3 q3 c3 d3) H → va_D A (mW o a t i3 q3 c3 d3) → va_S A s.heap H locs → lv_has ls 6 [(3, .int y6_3), (1, .long y6_1), (0, .ref o)] → W p l e (headSpec wm_X12_digest ({ frames := 3, cells := 0, slots := 0, locals := 69 })).room s m ([.ref o] : List Value).toArray below meth cd H locs 0 0 (MQ below (va_Ql (fun (r : Int64) (u : MS) => True ∧ mInv u.1 u.2.2.1 ∧ (∀ k, k ∉ ([40, 41, 42] : List Nat) → u.1 k = i k) ∧ (∀ k, k ∉ ([43, 44, 45, 46, 47, 48, 49] : List Nat) → u.2.2.1 k = c k)) (oC D A (fun u : MS => mW o a t u.1 u.2.1 u.2.2.1 u.2.2.2) (fun _ => [])) A) ([.ref o] : List Value).toArray s 0 0 A) (F0 m 230 ls []) := by
                  intro fu
                  induction fu with
                  | zero => intro y6_3 y6_1 hy6_3 hm; exact absurd hm (Nat.not_lt_zero _)
                  | succ fu ih =>
                    intro y6_3 y6_1 hy6_3 hm H locs ls hP hD hS hl
                    have ih6 := ih
                    refine lv_iload_n hx hb dX12_digest_230 rfl (lv_at hl 0 rfl) ?_
                    refine lv_aload_n hx hb dX12_digest_231 rfl (lv_at hl 2 rfl) ?_
                    refine mget_8 (v := (i3 8)) rfl hx hb hts (fun _ h => List.mem_cons_of_mem _ (List.mem_append_right _ h)) hown hK hP (hts (.fieldLink RX12 202 "TalePlayModel" "sentences" "I") (by decide +kernel)) dX12_digest_232 ?_
                    have rb8_i3 : 0 ≤ (i3 8).toInt ∧ (i3 8).toInt ≤ 200 := hI.1 8
                    have re8_i3 : (i3 8).toInt = (i 8).toInt := congrArg Int32.toInt (hfi 8 (by decide))
                    refine lv_icmp_ge (tgt := 274) hx hb dX12_digest_235 (by decide) (fun c7 => ?_) (fun c7 => ?_)
                    · have f7 := (ti_le (a := (i3 8).toInt) (b := y6_3.toInt) rfl rfl).mp c7
                      refine lv_lload_n hx hb dX12_digest_274 rfl (lv_at hl 1 rfl) ?_
                      exact rw_lret (i3, q3, c3, d3) hx hb hr hlocks hS (hK.sub (tys' := []) [] rfl) hP hD dX12_digest_275 ⟨trivial, hI, fr_w hfi (by decide), fr_w hfc (by decide)⟩
                    · have f7 := mt (ti_le (a := (i3 8).toInt) (b := y6_3.toInt) rfl rfl).mpr c7
                      refine lv_iconst (v := 0) hx hb dX12_digest_238 (by decide) ?_
                      refine lv_istore (lv' := [(4, .int 0), (3, .int y6_3), (1, .long y6_1), (0, .ref o)]) hx hb dX12_digest_239 hl (by decide) rfl (fun ls hl => ?_)
                      have lp8 : ∀ (fu : Nat) (y8_4 : Int32) (y8_1 : Int64), (0 ≤ y8_4.toInt ∧ y8_4.toInt ≤ 5) → (5 - y8_4.toInt).toNat < fu → ∀ (H : Heap) (locs : List Loc) (ls : Array Slot), va_P D vwCl (mW o a t i3 q3 c3 d3) H → va_D A (mW o a t i3 q3 c3 d3) → va_S A s.heap H locs → lv_has ls 6 [(4, .int y8_4), (3, .int y6_3), (1, .long y8_1), (0, .ref o)] → W p l e (headSpec wm_X12_digest ({ frames := 3, cells := 0, slots := 0, locals := 69 })).room s m ([.ref o] : List Value).toArray below meth cd H locs 0 0 (MQ below (va_Ql (fun (r : Int64) (u : MS) => True ∧ mInv u.1 u.2.2.1 ∧ (∀ k, k ∉ ([40, 41, 42] : List Nat) → u.1 k = i k) ∧ (∀ k, k ∉ ([43, 44, 45, 46, 47, 48, 49] : List Nat) → u.2.2.1 k = c k)) (oC D A (fun u : MS => mW o a t u.1 u.2.1 u.2.2.1 u.2.2.2) (fun _ => [])) A) ([.ref o] : List Value).toArray s 0 0 A) (F0 m 241 ls []) := by
                        intro fu
                        induction fu with
                        | zero => intro y8_4 y8_1 hy8_4 hm; exact absurd hm (Nat.not_lt_zero _)
                        | succ fu ih =>
                          intro y8_4 y8_1 hy8_4 hm H locs ls hP hD hS hl
                          have ih8 := ih
                          refine lv_iload hx hb dX12_digest_241 (lv_at hl 0 rfl) ?_
                          refine lv_iconst (v := 5) hx hb dX12_digest_243 (by decide) ?_
                          refine lv_icmp_ge (tgt := 268) hx hb dX12_digest_244 (by decide) (fun c9 => ?_) (fun c9 => ?_)
                          · have f9 := (ti_le (a := 5) (b := y8_4.toInt) (by decide) rfl).mp c9
                            obtain ⟨x10, ex10⟩ : ∃ y : Int32, y = y6_3 + 1 := ⟨_, rfl⟩
                            have tx10 := ti_add (a := y6_3.toInt) (b := 1) ex10 rfl (by decide) (by omega) (by omega)
                            refine lv_iinc (v := x10) (lv' := [(3, .int x10), (4, .int y8_4), (1, .long y8_1), (0, .ref o)]) hx hb dX12_digest_268 hl (k := 1) rfl (by rw [ex10]; rfl) (by decide) rfl (fun ls hl => ?_)
                            refine lv_goto (tgt := 230) hx hb dX12_digest_271 (by decide) ?_
                            exact ih6 x10 y8_1 (show 0 ≤ x10.toInt ∧ x10.toInt ≤ 200 from by have h50 : x10.toInt = (y6_3.toInt + 1) := tx10; omega) (by have h50 : x10.toInt = (y6_3.toInt + 1) := tx10; omega) _ _ _ hP hD hS (lv_sub hl [0, 2, 3] rfl)
                          · have f9 := mt (ti_le (a := 5) (b := y8_4.toInt) (by decide) rfl).mpr c9
                            refine lv_ldc2 (v := 31) hx hb hown (hts (.constantLong RX12 455 (31)) (by decide +kernel)) dX12_digest_247 ?_
                            refine lv_lload_n hx hb dX12_digest_250 rfl (lv_at hl 2 rfl) ?_
                            refine lv_lmul hx hb dX12_digest_251 ?_
                            refine lv_topl (fun x11 ex11 => ?_)
                            refine lv_aload_n hx hb dX12_digest_252 rfl (lv_at hl 3 rfl) ?_
                            refine lv_iload_n hx hb dX12_digest_253 rfl (lv_at hl 1 rfl) ?_
                            refine lv_iload hx hb dX12_digest_254 (lv_at hl 0 rfl) ?_
                            refine ro_calli (va_runV (As := [.int y6_3, .int y8_4]) (rest := [.long x11]) ⟨hx, hb, hml, hown, hts⟩ (s_X12_sentence l D H.size o a t i3 q3 c3 d3 y6_3 y8_4 hI ) (cwV 2 hts gm_X12_digest_X12_sentence rfl rfl rfl (by decide +kernel) ⟨Nat.le_of_ble_eq_true rfl, Nat.le_of_ble_eq_true rfl⟩) (pA_V hK hP (ci := 12) (q0 := 0) rfl rfl) rfl rfl hl.1 rfl (lv_room (Nat.le_of_ble_eq_true rfl)) dX12_digest_256 ⟨Nat.le_of_ble_eq_true rfl, Nat.le_of_ble_eq_true rfl⟩) hS hA hP (fun r12 u12 H locs hw12 hP hS => ?_)
                            refine lv_i2l (v := r12.toInt64) hx hb dX12_digest_259 rfl ?_
                            refine lv_ladd hx hb dX12_digest_260 ?_
                            refine lv_topl (fun x13 ex13 => ?_)
                            refine lv_lstore_n (lv' := [(1, .long x13), (4, .int y8_4), (3, .int y6_3), (0, .ref o)]) hx hb dX12_digest_261 rfl hl (by decide) rfl (fun ls hl => ?_)
                            obtain ⟨x14, ex14⟩ : ∃ y : Int32, y = y8_4 + 1 := ⟨_, rfl⟩
                            have tx14 := ti_add (a := y8_4.toInt) (b := 1) ex14 rfl (by decide) (by omega) (by omega)
                            refine lv_iinc (v := x14) (lv' := [(4, .int x14), (1, .long x13), (3, .int y6_3), (0, .ref o)]) hx hb dX12_digest_262 hl (k := 1) rfl (by rw [ex14]; rfl) (by decide) rfl (fun ls hl => ?_)
                            refine lv_goto (tgt := 241) hx hb dX12_digest_265 (by decide) ?_
                            exact ih8 x14 x13 (show 0 ≤ x14.toInt ∧ x14.toInt ≤ 5 from by have h50 : x14.toInt = (y8_4.toInt + 1) := tx14; omega) (by have h50 : x14.toInt = (y8_4.toInt + 1) := tx14; omega) _ _ _ hP hD hS (lv_sub hl [0, 2, 1, 3] rfl)
                      exact lp8 _ (0 : Int32) y6_1 (show 0 ≤ (0 : Int32).toInt ∧ (0 : Int32).toInt ≤ 5 from by have h50 : (0 : Int32).toInt = 0 := (by decide); omega) (Nat.lt_succ_self _) _ _ _ hP hD hS (lv_sub hl [0, 1, 2, 3] rfl)
                exact lp6 _ (0 : Int32) y4_1 (show 0 ≤ (0 : Int32).toInt ∧ (0 : Int32).toInt ≤ 200 from by have h50 : (0 : Int32).toInt = 0 := (by decide); omega) (Nat.lt_succ_self _) _ _ _ hP hD hS (lv_sub hl [0, 1, 2] rfl)
              · have f5 := mt (ti_le (a := (i3 5).toInt) (b := y4_3.toInt) rfl rfl).mpr c5
                refine lv_ldc2 (v := 31) hx hb hown (hts (.constantLong RX12 455 (31)) (by decide +kernel)) dX12_digest_97 ?_
                refine lv_ldc2 (v := 31) hx hb hown (hts (.constantLong RX12 455 (31)) (by decide +kernel)) dX12_digest_100 ?_
                refine lv_lload_n hx hb dX12_digest_103 rfl (lv_at hl 1 rfl) ?_
                refine lv_lmul hx hb dX12_digest_104 ?_
                refine lv_topl (fun x15 ex15 => ?_)
                refine lv_aload_n hx hb dX12_digest_105 rfl (lv_at hl 2 rfl) ?_
                refine mget_6 hx hb hts (fun _ h => List.mem_cons_of_mem _ (List.mem_append_right _ h)) hown hK hP (hts (.fieldLink RX12 19 "TalePlayModel" "kindOf" "[I") (by decide +kernel)) dX12_digest_106 ?_
                refine lv_iload_n hx hb dX12_digest_109 rfl (lv_at hl 0 rfl) ?_
                refine mld_6 hx hb hK hP (vp_in_iff.mpr (by have h9 : y4_3.toInt = y4_3.toInt := rfl; omega)) dX12_digest_110 (fun x16 ex16 => ?_)
                have rx16 : 0 ≤ x16.toInt ∧ x16.toInt ≤ 23 := by rw [ex16]; exact hI.2 6 _
                refine lv_i2l (v := x16.toInt64) hx hb dX12_digest_111 rfl ?_
                refine lv_ladd hx hb dX12_digest_112 ?_
                refine lv_topl (fun x17 ex17 => ?_)
                refine lv_lmul hx hb dX12_digest_113 ?_
                refine lv_topl (fun x18 ex18 => ?_)
                refine lv_aload_n hx hb dX12_digest_114 rfl (lv_at hl 2 rfl) ?_
                refine mget_7 hx hb hts (fun _ h => List.mem_cons_of_mem _ (List.mem_append_right _ h)) hown hK hP (hts (.fieldLink RX12 22 "TalePlayModel" "sizeOf" "[I") (by decide +kernel)) dX12_digest_115 ?_
                refine lv_iload_n hx hb dX12_digest_118 rfl (lv_at hl 0 rfl) ?_
                refine mld_7 hx hb hK hP (vp_in_iff.mpr (by have h9 : y4_3.toInt = y4_3.toInt := rfl; omega)) dX12_digest_119 (fun x19 ex19 => ?_)
                have rx19 : 0 ≤ x19.toInt ∧ x19.toInt ≤ 99 := by rw [ex19]; exact hI.2 7 _
                refine lv_i2l (v := x19.toInt64) hx hb dX12_digest_120 rfl ?_
                refine lv_ladd hx hb dX12_digest_121 ?_
                refine lv_topl (fun x20 ex20 => ?_)
                refine lv_lstore_n (lv' := [(1, .long x20), (3, .int y4_3), (0, .ref o)]) hx hb dX12_digest_122 rfl hl (by decide) rfl (fun ls hl => ?_)
                refine lv_aload_n hx hb dX12_digest_123 rfl (lv_at hl 2 rfl) ?_
                refine lv_iload_n hx hb dX12_digest_124 rfl (lv_at hl 1 rfl) ?_
                have rb8_i3 : 0 ≤ (i3 8).toInt ∧ (i3 8).toInt ≤ 200 := hI.1 8
                have re8_i3 : (i3 8).toInt = (i 8).toInt := congrArg Int32.toInt (hfi 8 (by decide))
                refine ro_calli (va_runV (As := [.int y4_3]) (rest := []) ⟨hx, hb, hml, hown, hts⟩ (s_X12_placing l D H.size o a t i3 q3 c3 d3 y4_3 hI ) (cwV 1 hts gm_X12_digest_X12_placing rfl rfl rfl (by decide +kernel) ⟨Nat.le_of_ble_eq_true rfl, Nat.le_of_ble_eq_true rfl⟩) (pA_V hK hP (ci := 12) (q0 := 0) rfl rfl) rfl rfl hl.1 rfl (lv_room (Nat.le_of_ble_eq_true rfl)) dX12_digest_125 ⟨Nat.le_of_ble_eq_true rfl, Nat.le_of_ble_eq_true rfl⟩) hS hA hP (fun r21 u21 H locs hw21 hP hS => ?_)
                have hw21 : ((r21.toInt = -9 ∨ (0 ≤ r21.toInt ∧ r21.toInt ≤ 199)) ∧ (r21.toInt = pL (c3 9) (c3 10) (c3 13) (i3 8).toInt y4_3.toInt)) := hw21
                obtain ⟨hw21, hr21_0⟩ := hw21
                have hr21_0 : r21.toInt = pL (c 9) (c 10) (c 13) (i 8).toInt y4_3.toInt := by have h9 := hr21_0; rw [show c3 9 = c 9 from hfc 9 (by decide), show c3 10 = c 10 from hfc 10 (by decide), show c3 13 = c 13 from hfc 13 (by decide), show i3 8 = i 8 from hfi 8 (by decide)] at h9; exact h9
                refine lv_istore (lv' := [(4, .int r21), (1, .long x20), (3, .int y4_3), (0, .ref o)]) hx hb dX12_digest_128 hl (by decide) rfl (fun ls hl => ?_)
                refine lv_ldc2 (v := 31) hx hb hown (hts (.constantLong RX12 455 (31)) (by decide +kernel)) dX12_digest_130 ?_
                refine lv_ldc2 (v := 31) hx hb hown (hts (.constantLong RX12 455 (31)) (by decide +kernel)) dX12_digest_133 ?_
                refine lv_lload_n hx hb dX12_digest_136 rfl (lv_at hl 1 rfl) ?_
                refine lv_lmul hx hb dX12_digest_137 ?_
                refine lv_topl (fun x22 ex22 => ?_)
                refine lv_iload hx hb dX12_digest_138 (lv_at hl 0 rfl) ?_
                refine lv_bipush (v := (-9)) hx hb dX12_digest_140 (by decide) ?_
                have jn23 : ∀ (z23_0 : Int32), ∀ (H : Heap) (locs : List Loc) (ls : Array Slot), va_P D vwCl (mW o a t i3 q3 c3 d3) H → va_D A (mW o a t i3 q3 c3 d3) → va_S A s.heap H locs → lv_has ls 6 [(4, .int r21), (1, .long x20), (3, .int y4_3), (0, .ref o)] → W p l e (headSpec wm_X12_digest ({ frames := 3, cells := 0, slots := 0, locals := 69 })).room s m ([.ref o] : List Value).toArray below meth cd H locs 0 0 (MQ below (va_Ql (fun (r : Int64) (u : MS) => True ∧ mInv u.1 u.2.2.1 ∧ (∀ k, k ∉ ([40, 41, 42] : List Nat) → u.1 k = i k) ∧ (∀ k, k ∉ ([43, 44, 45, 46, 47, 48, 49] : List Nat) → u.2.2.1 k = c k)) (oC D A (fun u : MS => mW o a t u.1 u.2.1 u.2.2.1 u.2.2.2) (fun _ => [])) A) ([.ref o] : List Value).toArray s 0 0 A) (F0 m 157 ls [.int z23_0, .long x22, .long 31]) := by
                  intro z23_0 H locs ls hP hD hS hl
                  refine lv_i2l (v := z23_0.toInt64) hx hb dX12_digest_157 rfl ?_
                  refine lv_ladd hx hb dX12_digest_158 ?_
                  refine lv_topl (fun x24 ex24 => ?_)
                  refine lv_lmul hx hb dX12_digest_159 ?_
                  refine lv_topl (fun x25 ex25 => ?_)
                  refine lv_iload hx hb dX12_digest_160 (lv_at hl 0 rfl) ?_
                  refine lv_bipush (v := (-9)) hx hb dX12_digest_162 (by decide) ?_
                  have jn26 : ∀ (z26_0 : Int32), ∀ (H : Heap) (locs : List Loc) (ls : Array Slot), va_P D vwCl (mW o a t i3 q3 c3 d3) H → va_D A (mW o a t i3 q3 c3 d3) → va_S A s.heap H locs → lv_has ls 6 [(4, .int r21), (1, .long x20), (3, .int y4_3), (0, .ref o)] → W p l e (headSpec wm_X12_digest ({ frames := 3, cells := 0, slots := 0, locals := 69 })).room s m ([.ref o] : List Value).toArray below meth cd H locs 0 0 (MQ below (va_Ql (fun (r : Int64) (u : MS) => True ∧ mInv u.1 u.2.2.1 ∧ (∀ k, k ∉ ([40, 41, 42] : List Nat) → u.1 k = i k) ∧ (∀ k, k ∉ ([43, 44, 45, 46, 47, 48, 49] : List Nat) → u.2.2.1 k = c k)) (oC D A (fun u : MS => mW o a t u.1 u.2.1 u.2.2.1 u.2.2.2) (fun _ => [])) A) ([.ref o] : List Value).toArray s 0 0 A) (F0 m 179 ls [.int z26_0, .long x25]) := by
                    intro z26_0 H locs ls hP hD hS hl
                    refine lv_i2l (v := z26_0.toInt64) hx hb dX12_digest_179 rfl ?_
                    refine lv_ladd hx hb dX12_digest_180 ?_
                    refine lv_topl (fun x27 ex27 => ?_)
                    refine lv_lstore_n (lv' := [(1, .long x27), (4, .int r21), (3, .int y4_3), (0, .ref o)]) hx hb dX12_digest_181 rfl hl (by decide) rfl (fun ls hl => ?_)
                    refine lv_iconst (v := 0) hx hb dX12_digest_182 (by decide) ?_
                    refine lv_istore (lv' := [(5, .int 0), (1, .long x27), (4, .int r21), (3, .int y4_3), (0, .ref o)]) hx hb dX12_digest_183 hl (by decide) rfl (fun ls hl => ?_)
                    have lp28 : ∀ (fu : Nat) (y28_5 : Int32) (y28_1 : Int64), (0 ≤ y28_5.toInt ∧ y28_5.toInt ≤ 6) → (6 - y28_5.toInt).toNat < fu → ∀ (H : Heap) (locs : List Loc) (ls : Array Slot), va_P D vwCl (mW o a t i3 q3 c3 d3) H → va_D A (mW o a t i3 q3 c3 d3) → va_S A s.heap H locs → lv_has ls 6 [(5, .int y28_5), (1, .long y28_1), (4, .int r21), (3, .int y4_3), (0, .ref o)] → W p l e (headSpec wm_X12_digest ({ frames := 3, cells := 0, slots := 0, locals := 69 })).room s m ([.ref o] : List Value).toArray below meth cd H locs 0 0 (MQ below (va_Ql (fun (r : Int64) (u : MS) => True ∧ mInv u.1 u.2.2.1 ∧ (∀ k, k ∉ ([40, 41, 42] : List Nat) → u.1 k = i k) ∧ (∀ k, k ∉ ([43, 44, 45, 46, 47, 48, 49] : List Nat) → u.2.2.1 k = c k)) (oC D A (fun u : MS => mW o a t u.1 u.2.1 u.2.2.1 u.2.2.2) (fun _ => [])) A) ([.ref o] : List Value).toArray s 0 0 A) (F0 m 185 ls []) := by
                      intro fu
                      induction fu with
                      | zero => intro y28_5 y28_1 hy28_5 hm; exact absurd hm (Nat.not_lt_zero _)
                      | succ fu ih =>
                        intro y28_5 y28_1 hy28_5 hm H locs ls hP hD hS hl
                        have ih28 := ih
                        refine lv_iload hx hb dX12_digest_185 (lv_at hl 0 rfl) ?_
                        refine lv_bipush (v := 6) hx hb dX12_digest_187 (by decide) ?_
                        have jn29 : ∀ (H : Heap) (locs : List Loc) (ls : Array Slot), va_P D vwCl (mW o a t i3 q3 c3 d3) H → va_D A (mW o a t i3 q3 c3 d3) → va_S A s.heap H locs → lv_has ls 6 [(5, .int y28_5), (1, .long y28_1), (4, .int r21), (3, .int y4_3), (0, .ref o)] → W p l e (headSpec wm_X12_digest ({ frames := 3, cells := 0, slots := 0, locals := 69 })).room s m ([.ref o] : List Value).toArray below meth cd H locs 0 0 (MQ below (va_Ql (fun (r : Int64) (u : MS) => True ∧ mInv u.1 u.2.2.1 ∧ (∀ k, k ∉ ([40, 41, 42] : List Nat) → u.1 k = i k) ∧ (∀ k, k ∉ ([43, 44, 45, 46, 47, 48, 49] : List Nat) → u.2.2.1 k = c k)) (oC D A (fun u : MS => mW o a t u.1 u.2.1 u.2.2.1 u.2.2.2) (fun _ => [])) A) ([.ref o] : List Value).toArray s 0 0 A) (F0 m 222 ls []) := by
                          intro H locs ls hP hD hS hl
                          obtain ⟨x30, ex30⟩ : ∃ y : Int32, y = y4_3 + 1 := ⟨_, rfl⟩
                          have tx30 := ti_add (a := y4_3.toInt) (b := 1) ex30 rfl (by decide) (by omega) (by omega)
                          refine lv_iinc (v := x30) (lv' := [(3, .int x30), (5, .int y28_5), (1, .long y28_1), (4, .int r21), (0, .ref o)]) hx hb dX12_digest_222 hl (k := 3) rfl (by rw [ex30]; rfl) (by decide) rfl (fun ls hl => ?_)
                          refine lv_goto (tgt := 89) hx hb dX12_digest_225 (by decide) ?_
                          exact ih4 x30 y28_1 (show 0 ≤ x30.toInt ∧ x30.toInt ≤ 30 ∧ x30.toInt ≤ (i 5).toInt from by have h50 : x30.toInt = (y4_3.toInt + 1) := tx30; omega) (by have h50 : x30.toInt = (y4_3.toInt + 1) := tx30; omega) _ _ _ hP hD hS (lv_sub hl [0, 2, 4] rfl)
                        refine lv_icmp_ge (tgt := 222) hx hb dX12_digest_189 (by decide) (fun c31 => ?_) (fun c31 => ?_)
                        · have f31 := (ti_le (a := 6) (b := y28_5.toInt) (by decide) rfl).mp c31
                          exact jn29    _ _ _ hP hD hS (lv_sub hl [0, 1, 2, 3, 4] rfl)
                        · have f31 := mt (ti_le (a := 6) (b := y28_5.toInt) (by decide) rfl).mpr c31
                          refine lv_aload_n hx hb dX12_digest_192 rfl (lv_at hl 4 rfl) ?_
                          refine mget_22 (v := (i3 22)) rfl hx hb hts (fun _ h => List.mem_cons_of_mem _ (List.mem_append_right _ h)) hown hK hP (hts (.fieldLink RX12 155 "TalePlayModel" "player" "I") (by decide +kernel)) dX12_digest_193 ?_
                          have rb22_i3 : (i3 22).toInt = -9 ∨ (0 ≤ (i3 22).toInt ∧ (i3 22).toInt ≤ 29) := hI.1 22
                          have re22_i3 : (i3 22).toInt = (i 22).toInt := congrArg Int32.toInt (hfi 22 (by decide))
                          refine lv_bipush (v := (-9)) hx hb dX12_digest_196 (by decide) ?_
                          refine lv_icmp_eq (tgt := 222) hx hb dX12_digest_198 (by decide) (fun c32 => ?_) (fun c32 => ?_)
                          · have f32 := (ti_eq (a := (i3 22).toInt) (b := (-9)) rfl (by decide)).mp c32
                            exact jn29    _ _ _ hP hD hS (lv_sub hl [0, 1, 2, 3, 4] rfl)
                          · have f32 := mt (ti_eq (a := (i3 22).toInt) (b := (-9)) rfl (by decide)).mpr c32
                            have hs_T : TI (i 5).toInt (fun z => Kd (c 3) (c 6) z 0) (i 22).toInt (c 23) (c 24) := (hs_J (by omega)).2.1
                            have hs_P : Kd (c 3) (c 6) (i 22).toInt 5 := (hs_J (by omega)).1
                            have hs_G : Acy (gF (c 9) (c 10) (c 11) (c 13) (c 23) (c 24) (i 8).toInt (i 5).toInt (i 22).toInt) := gF_acy hs_S hs_J
                            refine lv_ldc2 (v := 31) hx hb hown (hts (.constantLong RX12 455 (31)) (by decide +kernel)) dX12_digest_201 ?_
                            refine lv_lload_n hx hb dX12_digest_204 rfl (lv_at hl 1 rfl) ?_
                            refine lv_lmul hx hb dX12_digest_205 ?_
                            refine lv_topl (fun x33 ex33 => ?_)
                            refine lv_aload_n hx hb dX12_digest_206 rfl (lv_at hl 4 rfl) ?_
                            refine lv_iload_n hx hb dX12_digest_207 rfl (lv_at hl 3 rfl) ?_
                            refine lv_iload hx hb dX12_digest_208 (lv_at hl 0 rfl) ?_
                            refine ro_calli (va_runV (As := [.int y4_3, .int y28_5]) (rest := [.long x33]) ⟨hx, hb, hml, hown, hts⟩ (s_X12_told l D H.size o a t i3 q3 c3 d3 y4_3 y28_5 hI (show 0 ≤ y4_3.toInt ∧ y4_3.toInt < ((i3 5) : Int32).toInt from by omega) (by rw [show c3 3 = c 3 from hfc 3 (by decide), show c3 6 = c 6 from hfc 6 (by decide), show c3 23 = c 23 from hfc 23 (by decide), show c3 24 = c 24 from hfc 24 (by decide), show i3 5 = i 5 from hfi 5 (by decide), show i3 22 = i 22 from hfi 22 (by decide)]; exact hs_T)) (cwV 2 hts gm_X12_digest_X12_told rfl rfl rfl (by decide +kernel) ⟨Nat.le_of_ble_eq_true rfl, Nat.le_of_ble_eq_true rfl⟩) (pA_V hK hP (ci := 12) (q0 := 0) rfl rfl) rfl rfl hl.1 rfl (lv_room (Nat.le_of_ble_eq_true rfl)) dX12_digest_210 ⟨Nat.le_of_ble_eq_true rfl, Nat.le_of_ble_eq_true rfl⟩) hS hA hP (fun r34 u34 H locs hw34 hP hS => ?_)
                            refine lv_i2l (v := r34.toInt64) hx hb dX12_digest_213 rfl ?_
                            refine lv_ladd hx hb dX12_digest_214 ?_
                            refine lv_topl (fun x35 ex35 => ?_)
                            refine lv_lstore_n (lv' := [(1, .long x35), (5, .int y28_5), (4, .int r21), (3, .int y4_3), (0, .ref o)]) hx hb dX12_digest_215 rfl hl (by decide) rfl (fun ls hl => ?_)
                            obtain ⟨x36, ex36⟩ : ∃ y : Int32, y = y28_5 + 1 := ⟨_, rfl⟩
                            have tx36 := ti_add (a := y28_5.toInt) (b := 1) ex36 rfl (by decide) (by omega) (by omega)
                            refine lv_iinc (v := x36) (lv' := [(5, .int x36), (1, .long x35), (4, .int r21), (3, .int y4_3), (0, .ref o)]) hx hb dX12_digest_216 hl (k := 1) rfl (by rw [ex36]; rfl) (by decide) rfl (fun ls hl => ?_)
                            refine lv_goto (tgt := 185) hx hb dX12_digest_219 (by decide) ?_
                            exact ih28 x36 x35 (show 0 ≤ x36.toInt ∧ x36.toInt ≤ 6 from by have h50 : x36.toInt = (y28_5.toInt + 1) := tx36; omega) (by have h50 : x36.toInt = (y28_5.toInt + 1) := tx36; omega) _ _ _ hP hD hS (lv_sub hl [0, 1, 2, 3, 4] rfl)
                    exact lp28 _ (0 : Int32) x27 (show 0 ≤ (0 : Int32).toInt ∧ (0 : Int32).toInt ≤ 6 from by have h50 : (0 : Int32).toInt = 0 := (by decide); omega) (Nat.lt_succ_self _) _ _ _ hP hD hS (lv_sub hl [0, 1, 2, 3, 4] rfl)
                  refine lv_icmp_ne (tgt := 172) hx hb dX12_digest_164 (by decide) (fun c37 => ?_) (fun c37 => ?_)
                  · have f37 := mt (ti_eq (a := r21.toInt) (b := (-9)) rfl (by decide)).mpr c37
                    refine lv_aload_n hx hb dX12_digest_172 rfl (lv_at hl 3 rfl) ?_
                    refine mget_11 hx hb hts (fun _ h => List.mem_cons_of_mem _ (List.mem_append_right _ h)) hown hK hP (hts (.fieldLink RX12 31 "TalePlayModel" "middle" "[I") (by decide +kernel)) dX12_digest_173 ?_
                    refine lv_iload hx hb dX12_digest_176 (lv_at hl 0 rfl) ?_
                    refine mld_11 hx hb hK hP (vp_in_iff.mpr (by have h9 : r21.toInt = r21.toInt := rfl; omega)) dX12_digest_178 (fun x38 ex38 => ?_)
                    have rx38 : 0 ≤ x38.toInt ∧ x38.toInt ≤ 29 := by rw [ex38]; exact hI.2 11 _
                    exact jn26  x38  _ _ _ hP hD hS (lv_sub hl [0, 1, 2, 3] rfl)
                  · have f37 := (ti_eq (a := r21.toInt) (b := (-9)) rfl (by decide)).mp c37
                    refine lv_bipush (v := (-9)) hx hb dX12_digest_167 (by decide) ?_
                    refine lv_goto (tgt := 179) hx hb dX12_digest_169 (by decide) ?_
                    exact jn26  ((-9) : Int32)  _ _ _ hP hD hS (lv_sub hl [0, 1, 2, 3] rfl)
                refine lv_icmp_ne (tgt := 150) hx hb dX12_digest_142 (by decide) (fun c39 => ?_) (fun c39 => ?_)
                · have f39 := mt (ti_eq (a := r21.toInt) (b := (-9)) rfl (by decide)).mpr c39
                  refine lv_aload_n hx hb dX12_digest_150 rfl (lv_at hl 3 rfl) ?_
                  refine mget_9 hx hb hts (fun _ h => List.mem_cons_of_mem _ (List.mem_append_right _ h)) hown hK hP (hts (.fieldLink RX12 25 "TalePlayModel" "form" "[I") (by decide +kernel)) dX12_digest_151 ?_
                  refine lv_iload hx hb dX12_digest_154 (lv_at hl 0 rfl) ?_
                  refine mld_9 hx hb hK hP (vp_in_iff.mpr (by have h9 : r21.toInt = r21.toInt := rfl; omega)) dX12_digest_156 (fun x40 ex40 => ?_)
                  have rx40 : 0 ≤ x40.toInt ∧ x40.toInt ≤ 7 := by rw [ex40]; exact hI.2 9 _
                  exact jn23  x40  _ _ _ hP hD hS (lv_sub hl [0, 1, 2, 3] rfl)
                · have f39 := (ti_eq (a := r21.toInt) (b := (-9)) rfl (by decide)).mp c39
                  refine lv_bipush (v := (-9)) hx hb dX12_digest_145 (by decide) ?_
                  refine lv_goto (tgt := 157) hx hb dX12_digest_147 (by decide) ?_
                  exact jn23  ((-9) : Int32)  _ _ _ hP hD hS (lv_sub hl [0, 1, 2, 3] rfl)
          exact lp4 _ (0 : Int32) y1_1 (show 0 ≤ (0 : Int32).toInt ∧ (0 : Int32).toInt ≤ 30 ∧ (0 : Int32).toInt ≤ (i 5).toInt from by have h50 : (0 : Int32).toInt = 0 := (by decide); omega) (Nat.lt_succ_self _) _ _ _ hP hD hS (lv_sub hl [0, 1, 2] rfl)
        refine lv_icmp_eq (tgt := 87) hx hb dX12_digest_76 (by decide) (fun c41 => ?_) (fun c41 => ?_)
        · have f41 := (ti_eq (a := (i 22).toInt) (b := (-9)) rfl (by decide)).mp c41
          exact jn3 i q c d   hI (fr_w hfi (by decide)) (fr_w hfc (by decide)) _ _ _ hP hD hS (lv_sub hl [0, 1, 2] rfl)
        · have f41 := mt (ti_eq (a := (i 22).toInt) (b := (-9)) rfl (by decide)).mpr c41
          have hs_T : TI (i 5).toInt (fun z => Kd (c 3) (c 6) z 0) (i 22).toInt (c 23) (c 24) := (hs_J (by omega)).2.1
          have hs_P : Kd (c 3) (c 6) (i 22).toInt 5 := (hs_J (by omega)).1
          have hs_G : Acy (gF (c 9) (c 10) (c 11) (c 13) (c 23) (c 24) (i 8).toInt (i 5).toInt (i 22).toInt) := gF_acy hs_S hs_J
          refine lv_aload_n hx hb dX12_digest_79 rfl (lv_at hl 2 rfl) ?_
          refine al_callv (va_runV (As := []) (rest := []) ⟨hx, hb, hml, hown, hts⟩ (s_X12_lookAtKinds l D H.size o a t i q c d  hI ) (cwV 0 hts gm_X12_digest_X12_lookAtKinds rfl rfl rfl (by decide +kernel) ⟨Nat.le_of_ble_eq_true rfl, Nat.le_of_ble_eq_true rfl⟩) (pB_V hK hP hD (ci := 12) (q0 := 0) rfl rfl) rfl rfl hl.1 rfl (lv_room (Nat.le_of_ble_eq_true rfl)) dX12_digest_80 ⟨Nat.le_of_ble_eq_true rfl, Nat.le_of_ble_eq_true rfl⟩) hS hA hP hD (fun u42 H locs hw42 hP hD hS => ?_)
          obtain ⟨i42, q42, c42, d42⟩ := u42
          have hw42 : True ∧ mInv i42 c42 ∧ (∀ k, k ∉ ([] : List Nat) → i42 k = i k) ∧ (∀ k, k ∉ ([45, 46, 47, 48, 49] : List Nat) → c42 k = c k) ∧ (Cc (c 3) (c 6) (c42 47) (c42 48) (c42 49) (i 5).toInt) := hw42
          obtain ⟨hw42, hI, hei42, hec42, hxp42_0⟩ := hw42
          have hxp42_0 : Cc (c 3) (c 6) (c42 47) (c42 48) (c42 49) (i 5).toInt := hxp42_0
          have hfi : ∀ k, k ∉ ([] : List Nat) → i42 k = i k := fr_z hfi hei42 (by decide) (by decide)
          have hfc : ∀ k, k ∉ ([45, 46, 47, 48, 49] : List Nat) → c42 k = c k := fr_z hfc hec42 (by decide) (by decide)
          have hP : va_P D vwCl (mW o a t i42 q42 c42 d42) H := hP
          have hD : va_D A (mW o a t i42 q42 c42 d42) := hD
          have hs_C := hxp42_0
          refine lv_aload_n hx hb dX12_digest_83 rfl (lv_at hl 2 rfl) ?_
          have rb5_i42 : 0 ≤ (i42 5).toInt ∧ (i42 5).toInt ≤ 30 := hI.1 5
          have re5_i42 : (i42 5).toInt = (i 5).toInt := congrArg Int32.toInt (hfi 5 (by decide))
          have rb22_i42 : (i42 22).toInt = -9 ∨ (0 ≤ (i42 22).toInt ∧ (i42 22).toInt ≤ 29) := hI.1 22
          have re22_i42 : (i42 22).toInt = (i 22).toInt := congrArg Int32.toInt (hfi 22 (by decide))
          refine al_callv (va_runV (As := []) (rest := []) ⟨hx, hb, hml, hown, hts⟩ (s_X12_lookAround l D H.size o a t i42 q42 c42 d42  hI (by rw [show c42 3 = c 3 from hfc 3 (by decide), show c42 6 = c 6 from hfc 6 (by decide), show c42 23 = c 23 from hfc 23 (by decide), show c42 24 = c 24 from hfc 24 (by decide), show i42 5 = i 5 from hfi 5 (by decide), show i42 22 = i 22 from hfi 22 (by decide)]; exact hs_T) (by rw [show c42 3 = c 3 from hfc 3 (by decide), show c42 6 = c 6 from hfc 6 (by decide), show i42 5 = i 5 from hfi 5 (by decide)]; exact hs_C)) (cwV 0 hts gm_X12_digest_X12_lookAround rfl rfl rfl (by decide +kernel) ⟨Nat.le_of_ble_eq_true rfl, Nat.le_of_ble_eq_true rfl⟩) (pB_V hK hP hD (ci := 12) (q0 := 0) rfl rfl) rfl rfl hl.1 rfl (lv_room (Nat.le_of_ble_eq_true rfl)) dX12_digest_84 ⟨Nat.le_of_ble_eq_true rfl, Nat.le_of_ble_eq_true rfl⟩) hS hA hP hD (fun u43 H locs hw43 hP hD hS => ?_)
          obtain ⟨i43, q43, c43, d43⟩ := u43
          have hw43 : True ∧ mInv i43 c43 ∧ (∀ k, k ∉ ([40, 41, 42] : List Nat) → i43 k = i42 k) ∧ (∀ k, k ∉ ([43, 44] : List Nat) → c43 k = c42 k) ∧ (RQ (c43 44) (c42 49) (nF (i42 5).toInt (c42 23) (c42 24)) (i42 22).toInt (i42 5).toInt) := hw43
          obtain ⟨hw43, hI, hei43, hec43, hxp43_0⟩ := hw43
          have hxp43_0 : RQ (c43 44) (c42 49) (nF (i 5).toInt (c 23) (c 24)) (i 22).toInt (i 5).toInt := by have h9 := hxp43_0; rw [show c42 23 = c 23 from hfc 23 (by decide), show c42 24 = c 24 from hfc 24 (by decide), show i42 5 = i 5 from hfi 5 (by decide), show i42 22 = i 22 from hfi 22 (by decide)] at h9; exact h9
          have hfi : ∀ k, k ∉ ([40, 41, 42] : List Nat) → i43 k = i k := fr_z hfi hei43 (by decide) (by decide)
          have hfc : ∀ k, k ∉ ([43, 44, 45, 46, 47, 48, 49] : List Nat) → c43 k = c k := fr_z hfc hec43 (by decide) (by decide)
          have hP : va_P D vwCl (mW o a t i43 q43 c43 d43) H := hP
          have hD : va_D A (mW o a t i43 q43 c43 d43) := hD
          have hs_C : Cc (c 3) (c 6) (c43 47) (c43 48) (c43 49) (i 5).toInt := by rw [show c43 47 = c42 47 from hec43 47 (by decide), show c43 48 = c42 48 from hec43 48 (by decide), show c43 49 = c42 49 from hec43 49 (by decide)]; exact hs_C
          exact jn3 i43 q43 c43 d43   hI (fr_w hfi (by decide)) (fr_w hfc (by decide)) _ _ _ hP hD hS (lv_sub hl [0, 1, 2] rfl)
      · have f2 := mt (ti_le (a := (i 2).toInt) (b := y1_3.toInt) rfl rfl).mpr c2
        refine lv_ldc2 (v := 31) hx hb hown (hts (.constantLong RX12 455 (31)) (by decide +kernel)) dX12_digest_14 ?_
        refine lv_lload_n hx hb dX12_digest_17 rfl (lv_at hl 1 rfl) ?_
        refine lv_lmul hx hb dX12_digest_18 ?_
        refine lv_topl (fun x44 ex44 => ?_)
        refine lv_aload_n hx hb dX12_digest_19 rfl (lv_at hl 2 rfl) ?_
        refine mget_3 hx hb hts (fun _ h => List.mem_cons_of_mem _ (List.mem_append_right _ h)) hown hK hP (hts (.fieldLink RX12 13 "TalePlayModel" "parentOf" "[I") (by decide +kernel)) dX12_digest_20 ?_
        refine lv_iload_n hx hb dX12_digest_23 rfl (lv_at hl 0 rfl) ?_
        refine mld_3 hx hb hK hP (vp_in_iff.mpr (by have h9 : y1_3.toInt = y1_3.toInt := rfl; omega)) dX12_digest_24 (fun x45 ex45 => ?_)
        have rx45 : ((((y1_3 : Int32).toNatClampNeg : Nat) : Int) ≤ 1 ∧ x45.toInt = -9) ∨ (2 ≤ (((y1_3 : Int32).toNatClampNeg : Nat) : Int) ∧ (((y1_3 : Int32).toNatClampNeg : Nat) : Int) ≤ 5 ∧ x45.toInt = 1) ∨ (6 ≤ (((y1_3 : Int32).toNatClampNeg : Nat) : Int) ∧ 0 ≤ x45.toInt ∧ x45.toInt ≤ 23 ∧ x45.toInt < (((y1_3 : Int32).toNatClampNeg : Nat) : Int)) := by rw [ex45]; exact hI.2 3 _
        have rc45 : (((y1_3 : Int32).toNatClampNeg : Nat) : Int) = (y1_3 : Int32).toInt := cl_nn (by have h9 : y1_3.toInt = y1_3.toInt := rfl; omega)
        refine lv_i2l (v := x45.toInt64) hx hb dX12_digest_25 rfl ?_
        refine lv_ladd hx hb dX12_digest_26 ?_
        refine lv_topl (fun x46 ex46 => ?_)
        refine lv_lstore_n (lv' := [(1, .long x46), (3, .int y1_3), (0, .ref o)]) hx hb dX12_digest_27 rfl hl (by decide) rfl (fun ls hl => ?_)
        refine lv_iconst (v := 0) hx hb dX12_digest_28 (by decide) ?_
        refine lv_istore (lv' := [(4, .int 0), (1, .long x46), (3, .int y1_3), (0, .ref o)]) hx hb dX12_digest_29 hl (by decide) rfl (fun ls hl => ?_)
        have lp47 : ∀ (fu : Nat) (y47_4 : Int32) (y47_1 : Int64), (0 ≤ y47_4.toInt ∧ y47_4.toInt ≤ 6) → (6 - y47_4.toInt).toNat < fu → ∀ (H : Heap) (locs : List Loc) (ls : Array Slot), va_P D vwCl (mW o a t i q c d) H → va_D A (mW o a t i q c d) → va_S A s.heap H locs → lv_has ls 6 [(4, .int y47_4), (1, .long y47_1), (3, .int y1_3), (0, .ref o)] → W p l e (headSpec wm_X12_digest ({ frames := 3, cells := 0, slots := 0, locals := 69 })).room s m ([.ref o] : List Value).toArray below meth cd H locs 0 0 (MQ below (va_Ql (fun (r : Int64) (u : MS) => True ∧ mInv u.1 u.2.2.1 ∧ (∀ k, k ∉ ([40, 41, 42] : List Nat) → u.1 k = i k) ∧ (∀ k, k ∉ ([43, 44, 45, 46, 47, 48, 49] : List Nat) → u.2.2.1 k = c k)) (oC D A (fun u : MS => mW o a t u.1 u.2.1 u.2.2.1 u.2.2.2) (fun _ => [])) A) ([.ref o] : List Value).toArray s 0 0 A) (F0 m 31 ls []) := by
          intro fu
          induction fu with
          | zero => intro y47_4 y47_1 hy47_4 hm; exact absurd hm (Nat.not_lt_zero _)
          | succ fu ih =>
            intro y47_4 y47_1 hy47_4 hm H locs ls hP hD hS hl
            have ih47 := ih
            refine lv_iload hx hb dX12_digest_31 (lv_at hl 0 rfl) ?_
            refine lv_bipush (v := 6) hx hb dX12_digest_33 (by decide) ?_
            refine lv_icmp_ge (tgt := 64) hx hb dX12_digest_35 (by decide) (fun c48 => ?_) (fun c48 => ?_)
            · have f48 := (ti_le (a := 6) (b := y47_4.toInt) (by decide) rfl).mp c48
              obtain ⟨x49, ex49⟩ : ∃ y : Int32, y = y1_3 + 1 := ⟨_, rfl⟩
              have tx49 := ti_add (a := y1_3.toInt) (b := 1) ex49 rfl (by decide) (by omega) (by omega)
              refine lv_iinc (v := x49) (lv' := [(3, .int x49), (4, .int y47_4), (1, .long y47_1), (0, .ref o)]) hx hb dX12_digest_64 hl (k := 2) rfl (by rw [ex49]; rfl) (by decide) rfl (fun ls hl => ?_)
              refine lv_goto (tgt := 6) hx hb dX12_digest_67 (by decide) ?_
              exact ih1 x49 y47_1 (show 0 ≤ x49.toInt ∧ x49.toInt ≤ 24 from by have h50 : x49.toInt = (y1_3.toInt + 1) := tx49; omega) (by have h50 : x49.toInt = (y1_3.toInt + 1) := tx49; omega) _ _ _ hP hD hS (lv_sub hl [0, 2, 3] rfl)
            · have f48 := mt (ti_le (a := 6) (b := y47_4.toInt) (by decide) rfl).mpr c48
              refine lv_ldc2 (v := 31) hx hb hown (hts (.constantLong RX12 455 (31)) (by decide +kernel)) dX12_digest_38 ?_
              refine lv_lload_n hx hb dX12_digest_41 rfl (lv_at hl 1 rfl) ?_
              refine lv_lmul hx hb dX12_digest_42 ?_
              refine lv_topl (fun x50 ex50 => ?_)
              refine lv_aload_n hx hb dX12_digest_43 rfl (lv_at hl 3 rfl) ?_
              refine mget_4 hx hb hts (fun _ h => List.mem_cons_of_mem _ (List.mem_append_right _ h)) hown hK hP (hts (.fieldLink RX12 16 "TalePlayModel" "defaults" "[I") (by decide +kernel)) dX12_digest_44 ?_
              refine lv_bipush (v := 6) hx hb dX12_digest_47 (by decide) ?_
              refine lv_iload_n hx hb dX12_digest_49 rfl (lv_at hl 2 rfl) ?_
              refine lv_imul hx hb dX12_digest_50 ?_
              refine lv_topi (fun x51 ex51 => ?_)
              have tx51 := ti_mul (a := 6) (b := y1_3.toInt) ex51 (by decide) rfl (by omega) (by omega)
              refine lv_iload hx hb dX12_digest_51 (lv_at hl 0 rfl) ?_
              refine lv_iadd hx hb dX12_digest_53 ?_
              refine lv_topi (fun x52 ex52 => ?_)
              have tx52 := ti_add (a := (6 * y1_3.toInt)) (b := y47_4.toInt) ex52 tx51 rfl (by omega) (by omega)
              refine mld_4 hx hb hK hP (vp_in_iff.mpr (by have h9 : x52.toInt = ((6 * y1_3.toInt) + y47_4.toInt) := tx52; omega)) dX12_digest_54 (fun x53 ex53 => ?_)
              have rx53 : x53.toInt = -9 ∨ (0 ≤ x53.toInt ∧ x53.toInt ≤ 1) := by rw [ex53]; exact hI.2 4 _
              refine lv_i2l (v := x53.toInt64) hx hb dX12_digest_55 rfl ?_
              refine lv_ladd hx hb dX12_digest_56 ?_
              refine lv_topl (fun x54 ex54 => ?_)
              refine lv_lstore_n (lv' := [(1, .long x54), (4, .int y47_4), (3, .int y1_3), (0, .ref o)]) hx hb dX12_digest_57 rfl hl (by decide) rfl (fun ls hl => ?_)
              obtain ⟨x55, ex55⟩ : ∃ y : Int32, y = y47_4 + 1 := ⟨_, rfl⟩
              have tx55 := ti_add (a := y47_4.toInt) (b := 1) ex55 rfl (by decide) (by omega) (by omega)
              refine lv_iinc (v := x55) (lv' := [(4, .int x55), (1, .long x54), (3, .int y1_3), (0, .ref o)]) hx hb dX12_digest_58 hl (k := 1) rfl (by rw [ex55]; rfl) (by decide) rfl (fun ls hl => ?_)
              refine lv_goto (tgt := 31) hx hb dX12_digest_61 (by decide) ?_
              exact ih47 x55 x54 (show 0 ≤ x55.toInt ∧ x55.toInt ≤ 6 from by have h50 : x55.toInt = (y47_4.toInt + 1) := tx55; omega) (by have h50 : x55.toInt = (y47_4.toInt + 1) := tx55; omega) _ _ _ hP hD hS (lv_sub hl [0, 1, 2, 3] rfl)
        exact lp47 _ (0 : Int32) x46 (show 0 ≤ (0 : Int32).toInt ∧ (0 : Int32).toInt ≤ 6 from by have h50 : (0 : Int32).toInt = 0 := (by decide); omega) (Nat.lt_succ_self _) _ _ _ hP hD hS (lv_sub hl [0, 1, 2, 3] rfl)
  exact lp1 _ (0 : Int32) (17 : Int64) (show 0 ≤ (0 : Int32).toInt ∧ (0 : Int32).toInt ≤ 24 from by have h50 : (0 : Int32).toInt = 0 := (by decide); omega) (Nat.lt_succ_self _) _ _ _ hP hD hS (lv_sub hl [0, 1, 2] rfl)

