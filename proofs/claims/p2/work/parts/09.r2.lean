def wm_X12_isExitBarred : List Cond := .code yX12_isExitBarred cX12_isExitBarred 5 (some .boolean) :: (([.fieldLink RX12 202 "TalePlayModel" "sentences" "I", .methodLink RX12 184 yX12_isOf, .instanceMethod yX12_isOf, .selects RX12 yX12_isOf yX12_isOf, .initialized RX12, .code yX12_isOf cX12_isOf 4 (some .boolean), .fieldLink RX12 19 "TalePlayModel" "kindOf" "[I", .fieldLink RX12 13 "TalePlayModel" "parentOf" "[I", .fieldLink RX12 205 "TalePlayModel" "rowMany" "I", .fieldLink RX12 37 "TalePlayModel" "isSaid" "[Z", .fieldLink RX12 25 "TalePlayModel" "form" "[I", .fieldLink RX12 31 "TalePlayModel" "middle" "[I", .methodLink RX12 212 yX12_clashes, .instanceMethod yX12_clashes, .selects RX12 yX12_clashes yX12_clashes, .code yX12_clashes cX12_clashes 2 none, .fieldLink RX12 41 "TalePlayModel" "row" "[I", .fieldLink RX12 28 "TalePlayModel" "left" "[I", .fieldLink RX12 34 "TalePlayModel" "right" "[I"] : List Cond) ++ wsX120)
set_option maxRecDepth 20000 in
theorem gm_X12_isExitBarred_X12_isOf : GoodIn wm_X12_isExitBarred (wsV RX12 184 RX12 yX12_isOf wm_X12_isOf) := goodIn_app (goodIn_of _ (by decide +kernel)) (goodIn_r _ [6, 7, 8, 20, 21, 22, 23, 24, 25, 26, 27, 28, 29, 30, 31, 32, 33, 34, 35, 36, 37, 38, 39, 40, 41, 42, 43, 44, 45, 46, 47, 48, 49, 50, 51, 52, 53, 54, 55, 56, 57, 58, 59, 60, 61, 62, 63, 64, 65, 66, 67, 68, 69, 70, 71, 72, 73, 74, 75, 76, 77, 78, 79, 80, 81, 82, 83, 84, 85, 86, 87, 88] (by decide +kernel) (by decide +kernel))
set_option maxRecDepth 20000 in
theorem gm_X12_isExitBarred_X12_clashes : GoodIn wm_X12_isExitBarred (wsV RX12 212 RX12 yX12_clashes wm_X12_clashes) := goodIn_app (goodIn_of _ (by decide +kernel)) (goodIn_r _ [16, 17, 9, 20, 21, 22, 23, 24, 25, 26, 27, 28, 29, 30, 31, 32, 33, 34, 35, 36, 37, 38, 39, 40, 41, 42, 43, 44, 45, 46, 47, 48, 49, 50, 51, 52, 53, 54, 55, 56, 57, 58, 59, 60, 61, 62, 63, 64, 65, 66, 67, 68, 69, 70, 71, 72, 73, 74, 75, 76, 77, 78, 79, 80, 81, 82, 83, 84, 85, 86, 87, 88] (by decide +kernel) (by decide +kernel))
set_option maxHeartbeats 4000000 in
set_option maxRecDepth 100000 in
theorem s_X12_isExitBarred (l : Launch) (D : va_G) (sz : Nat) (o : Nat) (a : Nat → Nat) (t : Nat → ClassId) (i : Nat → Int32) (q : Int64) (c : Nat → Nat → Int32) (d : Nat → Nat → Int64) (w1 : Int32) (w2 : Int32) (w3 : Int32) (hI : mInv i c) (hw1 : 0 ≤ w1.toInt ∧ w1.toInt ≤ 29) (hw2 : 0 ≤ w2.toInt ∧ w2.toInt ≤ 29) (hrm : (i 15).toInt = 0) : Met l yX12_isExitBarred wm_X12_isExitBarred ({ frames := 1, cells := 0, slots := 0, locals := 23 }) (va_Pc [.ref o, .int w1, .int w2, .int w3] (pB D sz (mW o a t i q c d) (mT t))) (va_Qi (fun (r : Int32) (u : MS) => (0 ≤ r.toInt ∧ r.toInt ≤ 1) ∧ mInv u.1 u.2.2.1 ∧ (∀ k, k ∉ ([15] : List Nat) → u.1 k = i k) ∧ (∀ k, k ∉ ([14] : List Nat) → u.2.2.1 k = c k)) (oC D (va_A (mW o a t i q c d) sz) (fun u : MS => mW o a t u.1 u.2.1 u.2.2.1 u.2.2.2) (fun _ => [])) (va_A (mW o a t i q c d) sz)) 0 0 (va_A (mW o a t i q c d) sz) := by
  refine Met.ofW (cc := cX12_isExitBarred) (maxL := 5) (ret := (some .boolean)) (by decide) rfl ?_
  intro p e s m args below meth cd s₁ B hml hv
  obtain ⟨rfl, hsz, hP, hK, hD0⟩ := hv
  have hx := B.exec
  have hb := B.bytes
  have hr := B.returns
  have hts := atoms_spec (ws := wm_X12_isExitBarred) B.pre
  have hown : s.vm.findClass RX12 = some m.cls := findClass_of_methodNamed B.named
  have hlocks := B.notSynchronized
  subst hsz
  have hD := hD0.self (sz := s.heap.size)
  generalize hAe : va_A (mW o a t i q c d) s.heap.size = A at hD ⊢
  have hA : ∀ q : Nat, s.heap.size ≤ q → A q := fun q h => by rw [← hAe]; exact Or.inr h
  have hS : va_S A s.heap s.heap [] := va_S.rf
  have hfi : ∀ k, k ∉ ([15] : List Nat) → i k = i k := fun _ _ => rfl
  have hfc : ∀ k, k ∉ ([14] : List Nat) → c k = c k := fun _ _ => rfl
  have hl := lv_entry ([.ref o, .int w1, .int w2, .int w3]) (n := 5) (Nat.le_of_ble_eq_true rfl)
  rw [lg_entry_eq]
  generalize (lg_sl ([.ref o, .int w1, .int w2, .int w3]) ++ List.replicate (5 - (lg_sl ([.ref o, .int w1, .int w2, .int w3])).length) Slot.unset).toArray = ls at hl ⊢
  have hl : lv_has ls 5 [(0, .ref o), (1, .int w1), (2, .int w2), (3, .int w3)] := hl
  refine lv_iconst (v := 0) hx hb dX12_isExitBarred_0 (by decide) ?_
  refine lv_istore (lv' := [(4, .int 0), (0, .ref o), (1, .int w1), (2, .int w2), (3, .int w3)]) hx hb dX12_isExitBarred_1 hl (by decide) rfl (fun ls hl => ?_)
  have lp1 : ∀ (fu : Nat) (y1_4 : Int32), (0 ≤ y1_4.toInt ∧ y1_4.toInt ≤ 200) → (((i 15) : Int32).toInt = 0) → (200 - y1_4.toInt).toNat < fu → ∀ (H : Heap) (locs : List Loc) (ls : Array Slot), va_P D vwCl (mW o a t i q c d) H → va_D A (mW o a t i q c d) → va_S A s.heap H locs → lv_has ls 5 [(4, .int y1_4), (0, .ref o), (1, .int w1), (2, .int w2), (3, .int w3)] → W p l e (headSpec wm_X12_isExitBarred ({ frames := 1, cells := 0, slots := 0, locals := 23 })).room s m ([.ref o, .int w1, .int w2, .int w3] : List Value).toArray below meth cd H locs 0 0 (MQ below (va_Qi (fun (r : Int32) (u : MS) => (0 ≤ r.toInt ∧ r.toInt ≤ 1) ∧ mInv u.1 u.2.2.1 ∧ (∀ k, k ∉ ([15] : List Nat) → u.1 k = i k) ∧ (∀ k, k ∉ ([14] : List Nat) → u.2.2.1 k = c k)) (oC D A (fun u : MS => mW o a t u.1 u.2.1 u.2.2.1 u.2.2.2) (fun _ => [])) A) ([.ref o, .int w1, .int w2, .int w3] : List Value).toArray s 0 0 A) (F0 m 3 ls []) := by
    intro fu
    induction fu with
    | zero => intro y1_4 hy1_4 hz1_0 hm; exact absurd hm (Nat.not_lt_zero _)
    | succ fu ih =>
      intro y1_4 hy1_4 hz1_0 hm H locs ls hP hD hS hl
      have ih1 := ih
      refine lv_iload hx hb dX12_isExitBarred_3 (lv_at hl 0 rfl) ?_
      refine lv_aload_n hx hb dX12_isExitBarred_5 rfl (lv_at hl 1 rfl) ?_
      refine mget_8 (v := (i 8)) rfl hx hb hts (fun _ h => List.mem_cons_of_mem _ (List.mem_append_right _ h)) hown hK hP (hts (.fieldLink RX12 202 "TalePlayModel" "sentences" "I") (by decide +kernel)) dX12_isExitBarred_6 ?_
      have rb8_i : 0 ≤ (i 8).toInt ∧ (i 8).toInt ≤ 200 := hI.1 8
      refine lv_icmp_ge (tgt := 69) hx hb dX12_isExitBarred_9 (by decide) (fun c2 => ?_) (fun c2 => ?_)
      · have f2 := (ti_le (a := (i 8).toInt) (b := y1_4.toInt) rfl rfl).mp c2
        refine lv_aload_n hx hb dX12_isExitBarred_69 rfl (lv_at hl 1 rfl) ?_
        refine lv_iload_n hx hb dX12_isExitBarred_70 rfl (lv_at hl 3 rfl) ?_
        refine lv_iconst (v := 2) hx hb dX12_isExitBarred_71 (by decide) ?_
        refine ro_calli (va_runV (As := [.int w2, .int 2]) (rest := []) ⟨hx, hb, hml, hown, hts⟩ (s_X12_isOf l D H.size o a t i q c d w2 2 hI (by have h91 : (2 : Int32).toInt = 2 := (by decide); omega)) (cwV 2 hts gm_X12_isExitBarred_X12_isOf rfl rfl rfl (by decide +kernel) ⟨Nat.le_of_ble_eq_true rfl, Nat.le_of_ble_eq_true rfl⟩) (pA_V hK hP (ci := 12) (q0 := 0) rfl rfl) rfl rfl hl.1 rfl (lv_room (Nat.le_of_ble_eq_true rfl)) dX12_isExitBarred_72 ⟨Nat.le_of_ble_eq_true rfl, Nat.le_of_ble_eq_true rfl⟩) hS hA hP (fun r3 u3 H locs hw3 hP hS => ?_)
        have hw3 : 0 ≤ r3.toInt ∧ r3.toInt ≤ 1 := hw3
        refine lv_if_ne (tgt := 80) hx hb dX12_isExitBarred_75 (by decide) (fun c4 => ?_) (fun c4 => ?_)
        · have f4 := mt (ti_eq (a := r3.toInt) (b := 0) rfl (by decide)).mpr c4
          refine lv_iconst (v := 0) hx hb dX12_isExitBarred_80 (by decide) ?_
          refine lv_istore (lv' := [(4, .int 0), (0, .ref o), (1, .int w1), (2, .int w2), (3, .int w3)]) hx hb dX12_isExitBarred_81 hl (by decide) rfl (fun ls hl => ?_)
          have lp5 : ∀ (fu : Nat) (y5_4 : Int32), (0 ≤ y5_4.toInt ∧ y5_4.toInt ≤ 200) → (((i 15) : Int32).toInt = 0) → (200 - y5_4.toInt).toNat < fu → ∀ (H : Heap) (locs : List Loc) (ls : Array Slot), va_P D vwCl (mW o a t i q c d) H → va_D A (mW o a t i q c d) → va_S A s.heap H locs → lv_has ls 5 [(4, .int y5_4), (0, .ref o), (1, .int w1), (2, .int w2), (3, .int w3)] → W p l e (headSpec wm_X12_isExitBarred ({ frames := 1, cells := 0, slots := 0, locals := 23 })).room s m ([.ref o, .int w1, .int w2, .int w3] : List Value).toArray below meth cd H locs 0 0 (MQ below (va_Qi (fun (r : Int32) (u : MS) => (0 ≤ r.toInt ∧ r.toInt ≤ 1) ∧ mInv u.1 u.2.2.1 ∧ (∀ k, k ∉ ([15] : List Nat) → u.1 k = i k) ∧ (∀ k, k ∉ ([14] : List Nat) → u.2.2.1 k = c k)) (oC D A (fun u : MS => mW o a t u.1 u.2.1 u.2.2.1 u.2.2.2) (fun _ => [])) A) ([.ref o, .int w1, .int w2, .int w3] : List Value).toArray s 0 0 A) (F0 m 83 ls []) := by
            intro fu
            induction fu with
            | zero => intro y5_4 hy5_4 hz5_0 hm; exact absurd hm (Nat.not_lt_zero _)
            | succ fu ih =>
              intro y5_4 hy5_4 hz5_0 hm H locs ls hP hD hS hl
              have ih5 := ih
              refine lv_iload hx hb dX12_isExitBarred_83 (lv_at hl 0 rfl) ?_
              refine lv_aload_n hx hb dX12_isExitBarred_85 rfl (lv_at hl 1 rfl) ?_
              refine mget_8 (v := (i 8)) rfl hx hb hts (fun _ h => List.mem_cons_of_mem _ (List.mem_append_right _ h)) hown hK hP (hts (.fieldLink RX12 202 "TalePlayModel" "sentences" "I") (by decide +kernel)) dX12_isExitBarred_86 ?_
              refine lv_icmp_ge (tgt := 149) hx hb dX12_isExitBarred_89 (by decide) (fun c6 => ?_) (fun c6 => ?_)
              · have f6 := (ti_le (a := (i 8).toInt) (b := y5_4.toInt) rfl rfl).mp c6
                refine lv_iconst (v := 0) hx hb dX12_isExitBarred_149 (by decide) ?_
                refine lv_istore (lv' := [(4, .int 0), (0, .ref o), (1, .int w1), (2, .int w2), (3, .int w3)]) hx hb dX12_isExitBarred_150 hl (by decide) rfl (fun ls hl => ?_)
                have lp7 : ∀ (fu : Nat) (i7 : Nat → Int32) (q7 : Int64) (c7 : Nat → Nat → Int32) (d7 : Nat → Nat → Int64) (y7_4 : Int32), mInv i7 c7 → (∀ k, k ∉ ([15] : List Nat) → i7 k = i k) → (∀ k, k ∉ ([14] : List Nat) → c7 k = c k) → (0 ≤ y7_4.toInt ∧ y7_4.toInt ≤ 200) → (((i7 15) : Int32).toInt ≤ y7_4.toInt) → (200 - y7_4.toInt).toNat < fu → ∀ (H : Heap) (locs : List Loc) (ls : Array Slot), va_P D vwCl (mW o a t i7 q7 c7 d7) H → va_D A (mW o a t i7 q7 c7 d7) → va_S A s.heap H locs → lv_has ls 5 [(4, .int y7_4), (0, .ref o), (1, .int w1), (2, .int w2), (3, .int w3)] → W p l e (headSpec wm_X12_isExitBarred ({ frames := 1, cells := 0, slots := 0, locals := 23 })).room s m ([.ref o, .int w1, .int w2, .int w3] : List Value).toArray below meth cd H locs 0 0 (MQ below (va_Qi (fun (r : Int32) (u : MS) => (0 ≤ r.toInt ∧ r.toInt ≤ 1) ∧ mInv u.1 u.2.2.1 ∧ (∀ k, k ∉ ([15] : List Nat) → u.1 k = i k) ∧ (∀ k, k ∉ ([14] : List Nat) → u.2.2.1 k = c k)) (oC D A (fun u : MS => mW o a t u.1 u.2.1 u.2.2.1 u.2.2.2) (fun _ => [])) A) ([.ref o, .int w1, .int w2, .int w3] : List Value).toArray s 0 0 A) (F0 m 152 ls []) := by
                  intro fu
                  induction fu with
                  | zero => intro i7 q7 c7 d7 y7_4 hI hfi hfc hy7_4 hz7_0 hm; exact absurd hm (Nat.not_lt_zero _)
                  | succ fu ih =>
                    intro i7 q7 c7 d7 y7_4 hI hfi hfc hy7_4 hz7_0 hm H locs ls hP hD hS hl
                    have ih7 := ih
                    refine lv_iload hx hb dX12_isExitBarred_152 (lv_at hl 0 rfl) ?_
                    refine lv_aload_n hx hb dX12_isExitBarred_154 rfl (lv_at hl 1 rfl) ?_
                    refine mget_8 (v := (i7 8)) rfl hx hb hts (fun _ h => List.mem_cons_of_mem _ (List.mem_append_right _ h)) hown hK hP (hts (.fieldLink RX12 202 "TalePlayModel" "sentences" "I") (by decide +kernel)) dX12_isExitBarred_155 ?_
                    have rb8_i7 : 0 ≤ (i7 8).toInt ∧ (i7 8).toInt ≤ 200 := hI.1 8
                    have re8_i7 : (i7 8).toInt = (i 8).toInt := congrArg Int32.toInt (hfi 8 (by decide))
                    refine lv_icmp_ge (tgt := 205) hx hb dX12_isExitBarred_158 (by decide) (fun c8 => ?_) (fun c8 => ?_)
                    · have f8 := (ti_le (a := (i7 8).toInt) (b := y7_4.toInt) rfl rfl).mp c8
                      refine lv_aload_n hx hb dX12_isExitBarred_205 rfl (lv_at hl 1 rfl) ?_
                      refine mget_15 (v := (i7 15)) rfl hx hb hts (fun _ h => List.mem_cons_of_mem _ (List.mem_append_right _ h)) hown hK hP (hts (.fieldLink RX12 205 "TalePlayModel" "rowMany" "I") (by decide +kernel)) dX12_isExitBarred_206 ?_
                      have rb15_i7 : 0 ≤ (i7 15).toInt ∧ (i7 15).toInt ≤ 200 := hI.1 15
                      refine lv_iconst (v := 2) hx hb dX12_isExitBarred_209 (by decide) ?_
                      have jn9 : ∀ (i9 : Nat → Int32) (q9 : Int64) (c9 : Nat → Nat → Int32) (d9 : Nat → Nat → Int64), mInv i9 c9 → (∀ k, k ∉ ([15] : List Nat) → i9 k = i k) → (∀ k, k ∉ ([14] : List Nat) → c9 k = c k) → ∀ (H : Heap) (locs : List Loc) (ls : Array Slot), va_P D vwCl (mW o a t i9 q9 c9 d9) H → va_D A (mW o a t i9 q9 c9 d9) → va_S A s.heap H locs → lv_has ls 5 [(4, .int y7_4), (0, .ref o), (1, .int w1), (2, .int w2), (3, .int w3)] → W p l e (headSpec wm_X12_isExitBarred ({ frames := 1, cells := 0, slots := 0, locals := 23 })).room s m ([.ref o, .int w1, .int w2, .int w3] : List Value).toArray below meth cd H locs 0 0 (MQ below (va_Qi (fun (r : Int32) (u : MS) => (0 ≤ r.toInt ∧ r.toInt ≤ 1) ∧ mInv u.1 u.2.2.1 ∧ (∀ k, k ∉ ([15] : List Nat) → u.1 k = i k) ∧ (∀ k, k ∉ ([14] : List Nat) → u.2.2.1 k = c k)) (oC D A (fun u : MS => mW o a t u.1 u.2.1 u.2.2.1 u.2.2.2) (fun _ => [])) A) ([.ref o, .int w1, .int w2, .int w3] : List Value).toArray s 0 0 A) (F0 m 218 ls []) := by
                        intro i9 q9 c9 d9 hI hfi hfc H locs ls hP hD hS hl
                        refine lv_aload_n hx hb dX12_isExitBarred_218 rfl (lv_at hl 1 rfl) ?_
                        refine mget_15 (v := (i9 15)) rfl hx hb hts (fun _ h => List.mem_cons_of_mem _ (List.mem_append_right _ h)) hown hK hP (hts (.fieldLink RX12 205 "TalePlayModel" "rowMany" "I") (by decide +kernel)) dX12_isExitBarred_219 ?_
                        have rb15_i9 : 0 ≤ (i9 15).toInt ∧ (i9 15).toInt ≤ 200 := hI.1 15
                        refine lv_if_le (tgt := 229) hx hb dX12_isExitBarred_222 (by decide) (fun c10 => ?_) (fun c10 => ?_)
                        · have f10 := (ti_le (a := (i9 15).toInt) (b := 0) rfl (by decide)).mp c10
                          refine lv_iconst (v := 0) hx hb dX12_isExitBarred_229 (by decide) ?_
                          exact rw_zret (i9, q9, c9, d9) hx hb hr hlocks hS (hK.sub (tys' := []) [] rfl) hP hD rfl dX12_isExitBarred_230 ⟨(show 0 ≤ (0 : Int32).toInt ∧ (0 : Int32).toInt ≤ 1 from by have h9 : (0 : Int32).toInt = 0 := (by decide); omega), hI, hfi, hfc⟩
                        · have f10 := mt (ti_le (a := (i9 15).toInt) (b := 0) rfl (by decide)).mpr c10
                          refine lv_iconst (v := 1) hx hb dX12_isExitBarred_225 (by decide) ?_
                          refine lv_goto (tgt := 230) hx hb dX12_isExitBarred_226 (by decide) ?_
                          exact rw_zret (i9, q9, c9, d9) hx hb hr hlocks hS (hK.sub (tys' := []) [] rfl) hP hD rfl dX12_isExitBarred_230 ⟨(show 0 ≤ (1 : Int32).toInt ∧ (1 : Int32).toInt ≤ 1 from by have h9 : (1 : Int32).toInt = 1 := (by decide); omega), hI, hfi, hfc⟩
                      refine lv_icmp_ge (tgt := 218) hx hb dX12_isExitBarred_210 (by decide) (fun c11 => ?_) (fun c11 => ?_)
                      · have f11 := (ti_le (a := 2) (b := (i7 15).toInt) (by decide) rfl).mp c11
                        exact jn9 i7 q7 c7 d7   hI hfi hfc _ _ _ hP hD hS (lv_sub hl [0, 1, 2, 3, 4] rfl)
                      · have f11 := mt (ti_le (a := 2) (b := (i7 15).toInt) (by decide) rfl).mpr c11
                        refine lv_aload_n hx hb dX12_isExitBarred_213 rfl (lv_at hl 1 rfl) ?_
                        refine lv_iconst (v := 0) hx hb dX12_isExitBarred_214 (by decide) ?_
                        refine mput_15 hx hb hts (fun _ h => List.mem_cons_of_mem _ (List.mem_append_right _ h)) hown hK hP hD hS (hts (.fieldLink RX12 205 "TalePlayModel" "rowMany" "I") (by decide +kernel)) rfl rfl dX12_isExitBarred_215 (fun H locs hP hD hS => ?_)
                        have hI := mInv_i hI (k := 15) (v := 0) (show 0 ≤ (0 : Int32).toInt ∧ (0 : Int32).toInt ≤ 200 from by have h9 : (0 : Int32).toInt = 0 := (by decide); omega)
                        have hfi := fr_i hfi (k := 15) (v := 0) (by decide)
                        exact jn9 (upd i7 15 0) q7 c7 d7   hI hfi hfc _ _ _ hP hD hS (lv_sub hl [0, 1, 2, 3, 4] rfl)
                    · have f8 := mt (ti_le (a := (i7 8).toInt) (b := y7_4.toInt) rfl rfl).mpr c8
                      refine lv_aload_n hx hb dX12_isExitBarred_161 rfl (lv_at hl 1 rfl) ?_
                      refine mget_13 hx hb hts (fun _ h => List.mem_cons_of_mem _ (List.mem_append_right _ h)) hown hK hP (hts (.fieldLink RX12 37 "TalePlayModel" "isSaid" "[Z") (by decide +kernel)) dX12_isExitBarred_162 ?_
                      refine lv_iload hx hb dX12_isExitBarred_165 (lv_at hl 0 rfl) ?_
                      refine mld_13 hx hb hK hP (vp_in_iff.mpr (by have h9 : y7_4.toInt = y7_4.toInt := rfl; omega)) dX12_isExitBarred_167 (fun x12 ex12 => ?_)
                      have rx12 : 0 ≤ x12.toInt ∧ x12.toInt ≤ 1 := by rw [ex12]; exact hI.2 13 _
                      have jn13 : ∀ (i13 : Nat → Int32) (q13 : Int64) (c13 : Nat → Nat → Int32) (d13 : Nat → Nat → Int64), mInv i13 c13 → (∀ k, k ∉ ([15] : List Nat) → i13 k = i k) → (∀ k, k ∉ ([14] : List Nat) → c13 k = c k) → (((i13 15) : Int32).toInt ≤ y7_4.toInt + 1) → ∀ (H : Heap) (locs : List Loc) (ls : Array Slot), va_P D vwCl (mW o a t i13 q13 c13 d13) H → va_D A (mW o a t i13 q13 c13 d13) → va_S A s.heap H locs → lv_has ls 5 [(4, .int y7_4), (0, .ref o), (1, .int w1), (2, .int w2), (3, .int w3)] → W p l e (headSpec wm_X12_isExitBarred ({ frames := 1, cells := 0, slots := 0, locals := 23 })).room s m ([.ref o, .int w1, .int w2, .int w3] : List Value).toArray below meth cd H locs 0 0 (MQ below (va_Qi (fun (r : Int32) (u : MS) => (0 ≤ r.toInt ∧ r.toInt ≤ 1) ∧ mInv u.1 u.2.2.1 ∧ (∀ k, k ∉ ([15] : List Nat) → u.1 k = i k) ∧ (∀ k, k ∉ ([14] : List Nat) → u.2.2.1 k = c k)) (oC D A (fun u : MS => mW o a t u.1 u.2.1 u.2.2.1 u.2.2.2) (fun _ => [])) A) ([.ref o, .int w1, .int w2, .int w3] : List Value).toArray s 0 0 A) (F0 m 199 ls []) := by
                        intro i13 q13 c13 d13 hI hfi hfc hz13_0 H locs ls hP hD hS hl
                        obtain ⟨x14, ex14⟩ : ∃ y : Int32, y = y7_4 + 1 := ⟨_, rfl⟩
                        have tx14 := ti_add (a := y7_4.toInt) (b := 1) ex14 rfl (by decide) (by omega) (by omega)
                        refine lv_iinc (v := x14) (lv' := [(4, .int x14), (0, .ref o), (1, .int w1), (2, .int w2), (3, .int w3)]) hx hb dX12_isExitBarred_199 hl (k := 0) rfl (by rw [ex14]; rfl) (by decide) rfl (fun ls hl => ?_)
                        refine lv_goto (tgt := 152) hx hb dX12_isExitBarred_202 (by decide) ?_
                        exact ih7 i13 q13 c13 d13 x14 hI hfi hfc (show 0 ≤ x14.toInt ∧ x14.toInt ≤ 200 from by have h50 : x14.toInt = (y7_4.toInt + 1) := tx14; omega) (show ((i13 15) : Int32).toInt ≤ x14.toInt from by have h50 : x14.toInt = (y7_4.toInt + 1) := tx14; omega) (by have h50 : x14.toInt = (y7_4.toInt + 1) := tx14; omega) _ _ _ hP hD hS (lv_sub hl [0, 1, 2, 3, 4] rfl)
                      refine lv_if_eq (tgt := 199) hx hb dX12_isExitBarred_168 (by decide) (fun c15 => ?_) (fun c15 => ?_)
                      · have f15 := (ti_eq (a := x12.toInt) (b := 0) rfl (by decide)).mp c15
                        exact jn13 i7 q7 c7 d7   hI hfi hfc (show ((i7 15) : Int32).toInt ≤ y7_4.toInt + 1 from by omega) _ _ _ hP hD hS (lv_sub hl [0, 1, 2, 3, 4] rfl)
                      · have f15 := mt (ti_eq (a := x12.toInt) (b := 0) rfl (by decide)).mpr c15
                        refine lv_aload_n hx hb dX12_isExitBarred_171 rfl (lv_at hl 1 rfl) ?_
                        refine mget_9 hx hb hts (fun _ h => List.mem_cons_of_mem _ (List.mem_append_right _ h)) hown hK hP (hts (.fieldLink RX12 25 "TalePlayModel" "form" "[I") (by decide +kernel)) dX12_isExitBarred_172 ?_
                        refine lv_iload hx hb dX12_isExitBarred_175 (lv_at hl 0 rfl) ?_
                        refine mld_9 hx hb hK hP (vp_in_iff.mpr (by have h9 : y7_4.toInt = y7_4.toInt := rfl; omega)) dX12_isExitBarred_177 (fun x16 ex16 => ?_)
                        have rx16 : 0 ≤ x16.toInt ∧ x16.toInt ≤ 7 := by rw [ex16]; exact hI.2 9 _
                        refine lv_iconst (v := 5) hx hb dX12_isExitBarred_178 (by decide) ?_
                        refine lv_icmp_ne (tgt := 199) hx hb dX12_isExitBarred_179 (by decide) (fun c17 => ?_) (fun c17 => ?_)
                        · have f17 := mt (ti_eq (a := x16.toInt) (b := 5) rfl (by decide)).mpr c17
                          exact jn13 i7 q7 c7 d7   hI hfi hfc (show ((i7 15) : Int32).toInt ≤ y7_4.toInt + 1 from by omega) _ _ _ hP hD hS (lv_sub hl [0, 1, 2, 3, 4] rfl)
                        · have f17 := (ti_eq (a := x16.toInt) (b := 5) rfl (by decide)).mp c17
                          refine lv_aload_n hx hb dX12_isExitBarred_182 rfl (lv_at hl 1 rfl) ?_
                          refine mget_11 hx hb hts (fun _ h => List.mem_cons_of_mem _ (List.mem_append_right _ h)) hown hK hP (hts (.fieldLink RX12 31 "TalePlayModel" "middle" "[I") (by decide +kernel)) dX12_isExitBarred_183 ?_
                          refine lv_iload hx hb dX12_isExitBarred_186 (lv_at hl 0 rfl) ?_
                          refine mld_11 hx hb hK hP (vp_in_iff.mpr (by have h9 : y7_4.toInt = y7_4.toInt := rfl; omega)) dX12_isExitBarred_188 (fun x18 ex18 => ?_)
                          have rx18 : 0 ≤ x18.toInt ∧ x18.toInt ≤ 29 := by rw [ex18]; exact hI.2 11 _
                          refine lv_iload_n hx hb dX12_isExitBarred_189 rfl (lv_at hl 3 rfl) ?_
                          refine lv_icmp_ne (tgt := 199) hx hb dX12_isExitBarred_190 (by decide) (fun c19 => ?_) (fun c19 => ?_)
                          · have f19 := mt (ti_eq (a := x18.toInt) (b := w2.toInt) rfl rfl).mpr c19
                            exact jn13 i7 q7 c7 d7   hI hfi hfc (show ((i7 15) : Int32).toInt ≤ y7_4.toInt + 1 from by omega) _ _ _ hP hD hS (lv_sub hl [0, 1, 2, 3, 4] rfl)
                          · have f19 := (ti_eq (a := x18.toInt) (b := w2.toInt) rfl rfl).mp c19
                            refine lv_aload_n hx hb dX12_isExitBarred_193 rfl (lv_at hl 1 rfl) ?_
                            refine lv_iload hx hb dX12_isExitBarred_194 (lv_at hl 0 rfl) ?_
                            have rb15_i7 : 0 ≤ (i7 15).toInt ∧ (i7 15).toInt ≤ 200 := hI.1 15
                            refine al_callv (va_runV (As := [.int y7_4]) (rest := []) ⟨hx, hb, hml, hown, hts⟩ (s_X12_clashes l D H.size o a t i7 q7 c7 d7 y7_4 hI (by omega) (by omega)) (cwV 1 hts gm_X12_isExitBarred_X12_clashes rfl rfl rfl (by decide +kernel) ⟨Nat.le_of_ble_eq_true rfl, Nat.le_of_ble_eq_true rfl⟩) (pB_V hK hP hD (ci := 12) (q0 := 0) rfl rfl) rfl rfl hl.1 rfl (lv_room (Nat.le_of_ble_eq_true rfl)) dX12_isExitBarred_196 ⟨Nat.le_of_ble_eq_true rfl, Nat.le_of_ble_eq_true rfl⟩) hS hA hP hD (fun u20 H locs hw20 hP hD hS => ?_)
                            obtain ⟨i20, q20, c20, d20⟩ := u20
                            have hw20 : True ∧ mInv i20 c20 ∧ (∀ k, k ∉ ([15] : List Nat) → i20 k = i7 k) ∧ (∀ k, k ∉ ([14] : List Nat) → c20 k = c7 k) ∧ ((i20 15).toInt = (i7 15).toInt + 1) := hw20
                            obtain ⟨hw20, hI, hei20, hec20, hxp20_0⟩ := hw20
                            have hfi := fr_t hfi hei20 (by decide)
                            have hfc := fr_t hfc hec20 (by decide)
                            have hP : va_P D vwCl (mW o a t i20 q20 c20 d20) H := hP
                            have hD : va_D A (mW o a t i20 q20 c20 d20) := hD
                            exact jn13 i20 q20 c20 d20   hI hfi hfc (show ((i20 15) : Int32).toInt ≤ y7_4.toInt + 1 from by omega) _ _ _ hP hD hS (lv_sub hl [0, 1, 2, 3, 4] rfl)
                exact lp7 _ i q c d (0 : Int32) hI hfi hfc (show 0 ≤ (0 : Int32).toInt ∧ (0 : Int32).toInt ≤ 200 from by have h50 : (0 : Int32).toInt = 0 := (by decide); omega) (show ((i 15) : Int32).toInt ≤ (0 : Int32).toInt from by have h50 : (0 : Int32).toInt = 0 := (by decide); omega) (Nat.lt_succ_self _) _ _ _ hP hD hS (lv_sub hl [0, 1, 2, 3, 4] rfl)
              · have f6 := mt (ti_le (a := (i 8).toInt) (b := y5_4.toInt) rfl rfl).mpr c6
                refine lv_aload_n hx hb dX12_isExitBarred_92 rfl (lv_at hl 1 rfl) ?_
                refine mget_13 hx hb hts (fun _ h => List.mem_cons_of_mem _ (List.mem_append_right _ h)) hown hK hP (hts (.fieldLink RX12 37 "TalePlayModel" "isSaid" "[Z") (by decide +kernel)) dX12_isExitBarred_93 ?_
                refine lv_iload hx hb dX12_isExitBarred_96 (lv_at hl 0 rfl) ?_
                refine mld_13 hx hb hK hP (vp_in_iff.mpr (by have h9 : y5_4.toInt = y5_4.toInt := rfl; omega)) dX12_isExitBarred_98 (fun x21 ex21 => ?_)
                have rx21 : 0 ≤ x21.toInt ∧ x21.toInt ≤ 1 := by rw [ex21]; exact hI.2 13 _
                have jn22 : ∀ (H : Heap) (locs : List Loc) (ls : Array Slot), va_P D vwCl (mW o a t i q c d) H → va_D A (mW o a t i q c d) → va_S A s.heap H locs → lv_has ls 5 [(4, .int y5_4), (0, .ref o), (1, .int w1), (2, .int w2), (3, .int w3)] → W p l e (headSpec wm_X12_isExitBarred ({ frames := 1, cells := 0, slots := 0, locals := 23 })).room s m ([.ref o, .int w1, .int w2, .int w3] : List Value).toArray below meth cd H locs 0 0 (MQ below (va_Qi (fun (r : Int32) (u : MS) => (0 ≤ r.toInt ∧ r.toInt ≤ 1) ∧ mInv u.1 u.2.2.1 ∧ (∀ k, k ∉ ([15] : List Nat) → u.1 k = i k) ∧ (∀ k, k ∉ ([14] : List Nat) → u.2.2.1 k = c k)) (oC D A (fun u : MS => mW o a t u.1 u.2.1 u.2.2.1 u.2.2.2) (fun _ => [])) A) ([.ref o, .int w1, .int w2, .int w3] : List Value).toArray s 0 0 A) (F0 m 143 ls []) := by
                  intro H locs ls hP hD hS hl
                  obtain ⟨x23, ex23⟩ : ∃ y : Int32, y = y5_4 + 1 := ⟨_, rfl⟩
                  have tx23 := ti_add (a := y5_4.toInt) (b := 1) ex23 rfl (by decide) (by omega) (by omega)
                  refine lv_iinc (v := x23) (lv' := [(4, .int x23), (0, .ref o), (1, .int w1), (2, .int w2), (3, .int w3)]) hx hb dX12_isExitBarred_143 hl (k := 0) rfl (by rw [ex23]; rfl) (by decide) rfl (fun ls hl => ?_)
                  refine lv_goto (tgt := 83) hx hb dX12_isExitBarred_146 (by decide) ?_
                  exact ih5 x23 (show 0 ≤ x23.toInt ∧ x23.toInt ≤ 200 from by have h50 : x23.toInt = (y5_4.toInt + 1) := tx23; omega) (show ((i 15) : Int32).toInt = 0 from by have h50 : x23.toInt = (y5_4.toInt + 1) := tx23; omega) (by have h50 : x23.toInt = (y5_4.toInt + 1) := tx23; omega) _ _ _ hP hD hS (lv_sub hl [0, 1, 2, 3, 4] rfl)
                refine lv_if_eq (tgt := 143) hx hb dX12_isExitBarred_99 (by decide) (fun c24 => ?_) (fun c24 => ?_)
                · have f24 := (ti_eq (a := x21.toInt) (b := 0) rfl (by decide)).mp c24
                  exact jn22    _ _ _ hP hD hS (lv_sub hl [0, 1, 2, 3, 4] rfl)
                · have f24 := mt (ti_eq (a := x21.toInt) (b := 0) rfl (by decide)).mpr c24
                  refine lv_aload_n hx hb dX12_isExitBarred_102 rfl (lv_at hl 1 rfl) ?_
                  refine mget_9 hx hb hts (fun _ h => List.mem_cons_of_mem _ (List.mem_append_right _ h)) hown hK hP (hts (.fieldLink RX12 25 "TalePlayModel" "form" "[I") (by decide +kernel)) dX12_isExitBarred_103 ?_
                  refine lv_iload hx hb dX12_isExitBarred_106 (lv_at hl 0 rfl) ?_
                  refine mld_9 hx hb hK hP (vp_in_iff.mpr (by have h9 : y5_4.toInt = y5_4.toInt := rfl; omega)) dX12_isExitBarred_108 (fun x25 ex25 => ?_)
                  have rx25 : 0 ≤ x25.toInt ∧ x25.toInt ≤ 7 := by rw [ex25]; exact hI.2 9 _
                  refine lv_iconst (v := 5) hx hb dX12_isExitBarred_109 (by decide) ?_
                  refine lv_icmp_ne (tgt := 143) hx hb dX12_isExitBarred_110 (by decide) (fun c26 => ?_) (fun c26 => ?_)
                  · have f26 := mt (ti_eq (a := x25.toInt) (b := 5) rfl (by decide)).mpr c26
                    exact jn22    _ _ _ hP hD hS (lv_sub hl [0, 1, 2, 3, 4] rfl)
                  · have f26 := (ti_eq (a := x25.toInt) (b := 5) rfl (by decide)).mp c26
                    refine lv_aload_n hx hb dX12_isExitBarred_113 rfl (lv_at hl 1 rfl) ?_
                    refine mget_10 hx hb hts (fun _ h => List.mem_cons_of_mem _ (List.mem_append_right _ h)) hown hK hP (hts (.fieldLink RX12 28 "TalePlayModel" "left" "[I") (by decide +kernel)) dX12_isExitBarred_114 ?_
                    refine lv_iload hx hb dX12_isExitBarred_117 (lv_at hl 0 rfl) ?_
                    refine mld_10 hx hb hK hP (vp_in_iff.mpr (by have h9 : y5_4.toInt = y5_4.toInt := rfl; omega)) dX12_isExitBarred_119 (fun x27 ex27 => ?_)
                    have rx27 : 0 ≤ x27.toInt ∧ x27.toInt ≤ 29 := by rw [ex27]; exact hI.2 10 _
                    refine lv_iload_n hx hb dX12_isExitBarred_120 rfl (lv_at hl 2 rfl) ?_
                    refine lv_icmp_ne (tgt := 143) hx hb dX12_isExitBarred_121 (by decide) (fun c28 => ?_) (fun c28 => ?_)
                    · have f28 := mt (ti_eq (a := x27.toInt) (b := w1.toInt) rfl rfl).mpr c28
                      exact jn22    _ _ _ hP hD hS (lv_sub hl [0, 1, 2, 3, 4] rfl)
                    · have f28 := (ti_eq (a := x27.toInt) (b := w1.toInt) rfl rfl).mp c28
                      refine lv_aload_n hx hb dX12_isExitBarred_124 rfl (lv_at hl 1 rfl) ?_
                      refine mget_11 hx hb hts (fun _ h => List.mem_cons_of_mem _ (List.mem_append_right _ h)) hown hK hP (hts (.fieldLink RX12 31 "TalePlayModel" "middle" "[I") (by decide +kernel)) dX12_isExitBarred_125 ?_
                      refine lv_iload hx hb dX12_isExitBarred_128 (lv_at hl 0 rfl) ?_
                      refine mld_11 hx hb hK hP (vp_in_iff.mpr (by have h9 : y5_4.toInt = y5_4.toInt := rfl; omega)) dX12_isExitBarred_130 (fun x29 ex29 => ?_)
                      have rx29 : 0 ≤ x29.toInt ∧ x29.toInt ≤ 29 := by rw [ex29]; exact hI.2 11 _
                      refine lv_iload_n hx hb dX12_isExitBarred_131 rfl (lv_at hl 3 rfl) ?_
                      refine lv_icmp_ne (tgt := 143) hx hb dX12_isExitBarred_132 (by decide) (fun c30 => ?_) (fun c30 => ?_)
                      · have f30 := mt (ti_eq (a := x29.toInt) (b := w2.toInt) rfl rfl).mpr c30
                        exact jn22    _ _ _ hP hD hS (lv_sub hl [0, 1, 2, 3, 4] rfl)
                      · have f30 := (ti_eq (a := x29.toInt) (b := w2.toInt) rfl rfl).mp c30
                        refine lv_aload_n hx hb dX12_isExitBarred_135 rfl (lv_at hl 1 rfl) ?_
                        refine lv_iload hx hb dX12_isExitBarred_136 (lv_at hl 0 rfl) ?_
                        have rb15_i : 0 ≤ (i 15).toInt ∧ (i 15).toInt ≤ 200 := hI.1 15
                        refine al_callv (va_runV (As := [.int y5_4]) (rest := []) ⟨hx, hb, hml, hown, hts⟩ (s_X12_clashes l D H.size o a t i q c d y5_4 hI (by omega) (by omega)) (cwV 1 hts gm_X12_isExitBarred_X12_clashes rfl rfl rfl (by decide +kernel) ⟨Nat.le_of_ble_eq_true rfl, Nat.le_of_ble_eq_true rfl⟩) (pB_V hK hP hD (ci := 12) (q0 := 0) rfl rfl) rfl rfl hl.1 rfl (lv_room (Nat.le_of_ble_eq_true rfl)) dX12_isExitBarred_138 ⟨Nat.le_of_ble_eq_true rfl, Nat.le_of_ble_eq_true rfl⟩) hS hA hP hD (fun u31 H locs hw31 hP hD hS => ?_)
                        obtain ⟨i31, q31, c31, d31⟩ := u31
                        have hw31 : True ∧ mInv i31 c31 ∧ (∀ k, k ∉ ([15] : List Nat) → i31 k = i k) ∧ (∀ k, k ∉ ([14] : List Nat) → c31 k = c k) ∧ ((i31 15).toInt = (i 15).toInt + 1) := hw31
                        obtain ⟨hw31, hI, hei31, hec31, hxp31_0⟩ := hw31
                        have hfi := fr_t hfi hei31 (by decide)
                        have hfc := fr_t hfc hec31 (by decide)
                        have hP : va_P D vwCl (mW o a t i31 q31 c31 d31) H := hP
                        have hD : va_D A (mW o a t i31 q31 c31 d31) := hD
                        refine lv_iconst (v := 1) hx hb dX12_isExitBarred_141 (by decide) ?_
                        exact rw_zret (i31, q31, c31, d31) hx hb hr hlocks hS (hK.sub (tys' := []) [] rfl) hP hD rfl dX12_isExitBarred_142 ⟨(show 0 ≤ (1 : Int32).toInt ∧ (1 : Int32).toInt ≤ 1 from by have h9 : (1 : Int32).toInt = 1 := (by decide); omega), hI, hfi, hfc⟩
          exact lp5 _ (0 : Int32) (show 0 ≤ (0 : Int32).toInt ∧ (0 : Int32).toInt ≤ 200 from by have h50 : (0 : Int32).toInt = 0 := (by decide); omega) (show ((i 15) : Int32).toInt = 0 from by have h50 : (0 : Int32).toInt = 0 := (by decide); omega) (Nat.lt_succ_self _) _ _ _ hP hD hS (lv_sub hl [0, 1, 2, 3, 4] rfl)
        · have f4 := (ti_eq (a := r3.toInt) (b := 0) rfl (by decide)).mp c4
          refine lv_iconst (v := 0) hx hb dX12_isExitBarred_78 (by decide) ?_
          exact rw_zret (i, q, c, d) hx hb hr hlocks hS (hK.sub (tys' := []) [] rfl) hP hD rfl dX12_isExitBarred_79 ⟨(show 0 ≤ (0 : Int32).toInt ∧ (0 : Int32).toInt ≤ 1 from by have h9 : (0 : Int32).toInt = 0 := (by decide); omega), hI, hfi, hfc⟩
      · have f2 := mt (ti_le (a := (i 8).toInt) (b := y1_4.toInt) rfl rfl).mpr c2
        refine lv_aload_n hx hb dX12_isExitBarred_12 rfl (lv_at hl 1 rfl) ?_
        refine mget_13 hx hb hts (fun _ h => List.mem_cons_of_mem _ (List.mem_append_right _ h)) hown hK hP (hts (.fieldLink RX12 37 "TalePlayModel" "isSaid" "[Z") (by decide +kernel)) dX12_isExitBarred_13 ?_
        refine lv_iload hx hb dX12_isExitBarred_16 (lv_at hl 0 rfl) ?_
        refine mld_13 hx hb hK hP (vp_in_iff.mpr (by have h9 : y1_4.toInt = y1_4.toInt := rfl; omega)) dX12_isExitBarred_18 (fun x32 ex32 => ?_)
        have rx32 : 0 ≤ x32.toInt ∧ x32.toInt ≤ 1 := by rw [ex32]; exact hI.2 13 _
        have jn33 : ∀ (H : Heap) (locs : List Loc) (ls : Array Slot), va_P D vwCl (mW o a t i q c d) H → va_D A (mW o a t i q c d) → va_S A s.heap H locs → lv_has ls 5 [(4, .int y1_4), (0, .ref o), (1, .int w1), (2, .int w2), (3, .int w3)] → W p l e (headSpec wm_X12_isExitBarred ({ frames := 1, cells := 0, slots := 0, locals := 23 })).room s m ([.ref o, .int w1, .int w2, .int w3] : List Value).toArray below meth cd H locs 0 0 (MQ below (va_Qi (fun (r : Int32) (u : MS) => (0 ≤ r.toInt ∧ r.toInt ≤ 1) ∧ mInv u.1 u.2.2.1 ∧ (∀ k, k ∉ ([15] : List Nat) → u.1 k = i k) ∧ (∀ k, k ∉ ([14] : List Nat) → u.2.2.1 k = c k)) (oC D A (fun u : MS => mW o a t u.1 u.2.1 u.2.2.1 u.2.2.2) (fun _ => [])) A) ([.ref o, .int w1, .int w2, .int w3] : List Value).toArray s 0 0 A) (F0 m 63 ls []) := by
          intro H locs ls hP hD hS hl
          obtain ⟨x34, ex34⟩ : ∃ y : Int32, y = y1_4 + 1 := ⟨_, rfl⟩
          have tx34 := ti_add (a := y1_4.toInt) (b := 1) ex34 rfl (by decide) (by omega) (by omega)
          refine lv_iinc (v := x34) (lv' := [(4, .int x34), (0, .ref o), (1, .int w1), (2, .int w2), (3, .int w3)]) hx hb dX12_isExitBarred_63 hl (k := 0) rfl (by rw [ex34]; rfl) (by decide) rfl (fun ls hl => ?_)
          refine lv_goto (tgt := 3) hx hb dX12_isExitBarred_66 (by decide) ?_
          exact ih1 x34 (show 0 ≤ x34.toInt ∧ x34.toInt ≤ 200 from by have h50 : x34.toInt = (y1_4.toInt + 1) := tx34; omega) (show ((i 15) : Int32).toInt = 0 from by have h50 : x34.toInt = (y1_4.toInt + 1) := tx34; omega) (by have h50 : x34.toInt = (y1_4.toInt + 1) := tx34; omega) _ _ _ hP hD hS (lv_sub hl [0, 1, 2, 3, 4] rfl)
        refine lv_if_eq (tgt := 63) hx hb dX12_isExitBarred_19 (by decide) (fun c35 => ?_) (fun c35 => ?_)
        · have f35 := (ti_eq (a := x32.toInt) (b := 0) rfl (by decide)).mp c35
          exact jn33    _ _ _ hP hD hS (lv_sub hl [0, 1, 2, 3, 4] rfl)
        · have f35 := mt (ti_eq (a := x32.toInt) (b := 0) rfl (by decide)).mpr c35
          refine lv_aload_n hx hb dX12_isExitBarred_22 rfl (lv_at hl 1 rfl) ?_
          refine mget_9 hx hb hts (fun _ h => List.mem_cons_of_mem _ (List.mem_append_right _ h)) hown hK hP (hts (.fieldLink RX12 25 "TalePlayModel" "form" "[I") (by decide +kernel)) dX12_isExitBarred_23 ?_
          refine lv_iload hx hb dX12_isExitBarred_26 (lv_at hl 0 rfl) ?_
          refine mld_9 hx hb hK hP (vp_in_iff.mpr (by have h9 : y1_4.toInt = y1_4.toInt := rfl; omega)) dX12_isExitBarred_28 (fun x36 ex36 => ?_)
          have rx36 : 0 ≤ x36.toInt ∧ x36.toInt ≤ 7 := by rw [ex36]; exact hI.2 9 _
          refine lv_iconst (v := 5) hx hb dX12_isExitBarred_29 (by decide) ?_
          refine lv_icmp_ne (tgt := 63) hx hb dX12_isExitBarred_30 (by decide) (fun c37 => ?_) (fun c37 => ?_)
          · have f37 := mt (ti_eq (a := x36.toInt) (b := 5) rfl (by decide)).mpr c37
            exact jn33    _ _ _ hP hD hS (lv_sub hl [0, 1, 2, 3, 4] rfl)
          · have f37 := (ti_eq (a := x36.toInt) (b := 5) rfl (by decide)).mp c37
            refine lv_aload_n hx hb dX12_isExitBarred_33 rfl (lv_at hl 1 rfl) ?_
            refine mget_10 hx hb hts (fun _ h => List.mem_cons_of_mem _ (List.mem_append_right _ h)) hown hK hP (hts (.fieldLink RX12 28 "TalePlayModel" "left" "[I") (by decide +kernel)) dX12_isExitBarred_34 ?_
            refine lv_iload hx hb dX12_isExitBarred_37 (lv_at hl 0 rfl) ?_
            refine mld_10 hx hb hK hP (vp_in_iff.mpr (by have h9 : y1_4.toInt = y1_4.toInt := rfl; omega)) dX12_isExitBarred_39 (fun x38 ex38 => ?_)
            have rx38 : 0 ≤ x38.toInt ∧ x38.toInt ≤ 29 := by rw [ex38]; exact hI.2 10 _
            refine lv_iload_n hx hb dX12_isExitBarred_40 rfl (lv_at hl 2 rfl) ?_
            refine lv_icmp_ne (tgt := 63) hx hb dX12_isExitBarred_41 (by decide) (fun c39 => ?_) (fun c39 => ?_)
            · have f39 := mt (ti_eq (a := x38.toInt) (b := w1.toInt) rfl rfl).mpr c39
              exact jn33    _ _ _ hP hD hS (lv_sub hl [0, 1, 2, 3, 4] rfl)
            · have f39 := (ti_eq (a := x38.toInt) (b := w1.toInt) rfl rfl).mp c39
              refine lv_aload_n hx hb dX12_isExitBarred_44 rfl (lv_at hl 1 rfl) ?_
              refine mget_12 hx hb hts (fun _ h => List.mem_cons_of_mem _ (List.mem_append_right _ h)) hown hK hP (hts (.fieldLink RX12 34 "TalePlayModel" "right" "[I") (by decide +kernel)) dX12_isExitBarred_45 ?_
              refine lv_iload hx hb dX12_isExitBarred_48 (lv_at hl 0 rfl) ?_
              refine mld_12 hx hb hK hP (vp_in_iff.mpr (by have h9 : y1_4.toInt = y1_4.toInt := rfl; omega)) dX12_isExitBarred_50 (fun x40 ex40 => ?_)
              have rx40 : 0 ≤ x40.toInt ∧ x40.toInt ≤ 9 := by rw [ex40]; exact hI.2 12 _
              refine lv_iload_n hx hb dX12_isExitBarred_51 rfl (lv_at hl 4 rfl) ?_
              refine lv_icmp_ne (tgt := 63) hx hb dX12_isExitBarred_52 (by decide) (fun c41 => ?_) (fun c41 => ?_)
              · have f41 := mt (ti_eq (a := x40.toInt) (b := w3.toInt) rfl rfl).mpr c41
                exact jn33    _ _ _ hP hD hS (lv_sub hl [0, 1, 2, 3, 4] rfl)
              · have f41 := (ti_eq (a := x40.toInt) (b := w3.toInt) rfl rfl).mp c41
                refine lv_aload_n hx hb dX12_isExitBarred_55 rfl (lv_at hl 1 rfl) ?_
                refine lv_iload hx hb dX12_isExitBarred_56 (lv_at hl 0 rfl) ?_
                have rb15_i : 0 ≤ (i 15).toInt ∧ (i 15).toInt ≤ 200 := hI.1 15
                refine al_callv (va_runV (As := [.int y1_4]) (rest := []) ⟨hx, hb, hml, hown, hts⟩ (s_X12_clashes l D H.size o a t i q c d y1_4 hI (by omega) (by omega)) (cwV 1 hts gm_X12_isExitBarred_X12_clashes rfl rfl rfl (by decide +kernel) ⟨Nat.le_of_ble_eq_true rfl, Nat.le_of_ble_eq_true rfl⟩) (pB_V hK hP hD (ci := 12) (q0 := 0) rfl rfl) rfl rfl hl.1 rfl (lv_room (Nat.le_of_ble_eq_true rfl)) dX12_isExitBarred_58 ⟨Nat.le_of_ble_eq_true rfl, Nat.le_of_ble_eq_true rfl⟩) hS hA hP hD (fun u42 H locs hw42 hP hD hS => ?_)
                obtain ⟨i42, q42, c42, d42⟩ := u42
                have hw42 : True ∧ mInv i42 c42 ∧ (∀ k, k ∉ ([15] : List Nat) → i42 k = i k) ∧ (∀ k, k ∉ ([14] : List Nat) → c42 k = c k) ∧ ((i42 15).toInt = (i 15).toInt + 1) := hw42
                obtain ⟨hw42, hI, hei42, hec42, hxp42_0⟩ := hw42
                have hfi := fr_t hfi hei42 (by decide)
                have hfc := fr_t hfc hec42 (by decide)
                have hP : va_P D vwCl (mW o a t i42 q42 c42 d42) H := hP
                have hD : va_D A (mW o a t i42 q42 c42 d42) := hD
                refine lv_iconst (v := 1) hx hb dX12_isExitBarred_61 (by decide) ?_
                exact rw_zret (i42, q42, c42, d42) hx hb hr hlocks hS (hK.sub (tys' := []) [] rfl) hP hD rfl dX12_isExitBarred_62 ⟨(show 0 ≤ (1 : Int32).toInt ∧ (1 : Int32).toInt ≤ 1 from by have h9 : (1 : Int32).toInt = 1 := (by decide); omega), hI, hfi, hfc⟩
  exact lp1 _ (0 : Int32) (show 0 ≤ (0 : Int32).toInt ∧ (0 : Int32).toInt ≤ 200 from by have h50 : (0 : Int32).toInt = 0 := (by decide); omega) (show ((i 15) : Int32).toInt = 0 from by have h50 : (0 : Int32).toInt = 0 := (by decide); omega) (Nat.lt_succ_self _) _ _ _ hP hD hS (lv_sub hl [0, 1, 2, 3, 4] rfl)

def wm_X12_isKeyBarred : List Cond := .code yX12_isKeyBarred cX12_isKeyBarred 3 (some .boolean) :: (([.fieldLink RX12 202 "TalePlayModel" "sentences" "I", .fieldLink RX12 205 "TalePlayModel" "rowMany" "I", .fieldLink RX12 37 "TalePlayModel" "isSaid" "[Z", .fieldLink RX12 25 "TalePlayModel" "form" "[I", .fieldLink RX12 31 "TalePlayModel" "middle" "[I", .methodLink RX12 212 yX12_clashes, .instanceMethod yX12_clashes, .selects RX12 yX12_clashes yX12_clashes, .initialized RX12, .code yX12_clashes cX12_clashes 2 none, .fieldLink RX12 41 "TalePlayModel" "row" "[I"] : List Cond) ++ wsX120)
set_option maxRecDepth 20000 in
theorem gm_X12_isKeyBarred_X12_clashes : GoodIn wm_X12_isKeyBarred (wsV RX12 212 RX12 yX12_clashes wm_X12_clashes) := goodIn_app (goodIn_of _ (by decide +kernel)) (goodIn_r _ [10, 11, 2, 12, 13, 14, 15, 16, 17, 18, 19, 20, 21, 22, 23, 24, 25, 26, 27, 28, 29, 30, 31, 32, 33, 34, 35, 36, 37, 38, 39, 40, 41, 42, 43, 44, 45, 46, 47, 48, 49, 50, 51, 52, 53, 54, 55, 56, 57, 58, 59, 60, 61, 62, 63, 64, 65, 66, 67, 68, 69, 70, 71, 72, 73, 74, 75, 76, 77, 78, 79, 80] (by decide +kernel) (by decide +kernel))
set_option maxHeartbeats 4000000 in
set_option maxRecDepth 100000 in
theorem s_X12_isKeyBarred (l : Launch) (D : va_G) (sz : Nat) (o : Nat) (a : Nat → Nat) (t : Nat → ClassId) (i : Nat → Int32) (q : Int64) (c : Nat → Nat → Int32) (d : Nat → Nat → Int64) (w2 : Int32) (hI : mInv i c) (hw2 : 0 ≤ w2.toInt ∧ w2.toInt ≤ 29) (hrm : (i 15).toInt = 0) : Met l yX12_isKeyBarred wm_X12_isKeyBarred ({ frames := 1, cells := 0, slots := 0, locals := 21 }) (va_Pc [.ref o, .int w2] (pB D sz (mW o a t i q c d) (mT t))) (va_Qi (fun (r : Int32) (u : MS) => (0 ≤ r.toInt ∧ r.toInt ≤ 1) ∧ mInv u.1 u.2.2.1 ∧ (∀ k, k ∉ ([15] : List Nat) → u.1 k = i k) ∧ (∀ k, k ∉ ([14] : List Nat) → u.2.2.1 k = c k)) (oC D (va_A (mW o a t i q c d) sz) (fun u : MS => mW o a t u.1 u.2.1 u.2.2.1 u.2.2.2) (fun _ => [])) (va_A (mW o a t i q c d) sz)) 0 0 (va_A (mW o a t i q c d) sz) := by
  refine Met.ofW (cc := cX12_isKeyBarred) (maxL := 3) (ret := (some .boolean)) (by decide) rfl ?_
  intro p e s m args below meth cd s₁ B hml hv
  obtain ⟨rfl, hsz, hP, hK, hD0⟩ := hv
  have hx := B.exec
  have hb := B.bytes
  have hr := B.returns
  have hts := atoms_spec (ws := wm_X12_isKeyBarred) B.pre
  have hown : s.vm.findClass RX12 = some m.cls := findClass_of_methodNamed B.named
  have hlocks := B.notSynchronized
  subst hsz
  have hD := hD0.self (sz := s.heap.size)
  generalize hAe : va_A (mW o a t i q c d) s.heap.size = A at hD ⊢
  have hA : ∀ q : Nat, s.heap.size ≤ q → A q := fun q h => by rw [← hAe]; exact Or.inr h
  have hS : va_S A s.heap s.heap [] := va_S.rf
  have hfi : ∀ k, k ∉ ([15] : List Nat) → i k = i k := fun _ _ => rfl
  have hfc : ∀ k, k ∉ ([14] : List Nat) → c k = c k := fun _ _ => rfl
  have hl := lv_entry ([.ref o, .int w2]) (n := 3) (Nat.le_of_ble_eq_true rfl)
  rw [lg_entry_eq]
  generalize (lg_sl ([.ref o, .int w2]) ++ List.replicate (3 - (lg_sl ([.ref o, .int w2])).length) Slot.unset).toArray = ls at hl ⊢
  have hl : lv_has ls 3 [(0, .ref o), (1, .int w2)] := hl
  refine lv_iconst (v := 0) hx hb dX12_isKeyBarred_0 (by decide) ?_
  refine lv_istore_n (lv' := [(2, .int 0), (0, .ref o), (1, .int w2)]) hx hb dX12_isKeyBarred_1 rfl hl (by decide) rfl (fun ls hl => ?_)
  have lp1 : ∀ (fu : Nat) (i1 : Nat → Int32) (q1 : Int64) (c1 : Nat → Nat → Int32) (d1 : Nat → Nat → Int64) (y1_2 : Int32), mInv i1 c1 → (∀ k, k ∉ ([15] : List Nat) → i1 k = i k) → (∀ k, k ∉ ([14] : List Nat) → c1 k = c k) → (0 ≤ y1_2.toInt ∧ y1_2.toInt ≤ 200) → (((i1 15) : Int32).toInt ≤ y1_2.toInt) → (200 - y1_2.toInt).toNat < fu → ∀ (H : Heap) (locs : List Loc) (ls : Array Slot), va_P D vwCl (mW o a t i1 q1 c1 d1) H → va_D A (mW o a t i1 q1 c1 d1) → va_S A s.heap H locs → lv_has ls 3 [(2, .int y1_2), (0, .ref o), (1, .int w2)] → W p l e (headSpec wm_X12_isKeyBarred ({ frames := 1, cells := 0, slots := 0, locals := 21 })).room s m ([.ref o, .int w2] : List Value).toArray below meth cd H locs 0 0 (MQ below (va_Qi (fun (r : Int32) (u : MS) => (0 ≤ r.toInt ∧ r.toInt ≤ 1) ∧ mInv u.1 u.2.2.1 ∧ (∀ k, k ∉ ([15] : List Nat) → u.1 k = i k) ∧ (∀ k, k ∉ ([14] : List Nat) → u.2.2.1 k = c k)) (oC D A (fun u : MS => mW o a t u.1 u.2.1 u.2.2.1 u.2.2.2) (fun _ => [])) A) ([.ref o, .int w2] : List Value).toArray s 0 0 A) (F0 m 2 ls []) := by
    intro fu
    induction fu with
    | zero => intro i1 q1 c1 d1 y1_2 hI hfi hfc hy1_2 hz1_0 hm; exact absurd hm (Nat.not_lt_zero _)
    | succ fu ih =>
      intro i1 q1 c1 d1 y1_2 hI hfi hfc hy1_2 hz1_0 hm H locs ls hP hD hS hl
      have ih1 := ih
      refine lv_iload_n hx hb dX12_isKeyBarred_2 rfl (lv_at hl 0 rfl) ?_
      refine lv_aload_n hx hb dX12_isKeyBarred_3 rfl (lv_at hl 1 rfl) ?_
      refine mget_8 (v := (i1 8)) rfl hx hb hts (fun _ h => List.mem_cons_of_mem _ (List.mem_append_right _ h)) hown hK hP (hts (.fieldLink RX12 202 "TalePlayModel" "sentences" "I") (by decide +kernel)) dX12_isKeyBarred_4 ?_
      have rb8_i1 : 0 ≤ (i1 8).toInt ∧ (i1 8).toInt ≤ 200 := hI.1 8
      have re8_i1 : (i1 8).toInt = (i 8).toInt := congrArg Int32.toInt (hfi 8 (by decide))
      refine lv_icmp_ge (tgt := 51) hx hb dX12_isKeyBarred_7 (by decide) (fun c2 => ?_) (fun c2 => ?_)
      · have f2 := (ti_le (a := (i1 8).toInt) (b := y1_2.toInt) rfl rfl).mp c2
        refine lv_aload_n hx hb dX12_isKeyBarred_51 rfl (lv_at hl 1 rfl) ?_
        refine mget_15 (v := (i1 15)) rfl hx hb hts (fun _ h => List.mem_cons_of_mem _ (List.mem_append_right _ h)) hown hK hP (hts (.fieldLink RX12 205 "TalePlayModel" "rowMany" "I") (by decide +kernel)) dX12_isKeyBarred_52 ?_
        have rb15_i1 : 0 ≤ (i1 15).toInt ∧ (i1 15).toInt ≤ 200 := hI.1 15
        refine lv_if_le (tgt := 62) hx hb dX12_isKeyBarred_55 (by decide) (fun c3 => ?_) (fun c3 => ?_)
        · have f3 := (ti_le (a := (i1 15).toInt) (b := 0) rfl (by decide)).mp c3
          refine lv_iconst (v := 0) hx hb dX12_isKeyBarred_62 (by decide) ?_
          exact rw_zret (i1, q1, c1, d1) hx hb hr hlocks hS (hK.sub (tys' := []) [] rfl) hP hD rfl dX12_isKeyBarred_63 ⟨(show 0 ≤ (0 : Int32).toInt ∧ (0 : Int32).toInt ≤ 1 from by have h9 : (0 : Int32).toInt = 0 := (by decide); omega), hI, hfi, hfc⟩
        · have f3 := mt (ti_le (a := (i1 15).toInt) (b := 0) rfl (by decide)).mpr c3
          refine lv_iconst (v := 1) hx hb dX12_isKeyBarred_58 (by decide) ?_
          refine lv_goto (tgt := 63) hx hb dX12_isKeyBarred_59 (by decide) ?_
          exact rw_zret (i1, q1, c1, d1) hx hb hr hlocks hS (hK.sub (tys' := []) [] rfl) hP hD rfl dX12_isKeyBarred_63 ⟨(show 0 ≤ (1 : Int32).toInt ∧ (1 : Int32).toInt ≤ 1 from by have h9 : (1 : Int32).toInt = 1 := (by decide); omega), hI, hfi, hfc⟩
      · have f2 := mt (ti_le (a := (i1 8).toInt) (b := y1_2.toInt) rfl rfl).mpr c2
        refine lv_aload_n hx hb dX12_isKeyBarred_10 rfl (lv_at hl 1 rfl) ?_
        refine mget_13 hx hb hts (fun _ h => List.mem_cons_of_mem _ (List.mem_append_right _ h)) hown hK hP (hts (.fieldLink RX12 37 "TalePlayModel" "isSaid" "[Z") (by decide +kernel)) dX12_isKeyBarred_11 ?_
        refine lv_iload_n hx hb dX12_isKeyBarred_14 rfl (lv_at hl 0 rfl) ?_
        refine mld_13 hx hb hK hP (vp_in_iff.mpr (by have h9 : y1_2.toInt = y1_2.toInt := rfl; omega)) dX12_isKeyBarred_15 (fun x4 ex4 => ?_)
        have rx4 : 0 ≤ x4.toInt ∧ x4.toInt ≤ 1 := by rw [ex4]; exact hI.2 13 _
        have jn5 : ∀ (i5 : Nat → Int32) (q5 : Int64) (c5 : Nat → Nat → Int32) (d5 : Nat → Nat → Int64), mInv i5 c5 → (∀ k, k ∉ ([15] : List Nat) → i5 k = i k) → (∀ k, k ∉ ([14] : List Nat) → c5 k = c k) → (((i5 15) : Int32).toInt ≤ y1_2.toInt + 1) → ∀ (H : Heap) (locs : List Loc) (ls : Array Slot), va_P D vwCl (mW o a t i5 q5 c5 d5) H → va_D A (mW o a t i5 q5 c5 d5) → va_S A s.heap H locs → lv_has ls 3 [(2, .int y1_2), (0, .ref o), (1, .int w2)] → W p l e (headSpec wm_X12_isKeyBarred ({ frames := 1, cells := 0, slots := 0, locals := 21 })).room s m ([.ref o, .int w2] : List Value).toArray below meth cd H locs 0 0 (MQ below (va_Qi (fun (r : Int32) (u : MS) => (0 ≤ r.toInt ∧ r.toInt ≤ 1) ∧ mInv u.1 u.2.2.1 ∧ (∀ k, k ∉ ([15] : List Nat) → u.1 k = i k) ∧ (∀ k, k ∉ ([14] : List Nat) → u.2.2.1 k = c k)) (oC D A (fun u : MS => mW o a t u.1 u.2.1 u.2.2.1 u.2.2.2) (fun _ => [])) A) ([.ref o, .int w2] : List Value).toArray s 0 0 A) (F0 m 45 ls []) := by
          intro i5 q5 c5 d5 hI hfi hfc hz5_0 H locs ls hP hD hS hl
          obtain ⟨x6, ex6⟩ : ∃ y : Int32, y = y1_2 + 1 := ⟨_, rfl⟩
          have tx6 := ti_add (a := y1_2.toInt) (b := 1) ex6 rfl (by decide) (by omega) (by omega)
          refine lv_iinc (v := x6) (lv' := [(2, .int x6), (0, .ref o), (1, .int w2)]) hx hb dX12_isKeyBarred_45 hl (k := 0) rfl (by rw [ex6]; rfl) (by decide) rfl (fun ls hl => ?_)
          refine lv_goto (tgt := 2) hx hb dX12_isKeyBarred_48 (by decide) ?_
          exact ih1 i5 q5 c5 d5 x6 hI hfi hfc (show 0 ≤ x6.toInt ∧ x6.toInt ≤ 200 from by have h50 : x6.toInt = (y1_2.toInt + 1) := tx6; omega) (show ((i5 15) : Int32).toInt ≤ x6.toInt from by have h50 : x6.toInt = (y1_2.toInt + 1) := tx6; omega) (by have h50 : x6.toInt = (y1_2.toInt + 1) := tx6; omega) _ _ _ hP hD hS (lv_sub hl [0, 1, 2] rfl)
        refine lv_if_eq (tgt := 45) hx hb dX12_isKeyBarred_16 (by decide) (fun c7 => ?_) (fun c7 => ?_)
        · have f7 := (ti_eq (a := x4.toInt) (b := 0) rfl (by decide)).mp c7
          exact jn5 i1 q1 c1 d1   hI hfi hfc (show ((i1 15) : Int32).toInt ≤ y1_2.toInt + 1 from by omega) _ _ _ hP hD hS (lv_sub hl [0, 1, 2] rfl)
        · have f7 := mt (ti_eq (a := x4.toInt) (b := 0) rfl (by decide)).mpr c7
          refine lv_aload_n hx hb dX12_isKeyBarred_19 rfl (lv_at hl 1 rfl) ?_
          refine mget_9 hx hb hts (fun _ h => List.mem_cons_of_mem _ (List.mem_append_right _ h)) hown hK hP (hts (.fieldLink RX12 25 "TalePlayModel" "form" "[I") (by decide +kernel)) dX12_isKeyBarred_20 ?_
          refine lv_iload_n hx hb dX12_isKeyBarred_23 rfl (lv_at hl 0 rfl) ?_
          refine mld_9 hx hb hK hP (vp_in_iff.mpr (by have h9 : y1_2.toInt = y1_2.toInt := rfl; omega)) dX12_isKeyBarred_24 (fun x8 ex8 => ?_)
          have rx8 : 0 ≤ x8.toInt ∧ x8.toInt ≤ 7 := by rw [ex8]; exact hI.2 9 _
          refine lv_bipush (v := 7) hx hb dX12_isKeyBarred_25 (by decide) ?_
          refine lv_icmp_ne (tgt := 45) hx hb dX12_isKeyBarred_27 (by decide) (fun c9 => ?_) (fun c9 => ?_)
          · have f9 := mt (ti_eq (a := x8.toInt) (b := 7) rfl (by decide)).mpr c9
            exact jn5 i1 q1 c1 d1   hI hfi hfc (show ((i1 15) : Int32).toInt ≤ y1_2.toInt + 1 from by omega) _ _ _ hP hD hS (lv_sub hl [0, 1, 2] rfl)
          · have f9 := (ti_eq (a := x8.toInt) (b := 7) rfl (by decide)).mp c9
            refine lv_aload_n hx hb dX12_isKeyBarred_30 rfl (lv_at hl 1 rfl) ?_
            refine mget_11 hx hb hts (fun _ h => List.mem_cons_of_mem _ (List.mem_append_right _ h)) hown hK hP (hts (.fieldLink RX12 31 "TalePlayModel" "middle" "[I") (by decide +kernel)) dX12_isKeyBarred_31 ?_
            refine lv_iload_n hx hb dX12_isKeyBarred_34 rfl (lv_at hl 0 rfl) ?_
            refine mld_11 hx hb hK hP (vp_in_iff.mpr (by have h9 : y1_2.toInt = y1_2.toInt := rfl; omega)) dX12_isKeyBarred_35 (fun x10 ex10 => ?_)
            have rx10 : 0 ≤ x10.toInt ∧ x10.toInt ≤ 29 := by rw [ex10]; exact hI.2 11 _
            refine lv_iload_n hx hb dX12_isKeyBarred_36 rfl (lv_at hl 2 rfl) ?_
            refine lv_icmp_ne (tgt := 45) hx hb dX12_isKeyBarred_37 (by decide) (fun c11 => ?_) (fun c11 => ?_)
            · have f11 := mt (ti_eq (a := x10.toInt) (b := w2.toInt) rfl rfl).mpr c11
              exact jn5 i1 q1 c1 d1   hI hfi hfc (show ((i1 15) : Int32).toInt ≤ y1_2.toInt + 1 from by omega) _ _ _ hP hD hS (lv_sub hl [0, 1, 2] rfl)
            · have f11 := (ti_eq (a := x10.toInt) (b := w2.toInt) rfl rfl).mp c11
              refine lv_aload_n hx hb dX12_isKeyBarred_40 rfl (lv_at hl 1 rfl) ?_
              refine lv_iload_n hx hb dX12_isKeyBarred_41 rfl (lv_at hl 0 rfl) ?_
              have rb15_i1 : 0 ≤ (i1 15).toInt ∧ (i1 15).toInt ≤ 200 := hI.1 15
              refine al_callv (va_runV (As := [.int y1_2]) (rest := []) ⟨hx, hb, hml, hown, hts⟩ (s_X12_clashes l D H.size o a t i1 q1 c1 d1 y1_2 hI (by omega) (by omega)) (cwV 1 hts gm_X12_isKeyBarred_X12_clashes rfl rfl rfl (by decide +kernel) ⟨Nat.le_of_ble_eq_true rfl, Nat.le_of_ble_eq_true rfl⟩) (pB_V hK hP hD (ci := 12) (q0 := 0) rfl rfl) rfl rfl hl.1 rfl (lv_room (Nat.le_of_ble_eq_true rfl)) dX12_isKeyBarred_42 ⟨Nat.le_of_ble_eq_true rfl, Nat.le_of_ble_eq_true rfl⟩) hS hA hP hD (fun u12 H locs hw12 hP hD hS => ?_)
              obtain ⟨i12, q12, c12, d12⟩ := u12
              have hw12 : True ∧ mInv i12 c12 ∧ (∀ k, k ∉ ([15] : List Nat) → i12 k = i1 k) ∧ (∀ k, k ∉ ([14] : List Nat) → c12 k = c1 k) ∧ ((i12 15).toInt = (i1 15).toInt + 1) := hw12
              obtain ⟨hw12, hI, hei12, hec12, hxp12_0⟩ := hw12
              have hfi := fr_t hfi hei12 (by decide)
              have hfc := fr_t hfc hec12 (by decide)
              have hP : va_P D vwCl (mW o a t i12 q12 c12 d12) H := hP
              have hD : va_D A (mW o a t i12 q12 c12 d12) := hD
              exact jn5 i12 q12 c12 d12   hI hfi hfc (show ((i12 15) : Int32).toInt ≤ y1_2.toInt + 1 from by omega) _ _ _ hP hD hS (lv_sub hl [0, 1, 2] rfl)
  exact lp1 _ i q c d (0 : Int32) hI hfi hfc (show 0 ≤ (0 : Int32).toInt ∧ (0 : Int32).toInt ≤ 200 from by have h50 : (0 : Int32).toInt = 0 := (by decide); omega) (show ((i 15) : Int32).toInt ≤ (0 : Int32).toInt from by have h50 : (0 : Int32).toInt = 0 := (by decide); omega) (Nat.lt_succ_self _) _ _ _ hP hD hS (lv_sub hl [0, 1, 2] rfl)

def wm_X12_findExit : List Cond := .code yX12_findExit cX12_findExit 6 (some .boolean) :: (([.fieldLink RX12 263 "TalePlayModel" "leads" "I", .fieldLink RX12 266 "TalePlayModel" "byDoor" "I", .fieldLink RX12 269 "TalePlayModel" "bySentence" "I", .fieldLink RX12 272 "TalePlayModel" "isImplied" "Z", .fieldLink RX12 202 "TalePlayModel" "sentences" "I", .fieldLink RX12 28 "TalePlayModel" "left" "[I", .fieldLink RX12 31 "TalePlayModel" "middle" "[I", .methodLink RX12 184 yX12_isOf, .instanceMethod yX12_isOf, .selects RX12 yX12_isOf yX12_isOf, .initialized RX12, .code yX12_isOf cX12_isOf 4 (some .boolean), .fieldLink RX12 19 "TalePlayModel" "kindOf" "[I", .fieldLink RX12 13 "TalePlayModel" "parentOf" "[I", .methodLink RX12 276 yX12_otherSide, .instanceMethod yX12_otherSide, .selects RX12 yX12_otherSide yX12_otherSide, .code yX12_otherSide cX12_otherSide 4 (some .int), .fieldLink RX12 37 "TalePlayModel" "isSaid" "[Z", .fieldLink RX12 25 "TalePlayModel" "form" "[I", .fieldLink RX12 34 "TalePlayModel" "right" "[I"] : List Cond) ++ wsX120)
set_option maxRecDepth 20000 in
theorem gm_X12_findExit_X12_isOf : GoodIn wm_X12_findExit (wsV RX12 184 RX12 yX12_isOf wm_X12_isOf) := goodIn_app (goodIn_of _ (by decide +kernel)) (goodIn_r _ [12, 13, 14, 22, 23, 24, 25, 26, 27, 28, 29, 30, 31, 32, 33, 34, 35, 36, 37, 38, 39, 40, 41, 42, 43, 44, 45, 46, 47, 48, 49, 50, 51, 52, 53, 54, 55, 56, 57, 58, 59, 60, 61, 62, 63, 64, 65, 66, 67, 68, 69, 70, 71, 72, 73, 74, 75, 76, 77, 78, 79, 80, 81, 82, 83, 84, 85, 86, 87, 88, 89, 90] (by decide +kernel) (by decide +kernel))
set_option maxRecDepth 20000 in
theorem gm_X12_findExit_X12_otherSide : GoodIn wm_X12_findExit (wsV RX12 276 RX12 yX12_otherSide wm_X12_otherSide) := goodIn_app (goodIn_of _ (by decide +kernel)) (goodIn_r _ [18, 5, 19, 20, 7, 6, 22, 23, 24, 25, 26, 27, 28, 29, 30, 31, 32, 33, 34, 35, 36, 37, 38, 39, 40, 41, 42, 43, 44, 45, 46, 47, 48, 49, 50, 51, 52, 53, 54, 55, 56, 57, 58, 59, 60, 61, 62, 63, 64, 65, 66, 67, 68, 69, 70, 71, 72, 73, 74, 75, 76, 77, 78, 79, 80, 81, 82, 83, 84, 85, 86, 87, 88, 89, 90] (by decide +kernel) (by decide +kernel))
set_option maxHeartbeats 4000000 in
set_option maxRecDepth 100000 in
theorem s_X12_findExit (l : Launch) (D : va_G) (sz : Nat) (o : Nat) (a : Nat → Nat) (t : Nat → ClassId) (i : Nat → Int32) (q : Int64) (c : Nat → Nat → Int32) (d : Nat → Nat → Int64) (r1 : Int32) (d1 : Int32) (hI : mInv i c) (hr1 : 0 ≤ r1.toInt ∧ r1.toInt ≤ 29) (hd1 : 0 ≤ d1.toInt ∧ d1.toInt ≤ 9) : Met l yX12_findExit wm_X12_findExit ({ frames := 1, cells := 0, slots := 0, locals := 23 }) (va_Pc [.ref o, .int r1, .int d1] (pB D sz (mW o a t i q c d) (mT t))) (va_Qi (fun (r : Int32) (u : MS) => (0 ≤ r.toInt ∧ r.toInt ≤ 1) ∧ mInv u.1 u.2.2.1 ∧ (∀ k, k ∉ ([16, 17, 18, 19] : List Nat) → u.1 k = i k) ∧ (∀ k, k ∉ ([] : List Nat) → u.2.2.1 k = c k)) (oC D (va_A (mW o a t i q c d) sz) (fun u : MS => mW o a t u.1 u.2.1 u.2.2.1 u.2.2.2) (fun _ => [])) (va_A (mW o a t i q c d) sz)) 0 0 (va_A (mW o a t i q c d) sz) := by
  refine Met.ofW (cc := cX12_findExit) (maxL := 6) (ret := (some .boolean)) (by decide) rfl ?_
  intro p e s m args below meth cd s₁ B hml hv
  obtain ⟨rfl, hsz, hP, hK, hD0⟩ := hv
  have hx := B.exec
  have hb := B.bytes
  have hr := B.returns
  have hts := atoms_spec (ws := wm_X12_findExit) B.pre
  have hown : s.vm.findClass RX12 = some m.cls := findClass_of_methodNamed B.named
  have hlocks := B.notSynchronized
  subst hsz
  have hD := hD0.self (sz := s.heap.size)
  generalize hAe : va_A (mW o a t i q c d) s.heap.size = A at hD ⊢
  have hA : ∀ q : Nat, s.heap.size ≤ q → A q := fun q h => by rw [← hAe]; exact Or.inr h
  have hS : va_S A s.heap s.heap [] := va_S.rf
  have hfi : ∀ k, k ∉ ([16, 17, 18, 19] : List Nat) → i k = i k := fun _ _ => rfl
  have hfc : ∀ k, k ∉ ([] : List Nat) → c k = c k := fun _ _ => rfl
  have hl := lv_entry ([.ref o, .int r1, .int d1]) (n := 6) (Nat.le_of_ble_eq_true rfl)
  rw [lg_entry_eq]
  generalize (lg_sl ([.ref o, .int r1, .int d1]) ++ List.replicate (6 - (lg_sl ([.ref o, .int r1, .int d1])).length) Slot.unset).toArray = ls at hl ⊢
  have hl : lv_has ls 6 [(0, .ref o), (1, .int r1), (2, .int d1)] := hl
  refine lv_aload_n hx hb dX12_findExit_0 rfl (lv_at hl 0 rfl) ?_
  refine lv_bipush (v := (-9)) hx hb dX12_findExit_1 (by decide) ?_
  refine mput_16 hx hb hts (fun _ h => List.mem_cons_of_mem _ (List.mem_append_right _ h)) hown hK hP hD hS (hts (.fieldLink RX12 263 "TalePlayModel" "leads" "I") (by decide +kernel)) rfl rfl dX12_findExit_3 (fun H locs hP hD hS => ?_)
  have hI := mInv_i hI (k := 16) (v := (-9)) (show ((-9) : Int32).toInt = -9 ∨ (0 ≤ ((-9) : Int32).toInt ∧ ((-9) : Int32).toInt ≤ 29) from by have h9 : ((-9) : Int32).toInt = -9 := (by decide); omega)
  have hfi := fr_i hfi (k := 16) (v := (-9)) (by decide)
  refine lv_aload_n hx hb dX12_findExit_6 rfl (lv_at hl 0 rfl) ?_
  refine lv_bipush (v := (-9)) hx hb dX12_findExit_7 (by decide) ?_
  refine mput_17 hx hb hts (fun _ h => List.mem_cons_of_mem _ (List.mem_append_right _ h)) hown hK hP hD hS (hts (.fieldLink RX12 266 "TalePlayModel" "byDoor" "I") (by decide +kernel)) rfl rfl dX12_findExit_9 (fun H locs hP hD hS => ?_)
  have hI := mInv_i hI (k := 17) (v := (-9)) (show ((-9) : Int32).toInt = -9 ∨ (0 ≤ ((-9) : Int32).toInt ∧ ((-9) : Int32).toInt ≤ 29) from by have h9 : ((-9) : Int32).toInt = -9 := (by decide); omega)
  have hfi := fr_i hfi (k := 17) (v := (-9)) (by decide)
  refine lv_aload_n hx hb dX12_findExit_12 rfl (lv_at hl 0 rfl) ?_
  refine lv_bipush (v := (-9)) hx hb dX12_findExit_13 (by decide) ?_
  refine mput_18 hx hb hts (fun _ h => List.mem_cons_of_mem _ (List.mem_append_right _ h)) hown hK hP hD hS (hts (.fieldLink RX12 269 "TalePlayModel" "bySentence" "I") (by decide +kernel)) rfl rfl dX12_findExit_15 (fun H locs hP hD hS => ?_)
  have hI := mInv_i hI (k := 18) (v := (-9)) (show ((-9) : Int32).toInt = -9 ∨ (0 ≤ ((-9) : Int32).toInt ∧ ((-9) : Int32).toInt ≤ 199) from by have h9 : ((-9) : Int32).toInt = -9 := (by decide); omega)
  have hfi := fr_i hfi (k := 18) (v := (-9)) (by decide)
  refine lv_aload_n hx hb dX12_findExit_18 rfl (lv_at hl 0 rfl) ?_
  refine lv_iconst (v := 0) hx hb dX12_findExit_19 (by decide) ?_
  refine mput_19 hx hb hts (fun _ h => List.mem_cons_of_mem _ (List.mem_append_right _ h)) hown hK hP hD hS (hts (.fieldLink RX12 272 "TalePlayModel" "isImplied" "Z") (by decide +kernel)) rfl rfl dX12_findExit_20 (fun H locs hP hD hS => ?_)
  have hI := mInv_i hI (k := 19) (v := 0) (show 0 ≤ (0 : Int32).toInt ∧ (0 : Int32).toInt ≤ 1 from by have h9 : (0 : Int32).toInt = 0 := (by decide); omega)
  have hfi := fr_i hfi (k := 19) (v := 0) (by decide)
  refine lv_iload_n hx hb dX12_findExit_23 rfl (lv_at hl 2 rfl) ?_
  refine lv_iconst (v := 2) hx hb dX12_findExit_24 (by decide) ?_
  refine lv_irem hx hb dX12_findExit_25 (by decide) ?_
  refine lv_topi (fun x1 ex1 => ?_)
  refine lv_if_ne (tgt := 35) hx hb dX12_findExit_26 (by decide) (fun c2 => ?_) (fun c2 => ?_)
  · have f2 := mt (ti_eq (a := x1.toInt) (b := 0) rfl (by decide)).mpr c2
    refine lv_iload_n hx hb dX12_findExit_35 rfl (lv_at hl 2 rfl) ?_
    refine lv_iconst (v := 1) hx hb dX12_findExit_36 (by decide) ?_
    refine lv_isub hx hb dX12_findExit_37 ?_
    refine lv_topi (fun x3 ex3 => ?_)
    have tx3 := ti_sub (a := d1.toInt) (b := 1) ex3 rfl (by decide) (by omega) (by omega)
    refine lv_istore_n (lv' := [(3, .int x3), (0, .ref o), (1, .int r1), (2, .int d1)]) hx hb dX12_findExit_38 rfl hl (by decide) rfl (fun ls hl => ?_)
    refine lv_bipush (v := (-9)) hx hb dX12_findExit_39 (by decide) ?_
    refine lv_istore (lv' := [(4, .int (-9)), (3, .int x3), (0, .ref o), (1, .int r1), (2, .int d1)]) hx hb dX12_findExit_41 hl (by decide) rfl (fun ls hl => ?_)
    refine lv_iconst (v := 0) hx hb dX12_findExit_43 (by decide) ?_
    refine lv_istore (lv' := [(5, .int 0), (4, .int (-9)), (3, .int x3), (0, .ref o), (1, .int r1), (2, .int d1)]) hx hb dX12_findExit_44 hl (by decide) rfl (fun ls hl => ?_)
    have lp4 : ∀ (fu : Nat) (i4 : Nat → Int32) (q4 : Int64) (c4 : Nat → Nat → Int32) (d4 : Nat → Nat → Int64) (y4_5 : Int32) (y4_4 : Int32), mInv i4 c4 → (∀ k, k ∉ ([16, 17, 18, 19] : List Nat) → i4 k = i k) → (∀ k, k ∉ ([] : List Nat) → c4 k = c k) → (0 ≤ y4_5.toInt ∧ y4_5.toInt ≤ 200) → (y4_4.toInt = -9 ∨ (0 ≤ y4_4.toInt ∧ y4_4.toInt ≤ 199)) → (200 - y4_5.toInt).toNat < fu → ∀ (H : Heap) (locs : List Loc) (ls : Array Slot), va_P D vwCl (mW o a t i4 q4 c4 d4) H → va_D A (mW o a t i4 q4 c4 d4) → va_S A s.heap H locs → lv_has ls 6 [(5, .int y4_5), (4, .int y4_4), (3, .int x3), (0, .ref o), (1, .int r1), (2, .int d1)] → W p l e (headSpec wm_X12_findExit ({ frames := 1, cells := 0, slots := 0, locals := 23 })).room s m ([.ref o, .int r1, .int d1] : List Value).toArray below meth cd H locs 0 0 (MQ below (va_Qi (fun (r : Int32) (u : MS) => (0 ≤ r.toInt ∧ r.toInt ≤ 1) ∧ mInv u.1 u.2.2.1 ∧ (∀ k, k ∉ ([16, 17, 18, 19] : List Nat) → u.1 k = i k) ∧ (∀ k, k ∉ ([] : List Nat) → u.2.2.1 k = c k)) (oC D A (fun u : MS => mW o a t u.1 u.2.1 u.2.2.1 u.2.2.2) (fun _ => [])) A) ([.ref o, .int r1, .int d1] : List Value).toArray s 0 0 A) (F0 m 46 ls []) := by
      intro fu
      induction fu with
      | zero => intro i4 q4 c4 d4 y4_5 y4_4 hI hfi hfc hy4_5 hy4_4 hm; exact absurd hm (Nat.not_lt_zero _)
      | succ fu ih =>
        intro i4 q4 c4 d4 y4_5 y4_4 hI hfi hfc hy4_5 hy4_4 hm H locs ls hP hD hS hl
        have ih4 := ih
        refine lv_iload hx hb dX12_findExit_46 (lv_at hl 0 rfl) ?_
        refine lv_aload_n hx hb dX12_findExit_48 rfl (lv_at hl 3 rfl) ?_
        refine mget_8 (v := (i4 8)) rfl hx hb hts (fun _ h => List.mem_cons_of_mem _ (List.mem_append_right _ h)) hown hK hP (hts (.fieldLink RX12 202 "TalePlayModel" "sentences" "I") (by decide +kernel)) dX12_findExit_49 ?_
        have rb8_i4 : 0 ≤ (i4 8).toInt ∧ (i4 8).toInt ≤ 200 := hI.1 8
        have re8_i4 : (i4 8).toInt = (i 8).toInt := congrArg Int32.toInt (hfi 8 (by decide))
        refine lv_icmp_ge (tgt := 164) hx hb dX12_findExit_52 (by decide) (fun c5 => ?_) (fun c5 => ?_)
        · have f5 := (ti_le (a := (i4 8).toInt) (b := y4_5.toInt) rfl rfl).mp c5
          refine lv_aload_n hx hb dX12_findExit_164 rfl (lv_at hl 3 rfl) ?_
          refine mget_18 (v := (i4 18)) rfl hx hb hts (fun _ h => List.mem_cons_of_mem _ (List.mem_append_right _ h)) hown hK hP (hts (.fieldLink RX12 269 "TalePlayModel" "bySentence" "I") (by decide +kernel)) dX12_findExit_165 ?_
          have rb18_i4 : (i4 18).toInt = -9 ∨ (0 ≤ (i4 18).toInt ∧ (i4 18).toInt ≤ 199) := hI.1 18
          refine lv_bipush (v := (-9)) hx hb dX12_findExit_168 (by decide) ?_
          have jn6 : ∀ (i6 : Nat → Int32) (q6 : Int64) (c6 : Nat → Nat → Int32) (d6 : Nat → Nat → Int64), mInv i6 c6 → (∀ k, k ∉ ([16, 17, 18, 19] : List Nat) → i6 k = i k) → (∀ k, k ∉ ([] : List Nat) → c6 k = c k) → ∀ (H : Heap) (locs : List Loc) (ls : Array Slot), va_P D vwCl (mW o a t i6 q6 c6 d6) H → va_D A (mW o a t i6 q6 c6 d6) → va_S A s.heap H locs → lv_has ls 6 [(5, .int y4_5), (4, .int y4_4), (3, .int x3), (0, .ref o), (1, .int r1), (2, .int d1)] → W p l e (headSpec wm_X12_findExit ({ frames := 1, cells := 0, slots := 0, locals := 23 })).room s m ([.ref o, .int r1, .int d1] : List Value).toArray below meth cd H locs 0 0 (MQ below (va_Qi (fun (r : Int32) (u : MS) => (0 ≤ r.toInt ∧ r.toInt ≤ 1) ∧ mInv u.1 u.2.2.1 ∧ (∀ k, k ∉ ([16, 17, 18, 19] : List Nat) → u.1 k = i k) ∧ (∀ k, k ∉ ([] : List Nat) → u.2.2.1 k = c k)) (oC D A (fun u : MS => mW o a t u.1 u.2.1 u.2.2.1 u.2.2.2) (fun _ => [])) A) ([.ref o, .int r1, .int d1] : List Value).toArray s 0 0 A) (F0 m 273 ls []) := by
            intro i6 q6 c6 d6 hI hfi hfc H locs ls hP hD hS hl
            refine lv_aload_n hx hb dX12_findExit_273 rfl (lv_at hl 3 rfl) ?_
            refine mget_18 (v := (i6 18)) rfl hx hb hts (fun _ h => List.mem_cons_of_mem _ (List.mem_append_right _ h)) hown hK hP (hts (.fieldLink RX12 269 "TalePlayModel" "bySentence" "I") (by decide +kernel)) dX12_findExit_274 ?_
            have rb18_i6 : (i6 18).toInt = -9 ∨ (0 ≤ (i6 18).toInt ∧ (i6 18).toInt ≤ 199) := hI.1 18
            refine lv_bipush (v := (-9)) hx hb dX12_findExit_277 (by decide) ?_
            refine lv_icmp_eq (tgt := 286) hx hb dX12_findExit_279 (by decide) (fun c7 => ?_) (fun c7 => ?_)
            · have f7 := (ti_eq (a := (i6 18).toInt) (b := (-9)) rfl (by decide)).mp c7
              refine lv_iconst (v := 0) hx hb dX12_findExit_286 (by decide) ?_
              exact rw_zret (i6, q6, c6, d6) hx hb hr hlocks hS (hK.sub (tys' := []) [] rfl) hP hD rfl dX12_findExit_287 ⟨(show 0 ≤ (0 : Int32).toInt ∧ (0 : Int32).toInt ≤ 1 from by have h9 : (0 : Int32).toInt = 0 := (by decide); omega), hI, hfi, hfc⟩
            · have f7 := mt (ti_eq (a := (i6 18).toInt) (b := (-9)) rfl (by decide)).mpr c7
              refine lv_iconst (v := 1) hx hb dX12_findExit_282 (by decide) ?_
              refine lv_goto (tgt := 287) hx hb dX12_findExit_283 (by decide) ?_
              exact rw_zret (i6, q6, c6, d6) hx hb hr hlocks hS (hK.sub (tys' := []) [] rfl) hP hD rfl dX12_findExit_287 ⟨(show 0 ≤ (1 : Int32).toInt ∧ (1 : Int32).toInt ≤ 1 from by have h9 : (1 : Int32).toInt = 1 := (by decide); omega), hI, hfi, hfc⟩
          have jn8 : ∀ (H : Heap) (locs : List Loc) (ls : Array Slot), va_P D vwCl (mW o a t i4 q4 c4 d4) H → va_D A (mW o a t i4 q4 c4 d4) → va_S A s.heap H locs → lv_has ls 6 [(5, .int y4_5), (4, .int y4_4), (3, .int x3), (0, .ref o), (1, .int r1), (2, .int d1)] → W p l e (headSpec wm_X12_findExit ({ frames := 1, cells := 0, slots := 0, locals := 23 })).room s m ([.ref o, .int r1, .int d1] : List Value).toArray below meth cd H locs 0 0 (MQ below (va_Qi (fun (r : Int32) (u : MS) => (0 ≤ r.toInt ∧ r.toInt ≤ 1) ∧ mInv u.1 u.2.2.1 ∧ (∀ k, k ∉ ([16, 17, 18, 19] : List Nat) → u.1 k = i k) ∧ (∀ k, k ∉ ([] : List Nat) → u.2.2.1 k = c k)) (oC D A (fun u : MS => mW o a t u.1 u.2.1 u.2.2.1 u.2.2.2) (fun _ => [])) A) ([.ref o, .int r1, .int d1] : List Value).toArray s 0 0 A) (F0 m 219 ls []) := by
            intro H locs ls hP hD hS hl
            refine lv_aload_n hx hb dX12_findExit_219 rfl (lv_at hl 3 rfl) ?_
            refine mget_18 (v := (i4 18)) rfl hx hb hts (fun _ h => List.mem_cons_of_mem _ (List.mem_append_right _ h)) hown hK hP (hts (.fieldLink RX12 269 "TalePlayModel" "bySentence" "I") (by decide +kernel)) dX12_findExit_220 ?_
            refine lv_bipush (v := (-9)) hx hb dX12_findExit_223 (by decide) ?_
            refine lv_icmp_eq (tgt := 244) hx hb dX12_findExit_225 (by decide) (fun c9 => ?_) (fun c9 => ?_)
            · have f9 := (ti_eq (a := (i4 18).toInt) (b := (-9)) rfl (by decide)).mp c9
              refine lv_iload hx hb dX12_findExit_244 (lv_at hl 1 rfl) ?_
              refine lv_bipush (v := (-9)) hx hb dX12_findExit_246 (by decide) ?_
              refine lv_icmp_eq (tgt := 273) hx hb dX12_findExit_248 (by decide) (fun c10 => ?_) (fun c10 => ?_)
              · have f10 := (ti_eq (a := y4_4.toInt) (b := (-9)) rfl (by decide)).mp c10
                exact jn6 i4 q4 c4 d4   hI hfi hfc _ _ _ hP hD hS (lv_sub hl [0, 1, 2, 3, 4, 5] rfl)
              · have f10 := mt (ti_eq (a := y4_4.toInt) (b := (-9)) rfl (by decide)).mpr c10
                refine lv_aload_n hx hb dX12_findExit_251 rfl (lv_at hl 3 rfl) ?_
                refine lv_iload hx hb dX12_findExit_252 (lv_at hl 1 rfl) ?_
                refine mput_18 hx hb hts (fun _ h => List.mem_cons_of_mem _ (List.mem_append_right _ h)) hown hK hP hD hS (hts (.fieldLink RX12 269 "TalePlayModel" "bySentence" "I") (by decide +kernel)) rfl rfl dX12_findExit_254 (fun H locs hP hD hS => ?_)
                have hI := mInv_i hI (k := 18) (v := y4_4) (show (y4_4 : Int32).toInt = -9 ∨ (0 ≤ (y4_4 : Int32).toInt ∧ (y4_4 : Int32).toInt ≤ 199) from by omega)
                have hfi := fr_i hfi (k := 18) (v := y4_4) (by decide)
                refine lv_aload_n hx hb dX12_findExit_257 rfl (lv_at hl 3 rfl) ?_
                refine lv_iconst (v := 1) hx hb dX12_findExit_258 (by decide) ?_
                refine mput_19 hx hb hts (fun _ h => List.mem_cons_of_mem _ (List.mem_append_right _ h)) hown hK hP hD hS (hts (.fieldLink RX12 272 "TalePlayModel" "isImplied" "Z") (by decide +kernel)) rfl rfl dX12_findExit_259 (fun H locs hP hD hS => ?_)
                have hI := mInv_i hI (k := 19) (v := 1) (show 0 ≤ (1 : Int32).toInt ∧ (1 : Int32).toInt ≤ 1 from by have h9 : (1 : Int32).toInt = 1 := (by decide); omega)
                have hfi := fr_i hfi (k := 19) (v := 1) (by decide)
                refine lv_aload_n hx hb dX12_findExit_262 rfl (lv_at hl 3 rfl) ?_
                refine lv_aload_n hx hb dX12_findExit_263 rfl (lv_at hl 3 rfl) ?_
                refine mget_10 hx hb hts (fun _ h => List.mem_cons_of_mem _ (List.mem_append_right _ h)) hown hK hP (hts (.fieldLink RX12 28 "TalePlayModel" "left" "[I") (by decide +kernel)) dX12_findExit_264 ?_
                refine lv_iload hx hb dX12_findExit_267 (lv_at hl 1 rfl) ?_
                refine mld_10 hx hb hK hP (vp_in_iff.mpr (by have h9 : y4_4.toInt = y4_4.toInt := rfl; omega)) dX12_findExit_269 (fun x11 ex11 => ?_)
                have rx11 : 0 ≤ x11.toInt ∧ x11.toInt ≤ 29 := by rw [ex11]; exact hI.2 10 _
                refine mput_16 hx hb hts (fun _ h => List.mem_cons_of_mem _ (List.mem_append_right _ h)) hown hK hP hD hS (hts (.fieldLink RX12 263 "TalePlayModel" "leads" "I") (by decide +kernel)) rfl rfl dX12_findExit_270 (fun H locs hP hD hS => ?_)
                have hI := mInv_i hI (k := 16) (v := x11) (show (x11 : Int32).toInt = -9 ∨ (0 ≤ (x11 : Int32).toInt ∧ (x11 : Int32).toInt ≤ 29) from by omega)
                have hfi := fr_i hfi (k := 16) (v := x11) (by decide)
                exact jn6 (upd (upd (upd i4 18 y4_4) 19 1) 16 x11) q4 c4 d4   hI hfi hfc _ _ _ hP hD hS (lv_sub hl [0, 1, 2, 3, 4, 5] rfl)
            · have f9 := mt (ti_eq (a := (i4 18).toInt) (b := (-9)) rfl (by decide)).mpr c9
              refine lv_aload_n hx hb dX12_findExit_228 rfl (lv_at hl 3 rfl) ?_
              refine lv_aload_n hx hb dX12_findExit_229 rfl (lv_at hl 3 rfl) ?_
              refine mget_11 hx hb hts (fun _ h => List.mem_cons_of_mem _ (List.mem_append_right _ h)) hown hK hP (hts (.fieldLink RX12 31 "TalePlayModel" "middle" "[I") (by decide +kernel)) dX12_findExit_230 ?_
              refine lv_aload_n hx hb dX12_findExit_233 rfl (lv_at hl 3 rfl) ?_
              refine mget_18 (v := (i4 18)) rfl hx hb hts (fun _ h => List.mem_cons_of_mem _ (List.mem_append_right _ h)) hown hK hP (hts (.fieldLink RX12 269 "TalePlayModel" "bySentence" "I") (by decide +kernel)) dX12_findExit_234 ?_
              refine mld_11 hx hb hK hP (vp_in_iff.mpr (by have h9 : (i4 18).toInt = (i4 18).toInt := rfl; omega)) dX12_findExit_237 (fun x12 ex12 => ?_)
              have rx12 : 0 ≤ x12.toInt ∧ x12.toInt ≤ 29 := by rw [ex12]; exact hI.2 11 _
              refine mput_16 hx hb hts (fun _ h => List.mem_cons_of_mem _ (List.mem_append_right _ h)) hown hK hP hD hS (hts (.fieldLink RX12 263 "TalePlayModel" "leads" "I") (by decide +kernel)) rfl rfl dX12_findExit_238 (fun H locs hP hD hS => ?_)
              have hI := mInv_i hI (k := 16) (v := x12) (show (x12 : Int32).toInt = -9 ∨ (0 ≤ (x12 : Int32).toInt ∧ (x12 : Int32).toInt ≤ 29) from by omega)
              have hfi := fr_i hfi (k := 16) (v := x12) (by decide)
              refine lv_goto (tgt := 273) hx hb dX12_findExit_241 (by decide) ?_
              exact jn6 (upd i4 16 x12) q4 c4 d4   hI hfi hfc _ _ _ hP hD hS (lv_sub hl [0, 1, 2, 3, 4, 5] rfl)
          refine lv_icmp_eq (tgt := 219) hx hb dX12_findExit_170 (by decide) (fun c13 => ?_) (fun c13 => ?_)
          · have f13 := (ti_eq (a := (i4 18).toInt) (b := (-9)) rfl (by decide)).mp c13
            exact jn8    _ _ _ hP hD hS (lv_sub hl [0, 1, 2, 3, 4, 5] rfl)
          · have f13 := mt (ti_eq (a := (i4 18).toInt) (b := (-9)) rfl (by decide)).mpr c13
            refine lv_aload_n hx hb dX12_findExit_173 rfl (lv_at hl 3 rfl) ?_
            refine lv_aload_n hx hb dX12_findExit_174 rfl (lv_at hl 3 rfl) ?_
            refine mget_11 hx hb hts (fun _ h => List.mem_cons_of_mem _ (List.mem_append_right _ h)) hown hK hP (hts (.fieldLink RX12 31 "TalePlayModel" "middle" "[I") (by decide +kernel)) dX12_findExit_175 ?_
            refine lv_aload_n hx hb dX12_findExit_178 rfl (lv_at hl 3 rfl) ?_
            refine mget_18 (v := (i4 18)) rfl hx hb hts (fun _ h => List.mem_cons_of_mem _ (List.mem_append_right _ h)) hown hK hP (hts (.fieldLink RX12 269 "TalePlayModel" "bySentence" "I") (by decide +kernel)) dX12_findExit_179 ?_
            refine mld_11 hx hb hK hP (vp_in_iff.mpr (by have h9 : (i4 18).toInt = (i4 18).toInt := rfl; omega)) dX12_findExit_182 (fun x14 ex14 => ?_)
            have rx14 : 0 ≤ x14.toInt ∧ x14.toInt ≤ 29 := by rw [ex14]; exact hI.2 11 _
            refine lv_iconst (v := 2) hx hb dX12_findExit_183 (by decide) ?_
            refine ro_calli (va_runV (As := [.int x14, .int 2]) (rest := []) ⟨hx, hb, hml, hown, hts⟩ (s_X12_isOf l D H.size o a t i4 q4 c4 d4 x14 2 hI (by have h91 : (2 : Int32).toInt = 2 := (by decide); omega)) (cwV 2 hts gm_X12_findExit_X12_isOf rfl rfl rfl (by decide +kernel) ⟨Nat.le_of_ble_eq_true rfl, Nat.le_of_ble_eq_true rfl⟩) (pA_V hK hP (ci := 12) (q0 := 0) rfl rfl) rfl rfl hl.1 rfl (lv_room (Nat.le_of_ble_eq_true rfl)) dX12_findExit_184 ⟨Nat.le_of_ble_eq_true rfl, Nat.le_of_ble_eq_true rfl⟩) hS hA hP (fun r15 u15 H locs hw15 hP hS => ?_)
            have hw15 : 0 ≤ r15.toInt ∧ r15.toInt ≤ 1 := hw15
            refine lv_if_eq (tgt := 219) hx hb dX12_findExit_187 (by decide) (fun c16 => ?_) (fun c16 => ?_)
            · have f16 := (ti_eq (a := r15.toInt) (b := 0) rfl (by decide)).mp c16
              exact jn8    _ _ _ hP hD hS (lv_sub hl [0, 1, 2, 3, 4, 5] rfl)
            · have f16 := mt (ti_eq (a := r15.toInt) (b := 0) rfl (by decide)).mpr c16
              refine lv_aload_n hx hb dX12_findExit_190 rfl (lv_at hl 3 rfl) ?_
              refine lv_aload_n hx hb dX12_findExit_191 rfl (lv_at hl 3 rfl) ?_
              refine mget_11 hx hb hts (fun _ h => List.mem_cons_of_mem _ (List.mem_append_right _ h)) hown hK hP (hts (.fieldLink RX12 31 "TalePlayModel" "middle" "[I") (by decide +kernel)) dX12_findExit_192 ?_
              refine lv_aload_n hx hb dX12_findExit_195 rfl (lv_at hl 3 rfl) ?_
              refine mget_18 (v := (i4 18)) rfl hx hb hts (fun _ h => List.mem_cons_of_mem _ (List.mem_append_right _ h)) hown hK hP (hts (.fieldLink RX12 269 "TalePlayModel" "bySentence" "I") (by decide +kernel)) dX12_findExit_196 ?_
              refine mld_11 hx hb hK hP (vp_in_iff.mpr (by have h9 : (i4 18).toInt = (i4 18).toInt := rfl; omega)) dX12_findExit_199 (fun x17 ex17 => ?_)
              have rx17 : 0 ≤ x17.toInt ∧ x17.toInt ≤ 29 := by rw [ex17]; exact hI.2 11 _
              refine mput_17 hx hb hts (fun _ h => List.mem_cons_of_mem _ (List.mem_append_right _ h)) hown hK hP hD hS (hts (.fieldLink RX12 266 "TalePlayModel" "byDoor" "I") (by decide +kernel)) rfl rfl dX12_findExit_200 (fun H locs hP hD hS => ?_)
              have hI := mInv_i hI (k := 17) (v := x17) (show (x17 : Int32).toInt = -9 ∨ (0 ≤ (x17 : Int32).toInt ∧ (x17 : Int32).toInt ≤ 29) from by omega)
              have hfi := fr_i hfi (k := 17) (v := x17) (by decide)
              refine lv_aload_n hx hb dX12_findExit_203 rfl (lv_at hl 3 rfl) ?_
              refine lv_aload_n hx hb dX12_findExit_204 rfl (lv_at hl 3 rfl) ?_
              refine lv_aload_n hx hb dX12_findExit_205 rfl (lv_at hl 3 rfl) ?_
              refine mget_17 (v := x17) rfl hx hb hts (fun _ h => List.mem_cons_of_mem _ (List.mem_append_right _ h)) hown hK hP (hts (.fieldLink RX12 266 "TalePlayModel" "byDoor" "I") (by decide +kernel)) dX12_findExit_206 ?_
              refine lv_iload_n hx hb dX12_findExit_209 rfl (lv_at hl 4 rfl) ?_
              refine ro_calli (va_runV (As := [.int x17, .int r1]) (rest := [.ref o]) ⟨hx, hb, hml, hown, hts⟩ (s_X12_otherSide l D H.size o a t (upd i4 17 x17) q4 c4 d4 x17 r1 hI ) (cwV 2 hts gm_X12_findExit_X12_otherSide rfl rfl rfl (by decide +kernel) ⟨Nat.le_of_ble_eq_true rfl, Nat.le_of_ble_eq_true rfl⟩) (pA_V hK hP (ci := 12) (q0 := 0) rfl rfl) rfl rfl hl.1 rfl (lv_room (Nat.le_of_ble_eq_true rfl)) dX12_findExit_210 ⟨Nat.le_of_ble_eq_true rfl, Nat.le_of_ble_eq_true rfl⟩) hS hA hP (fun r18 u18 H locs hw18 hP hS => ?_)
              have hw18 : r18.toInt = -9 ∨ (0 ≤ r18.toInt ∧ r18.toInt ≤ 29) := hw18
              refine mput_16 hx hb hts (fun _ h => List.mem_cons_of_mem _ (List.mem_append_right _ h)) hown hK hP hD hS (hts (.fieldLink RX12 263 "TalePlayModel" "leads" "I") (by decide +kernel)) rfl rfl dX12_findExit_213 (fun H locs hP hD hS => ?_)
              have hI := mInv_i hI (k := 16) (v := r18) (show (r18 : Int32).toInt = -9 ∨ (0 ≤ (r18 : Int32).toInt ∧ (r18 : Int32).toInt ≤ 29) from by omega)
              have hfi := fr_i hfi (k := 16) (v := r18) (by decide)
              refine lv_goto (tgt := 273) hx hb dX12_findExit_216 (by decide) ?_
              exact jn6 (upd (upd i4 17 x17) 16 r18) q4 c4 d4   hI hfi hfc _ _ _ hP hD hS (lv_sub hl [0, 1, 2, 3, 4, 5] rfl)
        · have f5 := mt (ti_le (a := (i4 8).toInt) (b := y4_5.toInt) rfl rfl).mpr c5
          refine lv_aload_n hx hb dX12_findExit_55 rfl (lv_at hl 3 rfl) ?_
          refine mget_13 hx hb hts (fun _ h => List.mem_cons_of_mem _ (List.mem_append_right _ h)) hown hK hP (hts (.fieldLink RX12 37 "TalePlayModel" "isSaid" "[Z") (by decide +kernel)) dX12_findExit_56 ?_
          refine lv_iload hx hb dX12_findExit_59 (lv_at hl 0 rfl) ?_
          refine mld_13 hx hb hK hP (vp_in_iff.mpr (by have h9 : y4_5.toInt = y4_5.toInt := rfl; omega)) dX12_findExit_61 (fun x19 ex19 => ?_)
          have rx19 : 0 ≤ x19.toInt ∧ x19.toInt ≤ 1 := by rw [ex19]; exact hI.2 13 _
          have jn20 : ∀ (i20 : Nat → Int32) (q20 : Int64) (c20 : Nat → Nat → Int32) (d20 : Nat → Nat → Int64), mInv i20 c20 → (∀ k, k ∉ ([16, 17, 18, 19] : List Nat) → i20 k = i k) → (∀ k, k ∉ ([] : List Nat) → c20 k = c k) → ∀ (H : Heap) (locs : List Loc) (ls : Array Slot), va_P D vwCl (mW o a t i20 q20 c20 d20) H → va_D A (mW o a t i20 q20 c20 d20) → va_S A s.heap H locs → lv_has ls 6 [(5, .int y4_5), (4, .int y4_4), (3, .int x3), (0, .ref o), (1, .int r1), (2, .int d1)] → W p l e (headSpec wm_X12_findExit ({ frames := 1, cells := 0, slots := 0, locals := 23 })).room s m ([.ref o, .int r1, .int d1] : List Value).toArray below meth cd H locs 0 0 (MQ below (va_Qi (fun (r : Int32) (u : MS) => (0 ≤ r.toInt ∧ r.toInt ≤ 1) ∧ mInv u.1 u.2.2.1 ∧ (∀ k, k ∉ ([16, 17, 18, 19] : List Nat) → u.1 k = i k) ∧ (∀ k, k ∉ ([] : List Nat) → u.2.2.1 k = c k)) (oC D A (fun u : MS => mW o a t u.1 u.2.1 u.2.2.1 u.2.2.2) (fun _ => [])) A) ([.ref o, .int r1, .int d1] : List Value).toArray s 0 0 A) (F0 m 104 ls []) := by
            intro i20 q20 c20 d20 hI hfi hfc H locs ls hP hD hS hl
            refine lv_aload_n hx hb dX12_findExit_104 rfl (lv_at hl 3 rfl) ?_
            refine mget_13 hx hb hts (fun _ h => List.mem_cons_of_mem _ (List.mem_append_right _ h)) hown hK hP (hts (.fieldLink RX12 37 "TalePlayModel" "isSaid" "[Z") (by decide +kernel)) dX12_findExit_105 ?_
            refine lv_iload hx hb dX12_findExit_108 (lv_at hl 0 rfl) ?_
            refine mld_13 hx hb hK hP (vp_in_iff.mpr (by have h9 : y4_5.toInt = y4_5.toInt := rfl; omega)) dX12_findExit_110 (fun x21 ex21 => ?_)
            have rx21 : 0 ≤ x21.toInt ∧ x21.toInt ≤ 1 := by rw [ex21]; exact hI.2 13 _
            have jn22 : ∀ (y22_4 : Int32), (y22_4.toInt = -9 ∨ (0 ≤ y22_4.toInt ∧ y22_4.toInt ≤ 199)) → ∀ (H : Heap) (locs : List Loc) (ls : Array Slot), va_P D vwCl (mW o a t i20 q20 c20 d20) H → va_D A (mW o a t i20 q20 c20 d20) → va_S A s.heap H locs → lv_has ls 6 [(5, .int y4_5), (3, .int x3), (0, .ref o), (1, .int r1), (2, .int d1), (4, .int y22_4)] → W p l e (headSpec wm_X12_findExit ({ frames := 1, cells := 0, slots := 0, locals := 23 })).room s m ([.ref o, .int r1, .int d1] : List Value).toArray below meth cd H locs 0 0 (MQ below (va_Qi (fun (r : Int32) (u : MS) => (0 ≤ r.toInt ∧ r.toInt ≤ 1) ∧ mInv u.1 u.2.2.1 ∧ (∀ k, k ∉ ([16, 17, 18, 19] : List Nat) → u.1 k = i k) ∧ (∀ k, k ∉ ([] : List Nat) → u.2.2.1 k = c k)) (oC D A (fun u : MS => mW o a t u.1 u.2.1 u.2.2.1 u.2.2.2) (fun _ => [])) A) ([.ref o, .int r1, .int d1] : List Value).toArray s 0 0 A) (F0 m 158 ls []) := by
              intro y22_4 hy22_4 H locs ls hP hD hS hl
              obtain ⟨x23, ex23⟩ : ∃ y : Int32, y = y4_5 + 1 := ⟨_, rfl⟩
              have tx23 := ti_add (a := y4_5.toInt) (b := 1) ex23 rfl (by decide) (by omega) (by omega)
              refine lv_iinc (v := x23) (lv' := [(5, .int x23), (3, .int x3), (0, .ref o), (1, .int r1), (2, .int d1), (4, .int y22_4)]) hx hb dX12_findExit_158 hl (k := 0) rfl (by rw [ex23]; rfl) (by decide) rfl (fun ls hl => ?_)
              refine lv_goto (tgt := 46) hx hb dX12_findExit_161 (by decide) ?_
              exact ih4 i20 q20 c20 d20 x23 y22_4 hI hfi hfc (show 0 ≤ x23.toInt ∧ x23.toInt ≤ 200 from by have h50 : x23.toInt = (y4_5.toInt + 1) := tx23; have h51 : x3.toInt = (d1.toInt - 1) := tx3; omega) (show y22_4.toInt = -9 ∨ (0 ≤ y22_4.toInt ∧ y22_4.toInt ≤ 199) from by have h50 : x23.toInt = (y4_5.toInt + 1) := tx23; have h51 : x3.toInt = (d1.toInt - 1) := tx3; omega) (by have h50 : x23.toInt = (y4_5.toInt + 1) := tx23; have h51 : x3.toInt = (d1.toInt - 1) := tx3; omega) _ _ _ hP hD hS (lv_sub hl [0, 5, 1, 2, 3, 4] rfl)
            refine lv_if_eq (tgt := 158) hx hb dX12_findExit_111 (by decide) (fun c24 => ?_) (fun c24 => ?_)
            · have f24 := (ti_eq (a := x21.toInt) (b := 0) rfl (by decide)).mp c24
              exact jn22 y4_4  (show y4_4.toInt = -9 ∨ (0 ≤ y4_4.toInt ∧ y4_4.toInt ≤ 199) from by have h52 : x3.toInt = (d1.toInt - 1) := tx3; omega) _ _ _ hP hD hS (lv_sub hl [0, 2, 3, 4, 5, 1] rfl)
            · have f24 := mt (ti_eq (a := x21.toInt) (b := 0) rfl (by decide)).mpr c24
              refine lv_aload_n hx hb dX12_findExit_114 rfl (lv_at hl 3 rfl) ?_
              refine mget_9 hx hb hts (fun _ h => List.mem_cons_of_mem _ (List.mem_append_right _ h)) hown hK hP (hts (.fieldLink RX12 25 "TalePlayModel" "form" "[I") (by decide +kernel)) dX12_findExit_115 ?_
              refine lv_iload hx hb dX12_findExit_118 (lv_at hl 0 rfl) ?_
              refine mld_9 hx hb hK hP (vp_in_iff.mpr (by have h9 : y4_5.toInt = y4_5.toInt := rfl; omega)) dX12_findExit_120 (fun x25 ex25 => ?_)
              have rx25 : 0 ≤ x25.toInt ∧ x25.toInt ≤ 7 := by rw [ex25]; exact hI.2 9 _
              refine lv_iconst (v := 5) hx hb dX12_findExit_121 (by decide) ?_
              refine lv_icmp_ne (tgt := 158) hx hb dX12_findExit_122 (by decide) (fun c26 => ?_) (fun c26 => ?_)
              · have f26 := mt (ti_eq (a := x25.toInt) (b := 5) rfl (by decide)).mpr c26
                exact jn22 y4_4  (show y4_4.toInt = -9 ∨ (0 ≤ y4_4.toInt ∧ y4_4.toInt ≤ 199) from by have h52 : x3.toInt = (d1.toInt - 1) := tx3; omega) _ _ _ hP hD hS (lv_sub hl [0, 2, 3, 4, 5, 1] rfl)
              · have f26 := (ti_eq (a := x25.toInt) (b := 5) rfl (by decide)).mp c26
                refine lv_aload_n hx hb dX12_findExit_125 rfl (lv_at hl 3 rfl) ?_
                refine mget_11 hx hb hts (fun _ h => List.mem_cons_of_mem _ (List.mem_append_right _ h)) hown hK hP (hts (.fieldLink RX12 31 "TalePlayModel" "middle" "[I") (by decide +kernel)) dX12_findExit_126 ?_
                refine lv_iload hx hb dX12_findExit_129 (lv_at hl 0 rfl) ?_
                refine mld_11 hx hb hK hP (vp_in_iff.mpr (by have h9 : y4_5.toInt = y4_5.toInt := rfl; omega)) dX12_findExit_131 (fun x27 ex27 => ?_)
                have rx27 : 0 ≤ x27.toInt ∧ x27.toInt ≤ 29 := by rw [ex27]; exact hI.2 11 _
                refine lv_iload_n hx hb dX12_findExit_132 rfl (lv_at hl 4 rfl) ?_
                refine lv_icmp_ne (tgt := 158) hx hb dX12_findExit_133 (by decide) (fun c28 => ?_) (fun c28 => ?_)
                · have f28 := mt (ti_eq (a := x27.toInt) (b := r1.toInt) rfl rfl).mpr c28
                  exact jn22 y4_4  (show y4_4.toInt = -9 ∨ (0 ≤ y4_4.toInt ∧ y4_4.toInt ≤ 199) from by have h52 : x3.toInt = (d1.toInt - 1) := tx3; omega) _ _ _ hP hD hS (lv_sub hl [0, 2, 3, 4, 5, 1] rfl)
                · have f28 := (ti_eq (a := x27.toInt) (b := r1.toInt) rfl rfl).mp c28
                  refine lv_aload_n hx hb dX12_findExit_136 rfl (lv_at hl 3 rfl) ?_
                  refine mget_12 hx hb hts (fun _ h => List.mem_cons_of_mem _ (List.mem_append_right _ h)) hown hK hP (hts (.fieldLink RX12 34 "TalePlayModel" "right" "[I") (by decide +kernel)) dX12_findExit_137 ?_
                  refine lv_iload hx hb dX12_findExit_140 (lv_at hl 0 rfl) ?_
                  refine mld_12 hx hb hK hP (vp_in_iff.mpr (by have h9 : y4_5.toInt = y4_5.toInt := rfl; omega)) dX12_findExit_142 (fun x29 ex29 => ?_)
                  have rx29 : 0 ≤ x29.toInt ∧ x29.toInt ≤ 9 := by rw [ex29]; exact hI.2 12 _
                  refine lv_iload_n hx hb dX12_findExit_143 rfl (lv_at hl 2 rfl) ?_
                  refine lv_icmp_ne (tgt := 158) hx hb dX12_findExit_144 (by decide) (fun c30 => ?_) (fun c30 => ?_)
                  · have f30 := mt (ti_eq (a := x29.toInt) (b := (d1.toInt - 1)) rfl tx3).mpr c30
                    exact jn22 y4_4  (show y4_4.toInt = -9 ∨ (0 ≤ y4_4.toInt ∧ y4_4.toInt ≤ 199) from by have h52 : x3.toInt = (d1.toInt - 1) := tx3; omega) _ _ _ hP hD hS (lv_sub hl [0, 2, 3, 4, 5, 1] rfl)
                  · have f30 := (ti_eq (a := x29.toInt) (b := (d1.toInt - 1)) rfl tx3).mp c30
                    refine lv_iload hx hb dX12_findExit_147 (lv_at hl 1 rfl) ?_
                    refine lv_bipush (v := (-9)) hx hb dX12_findExit_149 (by decide) ?_
                    refine lv_icmp_ne (tgt := 158) hx hb dX12_findExit_151 (by decide) (fun c31 => ?_) (fun c31 => ?_)
                    · have f31 := mt (ti_eq (a := y4_4.toInt) (b := (-9)) rfl (by decide)).mpr c31
                      exact jn22 y4_4  (show y4_4.toInt = -9 ∨ (0 ≤ y4_4.toInt ∧ y4_4.toInt ≤ 199) from by have h52 : x3.toInt = (d1.toInt - 1) := tx3; omega) _ _ _ hP hD hS (lv_sub hl [0, 2, 3, 4, 5, 1] rfl)
                    · have f31 := (ti_eq (a := y4_4.toInt) (b := (-9)) rfl (by decide)).mp c31
                      refine lv_iload hx hb dX12_findExit_154 (lv_at hl 0 rfl) ?_
                      refine lv_istore (lv' := [(4, .int y4_5), (5, .int y4_5), (3, .int x3), (0, .ref o), (1, .int r1), (2, .int d1)]) hx hb dX12_findExit_156 hl (by decide) rfl (fun ls hl => ?_)
                      exact jn22 y4_5  (show y4_5.toInt = -9 ∨ (0 ≤ y4_5.toInt ∧ y4_5.toInt ≤ 199) from by have h52 : x3.toInt = (d1.toInt - 1) := tx3; omega) _ _ _ hP hD hS (lv_sub hl [1, 2, 3, 4, 5, 0] rfl)
          refine lv_if_eq (tgt := 104) hx hb dX12_findExit_62 (by decide) (fun c32 => ?_) (fun c32 => ?_)
          · have f32 := (ti_eq (a := x19.toInt) (b := 0) rfl (by decide)).mp c32
            exact jn20 i4 q4 c4 d4   hI hfi hfc _ _ _ hP hD hS (lv_sub hl [0, 1, 2, 3, 4, 5] rfl)
          · have f32 := mt (ti_eq (a := x19.toInt) (b := 0) rfl (by decide)).mpr c32
            refine lv_aload_n hx hb dX12_findExit_65 rfl (lv_at hl 3 rfl) ?_
            refine mget_9 hx hb hts (fun _ h => List.mem_cons_of_mem _ (List.mem_append_right _ h)) hown hK hP (hts (.fieldLink RX12 25 "TalePlayModel" "form" "[I") (by decide +kernel)) dX12_findExit_66 ?_
            refine lv_iload hx hb dX12_findExit_69 (lv_at hl 0 rfl) ?_
            refine mld_9 hx hb hK hP (vp_in_iff.mpr (by have h9 : y4_5.toInt = y4_5.toInt := rfl; omega)) dX12_findExit_71 (fun x33 ex33 => ?_)
            have rx33 : 0 ≤ x33.toInt ∧ x33.toInt ≤ 7 := by rw [ex33]; exact hI.2 9 _
            refine lv_iconst (v := 5) hx hb dX12_findExit_72 (by decide) ?_
            refine lv_icmp_ne (tgt := 104) hx hb dX12_findExit_73 (by decide) (fun c34 => ?_) (fun c34 => ?_)
            · have f34 := mt (ti_eq (a := x33.toInt) (b := 5) rfl (by decide)).mpr c34
              exact jn20 i4 q4 c4 d4   hI hfi hfc _ _ _ hP hD hS (lv_sub hl [0, 1, 2, 3, 4, 5] rfl)
            · have f34 := (ti_eq (a := x33.toInt) (b := 5) rfl (by decide)).mp c34
              refine lv_aload_n hx hb dX12_findExit_76 rfl (lv_at hl 3 rfl) ?_
              refine mget_10 hx hb hts (fun _ h => List.mem_cons_of_mem _ (List.mem_append_right _ h)) hown hK hP (hts (.fieldLink RX12 28 "TalePlayModel" "left" "[I") (by decide +kernel)) dX12_findExit_77 ?_
              refine lv_iload hx hb dX12_findExit_80 (lv_at hl 0 rfl) ?_
              refine mld_10 hx hb hK hP (vp_in_iff.mpr (by have h9 : y4_5.toInt = y4_5.toInt := rfl; omega)) dX12_findExit_82 (fun x35 ex35 => ?_)
              have rx35 : 0 ≤ x35.toInt ∧ x35.toInt ≤ 29 := by rw [ex35]; exact hI.2 10 _
              refine lv_iload_n hx hb dX12_findExit_83 rfl (lv_at hl 4 rfl) ?_
              refine lv_icmp_ne (tgt := 104) hx hb dX12_findExit_84 (by decide) (fun c36 => ?_) (fun c36 => ?_)
              · have f36 := mt (ti_eq (a := x35.toInt) (b := r1.toInt) rfl rfl).mpr c36
                exact jn20 i4 q4 c4 d4   hI hfi hfc _ _ _ hP hD hS (lv_sub hl [0, 1, 2, 3, 4, 5] rfl)
              · have f36 := (ti_eq (a := x35.toInt) (b := r1.toInt) rfl rfl).mp c36
                refine lv_aload_n hx hb dX12_findExit_87 rfl (lv_at hl 3 rfl) ?_
                refine mget_12 hx hb hts (fun _ h => List.mem_cons_of_mem _ (List.mem_append_right _ h)) hown hK hP (hts (.fieldLink RX12 34 "TalePlayModel" "right" "[I") (by decide +kernel)) dX12_findExit_88 ?_
                refine lv_iload hx hb dX12_findExit_91 (lv_at hl 0 rfl) ?_
                refine mld_12 hx hb hK hP (vp_in_iff.mpr (by have h9 : y4_5.toInt = y4_5.toInt := rfl; omega)) dX12_findExit_93 (fun x37 ex37 => ?_)
                have rx37 : 0 ≤ x37.toInt ∧ x37.toInt ≤ 9 := by rw [ex37]; exact hI.2 12 _
                refine lv_iload_n hx hb dX12_findExit_94 rfl (lv_at hl 5 rfl) ?_
                refine lv_icmp_ne (tgt := 104) hx hb dX12_findExit_95 (by decide) (fun c38 => ?_) (fun c38 => ?_)
                · have f38 := mt (ti_eq (a := x37.toInt) (b := d1.toInt) rfl rfl).mpr c38
                  exact jn20 i4 q4 c4 d4   hI hfi hfc _ _ _ hP hD hS (lv_sub hl [0, 1, 2, 3, 4, 5] rfl)
                · have f38 := (ti_eq (a := x37.toInt) (b := d1.toInt) rfl rfl).mp c38
                  refine lv_aload_n hx hb dX12_findExit_98 rfl (lv_at hl 3 rfl) ?_
                  refine lv_iload hx hb dX12_findExit_99 (lv_at hl 0 rfl) ?_
                  refine mput_18 hx hb hts (fun _ h => List.mem_cons_of_mem _ (List.mem_append_right _ h)) hown hK hP hD hS (hts (.fieldLink RX12 269 "TalePlayModel" "bySentence" "I") (by decide +kernel)) rfl rfl dX12_findExit_101 (fun H locs hP hD hS => ?_)
                  have hI := mInv_i hI (k := 18) (v := y4_5) (show (y4_5 : Int32).toInt = -9 ∨ (0 ≤ (y4_5 : Int32).toInt ∧ (y4_5 : Int32).toInt ≤ 199) from by omega)
                  have hfi := fr_i hfi (k := 18) (v := y4_5) (by decide)
                  exact jn20 (upd i4 18 y4_5) q4 c4 d4   hI hfi hfc _ _ _ hP hD hS (lv_sub hl [0, 1, 2, 3, 4, 5] rfl)
    exact lp4 _ (upd (upd (upd (upd i 16 (-9)) 17 (-9)) 18 (-9)) 19 0) q c d (0 : Int32) ((-9) : Int32) hI hfi hfc (show 0 ≤ (0 : Int32).toInt ∧ (0 : Int32).toInt ≤ 200 from by have h50 : (0 : Int32).toInt = 0 := (by decide); have h51 : ((-9) : Int32).toInt = -9 := (by decide); have h52 : x3.toInt = (d1.toInt - 1) := tx3; have h60 : ((-9) : Int32).toInt = -9 := (by decide); have h61 : ((-9) : Int32).toInt = -9 := (by decide); have h62 : ((-9) : Int32).toInt = -9 := (by decide); have h63 : (0 : Int32).toInt = 0 := (by decide); omega) (show ((-9) : Int32).toInt = -9 ∨ (0 ≤ ((-9) : Int32).toInt ∧ ((-9) : Int32).toInt ≤ 199) from by have h50 : (0 : Int32).toInt = 0 := (by decide); have h51 : ((-9) : Int32).toInt = -9 := (by decide); have h52 : x3.toInt = (d1.toInt - 1) := tx3; have h60 : ((-9) : Int32).toInt = -9 := (by decide); have h61 : ((-9) : Int32).toInt = -9 := (by decide); have h62 : ((-9) : Int32).toInt = -9 := (by decide); have h63 : (0 : Int32).toInt = 0 := (by decide); omega) (Nat.lt_succ_self _) _ _ _ hP hD hS (lv_sub hl [0, 1, 2, 3, 4, 5] rfl)
  · have f2 := (ti_eq (a := x1.toInt) (b := 0) rfl (by decide)).mp c2
    refine lv_iload_n hx hb dX12_findExit_29 rfl (lv_at hl 2 rfl) ?_
    refine lv_iconst (v := 1) hx hb dX12_findExit_30 (by decide) ?_
    refine lv_iadd hx hb dX12_findExit_31 ?_
    refine lv_topi (fun x39 ex39 => ?_)
    have tx39 := ti_add (a := d1.toInt) (b := 1) ex39 rfl (by decide) (by omega) (by omega)
    refine lv_goto (tgt := 38) hx hb dX12_findExit_32 (by decide) ?_
    refine lv_istore_n (lv' := [(3, .int x39), (0, .ref o), (1, .int r1), (2, .int d1)]) hx hb dX12_findExit_38 rfl hl (by decide) rfl (fun ls hl => ?_)
    refine lv_bipush (v := (-9)) hx hb dX12_findExit_39 (by decide) ?_
    refine lv_istore (lv' := [(4, .int (-9)), (3, .int x39), (0, .ref o), (1, .int r1), (2, .int d1)]) hx hb dX12_findExit_41 hl (by decide) rfl (fun ls hl => ?_)
    refine lv_iconst (v := 0) hx hb dX12_findExit_43 (by decide) ?_
    refine lv_istore (lv' := [(5, .int 0), (4, .int (-9)), (3, .int x39), (0, .ref o), (1, .int r1), (2, .int d1)]) hx hb dX12_findExit_44 hl (by decide) rfl (fun ls hl => ?_)
    have lp40 : ∀ (fu : Nat) (i40 : Nat → Int32) (q40 : Int64) (c40 : Nat → Nat → Int32) (d40 : Nat → Nat → Int64) (y40_5 : Int32) (y40_4 : Int32), mInv i40 c40 → (∀ k, k ∉ ([16, 17, 18, 19] : List Nat) → i40 k = i k) → (∀ k, k ∉ ([] : List Nat) → c40 k = c k) → (0 ≤ y40_5.toInt ∧ y40_5.toInt ≤ 200) → (y40_4.toInt = -9 ∨ (0 ≤ y40_4.toInt ∧ y40_4.toInt ≤ 199)) → (200 - y40_5.toInt).toNat < fu → ∀ (H : Heap) (locs : List Loc) (ls : Array Slot), va_P D vwCl (mW o a t i40 q40 c40 d40) H → va_D A (mW o a t i40 q40 c40 d40) → va_S A s.heap H locs → lv_has ls 6 [(5, .int y40_5), (4, .int y40_4), (3, .int x39), (0, .ref o), (1, .int r1), (2, .int d1)] → W p l e (headSpec wm_X12_findExit ({ frames := 1, cells := 0, slots := 0, locals := 23 })).room s m ([.ref o, .int r1, .int d1] : List Value).toArray below meth cd H locs 0 0 (MQ below (va_Qi (fun (r : Int32) (u : MS) => (0 ≤ r.toInt ∧ r.toInt ≤ 1) ∧ mInv u.1 u.2.2.1 ∧ (∀ k, k ∉ ([16, 17, 18, 19] : List Nat) → u.1 k = i k) ∧ (∀ k, k ∉ ([] : List Nat) → u.2.2.1 k = c k)) (oC D A (fun u : MS => mW o a t u.1 u.2.1 u.2.2.1 u.2.2.2) (fun _ => [])) A) ([.ref o, .int r1, .int d1] : List Value).toArray s 0 0 A) (F0 m 46 ls []) := by
      intro fu
      induction fu with
      | zero => intro i40 q40 c40 d40 y40_5 y40_4 hI hfi hfc hy40_5 hy40_4 hm; exact absurd hm (Nat.not_lt_zero _)
      | succ fu ih =>
        intro i40 q40 c40 d40 y40_5 y40_4 hI hfi hfc hy40_5 hy40_4 hm H locs ls hP hD hS hl
        have ih40 := ih
        refine lv_iload hx hb dX12_findExit_46 (lv_at hl 0 rfl) ?_
        refine lv_aload_n hx hb dX12_findExit_48 rfl (lv_at hl 3 rfl) ?_
        refine mget_8 (v := (i40 8)) rfl hx hb hts (fun _ h => List.mem_cons_of_mem _ (List.mem_append_right _ h)) hown hK hP (hts (.fieldLink RX12 202 "TalePlayModel" "sentences" "I") (by decide +kernel)) dX12_findExit_49 ?_
        have rb8_i40 : 0 ≤ (i40 8).toInt ∧ (i40 8).toInt ≤ 200 := hI.1 8
        have re8_i40 : (i40 8).toInt = (i 8).toInt := congrArg Int32.toInt (hfi 8 (by decide))
        refine lv_icmp_ge (tgt := 164) hx hb dX12_findExit_52 (by decide) (fun c41 => ?_) (fun c41 => ?_)
        · have f41 := (ti_le (a := (i40 8).toInt) (b := y40_5.toInt) rfl rfl).mp c41
          refine lv_aload_n hx hb dX12_findExit_164 rfl (lv_at hl 3 rfl) ?_
          refine mget_18 (v := (i40 18)) rfl hx hb hts (fun _ h => List.mem_cons_of_mem _ (List.mem_append_right _ h)) hown hK hP (hts (.fieldLink RX12 269 "TalePlayModel" "bySentence" "I") (by decide +kernel)) dX12_findExit_165 ?_
          have rb18_i40 : (i40 18).toInt = -9 ∨ (0 ≤ (i40 18).toInt ∧ (i40 18).toInt ≤ 199) := hI.1 18
          refine lv_bipush (v := (-9)) hx hb dX12_findExit_168 (by decide) ?_
          have jn42 : ∀ (i42 : Nat → Int32) (q42 : Int64) (c42 : Nat → Nat → Int32) (d42 : Nat → Nat → Int64), mInv i42 c42 → (∀ k, k ∉ ([16, 17, 18, 19] : List Nat) → i42 k = i k) → (∀ k, k ∉ ([] : List Nat) → c42 k = c k) → ∀ (H : Heap) (locs : List Loc) (ls : Array Slot), va_P D vwCl (mW o a t i42 q42 c42 d42) H → va_D A (mW o a t i42 q42 c42 d42) → va_S A s.heap H locs → lv_has ls 6 [(5, .int y40_5), (4, .int y40_4), (3, .int x39), (0, .ref o), (1, .int r1), (2, .int d1)] → W p l e (headSpec wm_X12_findExit ({ frames := 1, cells := 0, slots := 0, locals := 23 })).room s m ([.ref o, .int r1, .int d1] : List Value).toArray below meth cd H locs 0 0 (MQ below (va_Qi (fun (r : Int32) (u : MS) => (0 ≤ r.toInt ∧ r.toInt ≤ 1) ∧ mInv u.1 u.2.2.1 ∧ (∀ k, k ∉ ([16, 17, 18, 19] : List Nat) → u.1 k = i k) ∧ (∀ k, k ∉ ([] : List Nat) → u.2.2.1 k = c k)) (oC D A (fun u : MS => mW o a t u.1 u.2.1 u.2.2.1 u.2.2.2) (fun _ => [])) A) ([.ref o, .int r1, .int d1] : List Value).toArray s 0 0 A) (F0 m 273 ls []) := by
            intro i42 q42 c42 d42 hI hfi hfc H locs ls hP hD hS hl
            refine lv_aload_n hx hb dX12_findExit_273 rfl (lv_at hl 3 rfl) ?_
            refine mget_18 (v := (i42 18)) rfl hx hb hts (fun _ h => List.mem_cons_of_mem _ (List.mem_append_right _ h)) hown hK hP (hts (.fieldLink RX12 269 "TalePlayModel" "bySentence" "I") (by decide +kernel)) dX12_findExit_274 ?_
            have rb18_i42 : (i42 18).toInt = -9 ∨ (0 ≤ (i42 18).toInt ∧ (i42 18).toInt ≤ 199) := hI.1 18
            refine lv_bipush (v := (-9)) hx hb dX12_findExit_277 (by decide) ?_
            refine lv_icmp_eq (tgt := 286) hx hb dX12_findExit_279 (by decide) (fun c43 => ?_) (fun c43 => ?_)
            · have f43 := (ti_eq (a := (i42 18).toInt) (b := (-9)) rfl (by decide)).mp c43
              refine lv_iconst (v := 0) hx hb dX12_findExit_286 (by decide) ?_
              exact rw_zret (i42, q42, c42, d42) hx hb hr hlocks hS (hK.sub (tys' := []) [] rfl) hP hD rfl dX12_findExit_287 ⟨(show 0 ≤ (0 : Int32).toInt ∧ (0 : Int32).toInt ≤ 1 from by have h9 : (0 : Int32).toInt = 0 := (by decide); omega), hI, hfi, hfc⟩
            · have f43 := mt (ti_eq (a := (i42 18).toInt) (b := (-9)) rfl (by decide)).mpr c43
              refine lv_iconst (v := 1) hx hb dX12_findExit_282 (by decide) ?_
              refine lv_goto (tgt := 287) hx hb dX12_findExit_283 (by decide) ?_
              exact rw_zret (i42, q42, c42, d42) hx hb hr hlocks hS (hK.sub (tys' := []) [] rfl) hP hD rfl dX12_findExit_287 ⟨(show 0 ≤ (1 : Int32).toInt ∧ (1 : Int32).toInt ≤ 1 from by have h9 : (1 : Int32).toInt = 1 := (by decide); omega), hI, hfi, hfc⟩
          have jn44 : ∀ (H : Heap) (locs : List Loc) (ls : Array Slot), va_P D vwCl (mW o a t i40 q40 c40 d40) H → va_D A (mW o a t i40 q40 c40 d40) → va_S A s.heap H locs → lv_has ls 6 [(5, .int y40_5), (4, .int y40_4), (3, .int x39), (0, .ref o), (1, .int r1), (2, .int d1)] → W p l e (headSpec wm_X12_findExit ({ frames := 1, cells := 0, slots := 0, locals := 23 })).room s m ([.ref o, .int r1, .int d1] : List Value).toArray below meth cd H locs 0 0 (MQ below (va_Qi (fun (r : Int32) (u : MS) => (0 ≤ r.toInt ∧ r.toInt ≤ 1) ∧ mInv u.1 u.2.2.1 ∧ (∀ k, k ∉ ([16, 17, 18, 19] : List Nat) → u.1 k = i k) ∧ (∀ k, k ∉ ([] : List Nat) → u.2.2.1 k = c k)) (oC D A (fun u : MS => mW o a t u.1 u.2.1 u.2.2.1 u.2.2.2) (fun _ => [])) A) ([.ref o, .int r1, .int d1] : List Value).toArray s 0 0 A) (F0 m 219 ls []) := by
            intro H locs ls hP hD hS hl
            refine lv_aload_n hx hb dX12_findExit_219 rfl (lv_at hl 3 rfl) ?_
            refine mget_18 (v := (i40 18)) rfl hx hb hts (fun _ h => List.mem_cons_of_mem _ (List.mem_append_right _ h)) hown hK hP (hts (.fieldLink RX12 269 "TalePlayModel" "bySentence" "I") (by decide +kernel)) dX12_findExit_220 ?_
            refine lv_bipush (v := (-9)) hx hb dX12_findExit_223 (by decide) ?_
            refine lv_icmp_eq (tgt := 244) hx hb dX12_findExit_225 (by decide) (fun c45 => ?_) (fun c45 => ?_)
            · have f45 := (ti_eq (a := (i40 18).toInt) (b := (-9)) rfl (by decide)).mp c45
              refine lv_iload hx hb dX12_findExit_244 (lv_at hl 1 rfl) ?_
              refine lv_bipush (v := (-9)) hx hb dX12_findExit_246 (by decide) ?_
              refine lv_icmp_eq (tgt := 273) hx hb dX12_findExit_248 (by decide) (fun c46 => ?_) (fun c46 => ?_)
              · have f46 := (ti_eq (a := y40_4.toInt) (b := (-9)) rfl (by decide)).mp c46
                exact jn42 i40 q40 c40 d40   hI hfi hfc _ _ _ hP hD hS (lv_sub hl [0, 1, 2, 3, 4, 5] rfl)
              · have f46 := mt (ti_eq (a := y40_4.toInt) (b := (-9)) rfl (by decide)).mpr c46
                refine lv_aload_n hx hb dX12_findExit_251 rfl (lv_at hl 3 rfl) ?_
                refine lv_iload hx hb dX12_findExit_252 (lv_at hl 1 rfl) ?_
                refine mput_18 hx hb hts (fun _ h => List.mem_cons_of_mem _ (List.mem_append_right _ h)) hown hK hP hD hS (hts (.fieldLink RX12 269 "TalePlayModel" "bySentence" "I") (by decide +kernel)) rfl rfl dX12_findExit_254 (fun H locs hP hD hS => ?_)
                have hI := mInv_i hI (k := 18) (v := y40_4) (show (y40_4 : Int32).toInt = -9 ∨ (0 ≤ (y40_4 : Int32).toInt ∧ (y40_4 : Int32).toInt ≤ 199) from by omega)
                have hfi := fr_i hfi (k := 18) (v := y40_4) (by decide)
                refine lv_aload_n hx hb dX12_findExit_257 rfl (lv_at hl 3 rfl) ?_
                refine lv_iconst (v := 1) hx hb dX12_findExit_258 (by decide) ?_
                refine mput_19 hx hb hts (fun _ h => List.mem_cons_of_mem _ (List.mem_append_right _ h)) hown hK hP hD hS (hts (.fieldLink RX12 272 "TalePlayModel" "isImplied" "Z") (by decide +kernel)) rfl rfl dX12_findExit_259 (fun H locs hP hD hS => ?_)
                have hI := mInv_i hI (k := 19) (v := 1) (show 0 ≤ (1 : Int32).toInt ∧ (1 : Int32).toInt ≤ 1 from by have h9 : (1 : Int32).toInt = 1 := (by decide); omega)
                have hfi := fr_i hfi (k := 19) (v := 1) (by decide)
                refine lv_aload_n hx hb dX12_findExit_262 rfl (lv_at hl 3 rfl) ?_
                refine lv_aload_n hx hb dX12_findExit_263 rfl (lv_at hl 3 rfl) ?_
                refine mget_10 hx hb hts (fun _ h => List.mem_cons_of_mem _ (List.mem_append_right _ h)) hown hK hP (hts (.fieldLink RX12 28 "TalePlayModel" "left" "[I") (by decide +kernel)) dX12_findExit_264 ?_
                refine lv_iload hx hb dX12_findExit_267 (lv_at hl 1 rfl) ?_
                refine mld_10 hx hb hK hP (vp_in_iff.mpr (by have h9 : y40_4.toInt = y40_4.toInt := rfl; omega)) dX12_findExit_269 (fun x47 ex47 => ?_)
                have rx47 : 0 ≤ x47.toInt ∧ x47.toInt ≤ 29 := by rw [ex47]; exact hI.2 10 _
                refine mput_16 hx hb hts (fun _ h => List.mem_cons_of_mem _ (List.mem_append_right _ h)) hown hK hP hD hS (hts (.fieldLink RX12 263 "TalePlayModel" "leads" "I") (by decide +kernel)) rfl rfl dX12_findExit_270 (fun H locs hP hD hS => ?_)
                have hI := mInv_i hI (k := 16) (v := x47) (show (x47 : Int32).toInt = -9 ∨ (0 ≤ (x47 : Int32).toInt ∧ (x47 : Int32).toInt ≤ 29) from by omega)
                have hfi := fr_i hfi (k := 16) (v := x47) (by decide)
                exact jn42 (upd (upd (upd i40 18 y40_4) 19 1) 16 x47) q40 c40 d40   hI hfi hfc _ _ _ hP hD hS (lv_sub hl [0, 1, 2, 3, 4, 5] rfl)
            · have f45 := mt (ti_eq (a := (i40 18).toInt) (b := (-9)) rfl (by decide)).mpr c45
              refine lv_aload_n hx hb dX12_findExit_228 rfl (lv_at hl 3 rfl) ?_
              refine lv_aload_n hx hb dX12_findExit_229 rfl (lv_at hl 3 rfl) ?_
              refine mget_11 hx hb hts (fun _ h => List.mem_cons_of_mem _ (List.mem_append_right _ h)) hown hK hP (hts (.fieldLink RX12 31 "TalePlayModel" "middle" "[I") (by decide +kernel)) dX12_findExit_230 ?_
              refine lv_aload_n hx hb dX12_findExit_233 rfl (lv_at hl 3 rfl) ?_
              refine mget_18 (v := (i40 18)) rfl hx hb hts (fun _ h => List.mem_cons_of_mem _ (List.mem_append_right _ h)) hown hK hP (hts (.fieldLink RX12 269 "TalePlayModel" "bySentence" "I") (by decide +kernel)) dX12_findExit_234 ?_
              refine mld_11 hx hb hK hP (vp_in_iff.mpr (by have h9 : (i40 18).toInt = (i40 18).toInt := rfl; omega)) dX12_findExit_237 (fun x48 ex48 => ?_)
              have rx48 : 0 ≤ x48.toInt ∧ x48.toInt ≤ 29 := by rw [ex48]; exact hI.2 11 _
              refine mput_16 hx hb hts (fun _ h => List.mem_cons_of_mem _ (List.mem_append_right _ h)) hown hK hP hD hS (hts (.fieldLink RX12 263 "TalePlayModel" "leads" "I") (by decide +kernel)) rfl rfl dX12_findExit_238 (fun H locs hP hD hS => ?_)
              have hI := mInv_i hI (k := 16) (v := x48) (show (x48 : Int32).toInt = -9 ∨ (0 ≤ (x48 : Int32).toInt ∧ (x48 : Int32).toInt ≤ 29) from by omega)
              have hfi := fr_i hfi (k := 16) (v := x48) (by decide)
              refine lv_goto (tgt := 273) hx hb dX12_findExit_241 (by decide) ?_
              exact jn42 (upd i40 16 x48) q40 c40 d40   hI hfi hfc _ _ _ hP hD hS (lv_sub hl [0, 1, 2, 3, 4, 5] rfl)
          refine lv_icmp_eq (tgt := 219) hx hb dX12_findExit_170 (by decide) (fun c49 => ?_) (fun c49 => ?_)
          · have f49 := (ti_eq (a := (i40 18).toInt) (b := (-9)) rfl (by decide)).mp c49
            exact jn44    _ _ _ hP hD hS (lv_sub hl [0, 1, 2, 3, 4, 5] rfl)
          · have f49 := mt (ti_eq (a := (i40 18).toInt) (b := (-9)) rfl (by decide)).mpr c49
            refine lv_aload_n hx hb dX12_findExit_173 rfl (lv_at hl 3 rfl) ?_
            refine lv_aload_n hx hb dX12_findExit_174 rfl (lv_at hl 3 rfl) ?_
            refine mget_11 hx hb hts (fun _ h => List.mem_cons_of_mem _ (List.mem_append_right _ h)) hown hK hP (hts (.fieldLink RX12 31 "TalePlayModel" "middle" "[I") (by decide +kernel)) dX12_findExit_175 ?_
            refine lv_aload_n hx hb dX12_findExit_178 rfl (lv_at hl 3 rfl) ?_
            refine mget_18 (v := (i40 18)) rfl hx hb hts (fun _ h => List.mem_cons_of_mem _ (List.mem_append_right _ h)) hown hK hP (hts (.fieldLink RX12 269 "TalePlayModel" "bySentence" "I") (by decide +kernel)) dX12_findExit_179 ?_
            refine mld_11 hx hb hK hP (vp_in_iff.mpr (by have h9 : (i40 18).toInt = (i40 18).toInt := rfl; omega)) dX12_findExit_182 (fun x50 ex50 => ?_)
            have rx50 : 0 ≤ x50.toInt ∧ x50.toInt ≤ 29 := by rw [ex50]; exact hI.2 11 _
            refine lv_iconst (v := 2) hx hb dX12_findExit_183 (by decide) ?_
            refine ro_calli (va_runV (As := [.int x50, .int 2]) (rest := []) ⟨hx, hb, hml, hown, hts⟩ (s_X12_isOf l D H.size o a t i40 q40 c40 d40 x50 2 hI (by have h91 : (2 : Int32).toInt = 2 := (by decide); omega)) (cwV 2 hts gm_X12_findExit_X12_isOf rfl rfl rfl (by decide +kernel) ⟨Nat.le_of_ble_eq_true rfl, Nat.le_of_ble_eq_true rfl⟩) (pA_V hK hP (ci := 12) (q0 := 0) rfl rfl) rfl rfl hl.1 rfl (lv_room (Nat.le_of_ble_eq_true rfl)) dX12_findExit_184 ⟨Nat.le_of_ble_eq_true rfl, Nat.le_of_ble_eq_true rfl⟩) hS hA hP (fun r51 u51 H locs hw51 hP hS => ?_)
            have hw51 : 0 ≤ r51.toInt ∧ r51.toInt ≤ 1 := hw51
            refine lv_if_eq (tgt := 219) hx hb dX12_findExit_187 (by decide) (fun c52 => ?_) (fun c52 => ?_)
            · have f52 := (ti_eq (a := r51.toInt) (b := 0) rfl (by decide)).mp c52
              exact jn44    _ _ _ hP hD hS (lv_sub hl [0, 1, 2, 3, 4, 5] rfl)
            · have f52 := mt (ti_eq (a := r51.toInt) (b := 0) rfl (by decide)).mpr c52
              refine lv_aload_n hx hb dX12_findExit_190 rfl (lv_at hl 3 rfl) ?_
              refine lv_aload_n hx hb dX12_findExit_191 rfl (lv_at hl 3 rfl) ?_
              refine mget_11 hx hb hts (fun _ h => List.mem_cons_of_mem _ (List.mem_append_right _ h)) hown hK hP (hts (.fieldLink RX12 31 "TalePlayModel" "middle" "[I") (by decide +kernel)) dX12_findExit_192 ?_
              refine lv_aload_n hx hb dX12_findExit_195 rfl (lv_at hl 3 rfl) ?_
              refine mget_18 (v := (i40 18)) rfl hx hb hts (fun _ h => List.mem_cons_of_mem _ (List.mem_append_right _ h)) hown hK hP (hts (.fieldLink RX12 269 "TalePlayModel" "bySentence" "I") (by decide +kernel)) dX12_findExit_196 ?_
              refine mld_11 hx hb hK hP (vp_in_iff.mpr (by have h9 : (i40 18).toInt = (i40 18).toInt := rfl; omega)) dX12_findExit_199 (fun x53 ex53 => ?_)
              have rx53 : 0 ≤ x53.toInt ∧ x53.toInt ≤ 29 := by rw [ex53]; exact hI.2 11 _
              refine mput_17 hx hb hts (fun _ h => List.mem_cons_of_mem _ (List.mem_append_right _ h)) hown hK hP hD hS (hts (.fieldLink RX12 266 "TalePlayModel" "byDoor" "I") (by decide +kernel)) rfl rfl dX12_findExit_200 (fun H locs hP hD hS => ?_)
              have hI := mInv_i hI (k := 17) (v := x53) (show (x53 : Int32).toInt = -9 ∨ (0 ≤ (x53 : Int32).toInt ∧ (x53 : Int32).toInt ≤ 29) from by omega)
              have hfi := fr_i hfi (k := 17) (v := x53) (by decide)
              refine lv_aload_n hx hb dX12_findExit_203 rfl (lv_at hl 3 rfl) ?_
              refine lv_aload_n hx hb dX12_findExit_204 rfl (lv_at hl 3 rfl) ?_
              refine lv_aload_n hx hb dX12_findExit_205 rfl (lv_at hl 3 rfl) ?_
              refine mget_17 (v := x53) rfl hx hb hts (fun _ h => List.mem_cons_of_mem _ (List.mem_append_right _ h)) hown hK hP (hts (.fieldLink RX12 266 "TalePlayModel" "byDoor" "I") (by decide +kernel)) dX12_findExit_206 ?_
              refine lv_iload_n hx hb dX12_findExit_209 rfl (lv_at hl 4 rfl) ?_
              refine ro_calli (va_runV (As := [.int x53, .int r1]) (rest := [.ref o]) ⟨hx, hb, hml, hown, hts⟩ (s_X12_otherSide l D H.size o a t (upd i40 17 x53) q40 c40 d40 x53 r1 hI ) (cwV 2 hts gm_X12_findExit_X12_otherSide rfl rfl rfl (by decide +kernel) ⟨Nat.le_of_ble_eq_true rfl, Nat.le_of_ble_eq_true rfl⟩) (pA_V hK hP (ci := 12) (q0 := 0) rfl rfl) rfl rfl hl.1 rfl (lv_room (Nat.le_of_ble_eq_true rfl)) dX12_findExit_210 ⟨Nat.le_of_ble_eq_true rfl, Nat.le_of_ble_eq_true rfl⟩) hS hA hP (fun r54 u54 H locs hw54 hP hS => ?_)
              have hw54 : r54.toInt = -9 ∨ (0 ≤ r54.toInt ∧ r54.toInt ≤ 29) := hw54
              refine mput_16 hx hb hts (fun _ h => List.mem_cons_of_mem _ (List.mem_append_right _ h)) hown hK hP hD hS (hts (.fieldLink RX12 263 "TalePlayModel" "leads" "I") (by decide +kernel)) rfl rfl dX12_findExit_213 (fun H locs hP hD hS => ?_)
              have hI := mInv_i hI (k := 16) (v := r54) (show (r54 : Int32).toInt = -9 ∨ (0 ≤ (r54 : Int32).toInt ∧ (r54 : Int32).toInt ≤ 29) from by omega)
              have hfi := fr_i hfi (k := 16) (v := r54) (by decide)
              refine lv_goto (tgt := 273) hx hb dX12_findExit_216 (by decide) ?_
              exact jn42 (upd (upd i40 17 x53) 16 r54) q40 c40 d40   hI hfi hfc _ _ _ hP hD hS (lv_sub hl [0, 1, 2, 3, 4, 5] rfl)
        · have f41 := mt (ti_le (a := (i40 8).toInt) (b := y40_5.toInt) rfl rfl).mpr c41
          refine lv_aload_n hx hb dX12_findExit_55 rfl (lv_at hl 3 rfl) ?_
          refine mget_13 hx hb hts (fun _ h => List.mem_cons_of_mem _ (List.mem_append_right _ h)) hown hK hP (hts (.fieldLink RX12 37 "TalePlayModel" "isSaid" "[Z") (by decide +kernel)) dX12_findExit_56 ?_
          refine lv_iload hx hb dX12_findExit_59 (lv_at hl 0 rfl) ?_
          refine mld_13 hx hb hK hP (vp_in_iff.mpr (by have h9 : y40_5.toInt = y40_5.toInt := rfl; omega)) dX12_findExit_61 (fun x55 ex55 => ?_)
          have rx55 : 0 ≤ x55.toInt ∧ x55.toInt ≤ 1 := by rw [ex55]; exact hI.2 13 _
          have jn56 : ∀ (i56 : Nat → Int32) (q56 : Int64) (c56 : Nat → Nat → Int32) (d56 : Nat → Nat → Int64), mInv i56 c56 → (∀ k, k ∉ ([16, 17, 18, 19] : List Nat) → i56 k = i k) → (∀ k, k ∉ ([] : List Nat) → c56 k = c k) → ∀ (H : Heap) (locs : List Loc) (ls : Array Slot), va_P D vwCl (mW o a t i56 q56 c56 d56) H → va_D A (mW o a t i56 q56 c56 d56) → va_S A s.heap H locs → lv_has ls 6 [(5, .int y40_5), (4, .int y40_4), (3, .int x39), (0, .ref o), (1, .int r1), (2, .int d1)] → W p l e (headSpec wm_X12_findExit ({ frames := 1, cells := 0, slots := 0, locals := 23 })).room s m ([.ref o, .int r1, .int d1] : List Value).toArray below meth cd H locs 0 0 (MQ below (va_Qi (fun (r : Int32) (u : MS) => (0 ≤ r.toInt ∧ r.toInt ≤ 1) ∧ mInv u.1 u.2.2.1 ∧ (∀ k, k ∉ ([16, 17, 18, 19] : List Nat) → u.1 k = i k) ∧ (∀ k, k ∉ ([] : List Nat) → u.2.2.1 k = c k)) (oC D A (fun u : MS => mW o a t u.1 u.2.1 u.2.2.1 u.2.2.2) (fun _ => [])) A) ([.ref o, .int r1, .int d1] : List Value).toArray s 0 0 A) (F0 m 104 ls []) := by
            intro i56 q56 c56 d56 hI hfi hfc H locs ls hP hD hS hl
            refine lv_aload_n hx hb dX12_findExit_104 rfl (lv_at hl 3 rfl) ?_
            refine mget_13 hx hb hts (fun _ h => List.mem_cons_of_mem _ (List.mem_append_right _ h)) hown hK hP (hts (.fieldLink RX12 37 "TalePlayModel" "isSaid" "[Z") (by decide +kernel)) dX12_findExit_105 ?_
            refine lv_iload hx hb dX12_findExit_108 (lv_at hl 0 rfl) ?_
            refine mld_13 hx hb hK hP (vp_in_iff.mpr (by have h9 : y40_5.toInt = y40_5.toInt := rfl; omega)) dX12_findExit_110 (fun x57 ex57 => ?_)
            have rx57 : 0 ≤ x57.toInt ∧ x57.toInt ≤ 1 := by rw [ex57]; exact hI.2 13 _
            have jn58 : ∀ (y58_4 : Int32), (y58_4.toInt = -9 ∨ (0 ≤ y58_4.toInt ∧ y58_4.toInt ≤ 199)) → ∀ (H : Heap) (locs : List Loc) (ls : Array Slot), va_P D vwCl (mW o a t i56 q56 c56 d56) H → va_D A (mW o a t i56 q56 c56 d56) → va_S A s.heap H locs → lv_has ls 6 [(5, .int y40_5), (3, .int x39), (0, .ref o), (1, .int r1), (2, .int d1), (4, .int y58_4)] → W p l e (headSpec wm_X12_findExit ({ frames := 1, cells := 0, slots := 0, locals := 23 })).room s m ([.ref o, .int r1, .int d1] : List Value).toArray below meth cd H locs 0 0 (MQ below (va_Qi (fun (r : Int32) (u : MS) => (0 ≤ r.toInt ∧ r.toInt ≤ 1) ∧ mInv u.1 u.2.2.1 ∧ (∀ k, k ∉ ([16, 17, 18, 19] : List Nat) → u.1 k = i k) ∧ (∀ k, k ∉ ([] : List Nat) → u.2.2.1 k = c k)) (oC D A (fun u : MS => mW o a t u.1 u.2.1 u.2.2.1 u.2.2.2) (fun _ => [])) A) ([.ref o, .int r1, .int d1] : List Value).toArray s 0 0 A) (F0 m 158 ls []) := by
              intro y58_4 hy58_4 H locs ls hP hD hS hl
              obtain ⟨x59, ex59⟩ : ∃ y : Int32, y = y40_5 + 1 := ⟨_, rfl⟩
              have tx59 := ti_add (a := y40_5.toInt) (b := 1) ex59 rfl (by decide) (by omega) (by omega)
              refine lv_iinc (v := x59) (lv' := [(5, .int x59), (3, .int x39), (0, .ref o), (1, .int r1), (2, .int d1), (4, .int y58_4)]) hx hb dX12_findExit_158 hl (k := 0) rfl (by rw [ex59]; rfl) (by decide) rfl (fun ls hl => ?_)
              refine lv_goto (tgt := 46) hx hb dX12_findExit_161 (by decide) ?_
              exact ih40 i56 q56 c56 d56 x59 y58_4 hI hfi hfc (show 0 ≤ x59.toInt ∧ x59.toInt ≤ 200 from by have h50 : x59.toInt = (y40_5.toInt + 1) := tx59; have h51 : x39.toInt = (d1.toInt + 1) := tx39; omega) (show y58_4.toInt = -9 ∨ (0 ≤ y58_4.toInt ∧ y58_4.toInt ≤ 199) from by have h50 : x59.toInt = (y40_5.toInt + 1) := tx59; have h51 : x39.toInt = (d1.toInt + 1) := tx39; omega) (by have h50 : x59.toInt = (y40_5.toInt + 1) := tx59; have h51 : x39.toInt = (d1.toInt + 1) := tx39; omega) _ _ _ hP hD hS (lv_sub hl [0, 5, 1, 2, 3, 4] rfl)
            refine lv_if_eq (tgt := 158) hx hb dX12_findExit_111 (by decide) (fun c60 => ?_) (fun c60 => ?_)
            · have f60 := (ti_eq (a := x57.toInt) (b := 0) rfl (by decide)).mp c60
              exact jn58 y40_4  (show y40_4.toInt = -9 ∨ (0 ≤ y40_4.toInt ∧ y40_4.toInt ≤ 199) from by have h52 : x39.toInt = (d1.toInt + 1) := tx39; omega) _ _ _ hP hD hS (lv_sub hl [0, 2, 3, 4, 5, 1] rfl)
            · have f60 := mt (ti_eq (a := x57.toInt) (b := 0) rfl (by decide)).mpr c60
              refine lv_aload_n hx hb dX12_findExit_114 rfl (lv_at hl 3 rfl) ?_
              refine mget_9 hx hb hts (fun _ h => List.mem_cons_of_mem _ (List.mem_append_right _ h)) hown hK hP (hts (.fieldLink RX12 25 "TalePlayModel" "form" "[I") (by decide +kernel)) dX12_findExit_115 ?_
              refine lv_iload hx hb dX12_findExit_118 (lv_at hl 0 rfl) ?_
              refine mld_9 hx hb hK hP (vp_in_iff.mpr (by have h9 : y40_5.toInt = y40_5.toInt := rfl; omega)) dX12_findExit_120 (fun x61 ex61 => ?_)
              have rx61 : 0 ≤ x61.toInt ∧ x61.toInt ≤ 7 := by rw [ex61]; exact hI.2 9 _
              refine lv_iconst (v := 5) hx hb dX12_findExit_121 (by decide) ?_
              refine lv_icmp_ne (tgt := 158) hx hb dX12_findExit_122 (by decide) (fun c62 => ?_) (fun c62 => ?_)
              · have f62 := mt (ti_eq (a := x61.toInt) (b := 5) rfl (by decide)).mpr c62
                exact jn58 y40_4  (show y40_4.toInt = -9 ∨ (0 ≤ y40_4.toInt ∧ y40_4.toInt ≤ 199) from by have h52 : x39.toInt = (d1.toInt + 1) := tx39; omega) _ _ _ hP hD hS (lv_sub hl [0, 2, 3, 4, 5, 1] rfl)
              · have f62 := (ti_eq (a := x61.toInt) (b := 5) rfl (by decide)).mp c62
                refine lv_aload_n hx hb dX12_findExit_125 rfl (lv_at hl 3 rfl) ?_
                refine mget_11 hx hb hts (fun _ h => List.mem_cons_of_mem _ (List.mem_append_right _ h)) hown hK hP (hts (.fieldLink RX12 31 "TalePlayModel" "middle" "[I") (by decide +kernel)) dX12_findExit_126 ?_
                refine lv_iload hx hb dX12_findExit_129 (lv_at hl 0 rfl) ?_
                refine mld_11 hx hb hK hP (vp_in_iff.mpr (by have h9 : y40_5.toInt = y40_5.toInt := rfl; omega)) dX12_findExit_131 (fun x63 ex63 => ?_)
                have rx63 : 0 ≤ x63.toInt ∧ x63.toInt ≤ 29 := by rw [ex63]; exact hI.2 11 _
                refine lv_iload_n hx hb dX12_findExit_132 rfl (lv_at hl 4 rfl) ?_
                refine lv_icmp_ne (tgt := 158) hx hb dX12_findExit_133 (by decide) (fun c64 => ?_) (fun c64 => ?_)
                · have f64 := mt (ti_eq (a := x63.toInt) (b := r1.toInt) rfl rfl).mpr c64
                  exact jn58 y40_4  (show y40_4.toInt = -9 ∨ (0 ≤ y40_4.toInt ∧ y40_4.toInt ≤ 199) from by have h52 : x39.toInt = (d1.toInt + 1) := tx39; omega) _ _ _ hP hD hS (lv_sub hl [0, 2, 3, 4, 5, 1] rfl)
                · have f64 := (ti_eq (a := x63.toInt) (b := r1.toInt) rfl rfl).mp c64
                  refine lv_aload_n hx hb dX12_findExit_136 rfl (lv_at hl 3 rfl) ?_
                  refine mget_12 hx hb hts (fun _ h => List.mem_cons_of_mem _ (List.mem_append_right _ h)) hown hK hP (hts (.fieldLink RX12 34 "TalePlayModel" "right" "[I") (by decide +kernel)) dX12_findExit_137 ?_
                  refine lv_iload hx hb dX12_findExit_140 (lv_at hl 0 rfl) ?_
                  refine mld_12 hx hb hK hP (vp_in_iff.mpr (by have h9 : y40_5.toInt = y40_5.toInt := rfl; omega)) dX12_findExit_142 (fun x65 ex65 => ?_)
                  have rx65 : 0 ≤ x65.toInt ∧ x65.toInt ≤ 9 := by rw [ex65]; exact hI.2 12 _
                  refine lv_iload_n hx hb dX12_findExit_143 rfl (lv_at hl 2 rfl) ?_
                  refine lv_icmp_ne (tgt := 158) hx hb dX12_findExit_144 (by decide) (fun c66 => ?_) (fun c66 => ?_)
                  · have f66 := mt (ti_eq (a := x65.toInt) (b := (d1.toInt + 1)) rfl tx39).mpr c66
                    exact jn58 y40_4  (show y40_4.toInt = -9 ∨ (0 ≤ y40_4.toInt ∧ y40_4.toInt ≤ 199) from by have h52 : x39.toInt = (d1.toInt + 1) := tx39; omega) _ _ _ hP hD hS (lv_sub hl [0, 2, 3, 4, 5, 1] rfl)
                  · have f66 := (ti_eq (a := x65.toInt) (b := (d1.toInt + 1)) rfl tx39).mp c66
                    refine lv_iload hx hb dX12_findExit_147 (lv_at hl 1 rfl) ?_
                    refine lv_bipush (v := (-9)) hx hb dX12_findExit_149 (by decide) ?_
                    refine lv_icmp_ne (tgt := 158) hx hb dX12_findExit_151 (by decide) (fun c67 => ?_) (fun c67 => ?_)
                    · have f67 := mt (ti_eq (a := y40_4.toInt) (b := (-9)) rfl (by decide)).mpr c67
                      exact jn58 y40_4  (show y40_4.toInt = -9 ∨ (0 ≤ y40_4.toInt ∧ y40_4.toInt ≤ 199) from by have h52 : x39.toInt = (d1.toInt + 1) := tx39; omega) _ _ _ hP hD hS (lv_sub hl [0, 2, 3, 4, 5, 1] rfl)
                    · have f67 := (ti_eq (a := y40_4.toInt) (b := (-9)) rfl (by decide)).mp c67
                      refine lv_iload hx hb dX12_findExit_154 (lv_at hl 0 rfl) ?_
                      refine lv_istore (lv' := [(4, .int y40_5), (5, .int y40_5), (3, .int x39), (0, .ref o), (1, .int r1), (2, .int d1)]) hx hb dX12_findExit_156 hl (by decide) rfl (fun ls hl => ?_)
                      exact jn58 y40_5  (show y40_5.toInt = -9 ∨ (0 ≤ y40_5.toInt ∧ y40_5.toInt ≤ 199) from by have h52 : x39.toInt = (d1.toInt + 1) := tx39; omega) _ _ _ hP hD hS (lv_sub hl [1, 2, 3, 4, 5, 0] rfl)
          refine lv_if_eq (tgt := 104) hx hb dX12_findExit_62 (by decide) (fun c68 => ?_) (fun c68 => ?_)
          · have f68 := (ti_eq (a := x55.toInt) (b := 0) rfl (by decide)).mp c68
            exact jn56 i40 q40 c40 d40   hI hfi hfc _ _ _ hP hD hS (lv_sub hl [0, 1, 2, 3, 4, 5] rfl)
          · have f68 := mt (ti_eq (a := x55.toInt) (b := 0) rfl (by decide)).mpr c68
            refine lv_aload_n hx hb dX12_findExit_65 rfl (lv_at hl 3 rfl) ?_
            refine mget_9 hx hb hts (fun _ h => List.mem_cons_of_mem _ (List.mem_append_right _ h)) hown hK hP (hts (.fieldLink RX12 25 "TalePlayModel" "form" "[I") (by decide +kernel)) dX12_findExit_66 ?_
            refine lv_iload hx hb dX12_findExit_69 (lv_at hl 0 rfl) ?_
            refine mld_9 hx hb hK hP (vp_in_iff.mpr (by have h9 : y40_5.toInt = y40_5.toInt := rfl; omega)) dX12_findExit_71 (fun x69 ex69 => ?_)
            have rx69 : 0 ≤ x69.toInt ∧ x69.toInt ≤ 7 := by rw [ex69]; exact hI.2 9 _
            refine lv_iconst (v := 5) hx hb dX12_findExit_72 (by decide) ?_
            refine lv_icmp_ne (tgt := 104) hx hb dX12_findExit_73 (by decide) (fun c70 => ?_) (fun c70 => ?_)
            · have f70 := mt (ti_eq (a := x69.toInt) (b := 5) rfl (by decide)).mpr c70
              exact jn56 i40 q40 c40 d40   hI hfi hfc _ _ _ hP hD hS (lv_sub hl [0, 1, 2, 3, 4, 5] rfl)
            · have f70 := (ti_eq (a := x69.toInt) (b := 5) rfl (by decide)).mp c70
              refine lv_aload_n hx hb dX12_findExit_76 rfl (lv_at hl 3 rfl) ?_
              refine mget_10 hx hb hts (fun _ h => List.mem_cons_of_mem _ (List.mem_append_right _ h)) hown hK hP (hts (.fieldLink RX12 28 "TalePlayModel" "left" "[I") (by decide +kernel)) dX12_findExit_77 ?_
              refine lv_iload hx hb dX12_findExit_80 (lv_at hl 0 rfl) ?_
              refine mld_10 hx hb hK hP (vp_in_iff.mpr (by have h9 : y40_5.toInt = y40_5.toInt := rfl; omega)) dX12_findExit_82 (fun x71 ex71 => ?_)
              have rx71 : 0 ≤ x71.toInt ∧ x71.toInt ≤ 29 := by rw [ex71]; exact hI.2 10 _
              refine lv_iload_n hx hb dX12_findExit_83 rfl (lv_at hl 4 rfl) ?_
              refine lv_icmp_ne (tgt := 104) hx hb dX12_findExit_84 (by decide) (fun c72 => ?_) (fun c72 => ?_)
              · have f72 := mt (ti_eq (a := x71.toInt) (b := r1.toInt) rfl rfl).mpr c72
                exact jn56 i40 q40 c40 d40   hI hfi hfc _ _ _ hP hD hS (lv_sub hl [0, 1, 2, 3, 4, 5] rfl)
              · have f72 := (ti_eq (a := x71.toInt) (b := r1.toInt) rfl rfl).mp c72
                refine lv_aload_n hx hb dX12_findExit_87 rfl (lv_at hl 3 rfl) ?_
                refine mget_12 hx hb hts (fun _ h => List.mem_cons_of_mem _ (List.mem_append_right _ h)) hown hK hP (hts (.fieldLink RX12 34 "TalePlayModel" "right" "[I") (by decide +kernel)) dX12_findExit_88 ?_
                refine lv_iload hx hb dX12_findExit_91 (lv_at hl 0 rfl) ?_
                refine mld_12 hx hb hK hP (vp_in_iff.mpr (by have h9 : y40_5.toInt = y40_5.toInt := rfl; omega)) dX12_findExit_93 (fun x73 ex73 => ?_)
                have rx73 : 0 ≤ x73.toInt ∧ x73.toInt ≤ 9 := by rw [ex73]; exact hI.2 12 _
                refine lv_iload_n hx hb dX12_findExit_94 rfl (lv_at hl 5 rfl) ?_
                refine lv_icmp_ne (tgt := 104) hx hb dX12_findExit_95 (by decide) (fun c74 => ?_) (fun c74 => ?_)
                · have f74 := mt (ti_eq (a := x73.toInt) (b := d1.toInt) rfl rfl).mpr c74
                  exact jn56 i40 q40 c40 d40   hI hfi hfc _ _ _ hP hD hS (lv_sub hl [0, 1, 2, 3, 4, 5] rfl)
                · have f74 := (ti_eq (a := x73.toInt) (b := d1.toInt) rfl rfl).mp c74
                  refine lv_aload_n hx hb dX12_findExit_98 rfl (lv_at hl 3 rfl) ?_
                  refine lv_iload hx hb dX12_findExit_99 (lv_at hl 0 rfl) ?_
                  refine mput_18 hx hb hts (fun _ h => List.mem_cons_of_mem _ (List.mem_append_right _ h)) hown hK hP hD hS (hts (.fieldLink RX12 269 "TalePlayModel" "bySentence" "I") (by decide +kernel)) rfl rfl dX12_findExit_101 (fun H locs hP hD hS => ?_)
                  have hI := mInv_i hI (k := 18) (v := y40_5) (show (y40_5 : Int32).toInt = -9 ∨ (0 ≤ (y40_5 : Int32).toInt ∧ (y40_5 : Int32).toInt ≤ 199) from by omega)
                  have hfi := fr_i hfi (k := 18) (v := y40_5) (by decide)
                  exact jn56 (upd i40 18 y40_5) q40 c40 d40   hI hfi hfc _ _ _ hP hD hS (lv_sub hl [0, 1, 2, 3, 4, 5] rfl)
    exact lp40 _ (upd (upd (upd (upd i 16 (-9)) 17 (-9)) 18 (-9)) 19 0) q c d (0 : Int32) ((-9) : Int32) hI hfi hfc (show 0 ≤ (0 : Int32).toInt ∧ (0 : Int32).toInt ≤ 200 from by have h50 : (0 : Int32).toInt = 0 := (by decide); have h51 : ((-9) : Int32).toInt = -9 := (by decide); have h52 : x39.toInt = (d1.toInt + 1) := tx39; have h60 : ((-9) : Int32).toInt = -9 := (by decide); have h61 : ((-9) : Int32).toInt = -9 := (by decide); have h62 : ((-9) : Int32).toInt = -9 := (by decide); have h63 : (0 : Int32).toInt = 0 := (by decide); omega) (show ((-9) : Int32).toInt = -9 ∨ (0 ≤ ((-9) : Int32).toInt ∧ ((-9) : Int32).toInt ≤ 199) from by have h50 : (0 : Int32).toInt = 0 := (by decide); have h51 : ((-9) : Int32).toInt = -9 := (by decide); have h52 : x39.toInt = (d1.toInt + 1) := tx39; have h60 : ((-9) : Int32).toInt = -9 := (by decide); have h61 : ((-9) : Int32).toInt = -9 := (by decide); have h62 : ((-9) : Int32).toInt = -9 := (by decide); have h63 : (0 : Int32).toInt = 0 := (by decide); omega) (Nat.lt_succ_self _) _ _ _ hP hD hS (lv_sub hl [0, 1, 2, 3, 4, 5] rfl)

def wm_X12_shuts : List Cond := .code yX12_shuts cX12_shuts 3 (some .boolean) :: (([.fieldLink RX12 98 "TalePlayModel" "isBox" "[Z", .fieldLink RX12 56 "TalePlayModel" "nOpen" "[Z", .fieldLink RX12 95 "TalePlayModel" "glass" "[Z"] : List Cond) ++ wsX120)
set_option maxHeartbeats 4000000 in
set_option maxRecDepth 100000 in
theorem s_X12_shuts (l : Launch) (D : va_G) (sz : Nat) (o : Nat) (a : Nat → Nat) (t : Nat → ClassId) (i : Nat → Int32) (q : Int64) (c : Nat → Nat → Int32) (d : Nat → Nat → Int64) (w : Int32) (b1 : Int32) (hI : mInv i c) (hw : 0 ≤ w.toInt ∧ w.toInt ≤ 29) : Met l yX12_shuts wm_X12_shuts ({ frames := 0, cells := 0, slots := 0, locals := 0 }) (va_Pc [.ref o, .int w, .int b1] (pA D sz (mW o a t i q c d) (mT t))) (va_Qi (fun (r : Int32) (_ : Unit) => (0 ≤ r.toInt ∧ r.toInt ≤ 1)) oA (ro sz)) 0 0 (ro sz) := by
  refine Met.ofW (cc := cX12_shuts) (maxL := 3) (ret := (some .boolean)) (by decide) rfl ?_
  intro p e s m args below meth cd s₁ B hml hv
  obtain ⟨rfl, hsz, hP, hK⟩ := hv
  have hx := B.exec
  have hb := B.bytes
  have hr := B.returns
  have hts := atoms_spec (ws := wm_X12_shuts) B.pre
  have hown : s.vm.findClass RX12 = some m.cls := findClass_of_methodNamed B.named
  have hlocks := B.notSynchronized
  subst hsz
  have hA : ∀ q : Nat, s.heap.size ≤ q → ro s.heap.size q := fun _ h => h
  have hS : va_S (ro s.heap.size) s.heap s.heap [] := va_S.rf
  have hl := lv_entry ([.ref o, .int w, .int b1]) (n := 3) (Nat.le_of_ble_eq_true rfl)
  rw [lg_entry_eq]
  generalize (lg_sl ([.ref o, .int w, .int b1]) ++ List.replicate (3 - (lg_sl ([.ref o, .int w, .int b1])).length) Slot.unset).toArray = ls at hl ⊢
  have hl : lv_has ls 3 [(0, .ref o), (1, .int w), (2, .int b1)] := hl
  refine lv_aload_n hx hb dX12_shuts_0 rfl (lv_at hl 0 rfl) ?_
  refine mget_47 hx hb hts (fun _ h => List.mem_cons_of_mem _ (List.mem_append_right _ h)) hown hK hP (hts (.fieldLink RX12 98 "TalePlayModel" "isBox" "[Z") (by decide +kernel)) dX12_shuts_1 ?_
  refine lv_iload_n hx hb dX12_shuts_4 rfl (lv_at hl 1 rfl) ?_
  refine mld_47 hx hb hK hP (vp_in_iff.mpr (by have h9 : w.toInt = w.toInt := rfl; omega)) dX12_shuts_5 (fun x1 ex1 => ?_)
  have rx1 : 0 ≤ x1.toInt ∧ x1.toInt ≤ 1 := by rw [ex1]; exact hI.2 47 _
  refine lv_if_eq (tgt := 35) hx hb dX12_shuts_6 (by decide) (fun c2 => ?_) (fun c2 => ?_)
  · have f2 := (ti_eq (a := x1.toInt) (b := 0) rfl (by decide)).mp c2
    refine lv_iconst (v := 0) hx hb dX12_shuts_35 (by decide) ?_
    exact ro_zret hx hb hr hlocks hS rfl dX12_shuts_36 (show 0 ≤ (0 : Int32).toInt ∧ (0 : Int32).toInt ≤ 1 from by have h9 : (0 : Int32).toInt = 0 := (by decide); omega)
  · have f2 := mt (ti_eq (a := x1.toInt) (b := 0) rfl (by decide)).mpr c2
    refine lv_aload_n hx hb dX12_shuts_9 rfl (lv_at hl 0 rfl) ?_
    refine mget_25 hx hb hts (fun _ h => List.mem_cons_of_mem _ (List.mem_append_right _ h)) hown hK hP (hts (.fieldLink RX12 56 "TalePlayModel" "nOpen" "[Z") (by decide +kernel)) dX12_shuts_10 ?_
    refine lv_iload_n hx hb dX12_shuts_13 rfl (lv_at hl 1 rfl) ?_
    refine mld_25 hx hb hK hP (vp_in_iff.mpr (by have h9 : w.toInt = w.toInt := rfl; omega)) dX12_shuts_14 (fun x3 ex3 => ?_)
    have rx3 : 0 ≤ x3.toInt ∧ x3.toInt ≤ 1 := by rw [ex3]; exact hI.2 25 _
    refine lv_if_ne (tgt := 35) hx hb dX12_shuts_15 (by decide) (fun c4 => ?_) (fun c4 => ?_)
    · have f4 := mt (ti_eq (a := x3.toInt) (b := 0) rfl (by decide)).mpr c4
      refine lv_iconst (v := 0) hx hb dX12_shuts_35 (by decide) ?_
      exact ro_zret hx hb hr hlocks hS rfl dX12_shuts_36 (show 0 ≤ (0 : Int32).toInt ∧ (0 : Int32).toInt ≤ 1 from by have h9 : (0 : Int32).toInt = 0 := (by decide); omega)
    · have f4 := (ti_eq (a := x3.toInt) (b := 0) rfl (by decide)).mp c4
      refine lv_iload_n hx hb dX12_shuts_18 rfl (lv_at hl 2 rfl) ?_
      refine lv_if_ne (tgt := 31) hx hb dX12_shuts_19 (by decide) (fun c5 => ?_) (fun c5 => ?_)
      · have f5 := mt (ti_eq (a := b1.toInt) (b := 0) rfl (by decide)).mpr c5
        refine lv_iconst (v := 1) hx hb dX12_shuts_31 (by decide) ?_
        refine lv_goto (tgt := 36) hx hb dX12_shuts_32 (by decide) ?_
        exact ro_zret hx hb hr hlocks hS rfl dX12_shuts_36 (show 0 ≤ (1 : Int32).toInt ∧ (1 : Int32).toInt ≤ 1 from by have h9 : (1 : Int32).toInt = 1 := (by decide); omega)
      · have f5 := (ti_eq (a := b1.toInt) (b := 0) rfl (by decide)).mp c5
        refine lv_aload_n hx hb dX12_shuts_22 rfl (lv_at hl 0 rfl) ?_
        refine mget_46 hx hb hts (fun _ h => List.mem_cons_of_mem _ (List.mem_append_right _ h)) hown hK hP (hts (.fieldLink RX12 95 "TalePlayModel" "glass" "[Z") (by decide +kernel)) dX12_shuts_23 ?_
        refine lv_iload_n hx hb dX12_shuts_26 rfl (lv_at hl 1 rfl) ?_
        refine mld_46 hx hb hK hP (vp_in_iff.mpr (by have h9 : w.toInt = w.toInt := rfl; omega)) dX12_shuts_27 (fun x6 ex6 => ?_)
        have rx6 : 0 ≤ x6.toInt ∧ x6.toInt ≤ 1 := by rw [ex6]; exact hI.2 46 _
        refine lv_if_ne (tgt := 35) hx hb dX12_shuts_28 (by decide) (fun c7 => ?_) (fun c7 => ?_)
        · have f7 := mt (ti_eq (a := x6.toInt) (b := 0) rfl (by decide)).mpr c7
          refine lv_iconst (v := 0) hx hb dX12_shuts_35 (by decide) ?_
          exact ro_zret hx hb hr hlocks hS rfl dX12_shuts_36 (show 0 ≤ (0 : Int32).toInt ∧ (0 : Int32).toInt ≤ 1 from by have h9 : (0 : Int32).toInt = 0 := (by decide); omega)
        · have f7 := (ti_eq (a := x6.toInt) (b := 0) rfl (by decide)).mp c7
          refine lv_iconst (v := 1) hx hb dX12_shuts_31 (by decide) ?_
          refine lv_goto (tgt := 36) hx hb dX12_shuts_32 (by decide) ?_
          exact ro_zret hx hb hr hlocks hS rfl dX12_shuts_36 (show 0 ≤ (1 : Int32).toInt ∧ (1 : Int32).toInt ≤ 1 from by have h9 : (1 : Int32).toInt = 1 := (by decide); omega)

def wm_X12_holds : List Cond := .code yX12_holds cX12_holds 2 (some .boolean) :: (([.fieldLink RX12 50 "TalePlayModel" "nForm" "[I", .fieldLink RX12 53 "TalePlayModel" "nAt" "[I", .fieldLink RX12 155 "TalePlayModel" "player" "I"] : List Cond) ++ wsX120)
set_option maxHeartbeats 4000000 in
set_option maxRecDepth 100000 in
theorem s_X12_holds (l : Launch) (D : va_G) (sz : Nat) (o : Nat) (a : Nat → Nat) (t : Nat → ClassId) (i : Nat → Int32) (q : Int64) (c : Nat → Nat → Int32) (d : Nat → Nat → Int64) (w : Int32) (hI : mInv i c) (hw : 0 ≤ w.toInt ∧ w.toInt ≤ 29) : Met l yX12_holds wm_X12_holds ({ frames := 0, cells := 0, slots := 0, locals := 0 }) (va_Pc [.ref o, .int w] (pA D sz (mW o a t i q c d) (mT t))) (va_Qi (fun (r : Int32) (_ : Unit) => (0 ≤ r.toInt ∧ r.toInt ≤ 1)) oA (ro sz)) 0 0 (ro sz) := by
  refine Met.ofW (cc := cX12_holds) (maxL := 2) (ret := (some .boolean)) (by decide) rfl ?_
  intro p e s m args below meth cd s₁ B hml hv
  obtain ⟨rfl, hsz, hP, hK⟩ := hv
  have hx := B.exec
  have hb := B.bytes
  have hr := B.returns
  have hts := atoms_spec (ws := wm_X12_holds) B.pre
  have hown : s.vm.findClass RX12 = some m.cls := findClass_of_methodNamed B.named
  have hlocks := B.notSynchronized
  subst hsz
  have hA : ∀ q : Nat, s.heap.size ≤ q → ro s.heap.size q := fun _ h => h
  have hS : va_S (ro s.heap.size) s.heap s.heap [] := va_S.rf
  have hl := lv_entry ([.ref o, .int w]) (n := 2) (Nat.le_of_ble_eq_true rfl)
  rw [lg_entry_eq]
  generalize (lg_sl ([.ref o, .int w]) ++ List.replicate (2 - (lg_sl ([.ref o, .int w])).length) Slot.unset).toArray = ls at hl ⊢
  have hl : lv_has ls 2 [(0, .ref o), (1, .int w)] := hl
  refine lv_aload_n hx hb dX12_holds_0 rfl (lv_at hl 0 rfl) ?_
  refine mget_23 hx hb hts (fun _ h => List.mem_cons_of_mem _ (List.mem_append_right _ h)) hown hK hP (hts (.fieldLink RX12 50 "TalePlayModel" "nForm" "[I") (by decide +kernel)) dX12_holds_1 ?_
  refine lv_iload_n hx hb dX12_holds_4 rfl (lv_at hl 1 rfl) ?_
  refine mld_23 hx hb hK hP (vp_in_iff.mpr (by have h9 : w.toInt = w.toInt := rfl; omega)) dX12_holds_5 (fun x1 ex1 => ?_)
  have rx1 : x1.toInt = -9 ∨ (0 ≤ x1.toInt ∧ x1.toInt ≤ 4) := by rw [ex1]; exact hI.2 23 _
  refine lv_iconst (v := 2) hx hb dX12_holds_6 (by decide) ?_
  refine lv_icmp_ne (tgt := 27) hx hb dX12_holds_7 (by decide) (fun c2 => ?_) (fun c2 => ?_)
  · have f2 := mt (ti_eq (a := x1.toInt) (b := 2) rfl (by decide)).mpr c2
    refine lv_iconst (v := 0) hx hb dX12_holds_27 (by decide) ?_
    exact ro_zret hx hb hr hlocks hS rfl dX12_holds_28 (show 0 ≤ (0 : Int32).toInt ∧ (0 : Int32).toInt ≤ 1 from by have h9 : (0 : Int32).toInt = 0 := (by decide); omega)
  · have f2 := (ti_eq (a := x1.toInt) (b := 2) rfl (by decide)).mp c2
    refine lv_aload_n hx hb dX12_holds_10 rfl (lv_at hl 0 rfl) ?_
    refine mget_24 hx hb hts (fun _ h => List.mem_cons_of_mem _ (List.mem_append_right _ h)) hown hK hP (hts (.fieldLink RX12 53 "TalePlayModel" "nAt" "[I") (by decide +kernel)) dX12_holds_11 ?_
    refine lv_iload_n hx hb dX12_holds_14 rfl (lv_at hl 1 rfl) ?_
    refine mld_24 hx hb hK hP (vp_in_iff.mpr (by have h9 : w.toInt = w.toInt := rfl; omega)) dX12_holds_15 (fun x3 ex3 => ?_)
    have rx3 : x3.toInt = -9 ∨ (0 ≤ x3.toInt ∧ x3.toInt ≤ 29) := by rw [ex3]; exact hI.2 24 _
    refine lv_aload_n hx hb dX12_holds_16 rfl (lv_at hl 0 rfl) ?_
    refine mget_22 (v := (i 22)) rfl hx hb hts (fun _ h => List.mem_cons_of_mem _ (List.mem_append_right _ h)) hown hK hP (hts (.fieldLink RX12 155 "TalePlayModel" "player" "I") (by decide +kernel)) dX12_holds_17 ?_
    have rb22_i : (i 22).toInt = -9 ∨ (0 ≤ (i 22).toInt ∧ (i 22).toInt ≤ 29) := hI.1 22
    refine lv_icmp_ne (tgt := 27) hx hb dX12_holds_20 (by decide) (fun c4 => ?_) (fun c4 => ?_)
    · have f4 := mt (ti_eq (a := x3.toInt) (b := (i 22).toInt) rfl rfl).mpr c4
      refine lv_iconst (v := 0) hx hb dX12_holds_27 (by decide) ?_
      exact ro_zret hx hb hr hlocks hS rfl dX12_holds_28 (show 0 ≤ (0 : Int32).toInt ∧ (0 : Int32).toInt ≤ 1 from by have h9 : (0 : Int32).toInt = 0 := (by decide); omega)
    · have f4 := (ti_eq (a := x3.toInt) (b := (i 22).toInt) rfl rfl).mp c4
      refine lv_iconst (v := 1) hx hb dX12_holds_23 (by decide) ?_
      refine lv_goto (tgt := 28) hx hb dX12_holds_24 (by decide) ?_
      exact ro_zret hx hb hr hlocks hS rfl dX12_holds_28 (show 0 ≤ (1 : Int32).toInt ∧ (1 : Int32).toInt ≤ 1 from by have h9 : (1 : Int32).toInt = 1 := (by decide); omega)

def wm_X12_lying : List Cond := .code yX12_lying cX12_lying 5 (some .int) :: (([.fieldLink RX12 177 "TalePlayModel" "objects" "I", .fieldLink RX12 50 "TalePlayModel" "nForm" "[I", .fieldLink RX12 53 "TalePlayModel" "nAt" "[I"] : List Cond) ++ wsX120)
set_option maxHeartbeats 4000000 in
set_option maxRecDepth 100000 in
theorem s_X12_lying (l : Launch) (D : va_G) (sz : Nat) (o : Nat) (a : Nat → Nat) (t : Nat → ClassId) (i : Nat → Int32) (q : Int64) (c : Nat → Nat → Int32) (d : Nat → Nat → Int64) (f : Int32) (w : Int32) (hI : mInv i c) : Met l yX12_lying wm_X12_lying ({ frames := 0, cells := 0, slots := 0, locals := 0 }) (va_Pc [.ref o, .int f, .int w] (pA D sz (mW o a t i q c d) (mT t))) (va_Qi (fun (r : Int32) (_ : Unit) => (0 ≤ r.toInt ∧ r.toInt ≤ 30)) oA (ro sz)) 0 0 (ro sz) := by
  refine Met.ofW (cc := cX12_lying) (maxL := 5) (ret := (some .int)) (by decide) rfl ?_
  intro p e s m args below meth cd s₁ B hml hv
  obtain ⟨rfl, hsz, hP, hK⟩ := hv
  have hx := B.exec
  have hb := B.bytes
  have hr := B.returns
  have hts := atoms_spec (ws := wm_X12_lying) B.pre
  have hown : s.vm.findClass RX12 = some m.cls := findClass_of_methodNamed B.named
  have hlocks := B.notSynchronized
  subst hsz
  have hA : ∀ q : Nat, s.heap.size ≤ q → ro s.heap.size q := fun _ h => h
  have hS : va_S (ro s.heap.size) s.heap s.heap [] := va_S.rf
  have hl := lv_entry ([.ref o, .int f, .int w]) (n := 5) (Nat.le_of_ble_eq_true rfl)
  rw [lg_entry_eq]
  generalize (lg_sl ([.ref o, .int f, .int w]) ++ List.replicate (5 - (lg_sl ([.ref o, .int f, .int w])).length) Slot.unset).toArray = ls at hl ⊢
  have hl : lv_has ls 5 [(0, .ref o), (1, .int f), (2, .int w)] := hl
  refine lv_iconst (v := 0) hx hb dX12_lying_0 (by decide) ?_
  refine lv_istore_n (lv' := [(3, .int 0), (0, .ref o), (1, .int f), (2, .int w)]) hx hb dX12_lying_1 rfl hl (by decide) rfl (fun ls hl => ?_)
  refine lv_iconst (v := 0) hx hb dX12_lying_2 (by decide) ?_
  refine lv_istore (lv' := [(4, .int 0), (3, .int 0), (0, .ref o), (1, .int f), (2, .int w)]) hx hb dX12_lying_3 hl (by decide) rfl (fun ls hl => ?_)
  have lp1 : ∀ (fu : Nat) (y1_4 : Int32) (y1_3 : Int32), (0 ≤ y1_4.toInt ∧ y1_4.toInt ≤ 30) → (0 ≤ y1_3.toInt ∧ y1_3.toInt ≤ y1_4.toInt) → (30 - y1_4.toInt).toNat < fu → ∀ (H : Heap) (locs : List Loc) (ls : Array Slot), va_P D vwCl (mW o a t i q c d) H → va_S (ro s.heap.size) s.heap H locs → lv_has ls 5 [(4, .int y1_4), (3, .int y1_3), (0, .ref o), (1, .int f), (2, .int w)] → W p l e (headSpec wm_X12_lying ({ frames := 0, cells := 0, slots := 0, locals := 0 })).room s m ([.ref o, .int f, .int w] : List Value).toArray below meth cd H locs 0 0 (MQ below (va_Qi (fun (r : Int32) (_ : Unit) => (0 ≤ r.toInt ∧ r.toInt ≤ 30)) oA (ro s.heap.size)) ([.ref o, .int f, .int w] : List Value).toArray s 0 0 (ro s.heap.size)) (F0 m 5 ls []) := by
    intro fu
    induction fu with
    | zero => intro y1_4 y1_3 hy1_4 hy1_3 hm; exact absurd hm (Nat.not_lt_zero _)
    | succ fu ih =>
      intro y1_4 y1_3 hy1_4 hy1_3 hm H locs ls hP hS hl
      have ih1 := ih
      refine lv_iload hx hb dX12_lying_5 (lv_at hl 0 rfl) ?_
      refine lv_aload_n hx hb dX12_lying_7 rfl (lv_at hl 2 rfl) ?_
      refine mget_5 (v := (i 5)) rfl hx hb hts (fun _ h => List.mem_cons_of_mem _ (List.mem_append_right _ h)) hown hK hP (hts (.fieldLink RX12 177 "TalePlayModel" "objects" "I") (by decide +kernel)) dX12_lying_8 ?_
      have rb5_i : 0 ≤ (i 5).toInt ∧ (i 5).toInt ≤ 30 := hI.1 5
      refine lv_icmp_ge (tgt := 50) hx hb dX12_lying_11 (by decide) (fun c2 => ?_) (fun c2 => ?_)
      · have f2 := (ti_le (a := (i 5).toInt) (b := y1_4.toInt) rfl rfl).mp c2
        refine lv_iload_n hx hb dX12_lying_50 rfl (lv_at hl 1 rfl) ?_
        exact ro_iret hx hb hr hlocks hS dX12_lying_51 (show 0 ≤ y1_3.toInt ∧ y1_3.toInt ≤ 30 from by omega)
      · have f2 := mt (ti_le (a := (i 5).toInt) (b := y1_4.toInt) rfl rfl).mpr c2
        refine lv_iload_n hx hb dX12_lying_14 rfl (lv_at hl 1 rfl) ?_
        refine lv_aload_n hx hb dX12_lying_15 rfl (lv_at hl 2 rfl) ?_
        refine mget_23 hx hb hts (fun _ h => List.mem_cons_of_mem _ (List.mem_append_right _ h)) hown hK hP (hts (.fieldLink RX12 50 "TalePlayModel" "nForm" "[I") (by decide +kernel)) dX12_lying_16 ?_
        refine lv_iload hx hb dX12_lying_19 (lv_at hl 0 rfl) ?_
        refine mld_23 hx hb hK hP (vp_in_iff.mpr (by have h9 : y1_4.toInt = y1_4.toInt := rfl; omega)) dX12_lying_21 (fun x3 ex3 => ?_)
        have rx3 : x3.toInt = -9 ∨ (0 ≤ x3.toInt ∧ x3.toInt ≤ 4) := by rw [ex3]; exact hI.2 23 _
        refine lv_iload_n hx hb dX12_lying_22 rfl (lv_at hl 3 rfl) ?_
        have jn4 : ∀ (z4_0 : Int32), (z4_0.toInt = 0 ∨ z4_0.toInt = 1) → ∀ (H : Heap) (locs : List Loc) (ls : Array Slot), va_P D vwCl (mW o a t i q c d) H → va_S (ro s.heap.size) s.heap H locs → lv_has ls 5 [(4, .int y1_4), (3, .int y1_3), (0, .ref o), (1, .int f), (2, .int w)] → W p l e (headSpec wm_X12_lying ({ frames := 0, cells := 0, slots := 0, locals := 0 })).room s m ([.ref o, .int f, .int w] : List Value).toArray below meth cd H locs 0 0 (MQ below (va_Qi (fun (r : Int32) (_ : Unit) => (0 ≤ r.toInt ∧ r.toInt ≤ 30)) oA (ro s.heap.size)) ([.ref o, .int f, .int w] : List Value).toArray s 0 0 (ro s.heap.size)) (F0 m 42 ls [.int z4_0, .int y1_3]) := by
          intro z4_0 hs4_0 H locs ls hP hS hl
          refine lv_iadd hx hb dX12_lying_42 ?_
          refine lv_topi (fun x5 ex5 => ?_)
          have tx5 := ti_add (a := y1_3.toInt) (b := z4_0.toInt) ex5 rfl rfl (by omega) (by omega)
          refine lv_istore_n (lv' := [(3, .int x5), (4, .int y1_4), (0, .ref o), (1, .int f), (2, .int w)]) hx hb dX12_lying_43 rfl hl (by decide) rfl (fun ls hl => ?_)
          obtain ⟨x6, ex6⟩ : ∃ y : Int32, y = y1_4 + 1 := ⟨_, rfl⟩
          have tx6 := ti_add (a := y1_4.toInt) (b := 1) ex6 rfl (by decide) (by omega) (by omega)
          refine lv_iinc (v := x6) (lv' := [(4, .int x6), (3, .int x5), (0, .ref o), (1, .int f), (2, .int w)]) hx hb dX12_lying_44 hl (k := 1) rfl (by rw [ex6]; rfl) (by decide) rfl (fun ls hl => ?_)
          refine lv_goto (tgt := 5) hx hb dX12_lying_47 (by decide) ?_
          exact ih1 x6 x5 (show 0 ≤ x6.toInt ∧ x6.toInt ≤ 30 from by have h50 : x6.toInt = (y1_4.toInt + 1) := tx6; have h51 : x5.toInt = (y1_3.toInt + z4_0.toInt) := tx5; omega) (show 0 ≤ x5.toInt ∧ x5.toInt ≤ x6.toInt from by have h50 : x6.toInt = (y1_4.toInt + 1) := tx6; have h51 : x5.toInt = (y1_3.toInt + z4_0.toInt) := tx5; omega) (by have h50 : x6.toInt = (y1_4.toInt + 1) := tx6; have h51 : x5.toInt = (y1_3.toInt + z4_0.toInt) := tx5; omega) _ _ _ hP hS (lv_sub hl [0, 1, 2, 3, 4] rfl)
        have jn7 : ∀ (H : Heap) (locs : List Loc) (ls : Array Slot), va_P D vwCl (mW o a t i q c d) H → va_S (ro s.heap.size) s.heap H locs → lv_has ls 5 [(4, .int y1_4), (3, .int y1_3), (0, .ref o), (1, .int f), (2, .int w)] → W p l e (headSpec wm_X12_lying ({ frames := 0, cells := 0, slots := 0, locals := 0 })).room s m ([.ref o, .int f, .int w] : List Value).toArray below meth cd H locs 0 0 (MQ below (va_Qi (fun (r : Int32) (_ : Unit) => (0 ≤ r.toInt ∧ r.toInt ≤ 30)) oA (ro s.heap.size)) ([.ref o, .int f, .int w] : List Value).toArray s 0 0 (ro s.heap.size)) (F0 m 41 ls [.int y1_3]) := by
          intro H locs ls hP hS hl
          refine lv_iconst (v := 0) hx hb dX12_lying_41 (by decide) ?_
          exact jn4  (0 : Int32) (show (0 : Int32).toInt = 0 ∨ (0 : Int32).toInt = 1 from by have h55 : (0 : Int32).toInt = 0 := (by decide); omega) _ _ _ hP hS (lv_sub hl [0, 1, 2, 3, 4] rfl)
        refine lv_icmp_ne (tgt := 41) hx hb dX12_lying_23 (by decide) (fun c8 => ?_) (fun c8 => ?_)
        · have f8 := mt (ti_eq (a := x3.toInt) (b := f.toInt) rfl rfl).mpr c8
          exact jn7    _ _ _ hP hS (lv_sub hl [0, 1, 2, 3, 4] rfl)
        · have f8 := (ti_eq (a := x3.toInt) (b := f.toInt) rfl rfl).mp c8
          refine lv_aload_n hx hb dX12_lying_26 rfl (lv_at hl 2 rfl) ?_
          refine mget_24 hx hb hts (fun _ h => List.mem_cons_of_mem _ (List.mem_append_right _ h)) hown hK hP (hts (.fieldLink RX12 53 "TalePlayModel" "nAt" "[I") (by decide +kernel)) dX12_lying_27 ?_
          refine lv_iload hx hb dX12_lying_30 (lv_at hl 0 rfl) ?_
          refine mld_24 hx hb hK hP (vp_in_iff.mpr (by have h9 : y1_4.toInt = y1_4.toInt := rfl; omega)) dX12_lying_32 (fun x9 ex9 => ?_)
          have rx9 : x9.toInt = -9 ∨ (0 ≤ x9.toInt ∧ x9.toInt ≤ 29) := by rw [ex9]; exact hI.2 24 _
          refine lv_iload_n hx hb dX12_lying_33 rfl (lv_at hl 4 rfl) ?_
          refine lv_icmp_ne (tgt := 41) hx hb dX12_lying_34 (by decide) (fun c10 => ?_) (fun c10 => ?_)
          · have f10 := mt (ti_eq (a := x9.toInt) (b := w.toInt) rfl rfl).mpr c10
            exact jn7    _ _ _ hP hS (lv_sub hl [0, 1, 2, 3, 4] rfl)
          · have f10 := (ti_eq (a := x9.toInt) (b := w.toInt) rfl rfl).mp c10
            refine lv_iconst (v := 1) hx hb dX12_lying_37 (by decide) ?_
            refine lv_goto (tgt := 42) hx hb dX12_lying_38 (by decide) ?_
            exact jn4  (1 : Int32) (show (1 : Int32).toInt = 0 ∨ (1 : Int32).toInt = 1 from by have h55 : (1 : Int32).toInt = 1 := (by decide); omega) _ _ _ hP hS (lv_sub hl [0, 1, 2, 3, 4] rfl)
  exact lp1 _ (0 : Int32) (0 : Int32) (show 0 ≤ (0 : Int32).toInt ∧ (0 : Int32).toInt ≤ 30 from by have h50 : (0 : Int32).toInt = 0 := (by decide); have h51 : (0 : Int32).toInt = 0 := (by decide); omega) (show 0 ≤ (0 : Int32).toInt ∧ (0 : Int32).toInt ≤ (0 : Int32).toInt from by have h50 : (0 : Int32).toInt = 0 := (by decide); have h51 : (0 : Int32).toInt = 0 := (by decide); omega) (Nat.lt_succ_self _) _ _ _ hP hS (lv_sub hl [0, 1, 2, 3, 4] rfl)

def wm_X12_lookAtKinds : List Cond := .code yX12_lookAtKinds cX12_lookAtKinds 2 none :: (([.fieldLink RX12 177 "TalePlayModel" "objects" "I", .fieldLink RX12 92 "TalePlayModel" "lit" "[Z", .methodLink RX12 256 yX12_saidFlag, .instanceMethod yX12_saidFlag, .selects RX12 yX12_saidFlag yX12_saidFlag, .initialized RX12, .code yX12_saidFlag cX12_saidFlag 4 (some .int), .methodLink RX12 216 yX12_saidSo, .instanceMethod yX12_saidSo, .selects RX12 yX12_saidSo yX12_saidSo, .code yX12_saidSo cX12_saidSo 6 (some .int), .fieldLink RX12 202 "TalePlayModel" "sentences" "I", .fieldLink RX12 37 "TalePlayModel" "isSaid" "[Z", .fieldLink RX12 25 "TalePlayModel" "form" "[I", .fieldLink RX12 28 "TalePlayModel" "left" "[I", .fieldLink RX12 31 "TalePlayModel" "middle" "[I", .fieldLink RX12 34 "TalePlayModel" "right" "[I", .fieldLink RX12 19 "TalePlayModel" "kindOf" "[I", .methodLink RX12 184 yX12_isOf, .instanceMethod yX12_isOf, .selects RX12 yX12_isOf yX12_isOf, .code yX12_isOf cX12_isOf 4 (some .boolean), .fieldLink RX12 13 "TalePlayModel" "parentOf" "[I", .fieldLink RX12 16 "TalePlayModel" "defaults" "[I", .fieldLink RX12 98 "TalePlayModel" "isBox" "[Z", .fieldLink RX12 101 "TalePlayModel" "isRoom" "[Z", .fieldLink RX12 104 "TalePlayModel" "isDoor" "[Z", .fieldLink RX12 95 "TalePlayModel" "glass" "[Z"] : List Cond) ++ wsX120)
set_option maxRecDepth 20000 in
theorem gm_X12_lookAtKinds_X12_saidFlag : GoodIn wm_X12_lookAtKinds (wsV RX12 256 RX12 yX12_saidFlag wm_X12_saidFlag) := goodIn_app (goodIn_of _ (by decide +kernel)) (goodIn_r _ [7, 8, 9, 10, 6, 11, 12, 13, 14, 15, 16, 17, 18, 19, 20, 21, 22, 23, 24, 29, 30, 31, 32, 33, 34, 35, 36, 37, 38, 39, 40, 41, 42, 43, 44, 45, 46, 47, 48, 49, 50, 51, 52, 53, 54, 55, 56, 57, 58, 59, 60, 61, 62, 63, 64, 65, 66, 67, 68, 69, 70, 71, 72, 73, 74, 75, 76, 77, 78, 79, 80, 81, 82, 83, 84, 85, 86, 87, 88, 89, 90, 91, 92, 93, 94, 95, 96, 97] (by decide +kernel) (by decide +kernel))
set_option maxRecDepth 20000 in
theorem gm_X12_lookAtKinds_X12_isOf : GoodIn wm_X12_lookAtKinds (wsV RX12 184 RX12 yX12_isOf wm_X12_isOf) := goodIn_app (goodIn_of _ (by decide +kernel)) (goodIn_r _ [22, 18, 23, 29, 30, 31, 32, 33, 34, 35, 36, 37, 38, 39, 40, 41, 42, 43, 44, 45, 46, 47, 48, 49, 50, 51, 52, 53, 54, 55, 56, 57, 58, 59, 60, 61, 62, 63, 64, 65, 66, 67, 68, 69, 70, 71, 72, 73, 74, 75, 76, 77, 78, 79, 80, 81, 82, 83, 84, 85, 86, 87, 88, 89, 90, 91, 92, 93, 94, 95, 96, 97] (by decide +kernel) (by decide +kernel))
set_option maxHeartbeats 4000000 in
set_option maxRecDepth 100000 in
theorem s_X12_lookAtKinds (l : Launch) (D : va_G) (sz : Nat) (o : Nat) (a : Nat → Nat) (t : Nat → ClassId) (i : Nat → Int32) (q : Int64) (c : Nat → Nat → Int32) (d : Nat → Nat → Int64) (hI : mInv i c) : Met l yX12_lookAtKinds wm_X12_lookAtKinds ({ frames := 2, cells := 0, slots := 0, locals := 48 }) (va_Pc [.ref o] (pB D sz (mW o a t i q c d) (mT t))) (va_Qv (fun (u : MS) => True ∧ mInv u.1 u.2.2.1 ∧ (∀ k, k ∉ ([] : List Nat) → u.1 k = i k) ∧ (∀ k, k ∉ ([45, 46, 47, 48, 49] : List Nat) → u.2.2.1 k = c k)) (oC D (va_A (mW o a t i q c d) sz) (fun u : MS => mW o a t u.1 u.2.1 u.2.2.1 u.2.2.2) (fun _ => [])) (va_A (mW o a t i q c d) sz)) 0 0 (va_A (mW o a t i q c d) sz) := by
  refine Met.ofW (cc := cX12_lookAtKinds) (maxL := 2) (ret := none) (by decide) rfl ?_
  intro p e s m args below meth cd s₁ B hml hv
  obtain ⟨rfl, hsz, hP, hK, hD0⟩ := hv
  have hx := B.exec
  have hb := B.bytes
  have hr := B.returns
  have hts := atoms_spec (ws := wm_X12_lookAtKinds) B.pre
  have hown : s.vm.findClass RX12 = some m.cls := findClass_of_methodNamed B.named
  have hlocks := B.notSynchronized
  subst hsz
  have hD := hD0.self (sz := s.heap.size)
  generalize hAe : va_A (mW o a t i q c d) s.heap.size = A at hD ⊢
  have hA : ∀ q : Nat, s.heap.size ≤ q → A q := fun q h => by rw [← hAe]; exact Or.inr h
  have hS : va_S A s.heap s.heap [] := va_S.rf
  have hfi : ∀ k, k ∉ ([] : List Nat) → i k = i k := fun _ _ => rfl
  have hfc : ∀ k, k ∉ ([45, 46, 47, 48, 49] : List Nat) → c k = c k := fun _ _ => rfl
  have hl := lv_entry ([.ref o]) (n := 2) (Nat.le_of_ble_eq_true rfl)
  rw [lg_entry_eq]
  generalize (lg_sl ([.ref o]) ++ List.replicate (2 - (lg_sl ([.ref o])).length) Slot.unset).toArray = ls at hl ⊢
  have hl : lv_has ls 2 [(0, .ref o)] := hl
  refine lv_iconst (v := 0) hx hb dX12_lookAtKinds_0 (by decide) ?_
  refine lv_istore_n (lv' := [(1, .int 0), (0, .ref o)]) hx hb dX12_lookAtKinds_1 rfl hl (by decide) rfl (fun ls hl => ?_)
  have lp1 : ∀ (fu : Nat) (i1 : Nat → Int32) (q1 : Int64) (c1 : Nat → Nat → Int32) (d1 : Nat → Nat → Int64) (y1_1 : Int32), mInv i1 c1 → (∀ k, k ∉ ([] : List Nat) → i1 k = i k) → (∀ k, k ∉ ([45, 46, 47, 48, 49] : List Nat) → c1 k = c k) → (0 ≤ y1_1.toInt ∧ y1_1.toInt ≤ 30) → (30 - y1_1.toInt).toNat < fu → ∀ (H : Heap) (locs : List Loc) (ls : Array Slot), va_P D vwCl (mW o a t i1 q1 c1 d1) H → va_D A (mW o a t i1 q1 c1 d1) → va_S A s.heap H locs → lv_has ls 2 [(1, .int y1_1), (0, .ref o)] → W p l e (headSpec wm_X12_lookAtKinds ({ frames := 2, cells := 0, slots := 0, locals := 48 })).room s m ([.ref o] : List Value).toArray below meth cd H locs 0 0 (MQ below (va_Qv (fun (u : MS) => True ∧ mInv u.1 u.2.2.1 ∧ (∀ k, k ∉ ([] : List Nat) → u.1 k = i k) ∧ (∀ k, k ∉ ([45, 46, 47, 48, 49] : List Nat) → u.2.2.1 k = c k)) (oC D A (fun u : MS => mW o a t u.1 u.2.1 u.2.2.1 u.2.2.2) (fun _ => [])) A) ([.ref o] : List Value).toArray s 0 0 A) (F0 m 2 ls []) := by
    intro fu
    induction fu with
    | zero => intro i1 q1 c1 d1 y1_1 hI hfi hfc hy1_1 hm; exact absurd hm (Nat.not_lt_zero _)
    | succ fu ih =>
      intro i1 q1 c1 d1 y1_1 hI hfi hfc hy1_1 hm H locs ls hP hD hS hl
      have ih1 := ih
      refine lv_iload_n hx hb dX12_lookAtKinds_2 rfl (lv_at hl 0 rfl) ?_
      refine lv_aload_n hx hb dX12_lookAtKinds_3 rfl (lv_at hl 1 rfl) ?_
      refine mget_5 (v := (i1 5)) rfl hx hb hts (fun _ h => List.mem_cons_of_mem _ (List.mem_append_right _ h)) hown hK hP (hts (.fieldLink RX12 177 "TalePlayModel" "objects" "I") (by decide +kernel)) dX12_lookAtKinds_4 ?_
      have rb5_i1 : 0 ≤ (i1 5).toInt ∧ (i1 5).toInt ≤ 30 := hI.1 5
      have re5_i1 : (i1 5).toInt = (i 5).toInt := congrArg Int32.toInt (hfi 5 (by decide))
      refine lv_icmp_ge (tgt := 103) hx hb dX12_lookAtKinds_7 (by decide) (fun c2 => ?_) (fun c2 => ?_)
      · have f2 := (ti_le (a := (i1 5).toInt) (b := y1_1.toInt) rfl rfl).mp c2
        exact rw_vret (i1, q1, c1, d1) hx hb hr hlocks hS (hK.sub (tys' := []) [] rfl) hP hD dX12_lookAtKinds_103 ⟨trivial, hI, hfi, hfc⟩
      · have f2 := mt (ti_le (a := (i1 5).toInt) (b := y1_1.toInt) rfl rfl).mpr c2
        refine lv_aload_n hx hb dX12_lookAtKinds_10 rfl (lv_at hl 1 rfl) ?_
        refine mget_45 hx hb hts (fun _ h => List.mem_cons_of_mem _ (List.mem_append_right _ h)) hown hK hP (hts (.fieldLink RX12 92 "TalePlayModel" "lit" "[Z") (by decide +kernel)) dX12_lookAtKinds_11 ?_
        refine lv_iload_n hx hb dX12_lookAtKinds_14 rfl (lv_at hl 0 rfl) ?_
        refine lv_aload_n hx hb dX12_lookAtKinds_15 rfl (lv_at hl 1 rfl) ?_
        refine lv_iload_n hx hb dX12_lookAtKinds_16 rfl (lv_at hl 0 rfl) ?_
        refine lv_iconst (v := 2) hx hb dX12_lookAtKinds_17 (by decide) ?_
        refine ro_calli (va_runV (As := [.int y1_1, .int 2]) (rest := [.int y1_1, .ref (a 45)]) ⟨hx, hb, hml, hown, hts⟩ (s_X12_saidFlag l D H.size o a t i1 q1 c1 d1 y1_1 2 hI (by have h91 : (2 : Int32).toInt = 2 := (by decide); omega) (by have h91 : (2 : Int32).toInt = 2 := (by decide); omega)) (cwV 2 hts gm_X12_lookAtKinds_X12_saidFlag rfl rfl rfl (by decide +kernel) ⟨Nat.le_of_ble_eq_true rfl, Nat.le_of_ble_eq_true rfl⟩) (pA_V hK hP (ci := 12) (q0 := 0) rfl rfl) rfl rfl hl.1 rfl (lv_room (Nat.le_of_ble_eq_true rfl)) dX12_lookAtKinds_18 ⟨Nat.le_of_ble_eq_true rfl, Nat.le_of_ble_eq_true rfl⟩) hS hA hP (fun r3 u3 H locs hw3 hP hS => ?_)
        have hw3 : r3.toInt = -9 ∨ (0 ≤ r3.toInt ∧ r3.toInt ≤ 1) := hw3
        refine lv_iconst (v := 1) hx hb dX12_lookAtKinds_21 (by decide) ?_
        have jn4 : ∀ (z4_0 : Int32), (z4_0.toInt = 0 ∨ z4_0.toInt = 1) → ∀ (H : Heap) (locs : List Loc) (ls : Array Slot), va_P D vwCl (mW o a t i1 q1 c1 d1) H → va_D A (mW o a t i1 q1 c1 d1) → va_S A s.heap H locs → lv_has ls 2 [(1, .int y1_1), (0, .ref o)] → W p l e (headSpec wm_X12_lookAtKinds ({ frames := 2, cells := 0, slots := 0, locals := 48 })).room s m ([.ref o] : List Value).toArray below meth cd H locs 0 0 (MQ below (va_Qv (fun (u : MS) => True ∧ mInv u.1 u.2.2.1 ∧ (∀ k, k ∉ ([] : List Nat) → u.1 k = i k) ∧ (∀ k, k ∉ ([45, 46, 47, 48, 49] : List Nat) → u.2.2.1 k = c k)) (oC D A (fun u : MS => mW o a t u.1 u.2.1 u.2.2.1 u.2.2.2) (fun _ => [])) A) ([.ref o] : List Value).toArray s 0 0 A) (F0 m 30 ls [.int z4_0, .int y1_1, .ref (a 45)]) := by
          intro z4_0 hs4_0 H locs ls hP hD hS hl
          refine mst_45 hx hb hK hP hD hS (vp_in_iff.mpr (by have h9 : y1_1.toInt = y1_1.toInt := rfl; omega)) (nb_z (show 0 ≤ (z4_0 : Int32).toInt ∧ (z4_0 : Int32).toInt ≤ 1 from by omega)) dX12_lookAtKinds_30 (fun H locs hP hD hS => ?_)
          have hI := mInv_c hI (k := 45) (j := (y1_1 : Int32).toNatClampNeg) (x := z4_0) (show 0 ≤ (z4_0 : Int32).toInt ∧ (z4_0 : Int32).toInt ≤ 1 from by omega)
          have hfc := fr_c hfc (k := 45) (j := (y1_1 : Int32).toNatClampNeg) (x := z4_0) (by decide)
          refine lv_aload_n hx hb dX12_lookAtKinds_31 rfl (lv_at hl 1 rfl) ?_
          refine mget_47 hx hb hts (fun _ h => List.mem_cons_of_mem _ (List.mem_append_right _ h)) hown hK hP (hts (.fieldLink RX12 98 "TalePlayModel" "isBox" "[Z") (by decide +kernel)) dX12_lookAtKinds_32 ?_
          refine lv_iload_n hx hb dX12_lookAtKinds_35 rfl (lv_at hl 0 rfl) ?_
          refine lv_aload_n hx hb dX12_lookAtKinds_36 rfl (lv_at hl 1 rfl) ?_
          refine lv_iload_n hx hb dX12_lookAtKinds_37 rfl (lv_at hl 0 rfl) ?_
          refine lv_iconst (v := 3) hx hb dX12_lookAtKinds_38 (by decide) ?_
          refine ro_calli (va_runV (As := [.int y1_1, .int 3]) (rest := [.int y1_1, .ref (a 47)]) ⟨hx, hb, hml, hown, hts⟩ (s_X12_isOf l D H.size o a t i1 q1 (updA c1 45 (y1_1 : Int32).toNatClampNeg z4_0) d1 y1_1 3 hI (by have h91 : (3 : Int32).toInt = 3 := (by decide); omega)) (cwV 2 hts gm_X12_lookAtKinds_X12_isOf rfl rfl rfl (by decide +kernel) ⟨Nat.le_of_ble_eq_true rfl, Nat.le_of_ble_eq_true rfl⟩) (pA_V hK hP (ci := 12) (q0 := 0) rfl rfl) rfl rfl hl.1 rfl (lv_room (Nat.le_of_ble_eq_true rfl)) dX12_lookAtKinds_39 ⟨Nat.le_of_ble_eq_true rfl, Nat.le_of_ble_eq_true rfl⟩) hS hA hP (fun r5 u5 H locs hw5 hP hS => ?_)
          have hw5 : 0 ≤ r5.toInt ∧ r5.toInt ≤ 1 := hw5
          refine mst_47 hx hb hK hP hD hS (vp_in_iff.mpr (by have h9 : y1_1.toInt = y1_1.toInt := rfl; omega)) (nb_z (show 0 ≤ (r5 : Int32).toInt ∧ (r5 : Int32).toInt ≤ 1 from by omega)) dX12_lookAtKinds_42 (fun H locs hP hD hS => ?_)
          have hI := mInv_c hI (k := 47) (j := (y1_1 : Int32).toNatClampNeg) (x := r5) (show 0 ≤ (r5 : Int32).toInt ∧ (r5 : Int32).toInt ≤ 1 from by omega)
          have hfc := fr_c hfc (k := 47) (j := (y1_1 : Int32).toNatClampNeg) (x := r5) (by decide)
          refine lv_aload_n hx hb dX12_lookAtKinds_43 rfl (lv_at hl 1 rfl) ?_
          refine mget_48 hx hb hts (fun _ h => List.mem_cons_of_mem _ (List.mem_append_right _ h)) hown hK hP (hts (.fieldLink RX12 101 "TalePlayModel" "isRoom" "[Z") (by decide +kernel)) dX12_lookAtKinds_44 ?_
          refine lv_iload_n hx hb dX12_lookAtKinds_47 rfl (lv_at hl 0 rfl) ?_
          refine lv_aload_n hx hb dX12_lookAtKinds_48 rfl (lv_at hl 1 rfl) ?_
          refine lv_iload_n hx hb dX12_lookAtKinds_49 rfl (lv_at hl 0 rfl) ?_
          refine lv_iconst (v := 0) hx hb dX12_lookAtKinds_50 (by decide) ?_
          refine ro_calli (va_runV (As := [.int y1_1, .int 0]) (rest := [.int y1_1, .ref (a 48)]) ⟨hx, hb, hml, hown, hts⟩ (s_X12_isOf l D H.size o a t i1 q1 (updA (updA c1 45 (y1_1 : Int32).toNatClampNeg z4_0) 47 (y1_1 : Int32).toNatClampNeg r5) d1 y1_1 0 hI (by have h91 : (0 : Int32).toInt = 0 := (by decide); omega)) (cwV 2 hts gm_X12_lookAtKinds_X12_isOf rfl rfl rfl (by decide +kernel) ⟨Nat.le_of_ble_eq_true rfl, Nat.le_of_ble_eq_true rfl⟩) (pA_V hK hP (ci := 12) (q0 := 0) rfl rfl) rfl rfl hl.1 rfl (lv_room (Nat.le_of_ble_eq_true rfl)) dX12_lookAtKinds_51 ⟨Nat.le_of_ble_eq_true rfl, Nat.le_of_ble_eq_true rfl⟩) hS hA hP (fun r6 u6 H locs hw6 hP hS => ?_)
          have hw6 : 0 ≤ r6.toInt ∧ r6.toInt ≤ 1 := hw6
          refine mst_48 hx hb hK hP hD hS (vp_in_iff.mpr (by have h9 : y1_1.toInt = y1_1.toInt := rfl; omega)) (nb_z (show 0 ≤ (r6 : Int32).toInt ∧ (r6 : Int32).toInt ≤ 1 from by omega)) dX12_lookAtKinds_54 (fun H locs hP hD hS => ?_)
          have hI := mInv_c hI (k := 48) (j := (y1_1 : Int32).toNatClampNeg) (x := r6) (show 0 ≤ (r6 : Int32).toInt ∧ (r6 : Int32).toInt ≤ 1 from by omega)
          have hfc := fr_c hfc (k := 48) (j := (y1_1 : Int32).toNatClampNeg) (x := r6) (by decide)
          refine lv_aload_n hx hb dX12_lookAtKinds_55 rfl (lv_at hl 1 rfl) ?_
          refine mget_49 hx hb hts (fun _ h => List.mem_cons_of_mem _ (List.mem_append_right _ h)) hown hK hP (hts (.fieldLink RX12 104 "TalePlayModel" "isDoor" "[Z") (by decide +kernel)) dX12_lookAtKinds_56 ?_
          refine lv_iload_n hx hb dX12_lookAtKinds_59 rfl (lv_at hl 0 rfl) ?_
          refine lv_aload_n hx hb dX12_lookAtKinds_60 rfl (lv_at hl 1 rfl) ?_
          refine lv_iload_n hx hb dX12_lookAtKinds_61 rfl (lv_at hl 0 rfl) ?_
          refine lv_iconst (v := 2) hx hb dX12_lookAtKinds_62 (by decide) ?_
          refine ro_calli (va_runV (As := [.int y1_1, .int 2]) (rest := [.int y1_1, .ref (a 49)]) ⟨hx, hb, hml, hown, hts⟩ (s_X12_isOf l D H.size o a t i1 q1 (updA (updA (updA c1 45 (y1_1 : Int32).toNatClampNeg z4_0) 47 (y1_1 : Int32).toNatClampNeg r5) 48 (y1_1 : Int32).toNatClampNeg r6) d1 y1_1 2 hI (by have h91 : (2 : Int32).toInt = 2 := (by decide); omega)) (cwV 2 hts gm_X12_lookAtKinds_X12_isOf rfl rfl rfl (by decide +kernel) ⟨Nat.le_of_ble_eq_true rfl, Nat.le_of_ble_eq_true rfl⟩) (pA_V hK hP (ci := 12) (q0 := 0) rfl rfl) rfl rfl hl.1 rfl (lv_room (Nat.le_of_ble_eq_true rfl)) dX12_lookAtKinds_63 ⟨Nat.le_of_ble_eq_true rfl, Nat.le_of_ble_eq_true rfl⟩) hS hA hP (fun r7 u7 H locs hw7 hP hS => ?_)
          have hw7 : 0 ≤ r7.toInt ∧ r7.toInt ≤ 1 := hw7
          refine mst_49 hx hb hK hP hD hS (vp_in_iff.mpr (by have h9 : y1_1.toInt = y1_1.toInt := rfl; omega)) (nb_z (show 0 ≤ (r7 : Int32).toInt ∧ (r7 : Int32).toInt ≤ 1 from by omega)) dX12_lookAtKinds_66 (fun H locs hP hD hS => ?_)
          have hI := mInv_c hI (k := 49) (j := (y1_1 : Int32).toNatClampNeg) (x := r7) (show 0 ≤ (r7 : Int32).toInt ∧ (r7 : Int32).toInt ≤ 1 from by omega)
          have hfc := fr_c hfc (k := 49) (j := (y1_1 : Int32).toNatClampNeg) (x := r7) (by decide)
          refine lv_aload_n hx hb dX12_lookAtKinds_67 rfl (lv_at hl 1 rfl) ?_
          refine mget_46 hx hb hts (fun _ h => List.mem_cons_of_mem _ (List.mem_append_right _ h)) hown hK hP (hts (.fieldLink RX12 95 "TalePlayModel" "glass" "[Z") (by decide +kernel)) dX12_lookAtKinds_68 ?_
          refine lv_iload_n hx hb dX12_lookAtKinds_71 rfl (lv_at hl 0 rfl) ?_
          refine lv_aload_n hx hb dX12_lookAtKinds_72 rfl (lv_at hl 1 rfl) ?_
          refine mget_47 hx hb hts (fun _ h => List.mem_cons_of_mem _ (List.mem_append_right _ h)) hown hK hP (hts (.fieldLink RX12 98 "TalePlayModel" "isBox" "[Z") (by decide +kernel)) dX12_lookAtKinds_73 ?_
          refine lv_iload_n hx hb dX12_lookAtKinds_76 rfl (lv_at hl 0 rfl) ?_
          refine mld_47 hx hb hK hP (vp_in_iff.mpr (by have h9 : y1_1.toInt = y1_1.toInt := rfl; omega)) dX12_lookAtKinds_77 (fun x8 ex8 => ?_)
          have rx8 : 0 ≤ x8.toInt ∧ x8.toInt ≤ 1 := by rw [ex8]; exact hI.2 47 _
          have jn9 : ∀ (z9_0 : Int32), (z9_0.toInt = 0 ∨ z9_0.toInt = 1) → ∀ (H : Heap) (locs : List Loc) (ls : Array Slot), va_P D vwCl (mW o a t i1 q1 (updA (updA (updA (updA c1 45 (y1_1 : Int32).toNatClampNeg z4_0) 47 (y1_1 : Int32).toNatClampNeg r5) 48 (y1_1 : Int32).toNatClampNeg r6) 49 (y1_1 : Int32).toNatClampNeg r7) d1) H → va_D A (mW o a t i1 q1 (updA (updA (updA (updA c1 45 (y1_1 : Int32).toNatClampNeg z4_0) 47 (y1_1 : Int32).toNatClampNeg r5) 48 (y1_1 : Int32).toNatClampNeg r6) 49 (y1_1 : Int32).toNatClampNeg r7) d1) → va_S A s.heap H locs → lv_has ls 2 [(1, .int y1_1), (0, .ref o)] → W p l e (headSpec wm_X12_lookAtKinds ({ frames := 2, cells := 0, slots := 0, locals := 48 })).room s m ([.ref o] : List Value).toArray below meth cd H locs 0 0 (MQ below (va_Qv (fun (u : MS) => True ∧ mInv u.1 u.2.2.1 ∧ (∀ k, k ∉ ([] : List Nat) → u.1 k = i k) ∧ (∀ k, k ∉ ([45, 46, 47, 48, 49] : List Nat) → u.2.2.1 k = c k)) (oC D A (fun u : MS => mW o a t u.1 u.2.1 u.2.2.1 u.2.2.2) (fun _ => [])) A) ([.ref o] : List Value).toArray s 0 0 A) (F0 m 96 ls [.int z9_0, .int y1_1, .ref (a 46)]) := by
            intro z9_0 hs9_0 H locs ls hP hD hS hl
            refine mst_46 hx hb hK hP hD hS (vp_in_iff.mpr (by have h9 : y1_1.toInt = y1_1.toInt := rfl; omega)) (nb_z (show 0 ≤ (z9_0 : Int32).toInt ∧ (z9_0 : Int32).toInt ≤ 1 from by omega)) dX12_lookAtKinds_96 (fun H locs hP hD hS => ?_)
            have hI := mInv_c hI (k := 46) (j := (y1_1 : Int32).toNatClampNeg) (x := z9_0) (show 0 ≤ (z9_0 : Int32).toInt ∧ (z9_0 : Int32).toInt ≤ 1 from by omega)
            have hfc := fr_c hfc (k := 46) (j := (y1_1 : Int32).toNatClampNeg) (x := z9_0) (by decide)
            obtain ⟨x10, ex10⟩ : ∃ y : Int32, y = y1_1 + 1 := ⟨_, rfl⟩
            have tx10 := ti_add (a := y1_1.toInt) (b := 1) ex10 rfl (by decide) (by omega) (by omega)
            refine lv_iinc (v := x10) (lv' := [(1, .int x10), (0, .ref o)]) hx hb dX12_lookAtKinds_97 hl (k := 0) rfl (by rw [ex10]; rfl) (by decide) rfl (fun ls hl => ?_)
            refine lv_goto (tgt := 2) hx hb dX12_lookAtKinds_100 (by decide) ?_
            exact ih1 i1 q1 (updA (updA (updA (updA (updA c1 45 (y1_1 : Int32).toNatClampNeg z4_0) 47 (y1_1 : Int32).toNatClampNeg r5) 48 (y1_1 : Int32).toNatClampNeg r6) 49 (y1_1 : Int32).toNatClampNeg r7) 46 (y1_1 : Int32).toNatClampNeg z9_0) d1 x10 hI hfi hfc (show 0 ≤ x10.toInt ∧ x10.toInt ≤ 30 from by have h50 : x10.toInt = (y1_1.toInt + 1) := tx10; omega) (by have h50 : x10.toInt = (y1_1.toInt + 1) := tx10; omega) _ _ _ hP hD hS (lv_sub hl [0, 1] rfl)
          have jn11 : ∀ (H : Heap) (locs : List Loc) (ls : Array Slot), va_P D vwCl (mW o a t i1 q1 (updA (updA (updA (updA c1 45 (y1_1 : Int32).toNatClampNeg z4_0) 47 (y1_1 : Int32).toNatClampNeg r5) 48 (y1_1 : Int32).toNatClampNeg r6) 49 (y1_1 : Int32).toNatClampNeg r7) d1) H → va_D A (mW o a t i1 q1 (updA (updA (updA (updA c1 45 (y1_1 : Int32).toNatClampNeg z4_0) 47 (y1_1 : Int32).toNatClampNeg r5) 48 (y1_1 : Int32).toNatClampNeg r6) 49 (y1_1 : Int32).toNatClampNeg r7) d1) → va_S A s.heap H locs → lv_has ls 2 [(1, .int y1_1), (0, .ref o)] → W p l e (headSpec wm_X12_lookAtKinds ({ frames := 2, cells := 0, slots := 0, locals := 48 })).room s m ([.ref o] : List Value).toArray below meth cd H locs 0 0 (MQ below (va_Qv (fun (u : MS) => True ∧ mInv u.1 u.2.2.1 ∧ (∀ k, k ∉ ([] : List Nat) → u.1 k = i k) ∧ (∀ k, k ∉ ([45, 46, 47, 48, 49] : List Nat) → u.2.2.1 k = c k)) (oC D A (fun u : MS => mW o a t u.1 u.2.1 u.2.2.1 u.2.2.2) (fun _ => [])) A) ([.ref o] : List Value).toArray s 0 0 A) (F0 m 95 ls [.int y1_1, .ref (a 46)]) := by
            intro H locs ls hP hD hS hl
            refine lv_iconst (v := 0) hx hb dX12_lookAtKinds_95 (by decide) ?_
            exact jn9  (0 : Int32) (show (0 : Int32).toInt = 0 ∨ (0 : Int32).toInt = 1 from by have h52 : (0 : Int32).toInt = 0 := (by decide); omega) _ _ _ hP hD hS (lv_sub hl [0, 1] rfl)
          refine lv_if_eq (tgt := 95) hx hb dX12_lookAtKinds_78 (by decide) (fun c12 => ?_) (fun c12 => ?_)
          · have f12 := (ti_eq (a := x8.toInt) (b := 0) rfl (by decide)).mp c12
            exact jn11    _ _ _ hP hD hS (lv_sub hl [0, 1] rfl)
          · have f12 := mt (ti_eq (a := x8.toInt) (b := 0) rfl (by decide)).mpr c12
            refine lv_aload_n hx hb dX12_lookAtKinds_81 rfl (lv_at hl 1 rfl) ?_
            refine lv_iload_n hx hb dX12_lookAtKinds_82 rfl (lv_at hl 0 rfl) ?_
            refine lv_iconst (v := 5) hx hb dX12_lookAtKinds_83 (by decide) ?_
            refine ro_calli (va_runV (As := [.int y1_1, .int 5]) (rest := [.int y1_1, .ref (a 46)]) ⟨hx, hb, hml, hown, hts⟩ (s_X12_saidFlag l D H.size o a t i1 q1 (updA (updA (updA (updA c1 45 (y1_1 : Int32).toNatClampNeg z4_0) 47 (y1_1 : Int32).toNatClampNeg r5) 48 (y1_1 : Int32).toNatClampNeg r6) 49 (y1_1 : Int32).toNatClampNeg r7) d1 y1_1 5 hI (by have h91 : (5 : Int32).toInt = 5 := (by decide); omega) (by have h91 : (5 : Int32).toInt = 5 := (by decide); omega)) (cwV 2 hts gm_X12_lookAtKinds_X12_saidFlag rfl rfl rfl (by decide +kernel) ⟨Nat.le_of_ble_eq_true rfl, Nat.le_of_ble_eq_true rfl⟩) (pA_V hK hP (ci := 12) (q0 := 0) rfl rfl) rfl rfl hl.1 rfl (lv_room (Nat.le_of_ble_eq_true rfl)) dX12_lookAtKinds_84 ⟨Nat.le_of_ble_eq_true rfl, Nat.le_of_ble_eq_true rfl⟩) hS hA hP (fun r13 u13 H locs hw13 hP hS => ?_)
            have hw13 : r13.toInt = -9 ∨ (0 ≤ r13.toInt ∧ r13.toInt ≤ 1) := hw13
            refine lv_iconst (v := 1) hx hb dX12_lookAtKinds_87 (by decide) ?_
            refine lv_icmp_ne (tgt := 95) hx hb dX12_lookAtKinds_88 (by decide) (fun c14 => ?_) (fun c14 => ?_)
            · have f14 := mt (ti_eq (a := r13.toInt) (b := 1) rfl (by decide)).mpr c14
              exact jn11    _ _ _ hP hD hS (lv_sub hl [0, 1] rfl)
            · have f14 := (ti_eq (a := r13.toInt) (b := 1) rfl (by decide)).mp c14
              refine lv_iconst (v := 1) hx hb dX12_lookAtKinds_91 (by decide) ?_
              refine lv_goto (tgt := 96) hx hb dX12_lookAtKinds_92 (by decide) ?_
              exact jn9  (1 : Int32) (show (1 : Int32).toInt = 0 ∨ (1 : Int32).toInt = 1 from by have h52 : (1 : Int32).toInt = 1 := (by decide); omega) _ _ _ hP hD hS (lv_sub hl [0, 1] rfl)
        refine lv_icmp_ne (tgt := 29) hx hb dX12_lookAtKinds_22 (by decide) (fun c15 => ?_) (fun c15 => ?_)
        · have f15 := mt (ti_eq (a := r3.toInt) (b := 1) rfl (by decide)).mpr c15
          refine lv_iconst (v := 0) hx hb dX12_lookAtKinds_29 (by decide) ?_
          exact jn4  (0 : Int32) (show (0 : Int32).toInt = 0 ∨ (0 : Int32).toInt = 1 from by have h52 : (0 : Int32).toInt = 0 := (by decide); omega) _ _ _ hP hD hS (lv_sub hl [0, 1] rfl)
        · have f15 := (ti_eq (a := r3.toInt) (b := 1) rfl (by decide)).mp c15
          refine lv_iconst (v := 1) hx hb dX12_lookAtKinds_25 (by decide) ?_
          refine lv_goto (tgt := 30) hx hb dX12_lookAtKinds_26 (by decide) ?_
          exact jn4  (1 : Int32) (show (1 : Int32).toInt = 0 ∨ (1 : Int32).toInt = 1 from by have h52 : (1 : Int32).toInt = 1 := (by decide); omega) _ _ _ hP hD hS (lv_sub hl [0, 1] rfl)
  exact lp1 _ i q c d (0 : Int32) hI hfi hfc (show 0 ≤ (0 : Int32).toInt ∧ (0 : Int32).toInt ≤ 30 from by have h50 : (0 : Int32).toInt = 0 := (by decide); omega) (Nat.lt_succ_self _) _ _ _ hP hD hS (lv_sub hl [0, 1] rfl)

def wm_X12_keepState : List Cond := .code yX12_keepState cX12_keepState 3 none :: (([.fieldLink RX12 177 "TalePlayModel" "objects" "I", .fieldLink RX12 107 "TalePlayModel" "stateForm" "[B", .fieldLink RX12 50 "TalePlayModel" "nForm" "[I", .fieldLink RX12 111 "TalePlayModel" "stateAt" "[B", .fieldLink RX12 53 "TalePlayModel" "nAt" "[I", .fieldLink RX12 114 "TalePlayModel" "stateShut" "[B", .fieldLink RX12 56 "TalePlayModel" "nOpen" "[Z", .fieldLink RX12 59 "TalePlayModel" "nLocked" "[Z"] : List Cond) ++ wsX120)
set_option maxHeartbeats 4000000 in
set_option maxRecDepth 100000 in
theorem s_X12_keepState (l : Launch) (D : va_G) (sz : Nat) (o : Nat) (a : Nat → Nat) (t : Nat → ClassId) (i : Nat → Int32) (q : Int64) (c : Nat → Nat → Int32) (d : Nat → Nat → Int64) (s1 : Int32) (hI : mInv i c) (hs1 : 0 ≤ s1.toInt ∧ s1.toInt ≤ 300) : Met l yX12_keepState wm_X12_keepState ({ frames := 0, cells := 0, slots := 0, locals := 0 }) (va_Pc [.ref o, .int s1] (pB D sz (mW o a t i q c d) (mT t))) (va_Qv (fun (u : MS) => True ∧ mInv u.1 u.2.2.1 ∧ (∀ k, k ∉ ([] : List Nat) → u.1 k = i k) ∧ (∀ k, k ∉ ([51, 52, 53] : List Nat) → u.2.2.1 k = c k)) (oC D (va_A (mW o a t i q c d) sz) (fun u : MS => mW o a t u.1 u.2.1 u.2.2.1 u.2.2.2) (fun _ => [])) (va_A (mW o a t i q c d) sz)) 0 0 (va_A (mW o a t i q c d) sz) := by
  refine Met.ofW (cc := cX12_keepState) (maxL := 3) (ret := none) (by decide) rfl ?_
  intro p e s m args below meth cd s₁ B hml hv
  obtain ⟨rfl, hsz, hP, hK, hD0⟩ := hv
  have hx := B.exec
  have hb := B.bytes
  have hr := B.returns
  have hts := atoms_spec (ws := wm_X12_keepState) B.pre
  have hown : s.vm.findClass RX12 = some m.cls := findClass_of_methodNamed B.named
  have hlocks := B.notSynchronized
  subst hsz
  have hD := hD0.self (sz := s.heap.size)
  generalize hAe : va_A (mW o a t i q c d) s.heap.size = A at hD ⊢
  have hA : ∀ q : Nat, s.heap.size ≤ q → A q := fun q h => by rw [← hAe]; exact Or.inr h
  have hS : va_S A s.heap s.heap [] := va_S.rf
  have hfi : ∀ k, k ∉ ([] : List Nat) → i k = i k := fun _ _ => rfl
  have hfc : ∀ k, k ∉ ([51, 52, 53] : List Nat) → c k = c k := fun _ _ => rfl
  have hl := lv_entry ([.ref o, .int s1]) (n := 3) (Nat.le_of_ble_eq_true rfl)
  rw [lg_entry_eq]
  generalize (lg_sl ([.ref o, .int s1]) ++ List.replicate (3 - (lg_sl ([.ref o, .int s1])).length) Slot.unset).toArray = ls at hl ⊢
  have hl : lv_has ls 3 [(0, .ref o), (1, .int s1)] := hl
  refine lv_iconst (v := 0) hx hb dX12_keepState_0 (by decide) ?_
  refine lv_istore_n (lv' := [(2, .int 0), (0, .ref o), (1, .int s1)]) hx hb dX12_keepState_1 rfl hl (by decide) rfl (fun ls hl => ?_)
  have lp1 : ∀ (fu : Nat) (i1 : Nat → Int32) (q1 : Int64) (c1 : Nat → Nat → Int32) (d1 : Nat → Nat → Int64) (y1_2 : Int32), mInv i1 c1 → (∀ k, k ∉ ([] : List Nat) → i1 k = i k) → (∀ k, k ∉ ([51, 52, 53] : List Nat) → c1 k = c k) → (0 ≤ y1_2.toInt ∧ y1_2.toInt ≤ 30) → (30 - y1_2.toInt).toNat < fu → ∀ (H : Heap) (locs : List Loc) (ls : Array Slot), va_P D vwCl (mW o a t i1 q1 c1 d1) H → va_D A (mW o a t i1 q1 c1 d1) → va_S A s.heap H locs → lv_has ls 3 [(2, .int y1_2), (0, .ref o), (1, .int s1)] → W p l e (headSpec wm_X12_keepState ({ frames := 0, cells := 0, slots := 0, locals := 0 })).room s m ([.ref o, .int s1] : List Value).toArray below meth cd H locs 0 0 (MQ below (va_Qv (fun (u : MS) => True ∧ mInv u.1 u.2.2.1 ∧ (∀ k, k ∉ ([] : List Nat) → u.1 k = i k) ∧ (∀ k, k ∉ ([51, 52, 53] : List Nat) → u.2.2.1 k = c k)) (oC D A (fun u : MS => mW o a t u.1 u.2.1 u.2.2.1 u.2.2.2) (fun _ => [])) A) ([.ref o, .int s1] : List Value).toArray s 0 0 A) (F0 m 2 ls []) := by
    intro fu
    induction fu with
    | zero => intro i1 q1 c1 d1 y1_2 hI hfi hfc hy1_2 hm; exact absurd hm (Nat.not_lt_zero _)
    | succ fu ih =>
      intro i1 q1 c1 d1 y1_2 hI hfi hfc hy1_2 hm H locs ls hP hD hS hl
      have ih1 := ih
      refine lv_iload_n hx hb dX12_keepState_2 rfl (lv_at hl 0 rfl) ?_
      refine lv_aload_n hx hb dX12_keepState_3 rfl (lv_at hl 1 rfl) ?_
      refine mget_5 (v := (i1 5)) rfl hx hb hts (fun _ h => List.mem_cons_of_mem _ (List.mem_append_right _ h)) hown hK hP (hts (.fieldLink RX12 177 "TalePlayModel" "objects" "I") (by decide +kernel)) dX12_keepState_4 ?_
      have rb5_i1 : 0 ≤ (i1 5).toInt ∧ (i1 5).toInt ≤ 30 := hI.1 5
      have re5_i1 : (i1 5).toInt = (i 5).toInt := congrArg Int32.toInt (hfi 5 (by decide))
      refine lv_icmp_ge (tgt := 93) hx hb dX12_keepState_7 (by decide) (fun c2 => ?_) (fun c2 => ?_)
      · have f2 := (ti_le (a := (i1 5).toInt) (b := y1_2.toInt) rfl rfl).mp c2
        exact rw_vret (i1, q1, c1, d1) hx hb hr hlocks hS (hK.sub (tys' := []) [] rfl) hP hD dX12_keepState_93 ⟨trivial, hI, hfi, hfc⟩
      · have f2 := mt (ti_le (a := (i1 5).toInt) (b := y1_2.toInt) rfl rfl).mpr c2
        refine lv_aload_n hx hb dX12_keepState_10 rfl (lv_at hl 1 rfl) ?_
        refine mget_51 hx hb hts (fun _ h => List.mem_cons_of_mem _ (List.mem_append_right _ h)) hown hK hP (hts (.fieldLink RX12 107 "TalePlayModel" "stateForm" "[B") (by decide +kernel)) dX12_keepState_11 ?_
        refine lv_bipush (v := 30) hx hb dX12_keepState_14 (by decide) ?_
        refine lv_iload_n hx hb dX12_keepState_16 rfl (lv_at hl 2 rfl) ?_
        refine lv_imul hx hb dX12_keepState_17 ?_
        refine lv_topi (fun x3 ex3 => ?_)
        have tx3 := ti_mul (a := 30) (b := s1.toInt) ex3 (by decide) rfl (by omega) (by omega)
        refine lv_iload_n hx hb dX12_keepState_18 rfl (lv_at hl 0 rfl) ?_
        refine lv_iadd hx hb dX12_keepState_19 ?_
        refine lv_topi (fun x4 ex4 => ?_)
        have tx4 := ti_add (a := (30 * s1.toInt)) (b := y1_2.toInt) ex4 tx3 rfl (by omega) (by omega)
        refine lv_aload_n hx hb dX12_keepState_20 rfl (lv_at hl 1 rfl) ?_
        refine mget_23 hx hb hts (fun _ h => List.mem_cons_of_mem _ (List.mem_append_right _ h)) hown hK hP (hts (.fieldLink RX12 50 "TalePlayModel" "nForm" "[I") (by decide +kernel)) dX12_keepState_21 ?_
        refine lv_iload_n hx hb dX12_keepState_24 rfl (lv_at hl 0 rfl) ?_
        refine mld_23 hx hb hK hP (vp_in_iff.mpr (by have h9 : y1_2.toInt = y1_2.toInt := rfl; omega)) dX12_keepState_25 (fun x5 ex5 => ?_)
        have rx5 : x5.toInt = -9 ∨ (0 ≤ x5.toInt ∧ x5.toInt ≤ 4) := by rw [ex5]; exact hI.2 23 _
        refine lv_i2b (v := x5) hx hb dX12_keepState_26 (nb_i (show -128 ≤ (x5 : Int32).toInt ∧ (x5 : Int32).toInt ≤ 127 from by omega)) ?_
        refine mst_51 hx hb hK hP hD hS (vp_in_iff.mpr (by have h9 : x4.toInt = ((30 * s1.toInt) + y1_2.toInt) := tx4; omega)) (nb_b (show -128 ≤ (x5 : Int32).toInt ∧ (x5 : Int32).toInt ≤ 127 from by omega)) dX12_keepState_27 (fun H locs hP hD hS => ?_)
        have hI := mInv_c hI (k := 51) (j := (x4 : Int32).toNatClampNeg) (x := x5) (show (x5 : Int32).toInt = -9 ∨ (0 ≤ (x5 : Int32).toInt ∧ (x5 : Int32).toInt ≤ 4) from by omega)
        have hfc := fr_c hfc (k := 51) (j := (x4 : Int32).toNatClampNeg) (x := x5) (by decide)
        refine lv_aload_n hx hb dX12_keepState_28 rfl (lv_at hl 1 rfl) ?_
        refine mget_52 hx hb hts (fun _ h => List.mem_cons_of_mem _ (List.mem_append_right _ h)) hown hK hP (hts (.fieldLink RX12 111 "TalePlayModel" "stateAt" "[B") (by decide +kernel)) dX12_keepState_29 ?_
        refine lv_bipush (v := 30) hx hb dX12_keepState_32 (by decide) ?_
        refine lv_iload_n hx hb dX12_keepState_34 rfl (lv_at hl 2 rfl) ?_
        refine lv_imul hx hb dX12_keepState_35 ?_
        refine lv_topi (fun x6 ex6 => ?_)
        have tx6 := ti_mul (a := 30) (b := s1.toInt) ex6 (by decide) rfl (by omega) (by omega)
        refine lv_iload_n hx hb dX12_keepState_36 rfl (lv_at hl 0 rfl) ?_
        refine lv_iadd hx hb dX12_keepState_37 ?_
        refine lv_topi (fun x7 ex7 => ?_)
        have tx7 := ti_add (a := (30 * s1.toInt)) (b := y1_2.toInt) ex7 tx6 rfl (by omega) (by omega)
        refine lv_aload_n hx hb dX12_keepState_38 rfl (lv_at hl 1 rfl) ?_
        refine mget_24 hx hb hts (fun _ h => List.mem_cons_of_mem _ (List.mem_append_right _ h)) hown hK hP (hts (.fieldLink RX12 53 "TalePlayModel" "nAt" "[I") (by decide +kernel)) dX12_keepState_39 ?_
        refine lv_iload_n hx hb dX12_keepState_42 rfl (lv_at hl 0 rfl) ?_
        refine mld_24 hx hb hK hP (vp_in_iff.mpr (by have h9 : y1_2.toInt = y1_2.toInt := rfl; omega)) dX12_keepState_43 (fun x8 ex8 => ?_)
        have rx8 : x8.toInt = -9 ∨ (0 ≤ x8.toInt ∧ x8.toInt ≤ 29) := by rw [ex8]; exact hI.2 24 _
        refine lv_i2b (v := x8) hx hb dX12_keepState_44 (nb_i (show -128 ≤ (x8 : Int32).toInt ∧ (x8 : Int32).toInt ≤ 127 from by omega)) ?_
        refine mst_52 hx hb hK hP hD hS (vp_in_iff.mpr (by have h9 : x7.toInt = ((30 * s1.toInt) + y1_2.toInt) := tx7; omega)) (nb_b (show -128 ≤ (x8 : Int32).toInt ∧ (x8 : Int32).toInt ≤ 127 from by omega)) dX12_keepState_45 (fun H locs hP hD hS => ?_)
        have hI := mInv_c hI (k := 52) (j := (x7 : Int32).toNatClampNeg) (x := x8) (show (x8 : Int32).toInt = -9 ∨ (0 ≤ (x8 : Int32).toInt ∧ (x8 : Int32).toInt ≤ 29) from by omega)
        have hfc := fr_c hfc (k := 52) (j := (x7 : Int32).toNatClampNeg) (x := x8) (by decide)
        refine lv_aload_n hx hb dX12_keepState_46 rfl (lv_at hl 1 rfl) ?_
        refine mget_53 hx hb hts (fun _ h => List.mem_cons_of_mem _ (List.mem_append_right _ h)) hown hK hP (hts (.fieldLink RX12 114 "TalePlayModel" "stateShut" "[B") (by decide +kernel)) dX12_keepState_47 ?_
        refine lv_bipush (v := 30) hx hb dX12_keepState_50 (by decide) ?_
        refine lv_iload_n hx hb dX12_keepState_52 rfl (lv_at hl 2 rfl) ?_
        refine lv_imul hx hb dX12_keepState_53 ?_
        refine lv_topi (fun x9 ex9 => ?_)
        have tx9 := ti_mul (a := 30) (b := s1.toInt) ex9 (by decide) rfl (by omega) (by omega)
        refine lv_iload_n hx hb dX12_keepState_54 rfl (lv_at hl 0 rfl) ?_
        refine lv_iadd hx hb dX12_keepState_55 ?_
        refine lv_topi (fun x10 ex10 => ?_)
        have tx10 := ti_add (a := (30 * s1.toInt)) (b := y1_2.toInt) ex10 tx9 rfl (by omega) (by omega)
        refine lv_aload_n hx hb dX12_keepState_56 rfl (lv_at hl 1 rfl) ?_
        refine mget_25 hx hb hts (fun _ h => List.mem_cons_of_mem _ (List.mem_append_right _ h)) hown hK hP (hts (.fieldLink RX12 56 "TalePlayModel" "nOpen" "[Z") (by decide +kernel)) dX12_keepState_57 ?_
        refine lv_iload_n hx hb dX12_keepState_60 rfl (lv_at hl 0 rfl) ?_
        refine mld_25 hx hb hK hP (vp_in_iff.mpr (by have h9 : y1_2.toInt = y1_2.toInt := rfl; omega)) dX12_keepState_61 (fun x11 ex11 => ?_)
        have rx11 : 0 ≤ x11.toInt ∧ x11.toInt ≤ 1 := by rw [ex11]; exact hI.2 25 _
        have jn12 : ∀ (z12_0 : Int32), (z12_0.toInt = 0 ∨ z12_0.toInt = 1) → ∀ (H : Heap) (locs : List Loc) (ls : Array Slot), va_P D vwCl (mW o a t i1 q1 (updA (updA c1 51 (x4 : Int32).toNatClampNeg x5) 52 (x7 : Int32).toNatClampNeg x8) d1) H → va_D A (mW o a t i1 q1 (updA (updA c1 51 (x4 : Int32).toNatClampNeg x5) 52 (x7 : Int32).toNatClampNeg x8) d1) → va_S A s.heap H locs → lv_has ls 3 [(2, .int y1_2), (0, .ref o), (1, .int s1)] → W p l e (headSpec wm_X12_keepState ({ frames := 0, cells := 0, slots := 0, locals := 0 })).room s m ([.ref o, .int s1] : List Value).toArray below meth cd H locs 0 0 (MQ below (va_Qv (fun (u : MS) => True ∧ mInv u.1 u.2.2.1 ∧ (∀ k, k ∉ ([] : List Nat) → u.1 k = i k) ∧ (∀ k, k ∉ ([51, 52, 53] : List Nat) → u.2.2.1 k = c k)) (oC D A (fun u : MS => mW o a t u.1 u.2.1 u.2.2.1 u.2.2.2) (fun _ => [])) A) ([.ref o, .int s1] : List Value).toArray s 0 0 A) (F0 m 70 ls [.int z12_0, .int x10, .ref (a 53)]) := by
          intro z12_0 hs12_0 H locs ls hP hD hS hl
          refine lv_aload_n hx hb dX12_keepState_70 rfl (lv_at hl 1 rfl) ?_
          refine mget_26 hx hb hts (fun _ h => List.mem_cons_of_mem _ (List.mem_append_right _ h)) hown hK hP (hts (.fieldLink RX12 59 "TalePlayModel" "nLocked" "[Z") (by decide +kernel)) dX12_keepState_71 ?_
          refine lv_iload_n hx hb dX12_keepState_74 rfl (lv_at hl 0 rfl) ?_
          refine mld_26 hx hb hK hP (vp_in_iff.mpr (by have h9 : y1_2.toInt = y1_2.toInt := rfl; omega)) dX12_keepState_75 (fun x13 ex13 => ?_)
          have rx13 : 0 ≤ x13.toInt ∧ x13.toInt ≤ 1 := by rw [ex13]; exact hI.2 26 _
          have jn14 : ∀ (z14_0 : Int32), (z14_0.toInt = 0 ∨ z14_0.toInt = 2) → ∀ (H : Heap) (locs : List Loc) (ls : Array Slot), va_P D vwCl (mW o a t i1 q1 (updA (updA c1 51 (x4 : Int32).toNatClampNeg x5) 52 (x7 : Int32).toNatClampNeg x8) d1) H → va_D A (mW o a t i1 q1 (updA (updA c1 51 (x4 : Int32).toNatClampNeg x5) 52 (x7 : Int32).toNatClampNeg x8) d1) → va_S A s.heap H locs → lv_has ls 3 [(2, .int y1_2), (0, .ref o), (1, .int s1)] → W p l e (headSpec wm_X12_keepState ({ frames := 0, cells := 0, slots := 0, locals := 0 })).room s m ([.ref o, .int s1] : List Value).toArray below meth cd H locs 0 0 (MQ below (va_Qv (fun (u : MS) => True ∧ mInv u.1 u.2.2.1 ∧ (∀ k, k ∉ ([] : List Nat) → u.1 k = i k) ∧ (∀ k, k ∉ ([51, 52, 53] : List Nat) → u.2.2.1 k = c k)) (oC D A (fun u : MS => mW o a t u.1 u.2.1 u.2.2.1 u.2.2.2) (fun _ => [])) A) ([.ref o, .int s1] : List Value).toArray s 0 0 A) (F0 m 84 ls [.int z14_0, .int z12_0, .int x10, .ref (a 53)]) := by
            intro z14_0 hs14_0 H locs ls hP hD hS hl
            refine lv_iadd hx hb dX12_keepState_84 ?_
            refine lv_topi (fun x15 ex15 => ?_)
            have tx15 := ti_add (a := z12_0.toInt) (b := z14_0.toInt) ex15 rfl rfl (by omega) (by omega)
            refine lv_i2b (v := x15) hx hb dX12_keepState_85 (nb_i (show -128 ≤ (x15 : Int32).toInt ∧ (x15 : Int32).toInt ≤ 127 from by have h9 : x15.toInt = (z12_0.toInt + z14_0.toInt) := tx15; omega)) ?_
            refine mst_53 hx hb hK hP hD hS (vp_in_iff.mpr (by have h9 : x10.toInt = ((30 * s1.toInt) + y1_2.toInt) := tx10; omega)) (nb_b (show -128 ≤ (x15 : Int32).toInt ∧ (x15 : Int32).toInt ≤ 127 from by have h9 : x15.toInt = (z12_0.toInt + z14_0.toInt) := tx15; omega)) dX12_keepState_86 (fun H locs hP hD hS => ?_)
            have hI := mInv_c hI (k := 53) (j := (x10 : Int32).toNatClampNeg) (x := x15) (show 0 ≤ (x15 : Int32).toInt ∧ (x15 : Int32).toInt ≤ 3 from by have h9 : x15.toInt = (z12_0.toInt + z14_0.toInt) := tx15; omega)
            have hfc := fr_c hfc (k := 53) (j := (x10 : Int32).toNatClampNeg) (x := x15) (by decide)
            obtain ⟨x16, ex16⟩ : ∃ y : Int32, y = y1_2 + 1 := ⟨_, rfl⟩
            have tx16 := ti_add (a := y1_2.toInt) (b := 1) ex16 rfl (by decide) (by omega) (by omega)
            refine lv_iinc (v := x16) (lv' := [(2, .int x16), (0, .ref o), (1, .int s1)]) hx hb dX12_keepState_87 hl (k := 0) rfl (by rw [ex16]; rfl) (by decide) rfl (fun ls hl => ?_)
            refine lv_goto (tgt := 2) hx hb dX12_keepState_90 (by decide) ?_
            exact ih1 i1 q1 (updA (updA (updA c1 51 (x4 : Int32).toNatClampNeg x5) 52 (x7 : Int32).toNatClampNeg x8) 53 (x10 : Int32).toNatClampNeg x15) d1 x16 hI hfi hfc (show 0 ≤ x16.toInt ∧ x16.toInt ≤ 30 from by have h50 : x16.toInt = (y1_2.toInt + 1) := tx16; omega) (by have h50 : x16.toInt = (y1_2.toInt + 1) := tx16; omega) _ _ _ hP hD hS (lv_sub hl [0, 1, 2] rfl)
          refine lv_if_eq (tgt := 83) hx hb dX12_keepState_76 (by decide) (fun c17 => ?_) (fun c17 => ?_)
          · have f17 := (ti_eq (a := x13.toInt) (b := 0) rfl (by decide)).mp c17
            refine lv_iconst (v := 0) hx hb dX12_keepState_83 (by decide) ?_
            exact jn14  (0 : Int32) (show (0 : Int32).toInt = 0 ∨ (0 : Int32).toInt = 2 from by have h53 : (0 : Int32).toInt = 0 := (by decide); omega) _ _ _ hP hD hS (lv_sub hl [0, 1, 2] rfl)
          · have f17 := mt (ti_eq (a := x13.toInt) (b := 0) rfl (by decide)).mpr c17
            refine lv_iconst (v := 2) hx hb dX12_keepState_79 (by decide) ?_
            refine lv_goto (tgt := 84) hx hb dX12_keepState_80 (by decide) ?_
            exact jn14  (2 : Int32) (show (2 : Int32).toInt = 0 ∨ (2 : Int32).toInt = 2 from by have h53 : (2 : Int32).toInt = 2 := (by decide); omega) _ _ _ hP hD hS (lv_sub hl [0, 1, 2] rfl)
        refine lv_if_eq (tgt := 69) hx hb dX12_keepState_62 (by decide) (fun c18 => ?_) (fun c18 => ?_)
        · have f18 := (ti_eq (a := x11.toInt) (b := 0) rfl (by decide)).mp c18
          refine lv_iconst (v := 0) hx hb dX12_keepState_69 (by decide) ?_
          exact jn12  (0 : Int32) (show (0 : Int32).toInt = 0 ∨ (0 : Int32).toInt = 1 from by have h53 : (0 : Int32).toInt = 0 := (by decide); omega) _ _ _ hP hD hS (lv_sub hl [0, 1, 2] rfl)
        · have f18 := mt (ti_eq (a := x11.toInt) (b := 0) rfl (by decide)).mpr c18
          refine lv_iconst (v := 1) hx hb dX12_keepState_65 (by decide) ?_
          refine lv_goto (tgt := 70) hx hb dX12_keepState_66 (by decide) ?_
          exact jn12  (1 : Int32) (show (1 : Int32).toInt = 0 ∨ (1 : Int32).toInt = 1 from by have h53 : (1 : Int32).toInt = 1 := (by decide); omega) _ _ _ hP hD hS (lv_sub hl [0, 1, 2] rfl)
  exact lp1 _ i q c d (0 : Int32) hI hfi hfc (show 0 ≤ (0 : Int32).toInt ∧ (0 : Int32).toInt ≤ 30 from by have h50 : (0 : Int32).toInt = 0 := (by decide); omega) (Nat.lt_succ_self _) _ _ _ hP hD hS (lv_sub hl [0, 1, 2] rfl)

def wm_X12_giveState : List Cond := .code yX12_giveState cX12_giveState 3 none :: (([.fieldLink RX12 177 "TalePlayModel" "objects" "I", .fieldLink RX12 50 "TalePlayModel" "nForm" "[I", .fieldLink RX12 107 "TalePlayModel" "stateForm" "[B", .fieldLink RX12 53 "TalePlayModel" "nAt" "[I", .fieldLink RX12 111 "TalePlayModel" "stateAt" "[B", .fieldLink RX12 56 "TalePlayModel" "nOpen" "[Z", .fieldLink RX12 114 "TalePlayModel" "stateShut" "[B", .fieldLink RX12 59 "TalePlayModel" "nLocked" "[Z"] : List Cond) ++ wsX120)
set_option maxHeartbeats 4000000 in
set_option maxRecDepth 100000 in
theorem s_X12_giveState (l : Launch) (D : va_G) (sz : Nat) (o : Nat) (a : Nat → Nat) (t : Nat → ClassId) (i : Nat → Int32) (q : Int64) (c : Nat → Nat → Int32) (d : Nat → Nat → Int64) (s1 : Int32) (hI : mInv i c) (hs1 : 0 ≤ s1.toInt ∧ s1.toInt ≤ 300) : Met l yX12_giveState wm_X12_giveState ({ frames := 0, cells := 0, slots := 0, locals := 0 }) (va_Pc [.ref o, .int s1] (pB D sz (mW o a t i q c d) (mT t))) (va_Qv (fun (u : MS) => True ∧ mInv u.1 u.2.2.1 ∧ (∀ k, k ∉ ([] : List Nat) → u.1 k = i k) ∧ (∀ k, k ∉ ([23, 24, 25, 26] : List Nat) → u.2.2.1 k = c k)) (oC D (va_A (mW o a t i q c d) sz) (fun u : MS => mW o a t u.1 u.2.1 u.2.2.1 u.2.2.2) (fun _ => [])) (va_A (mW o a t i q c d) sz)) 0 0 (va_A (mW o a t i q c d) sz) := by
  refine Met.ofW (cc := cX12_giveState) (maxL := 3) (ret := none) (by decide) rfl ?_
  intro p e s m args below meth cd s₁ B hml hv
  obtain ⟨rfl, hsz, hP, hK, hD0⟩ := hv
  have hx := B.exec
  have hb := B.bytes
  have hr := B.returns
  have hts := atoms_spec (ws := wm_X12_giveState) B.pre
  have hown : s.vm.findClass RX12 = some m.cls := findClass_of_methodNamed B.named
  have hlocks := B.notSynchronized
  subst hsz
  have hD := hD0.self (sz := s.heap.size)
  generalize hAe : va_A (mW o a t i q c d) s.heap.size = A at hD ⊢
  have hA : ∀ q : Nat, s.heap.size ≤ q → A q := fun q h => by rw [← hAe]; exact Or.inr h
  have hS : va_S A s.heap s.heap [] := va_S.rf
  have hfi : ∀ k, k ∉ ([] : List Nat) → i k = i k := fun _ _ => rfl
  have hfc : ∀ k, k ∉ ([23, 24, 25, 26] : List Nat) → c k = c k := fun _ _ => rfl
  have hl := lv_entry ([.ref o, .int s1]) (n := 3) (Nat.le_of_ble_eq_true rfl)
  rw [lg_entry_eq]
  generalize (lg_sl ([.ref o, .int s1]) ++ List.replicate (3 - (lg_sl ([.ref o, .int s1])).length) Slot.unset).toArray = ls at hl ⊢
  have hl : lv_has ls 3 [(0, .ref o), (1, .int s1)] := hl
  refine lv_iconst (v := 0) hx hb dX12_giveState_0 (by decide) ?_
  refine lv_istore_n (lv' := [(2, .int 0), (0, .ref o), (1, .int s1)]) hx hb dX12_giveState_1 rfl hl (by decide) rfl (fun ls hl => ?_)
  have lp1 : ∀ (fu : Nat) (i1 : Nat → Int32) (q1 : Int64) (c1 : Nat → Nat → Int32) (d1 : Nat → Nat → Int64) (y1_2 : Int32), mInv i1 c1 → (∀ k, k ∉ ([] : List Nat) → i1 k = i k) → (∀ k, k ∉ ([23, 24, 25, 26] : List Nat) → c1 k = c k) → (0 ≤ y1_2.toInt ∧ y1_2.toInt ≤ 30) → (30 - y1_2.toInt).toNat < fu → ∀ (H : Heap) (locs : List Loc) (ls : Array Slot), va_P D vwCl (mW o a t i1 q1 c1 d1) H → va_D A (mW o a t i1 q1 c1 d1) → va_S A s.heap H locs → lv_has ls 3 [(2, .int y1_2), (0, .ref o), (1, .int s1)] → W p l e (headSpec wm_X12_giveState ({ frames := 0, cells := 0, slots := 0, locals := 0 })).room s m ([.ref o, .int s1] : List Value).toArray below meth cd H locs 0 0 (MQ below (va_Qv (fun (u : MS) => True ∧ mInv u.1 u.2.2.1 ∧ (∀ k, k ∉ ([] : List Nat) → u.1 k = i k) ∧ (∀ k, k ∉ ([23, 24, 25, 26] : List Nat) → u.2.2.1 k = c k)) (oC D A (fun u : MS => mW o a t u.1 u.2.1 u.2.2.1 u.2.2.2) (fun _ => [])) A) ([.ref o, .int s1] : List Value).toArray s 0 0 A) (F0 m 2 ls []) := by
    intro fu
    induction fu with
    | zero => intro i1 q1 c1 d1 y1_2 hI hfi hfc hy1_2 hm; exact absurd hm (Nat.not_lt_zero _)
    | succ fu ih =>
      intro i1 q1 c1 d1 y1_2 hI hfi hfc hy1_2 hm H locs ls hP hD hS hl
      have ih1 := ih
      refine lv_iload_n hx hb dX12_giveState_2 rfl (lv_at hl 0 rfl) ?_
      refine lv_aload_n hx hb dX12_giveState_3 rfl (lv_at hl 1 rfl) ?_
      refine mget_5 (v := (i1 5)) rfl hx hb hts (fun _ h => List.mem_cons_of_mem _ (List.mem_append_right _ h)) hown hK hP (hts (.fieldLink RX12 177 "TalePlayModel" "objects" "I") (by decide +kernel)) dX12_giveState_4 ?_
      have rb5_i1 : 0 ≤ (i1 5).toInt ∧ (i1 5).toInt ≤ 30 := hI.1 5
      have re5_i1 : (i1 5).toInt = (i 5).toInt := congrArg Int32.toInt (hfi 5 (by decide))
      refine lv_icmp_ge (tgt := 106) hx hb dX12_giveState_7 (by decide) (fun c2 => ?_) (fun c2 => ?_)
      · have f2 := (ti_le (a := (i1 5).toInt) (b := y1_2.toInt) rfl rfl).mp c2
        exact rw_vret (i1, q1, c1, d1) hx hb hr hlocks hS (hK.sub (tys' := []) [] rfl) hP hD dX12_giveState_106 ⟨trivial, hI, hfi, hfc⟩
      · have f2 := mt (ti_le (a := (i1 5).toInt) (b := y1_2.toInt) rfl rfl).mpr c2
        refine lv_aload_n hx hb dX12_giveState_10 rfl (lv_at hl 1 rfl) ?_
        refine mget_23 hx hb hts (fun _ h => List.mem_cons_of_mem _ (List.mem_append_right _ h)) hown hK hP (hts (.fieldLink RX12 50 "TalePlayModel" "nForm" "[I") (by decide +kernel)) dX12_giveState_11 ?_
        refine lv_iload_n hx hb dX12_giveState_14 rfl (lv_at hl 0 rfl) ?_
        refine lv_aload_n hx hb dX12_giveState_15 rfl (lv_at hl 1 rfl) ?_
        refine mget_51 hx hb hts (fun _ h => List.mem_cons_of_mem _ (List.mem_append_right _ h)) hown hK hP (hts (.fieldLink RX12 107 "TalePlayModel" "stateForm" "[B") (by decide +kernel)) dX12_giveState_16 ?_
        refine lv_bipush (v := 30) hx hb dX12_giveState_19 (by decide) ?_
        refine lv_iload_n hx hb dX12_giveState_21 rfl (lv_at hl 2 rfl) ?_
        refine lv_imul hx hb dX12_giveState_22 ?_
        refine lv_topi (fun x3 ex3 => ?_)
        have tx3 := ti_mul (a := 30) (b := s1.toInt) ex3 (by decide) rfl (by omega) (by omega)
        refine lv_iload_n hx hb dX12_giveState_23 rfl (lv_at hl 0 rfl) ?_
        refine lv_iadd hx hb dX12_giveState_24 ?_
        refine lv_topi (fun x4 ex4 => ?_)
        have tx4 := ti_add (a := (30 * s1.toInt)) (b := y1_2.toInt) ex4 tx3 rfl (by omega) (by omega)
        refine mld_51 hx hb hK hP (vp_in_iff.mpr (by have h9 : x4.toInt = ((30 * s1.toInt) + y1_2.toInt) := tx4; omega)) dX12_giveState_25 (fun x5 ex5 => ?_)
        have rx5 : x5.toInt = -9 ∨ (0 ≤ x5.toInt ∧ x5.toInt ≤ 4) := by rw [ex5]; exact hI.2 51 _
        refine mst_23 hx hb hK hP hD hS (vp_in_iff.mpr (by have h9 : y1_2.toInt = y1_2.toInt := rfl; omega)) dX12_giveState_26 (fun H locs hP hD hS => ?_)
        have hI := mInv_c hI (k := 23) (j := (y1_2 : Int32).toNatClampNeg) (x := x5) (show (x5 : Int32).toInt = -9 ∨ (0 ≤ (x5 : Int32).toInt ∧ (x5 : Int32).toInt ≤ 4) from by omega)
        have hfc := fr_c hfc (k := 23) (j := (y1_2 : Int32).toNatClampNeg) (x := x5) (by decide)
        refine lv_aload_n hx hb dX12_giveState_27 rfl (lv_at hl 1 rfl) ?_
        refine mget_24 hx hb hts (fun _ h => List.mem_cons_of_mem _ (List.mem_append_right _ h)) hown hK hP (hts (.fieldLink RX12 53 "TalePlayModel" "nAt" "[I") (by decide +kernel)) dX12_giveState_28 ?_
        refine lv_iload_n hx hb dX12_giveState_31 rfl (lv_at hl 0 rfl) ?_
        refine lv_aload_n hx hb dX12_giveState_32 rfl (lv_at hl 1 rfl) ?_
        refine mget_52 hx hb hts (fun _ h => List.mem_cons_of_mem _ (List.mem_append_right _ h)) hown hK hP (hts (.fieldLink RX12 111 "TalePlayModel" "stateAt" "[B") (by decide +kernel)) dX12_giveState_33 ?_
        refine lv_bipush (v := 30) hx hb dX12_giveState_36 (by decide) ?_
        refine lv_iload_n hx hb dX12_giveState_38 rfl (lv_at hl 2 rfl) ?_
        refine lv_imul hx hb dX12_giveState_39 ?_
        refine lv_topi (fun x6 ex6 => ?_)
        have tx6 := ti_mul (a := 30) (b := s1.toInt) ex6 (by decide) rfl (by omega) (by omega)
        refine lv_iload_n hx hb dX12_giveState_40 rfl (lv_at hl 0 rfl) ?_
        refine lv_iadd hx hb dX12_giveState_41 ?_
        refine lv_topi (fun x7 ex7 => ?_)
        have tx7 := ti_add (a := (30 * s1.toInt)) (b := y1_2.toInt) ex7 tx6 rfl (by omega) (by omega)
        refine mld_52 hx hb hK hP (vp_in_iff.mpr (by have h9 : x7.toInt = ((30 * s1.toInt) + y1_2.toInt) := tx7; omega)) dX12_giveState_42 (fun x8 ex8 => ?_)
        have rx8 : x8.toInt = -9 ∨ (0 ≤ x8.toInt ∧ x8.toInt ≤ 29) := by rw [ex8]; exact hI.2 52 _
        refine mst_24 hx hb hK hP hD hS (vp_in_iff.mpr (by have h9 : y1_2.toInt = y1_2.toInt := rfl; omega)) dX12_giveState_43 (fun H locs hP hD hS => ?_)
        have hI := mInv_c hI (k := 24) (j := (y1_2 : Int32).toNatClampNeg) (x := x8) (show (x8 : Int32).toInt = -9 ∨ (0 ≤ (x8 : Int32).toInt ∧ (x8 : Int32).toInt ≤ 29) from by omega)
        have hfc := fr_c hfc (k := 24) (j := (y1_2 : Int32).toNatClampNeg) (x := x8) (by decide)
        refine lv_aload_n hx hb dX12_giveState_44 rfl (lv_at hl 1 rfl) ?_
        refine mget_25 hx hb hts (fun _ h => List.mem_cons_of_mem _ (List.mem_append_right _ h)) hown hK hP (hts (.fieldLink RX12 56 "TalePlayModel" "nOpen" "[Z") (by decide +kernel)) dX12_giveState_45 ?_
        refine lv_iload_n hx hb dX12_giveState_48 rfl (lv_at hl 0 rfl) ?_
        refine lv_aload_n hx hb dX12_giveState_49 rfl (lv_at hl 1 rfl) ?_
        refine mget_53 hx hb hts (fun _ h => List.mem_cons_of_mem _ (List.mem_append_right _ h)) hown hK hP (hts (.fieldLink RX12 114 "TalePlayModel" "stateShut" "[B") (by decide +kernel)) dX12_giveState_50 ?_
        refine lv_bipush (v := 30) hx hb dX12_giveState_53 (by decide) ?_
        refine lv_iload_n hx hb dX12_giveState_55 rfl (lv_at hl 2 rfl) ?_
        refine lv_imul hx hb dX12_giveState_56 ?_
        refine lv_topi (fun x9 ex9 => ?_)
        have tx9 := ti_mul (a := 30) (b := s1.toInt) ex9 (by decide) rfl (by omega) (by omega)
        refine lv_iload_n hx hb dX12_giveState_57 rfl (lv_at hl 0 rfl) ?_
        refine lv_iadd hx hb dX12_giveState_58 ?_
        refine lv_topi (fun x10 ex10 => ?_)
        have tx10 := ti_add (a := (30 * s1.toInt)) (b := y1_2.toInt) ex10 tx9 rfl (by omega) (by omega)
        refine mld_53 hx hb hK hP (vp_in_iff.mpr (by have h9 : x10.toInt = ((30 * s1.toInt) + y1_2.toInt) := tx10; omega)) dX12_giveState_59 (fun x11 ex11 => ?_)
        have rx11 : 0 ≤ x11.toInt ∧ x11.toInt ≤ 3 := by rw [ex11]; exact hI.2 53 _
        refine lv_iconst (v := 1) hx hb dX12_giveState_60 (by decide) ?_
        refine lv_iand hx hb dX12_giveState_61 ?_
        refine lv_topi (fun x12 ex12 => ?_)
        refine lv_iconst (v := 1) hx hb dX12_giveState_62 (by decide) ?_
        have jn13 : ∀ (z13_0 : Int32), (z13_0.toInt = 0 ∨ z13_0.toInt = 1) → ∀ (H : Heap) (locs : List Loc) (ls : Array Slot), va_P D vwCl (mW o a t i1 q1 (updA (updA c1 23 (y1_2 : Int32).toNatClampNeg x5) 24 (y1_2 : Int32).toNatClampNeg x8) d1) H → va_D A (mW o a t i1 q1 (updA (updA c1 23 (y1_2 : Int32).toNatClampNeg x5) 24 (y1_2 : Int32).toNatClampNeg x8) d1) → va_S A s.heap H locs → lv_has ls 3 [(2, .int y1_2), (0, .ref o), (1, .int s1)] → W p l e (headSpec wm_X12_giveState ({ frames := 0, cells := 0, slots := 0, locals := 0 })).room s m ([.ref o, .int s1] : List Value).toArray below meth cd H locs 0 0 (MQ below (va_Qv (fun (u : MS) => True ∧ mInv u.1 u.2.2.1 ∧ (∀ k, k ∉ ([] : List Nat) → u.1 k = i k) ∧ (∀ k, k ∉ ([23, 24, 25, 26] : List Nat) → u.2.2.1 k = c k)) (oC D A (fun u : MS => mW o a t u.1 u.2.1 u.2.2.1 u.2.2.2) (fun _ => [])) A) ([.ref o, .int s1] : List Value).toArray s 0 0 A) (F0 m 71 ls [.int z13_0, .int y1_2, .ref (a 25)]) := by
          intro z13_0 hs13_0 H locs ls hP hD hS hl
          refine mst_25 hx hb hK hP hD hS (vp_in_iff.mpr (by have h9 : y1_2.toInt = y1_2.toInt := rfl; omega)) (nb_z (show 0 ≤ (z13_0 : Int32).toInt ∧ (z13_0 : Int32).toInt ≤ 1 from by omega)) dX12_giveState_71 (fun H locs hP hD hS => ?_)
          have hI := mInv_c hI (k := 25) (j := (y1_2 : Int32).toNatClampNeg) (x := z13_0) (show 0 ≤ (z13_0 : Int32).toInt ∧ (z13_0 : Int32).toInt ≤ 1 from by omega)
          have hfc := fr_c hfc (k := 25) (j := (y1_2 : Int32).toNatClampNeg) (x := z13_0) (by decide)
          refine lv_aload_n hx hb dX12_giveState_72 rfl (lv_at hl 1 rfl) ?_
          refine mget_26 hx hb hts (fun _ h => List.mem_cons_of_mem _ (List.mem_append_right _ h)) hown hK hP (hts (.fieldLink RX12 59 "TalePlayModel" "nLocked" "[Z") (by decide +kernel)) dX12_giveState_73 ?_
          refine lv_iload_n hx hb dX12_giveState_76 rfl (lv_at hl 0 rfl) ?_
          refine lv_aload_n hx hb dX12_giveState_77 rfl (lv_at hl 1 rfl) ?_
          refine mget_53 hx hb hts (fun _ h => List.mem_cons_of_mem _ (List.mem_append_right _ h)) hown hK hP (hts (.fieldLink RX12 114 "TalePlayModel" "stateShut" "[B") (by decide +kernel)) dX12_giveState_78 ?_
          refine lv_bipush (v := 30) hx hb dX12_giveState_81 (by decide) ?_
          refine lv_iload_n hx hb dX12_giveState_83 rfl (lv_at hl 2 rfl) ?_
          refine lv_imul hx hb dX12_giveState_84 ?_
          refine lv_topi (fun x14 ex14 => ?_)
          have tx14 := ti_mul (a := 30) (b := s1.toInt) ex14 (by decide) rfl (by omega) (by omega)
          refine lv_iload_n hx hb dX12_giveState_85 rfl (lv_at hl 0 rfl) ?_
          refine lv_iadd hx hb dX12_giveState_86 ?_
          refine lv_topi (fun x15 ex15 => ?_)
          have tx15 := ti_add (a := (30 * s1.toInt)) (b := y1_2.toInt) ex15 tx14 rfl (by omega) (by omega)
          refine mld_53 hx hb hK hP (vp_in_iff.mpr (by have h9 : x15.toInt = ((30 * s1.toInt) + y1_2.toInt) := tx15; omega)) dX12_giveState_87 (fun x16 ex16 => ?_)
          have rx16 : 0 ≤ x16.toInt ∧ x16.toInt ≤ 3 := by rw [ex16]; exact hI.2 53 _
          refine lv_iconst (v := 2) hx hb dX12_giveState_88 (by decide) ?_
          refine lv_iand hx hb dX12_giveState_89 ?_
          refine lv_topi (fun x17 ex17 => ?_)
          refine lv_iconst (v := 2) hx hb dX12_giveState_90 (by decide) ?_
          have jn18 : ∀ (z18_0 : Int32), (z18_0.toInt = 0 ∨ z18_0.toInt = 1) → ∀ (H : Heap) (locs : List Loc) (ls : Array Slot), va_P D vwCl (mW o a t i1 q1 (updA (updA (updA c1 23 (y1_2 : Int32).toNatClampNeg x5) 24 (y1_2 : Int32).toNatClampNeg x8) 25 (y1_2 : Int32).toNatClampNeg z13_0) d1) H → va_D A (mW o a t i1 q1 (updA (updA (updA c1 23 (y1_2 : Int32).toNatClampNeg x5) 24 (y1_2 : Int32).toNatClampNeg x8) 25 (y1_2 : Int32).toNatClampNeg z13_0) d1) → va_S A s.heap H locs → lv_has ls 3 [(2, .int y1_2), (0, .ref o), (1, .int s1)] → W p l e (headSpec wm_X12_giveState ({ frames := 0, cells := 0, slots := 0, locals := 0 })).room s m ([.ref o, .int s1] : List Value).toArray below meth cd H locs 0 0 (MQ below (va_Qv (fun (u : MS) => True ∧ mInv u.1 u.2.2.1 ∧ (∀ k, k ∉ ([] : List Nat) → u.1 k = i k) ∧ (∀ k, k ∉ ([23, 24, 25, 26] : List Nat) → u.2.2.1 k = c k)) (oC D A (fun u : MS => mW o a t u.1 u.2.1 u.2.2.1 u.2.2.2) (fun _ => [])) A) ([.ref o, .int s1] : List Value).toArray s 0 0 A) (F0 m 99 ls [.int z18_0, .int y1_2, .ref (a 26)]) := by
            intro z18_0 hs18_0 H locs ls hP hD hS hl
            refine mst_26 hx hb hK hP hD hS (vp_in_iff.mpr (by have h9 : y1_2.toInt = y1_2.toInt := rfl; omega)) (nb_z (show 0 ≤ (z18_0 : Int32).toInt ∧ (z18_0 : Int32).toInt ≤ 1 from by omega)) dX12_giveState_99 (fun H locs hP hD hS => ?_)
            have hI := mInv_c hI (k := 26) (j := (y1_2 : Int32).toNatClampNeg) (x := z18_0) (show 0 ≤ (z18_0 : Int32).toInt ∧ (z18_0 : Int32).toInt ≤ 1 from by omega)
            have hfc := fr_c hfc (k := 26) (j := (y1_2 : Int32).toNatClampNeg) (x := z18_0) (by decide)
            obtain ⟨x19, ex19⟩ : ∃ y : Int32, y = y1_2 + 1 := ⟨_, rfl⟩
            have tx19 := ti_add (a := y1_2.toInt) (b := 1) ex19 rfl (by decide) (by omega) (by omega)
            refine lv_iinc (v := x19) (lv' := [(2, .int x19), (0, .ref o), (1, .int s1)]) hx hb dX12_giveState_100 hl (k := 0) rfl (by rw [ex19]; rfl) (by decide) rfl (fun ls hl => ?_)
            refine lv_goto (tgt := 2) hx hb dX12_giveState_103 (by decide) ?_
            exact ih1 i1 q1 (updA (updA (updA (updA c1 23 (y1_2 : Int32).toNatClampNeg x5) 24 (y1_2 : Int32).toNatClampNeg x8) 25 (y1_2 : Int32).toNatClampNeg z13_0) 26 (y1_2 : Int32).toNatClampNeg z18_0) d1 x19 hI hfi hfc (show 0 ≤ x19.toInt ∧ x19.toInt ≤ 30 from by have h50 : x19.toInt = (y1_2.toInt + 1) := tx19; omega) (by have h50 : x19.toInt = (y1_2.toInt + 1) := tx19; omega) _ _ _ hP hD hS (lv_sub hl [0, 1, 2] rfl)
          refine lv_icmp_ne (tgt := 98) hx hb dX12_giveState_91 (by decide) (fun c20 => ?_) (fun c20 => ?_)
          · have f20 := mt (ti_eq (a := x17.toInt) (b := 2) rfl (by decide)).mpr c20
            refine lv_iconst (v := 0) hx hb dX12_giveState_98 (by decide) ?_
            exact jn18  (0 : Int32) (show (0 : Int32).toInt = 0 ∨ (0 : Int32).toInt = 1 from by have h53 : (0 : Int32).toInt = 0 := (by decide); omega) _ _ _ hP hD hS (lv_sub hl [0, 1, 2] rfl)
          · have f20 := (ti_eq (a := x17.toInt) (b := 2) rfl (by decide)).mp c20
            refine lv_iconst (v := 1) hx hb dX12_giveState_94 (by decide) ?_
            refine lv_goto (tgt := 99) hx hb dX12_giveState_95 (by decide) ?_
            exact jn18  (1 : Int32) (show (1 : Int32).toInt = 0 ∨ (1 : Int32).toInt = 1 from by have h53 : (1 : Int32).toInt = 1 := (by decide); omega) _ _ _ hP hD hS (lv_sub hl [0, 1, 2] rfl)
        refine lv_icmp_ne (tgt := 70) hx hb dX12_giveState_63 (by decide) (fun c21 => ?_) (fun c21 => ?_)
        · have f21 := mt (ti_eq (a := x12.toInt) (b := 1) rfl (by decide)).mpr c21
          refine lv_iconst (v := 0) hx hb dX12_giveState_70 (by decide) ?_
          exact jn13  (0 : Int32) (show (0 : Int32).toInt = 0 ∨ (0 : Int32).toInt = 1 from by have h53 : (0 : Int32).toInt = 0 := (by decide); omega) _ _ _ hP hD hS (lv_sub hl [0, 1, 2] rfl)
        · have f21 := (ti_eq (a := x12.toInt) (b := 1) rfl (by decide)).mp c21
          refine lv_iconst (v := 1) hx hb dX12_giveState_66 (by decide) ?_
          refine lv_goto (tgt := 71) hx hb dX12_giveState_67 (by decide) ?_
          exact jn13  (1 : Int32) (show (1 : Int32).toInt = 0 ∨ (1 : Int32).toInt = 1 from by have h53 : (1 : Int32).toInt = 1 := (by decide); omega) _ _ _ hP hD hS (lv_sub hl [0, 1, 2] rfl)
  exact lp1 _ i q c d (0 : Int32) hI hfi hfc (show 0 ≤ (0 : Int32).toInt ∧ (0 : Int32).toInt ≤ 30 from by have h50 : (0 : Int32).toInt = 0 := (by decide); omega) (Nat.lt_succ_self _) _ _ _ hP hD hS (lv_sub hl [0, 1, 2] rfl)

def wm_X12_isState : List Cond := .code yX12_isState cX12_isState 3 (some .boolean) :: (([.fieldLink RX12 177 "TalePlayModel" "objects" "I", .fieldLink RX12 107 "TalePlayModel" "stateForm" "[B", .fieldLink RX12 50 "TalePlayModel" "nForm" "[I", .fieldLink RX12 111 "TalePlayModel" "stateAt" "[B", .fieldLink RX12 53 "TalePlayModel" "nAt" "[I", .fieldLink RX12 114 "TalePlayModel" "stateShut" "[B", .fieldLink RX12 56 "TalePlayModel" "nOpen" "[Z", .fieldLink RX12 59 "TalePlayModel" "nLocked" "[Z"] : List Cond) ++ wsX120)
set_option maxHeartbeats 4000000 in
set_option maxRecDepth 100000 in
theorem s_X12_isState (l : Launch) (D : va_G) (sz : Nat) (o : Nat) (a : Nat → Nat) (t : Nat → ClassId) (i : Nat → Int32) (q : Int64) (c : Nat → Nat → Int32) (d : Nat → Nat → Int64) (s1 : Int32) (hI : mInv i c) (hs1 : 0 ≤ s1.toInt ∧ s1.toInt ≤ 300) : Met l yX12_isState wm_X12_isState ({ frames := 0, cells := 0, slots := 0, locals := 0 }) (va_Pc [.ref o, .int s1] (pA D sz (mW o a t i q c d) (mT t))) (va_Qi (fun (r : Int32) (_ : Unit) => (0 ≤ r.toInt ∧ r.toInt ≤ 1)) oA (ro sz)) 0 0 (ro sz) := by
  refine Met.ofW (cc := cX12_isState) (maxL := 3) (ret := (some .boolean)) (by decide) rfl ?_
  intro p e s m args below meth cd s₁ B hml hv
  obtain ⟨rfl, hsz, hP, hK⟩ := hv
  have hx := B.exec
  have hb := B.bytes
  have hr := B.returns
  have hts := atoms_spec (ws := wm_X12_isState) B.pre
  have hown : s.vm.findClass RX12 = some m.cls := findClass_of_methodNamed B.named
  have hlocks := B.notSynchronized
  subst hsz
  have hA : ∀ q : Nat, s.heap.size ≤ q → ro s.heap.size q := fun _ h => h
  have hS : va_S (ro s.heap.size) s.heap s.heap [] := va_S.rf
  have hl := lv_entry ([.ref o, .int s1]) (n := 3) (Nat.le_of_ble_eq_true rfl)
  rw [lg_entry_eq]
  generalize (lg_sl ([.ref o, .int s1]) ++ List.replicate (3 - (lg_sl ([.ref o, .int s1])).length) Slot.unset).toArray = ls at hl ⊢
  have hl : lv_has ls 3 [(0, .ref o), (1, .int s1)] := hl
  refine lv_iconst (v := 0) hx hb dX12_isState_0 (by decide) ?_
  refine lv_istore_n (lv' := [(2, .int 0), (0, .ref o), (1, .int s1)]) hx hb dX12_isState_1 rfl hl (by decide) rfl (fun ls hl => ?_)
  have lp1 : ∀ (fu : Nat) (y1_2 : Int32), (0 ≤ y1_2.toInt ∧ y1_2.toInt ≤ 30) → (30 - y1_2.toInt).toNat < fu → ∀ (H : Heap) (locs : List Loc) (ls : Array Slot), va_P D vwCl (mW o a t i q c d) H → va_S (ro s.heap.size) s.heap H locs → lv_has ls 3 [(2, .int y1_2), (0, .ref o), (1, .int s1)] → W p l e (headSpec wm_X12_isState ({ frames := 0, cells := 0, slots := 0, locals := 0 })).room s m ([.ref o, .int s1] : List Value).toArray below meth cd H locs 0 0 (MQ below (va_Qi (fun (r : Int32) (_ : Unit) => (0 ≤ r.toInt ∧ r.toInt ≤ 1)) oA (ro s.heap.size)) ([.ref o, .int s1] : List Value).toArray s 0 0 (ro s.heap.size)) (F0 m 2 ls []) := by
    intro fu
    induction fu with
    | zero => intro y1_2 hy1_2 hm; exact absurd hm (Nat.not_lt_zero _)
    | succ fu ih =>
      intro y1_2 hy1_2 hm H locs ls hP hS hl
      have ih1 := ih
      refine lv_iload_n hx hb dX12_isState_2 rfl (lv_at hl 0 rfl) ?_
      refine lv_aload_n hx hb dX12_isState_3 rfl (lv_at hl 1 rfl) ?_
      refine mget_5 (v := (i 5)) rfl hx hb hts (fun _ h => List.mem_cons_of_mem _ (List.mem_append_right _ h)) hown hK hP (hts (.fieldLink RX12 177 "TalePlayModel" "objects" "I") (by decide +kernel)) dX12_isState_4 ?_
      have rb5_i : 0 ≤ (i 5).toInt ∧ (i 5).toInt ≤ 30 := hI.1 5
      refine lv_icmp_ge (tgt := 101) hx hb dX12_isState_7 (by decide) (fun c2 => ?_) (fun c2 => ?_)
      · have f2 := (ti_le (a := (i 5).toInt) (b := y1_2.toInt) rfl rfl).mp c2
        refine lv_iconst (v := 1) hx hb dX12_isState_101 (by decide) ?_
        exact ro_zret hx hb hr hlocks hS rfl dX12_isState_102 (show 0 ≤ (1 : Int32).toInt ∧ (1 : Int32).toInt ≤ 1 from by have h9 : (1 : Int32).toInt = 1 := (by decide); omega)
      · have f2 := mt (ti_le (a := (i 5).toInt) (b := y1_2.toInt) rfl rfl).mpr c2
        refine lv_aload_n hx hb dX12_isState_10 rfl (lv_at hl 1 rfl) ?_
        refine mget_51 hx hb hts (fun _ h => List.mem_cons_of_mem _ (List.mem_append_right _ h)) hown hK hP (hts (.fieldLink RX12 107 "TalePlayModel" "stateForm" "[B") (by decide +kernel)) dX12_isState_11 ?_
        refine lv_bipush (v := 30) hx hb dX12_isState_14 (by decide) ?_
        refine lv_iload_n hx hb dX12_isState_16 rfl (lv_at hl 2 rfl) ?_
        refine lv_imul hx hb dX12_isState_17 ?_
        refine lv_topi (fun x3 ex3 => ?_)
        have tx3 := ti_mul (a := 30) (b := s1.toInt) ex3 (by decide) rfl (by omega) (by omega)
        refine lv_iload_n hx hb dX12_isState_18 rfl (lv_at hl 0 rfl) ?_
        refine lv_iadd hx hb dX12_isState_19 ?_
        refine lv_topi (fun x4 ex4 => ?_)
        have tx4 := ti_add (a := (30 * s1.toInt)) (b := y1_2.toInt) ex4 tx3 rfl (by omega) (by omega)
        refine mld_51 hx hb hK hP (vp_in_iff.mpr (by have h9 : x4.toInt = ((30 * s1.toInt) + y1_2.toInt) := tx4; omega)) dX12_isState_20 (fun x5 ex5 => ?_)
        have rx5 : x5.toInt = -9 ∨ (0 ≤ x5.toInt ∧ x5.toInt ≤ 4) := by rw [ex5]; exact hI.2 51 _
        refine lv_aload_n hx hb dX12_isState_21 rfl (lv_at hl 1 rfl) ?_
        refine mget_23 hx hb hts (fun _ h => List.mem_cons_of_mem _ (List.mem_append_right _ h)) hown hK hP (hts (.fieldLink RX12 50 "TalePlayModel" "nForm" "[I") (by decide +kernel)) dX12_isState_22 ?_
        refine lv_iload_n hx hb dX12_isState_25 rfl (lv_at hl 0 rfl) ?_
        refine mld_23 hx hb hK hP (vp_in_iff.mpr (by have h9 : y1_2.toInt = y1_2.toInt := rfl; omega)) dX12_isState_26 (fun x6 ex6 => ?_)
        have rx6 : x6.toInt = -9 ∨ (0 ≤ x6.toInt ∧ x6.toInt ≤ 4) := by rw [ex6]; exact hI.2 23 _
        refine lv_icmp_ne (tgt := 93) hx hb dX12_isState_27 (by decide) (fun c7 => ?_) (fun c7 => ?_)
        · have f7 := mt (ti_eq (a := x5.toInt) (b := x6.toInt) rfl rfl).mpr c7
          refine lv_iconst (v := 0) hx hb dX12_isState_93 (by decide) ?_
          exact ro_zret hx hb hr hlocks hS rfl dX12_isState_94 (show 0 ≤ (0 : Int32).toInt ∧ (0 : Int32).toInt ≤ 1 from by have h9 : (0 : Int32).toInt = 0 := (by decide); omega)
        · have f7 := (ti_eq (a := x5.toInt) (b := x6.toInt) rfl rfl).mp c7
          refine lv_aload_n hx hb dX12_isState_30 rfl (lv_at hl 1 rfl) ?_
          refine mget_52 hx hb hts (fun _ h => List.mem_cons_of_mem _ (List.mem_append_right _ h)) hown hK hP (hts (.fieldLink RX12 111 "TalePlayModel" "stateAt" "[B") (by decide +kernel)) dX12_isState_31 ?_
          refine lv_bipush (v := 30) hx hb dX12_isState_34 (by decide) ?_
          refine lv_iload_n hx hb dX12_isState_36 rfl (lv_at hl 2 rfl) ?_
          refine lv_imul hx hb dX12_isState_37 ?_
          refine lv_topi (fun x8 ex8 => ?_)
          have tx8 := ti_mul (a := 30) (b := s1.toInt) ex8 (by decide) rfl (by omega) (by omega)
          refine lv_iload_n hx hb dX12_isState_38 rfl (lv_at hl 0 rfl) ?_
          refine lv_iadd hx hb dX12_isState_39 ?_
          refine lv_topi (fun x9 ex9 => ?_)
          have tx9 := ti_add (a := (30 * s1.toInt)) (b := y1_2.toInt) ex9 tx8 rfl (by omega) (by omega)
          refine mld_52 hx hb hK hP (vp_in_iff.mpr (by have h9 : x9.toInt = ((30 * s1.toInt) + y1_2.toInt) := tx9; omega)) dX12_isState_40 (fun x10 ex10 => ?_)
          have rx10 : x10.toInt = -9 ∨ (0 ≤ x10.toInt ∧ x10.toInt ≤ 29) := by rw [ex10]; exact hI.2 52 _
          refine lv_aload_n hx hb dX12_isState_41 rfl (lv_at hl 1 rfl) ?_
          refine mget_24 hx hb hts (fun _ h => List.mem_cons_of_mem _ (List.mem_append_right _ h)) hown hK hP (hts (.fieldLink RX12 53 "TalePlayModel" "nAt" "[I") (by decide +kernel)) dX12_isState_42 ?_
          refine lv_iload_n hx hb dX12_isState_45 rfl (lv_at hl 0 rfl) ?_
          refine mld_24 hx hb hK hP (vp_in_iff.mpr (by have h9 : y1_2.toInt = y1_2.toInt := rfl; omega)) dX12_isState_46 (fun x11 ex11 => ?_)
          have rx11 : x11.toInt = -9 ∨ (0 ≤ x11.toInt ∧ x11.toInt ≤ 29) := by rw [ex11]; exact hI.2 24 _
          refine lv_icmp_ne (tgt := 93) hx hb dX12_isState_47 (by decide) (fun c12 => ?_) (fun c12 => ?_)
          · have f12 := mt (ti_eq (a := x10.toInt) (b := x11.toInt) rfl rfl).mpr c12
            refine lv_iconst (v := 0) hx hb dX12_isState_93 (by decide) ?_
            exact ro_zret hx hb hr hlocks hS rfl dX12_isState_94 (show 0 ≤ (0 : Int32).toInt ∧ (0 : Int32).toInt ≤ 1 from by have h9 : (0 : Int32).toInt = 0 := (by decide); omega)
          · have f12 := (ti_eq (a := x10.toInt) (b := x11.toInt) rfl rfl).mp c12
            refine lv_aload_n hx hb dX12_isState_50 rfl (lv_at hl 1 rfl) ?_
            refine mget_53 hx hb hts (fun _ h => List.mem_cons_of_mem _ (List.mem_append_right _ h)) hown hK hP (hts (.fieldLink RX12 114 "TalePlayModel" "stateShut" "[B") (by decide +kernel)) dX12_isState_51 ?_
            refine lv_bipush (v := 30) hx hb dX12_isState_54 (by decide) ?_
            refine lv_iload_n hx hb dX12_isState_56 rfl (lv_at hl 2 rfl) ?_
            refine lv_imul hx hb dX12_isState_57 ?_
            refine lv_topi (fun x13 ex13 => ?_)
            have tx13 := ti_mul (a := 30) (b := s1.toInt) ex13 (by decide) rfl (by omega) (by omega)
            refine lv_iload_n hx hb dX12_isState_58 rfl (lv_at hl 0 rfl) ?_
            refine lv_iadd hx hb dX12_isState_59 ?_
            refine lv_topi (fun x14 ex14 => ?_)
            have tx14 := ti_add (a := (30 * s1.toInt)) (b := y1_2.toInt) ex14 tx13 rfl (by omega) (by omega)
            refine mld_53 hx hb hK hP (vp_in_iff.mpr (by have h9 : x14.toInt = ((30 * s1.toInt) + y1_2.toInt) := tx14; omega)) dX12_isState_60 (fun x15 ex15 => ?_)
            have rx15 : 0 ≤ x15.toInt ∧ x15.toInt ≤ 3 := by rw [ex15]; exact hI.2 53 _
            refine lv_aload_n hx hb dX12_isState_61 rfl (lv_at hl 1 rfl) ?_
            refine mget_25 hx hb hts (fun _ h => List.mem_cons_of_mem _ (List.mem_append_right _ h)) hown hK hP (hts (.fieldLink RX12 56 "TalePlayModel" "nOpen" "[Z") (by decide +kernel)) dX12_isState_62 ?_
            refine lv_iload_n hx hb dX12_isState_65 rfl (lv_at hl 0 rfl) ?_
            refine mld_25 hx hb hK hP (vp_in_iff.mpr (by have h9 : y1_2.toInt = y1_2.toInt := rfl; omega)) dX12_isState_66 (fun x16 ex16 => ?_)
            have rx16 : 0 ≤ x16.toInt ∧ x16.toInt ≤ 1 := by rw [ex16]; exact hI.2 25 _
            have jn17 : ∀ (z17_0 : Int32), (z17_0.toInt = 0 ∨ z17_0.toInt = 1) → ∀ (H : Heap) (locs : List Loc) (ls : Array Slot), va_P D vwCl (mW o a t i q c d) H → va_S (ro s.heap.size) s.heap H locs → lv_has ls 3 [(2, .int y1_2), (0, .ref o), (1, .int s1)] → W p l e (headSpec wm_X12_isState ({ frames := 0, cells := 0, slots := 0, locals := 0 })).room s m ([.ref o, .int s1] : List Value).toArray below meth cd H locs 0 0 (MQ below (va_Qi (fun (r : Int32) (_ : Unit) => (0 ≤ r.toInt ∧ r.toInt ≤ 1)) oA (ro s.heap.size)) ([.ref o, .int s1] : List Value).toArray s 0 0 (ro s.heap.size)) (F0 m 75 ls [.int z17_0, .int x15]) := by
              intro z17_0 hs17_0 H locs ls hP hS hl
              refine lv_aload_n hx hb dX12_isState_75 rfl (lv_at hl 1 rfl) ?_
              refine mget_26 hx hb hts (fun _ h => List.mem_cons_of_mem _ (List.mem_append_right _ h)) hown hK hP (hts (.fieldLink RX12 59 "TalePlayModel" "nLocked" "[Z") (by decide +kernel)) dX12_isState_76 ?_
              refine lv_iload_n hx hb dX12_isState_79 rfl (lv_at hl 0 rfl) ?_
              refine mld_26 hx hb hK hP (vp_in_iff.mpr (by have h9 : y1_2.toInt = y1_2.toInt := rfl; omega)) dX12_isState_80 (fun x18 ex18 => ?_)
              have rx18 : 0 ≤ x18.toInt ∧ x18.toInt ≤ 1 := by rw [ex18]; exact hI.2 26 _
              have jn19 : ∀ (z19_0 : Int32), (z19_0.toInt = 0 ∨ z19_0.toInt = 2) → ∀ (H : Heap) (locs : List Loc) (ls : Array Slot), va_P D vwCl (mW o a t i q c d) H → va_S (ro s.heap.size) s.heap H locs → lv_has ls 3 [(2, .int y1_2), (0, .ref o), (1, .int s1)] → W p l e (headSpec wm_X12_isState ({ frames := 0, cells := 0, slots := 0, locals := 0 })).room s m ([.ref o, .int s1] : List Value).toArray below meth cd H locs 0 0 (MQ below (va_Qi (fun (r : Int32) (_ : Unit) => (0 ≤ r.toInt ∧ r.toInt ≤ 1)) oA (ro s.heap.size)) ([.ref o, .int s1] : List Value).toArray s 0 0 (ro s.heap.size)) (F0 m 89 ls [.int z19_0, .int z17_0, .int x15]) := by
                intro z19_0 hs19_0 H locs ls hP hS hl
                refine lv_iadd hx hb dX12_isState_89 ?_
                refine lv_topi (fun x20 ex20 => ?_)
                have tx20 := ti_add (a := z17_0.toInt) (b := z19_0.toInt) ex20 rfl rfl (by omega) (by omega)
                refine lv_icmp_eq (tgt := 95) hx hb dX12_isState_90 (by decide) (fun c21 => ?_) (fun c21 => ?_)
                · have f21 := (ti_eq (a := x15.toInt) (b := (z17_0.toInt + z19_0.toInt)) rfl tx20).mp c21
                  obtain ⟨x22, ex22⟩ : ∃ y : Int32, y = y1_2 + 1 := ⟨_, rfl⟩
                  have tx22 := ti_add (a := y1_2.toInt) (b := 1) ex22 rfl (by decide) (by omega) (by omega)
                  refine lv_iinc (v := x22) (lv' := [(2, .int x22), (0, .ref o), (1, .int s1)]) hx hb dX12_isState_95 hl (k := 0) rfl (by rw [ex22]; rfl) (by decide) rfl (fun ls hl => ?_)
                  refine lv_goto (tgt := 2) hx hb dX12_isState_98 (by decide) ?_
                  exact ih1 x22 (show 0 ≤ x22.toInt ∧ x22.toInt ≤ 30 from by have h50 : x22.toInt = (y1_2.toInt + 1) := tx22; omega) (by have h50 : x22.toInt = (y1_2.toInt + 1) := tx22; omega) _ _ _ hP hS (lv_sub hl [0, 1, 2] rfl)
                · have f21 := mt (ti_eq (a := x15.toInt) (b := (z17_0.toInt + z19_0.toInt)) rfl tx20).mpr c21
                  refine lv_iconst (v := 0) hx hb dX12_isState_93 (by decide) ?_
                  exact ro_zret hx hb hr hlocks hS rfl dX12_isState_94 (show 0 ≤ (0 : Int32).toInt ∧ (0 : Int32).toInt ≤ 1 from by have h9 : (0 : Int32).toInt = 0 := (by decide); omega)
              refine lv_if_eq (tgt := 88) hx hb dX12_isState_81 (by decide) (fun c23 => ?_) (fun c23 => ?_)
              · have f23 := (ti_eq (a := x18.toInt) (b := 0) rfl (by decide)).mp c23
                refine lv_iconst (v := 0) hx hb dX12_isState_88 (by decide) ?_
                exact jn19  (0 : Int32) (show (0 : Int32).toInt = 0 ∨ (0 : Int32).toInt = 2 from by have h53 : (0 : Int32).toInt = 0 := (by decide); omega) _ _ _ hP hS (lv_sub hl [0, 1, 2] rfl)
              · have f23 := mt (ti_eq (a := x18.toInt) (b := 0) rfl (by decide)).mpr c23
                refine lv_iconst (v := 2) hx hb dX12_isState_84 (by decide) ?_
                refine lv_goto (tgt := 89) hx hb dX12_isState_85 (by decide) ?_
                exact jn19  (2 : Int32) (show (2 : Int32).toInt = 0 ∨ (2 : Int32).toInt = 2 from by have h53 : (2 : Int32).toInt = 2 := (by decide); omega) _ _ _ hP hS (lv_sub hl [0, 1, 2] rfl)
            refine lv_if_eq (tgt := 74) hx hb dX12_isState_67 (by decide) (fun c24 => ?_) (fun c24 => ?_)
            · have f24 := (ti_eq (a := x16.toInt) (b := 0) rfl (by decide)).mp c24
              refine lv_iconst (v := 0) hx hb dX12_isState_74 (by decide) ?_
              exact jn17  (0 : Int32) (show (0 : Int32).toInt = 0 ∨ (0 : Int32).toInt = 1 from by have h53 : (0 : Int32).toInt = 0 := (by decide); omega) _ _ _ hP hS (lv_sub hl [0, 1, 2] rfl)
            · have f24 := mt (ti_eq (a := x16.toInt) (b := 0) rfl (by decide)).mpr c24
              refine lv_iconst (v := 1) hx hb dX12_isState_70 (by decide) ?_
              refine lv_goto (tgt := 75) hx hb dX12_isState_71 (by decide) ?_
              exact jn17  (1 : Int32) (show (1 : Int32).toInt = 0 ∨ (1 : Int32).toInt = 1 from by have h53 : (1 : Int32).toInt = 1 := (by decide); omega) _ _ _ hP hS (lv_sub hl [0, 1, 2] rfl)
  exact lp1 _ (0 : Int32) (show 0 ≤ (0 : Int32).toInt ∧ (0 : Int32).toInt ≤ 30 from by have h50 : (0 : Int32).toInt = 0 := (by decide); omega) (Nat.lt_succ_self _) _ _ _ hP hS (lv_sub hl [0, 1, 2] rfl)

def wm_X12_formNow : List Cond := .code yX12_formNow cX12_formNow 3 (some .int) :: (([.fieldLink RX12 155 "TalePlayModel" "player" "I", .methodLink RX12 208 yX12_placing, .instanceMethod yX12_placing, .selects RX12 yX12_placing yX12_placing, .initialized RX12, .code yX12_placing cX12_placing 3 (some .int), .fieldLink RX12 202 "TalePlayModel" "sentences" "I", .fieldLink RX12 37 "TalePlayModel" "isSaid" "[Z", .fieldLink RX12 25 "TalePlayModel" "form" "[I", .fieldLink RX12 28 "TalePlayModel" "left" "[I", .fieldLink RX12 50 "TalePlayModel" "nForm" "[I"] : List Cond) ++ wsX120)
set_option maxRecDepth 20000 in
theorem gm_X12_formNow_X12_placing : GoodIn wm_X12_formNow (wsV RX12 208 RX12 yX12_placing wm_X12_placing) := goodIn_app (goodIn_of _ (by decide +kernel)) (goodIn_r _ [6, 7, 8, 9, 10, 12, 13, 14, 15, 16, 17, 18, 19, 20, 21, 22, 23, 24, 25, 26, 27, 28, 29, 30, 31, 32, 33, 34, 35, 36, 37, 38, 39, 40, 41, 42, 43, 44, 45, 46, 47, 48, 49, 50, 51, 52, 53, 54, 55, 56, 57, 58, 59, 60, 61, 62, 63, 64, 65, 66, 67, 68, 69, 70, 71, 72, 73, 74, 75, 76, 77, 78, 79, 80] (by decide +kernel) (by decide +kernel))
set_option maxHeartbeats 4000000 in
set_option maxRecDepth 100000 in
theorem s_X12_formNow (l : Launch) (D : va_G) (sz : Nat) (o : Nat) (a : Nat → Nat) (t : Nat → ClassId) (i : Nat → Int32) (q : Int64) (c : Nat → Nat → Int32) (d : Nat → Nat → Int64) (w : Int32) (hI : mInv i c) (hw : 0 ≤ w.toInt ∧ w.toInt ≤ 29) : Met l yX12_formNow wm_X12_formNow ({ frames := 1, cells := 0, slots := 0, locals := 22 }) (va_Pc [.ref o, .int w] (pA D sz (mW o a t i q c d) (mT t))) (va_Qi (fun (r : Int32) (_ : Unit) => (r.toInt = -9 ∨ (0 ≤ r.toInt ∧ r.toInt ≤ 7))) oA (ro sz)) 0 0 (ro sz) := by
  refine Met.ofW (cc := cX12_formNow) (maxL := 3) (ret := (some .int)) (by decide) rfl ?_
  intro p e s m args below meth cd s₁ B hml hv
  obtain ⟨rfl, hsz, hP, hK⟩ := hv
  have hx := B.exec
  have hb := B.bytes
  have hr := B.returns
  have hts := atoms_spec (ws := wm_X12_formNow) B.pre
  have hown : s.vm.findClass RX12 = some m.cls := findClass_of_methodNamed B.named
  have hlocks := B.notSynchronized
  subst hsz
  have hA : ∀ q : Nat, s.heap.size ≤ q → ro s.heap.size q := fun _ h => h
  have hS : va_S (ro s.heap.size) s.heap s.heap [] := va_S.rf
  have hl := lv_entry ([.ref o, .int w]) (n := 3) (Nat.le_of_ble_eq_true rfl)
  rw [lg_entry_eq]
  generalize (lg_sl ([.ref o, .int w]) ++ List.replicate (3 - (lg_sl ([.ref o, .int w])).length) Slot.unset).toArray = ls at hl ⊢
  have hl : lv_has ls 3 [(0, .ref o), (1, .int w)] := hl
  refine lv_aload_n hx hb dX12_formNow_0 rfl (lv_at hl 0 rfl) ?_
  refine mget_22 (v := (i 22)) rfl hx hb hts (fun _ h => List.mem_cons_of_mem _ (List.mem_append_right _ h)) hown hK hP (hts (.fieldLink RX12 155 "TalePlayModel" "player" "I") (by decide +kernel)) dX12_formNow_1 ?_
  have rb22_i : (i 22).toInt = -9 ∨ (0 ≤ (i 22).toInt ∧ (i 22).toInt ≤ 29) := hI.1 22
  refine lv_bipush (v := (-9)) hx hb dX12_formNow_4 (by decide) ?_
  refine lv_icmp_eq (tgt := 16) hx hb dX12_formNow_6 (by decide) (fun c1 => ?_) (fun c1 => ?_)
  · have f1 := (ti_eq (a := (i 22).toInt) (b := (-9)) rfl (by decide)).mp c1
    refine lv_aload_n hx hb dX12_formNow_16 rfl (lv_at hl 0 rfl) ?_
    refine lv_iload_n hx hb dX12_formNow_17 rfl (lv_at hl 1 rfl) ?_
    refine ro_calli (va_runV (As := [.int w]) (rest := []) ⟨hx, hb, hml, hown, hts⟩ (s_X12_placing l D s.heap.size o a t i q c d w hI ) (cwV 1 hts gm_X12_formNow_X12_placing rfl rfl rfl (by decide +kernel) ⟨Nat.le_of_ble_eq_true rfl, Nat.le_of_ble_eq_true rfl⟩) (pA_V hK hP (ci := 12) (q0 := 0) rfl rfl) rfl rfl hl.1 rfl (lv_room (Nat.le_of_ble_eq_true rfl)) dX12_formNow_18 ⟨Nat.le_of_ble_eq_true rfl, Nat.le_of_ble_eq_true rfl⟩) hS hA hP (fun r2 u2 H locs hw2 hP hS => ?_)
    have hw2 : r2.toInt = -9 ∨ (0 ≤ r2.toInt ∧ r2.toInt ≤ 199) := hw2
    refine lv_istore_n (lv' := [(2, .int r2), (0, .ref o), (1, .int w)]) hx hb dX12_formNow_21 rfl hl (by decide) rfl (fun ls hl => ?_)
    refine lv_iload_n hx hb dX12_formNow_22 rfl (lv_at hl 0 rfl) ?_
    refine lv_bipush (v := (-9)) hx hb dX12_formNow_23 (by decide) ?_
    refine lv_icmp_ne (tgt := 33) hx hb dX12_formNow_25 (by decide) (fun c3 => ?_) (fun c3 => ?_)
    · have f3 := mt (ti_eq (a := r2.toInt) (b := (-9)) rfl (by decide)).mpr c3
      refine lv_aload_n hx hb dX12_formNow_33 rfl (lv_at hl 1 rfl) ?_
      refine mget_9 hx hb hts (fun _ h => List.mem_cons_of_mem _ (List.mem_append_right _ h)) hown hK hP (hts (.fieldLink RX12 25 "TalePlayModel" "form" "[I") (by decide +kernel)) dX12_formNow_34 ?_
      refine lv_iload_n hx hb dX12_formNow_37 rfl (lv_at hl 0 rfl) ?_
      refine mld_9 hx hb hK hP (vp_in_iff.mpr (by have h9 : r2.toInt = r2.toInt := rfl; omega)) dX12_formNow_38 (fun x4 ex4 => ?_)
      have rx4 : 0 ≤ x4.toInt ∧ x4.toInt ≤ 7 := by rw [ex4]; exact hI.2 9 _
      exact ro_iret hx hb hr hlocks hS dX12_formNow_39 (show x4.toInt = -9 ∨ (0 ≤ x4.toInt ∧ x4.toInt ≤ 7) from by omega)
    · have f3 := (ti_eq (a := r2.toInt) (b := (-9)) rfl (by decide)).mp c3
      refine lv_bipush (v := (-9)) hx hb dX12_formNow_28 (by decide) ?_
      refine lv_goto (tgt := 39) hx hb dX12_formNow_30 (by decide) ?_
      exact ro_iret hx hb hr hlocks hS dX12_formNow_39 (show ((-9) : Int32).toInt = -9 ∨ (0 ≤ ((-9) : Int32).toInt ∧ ((-9) : Int32).toInt ≤ 7) from by have h9 : ((-9) : Int32).toInt = -9 := (by decide); omega)
  · have f1 := mt (ti_eq (a := (i 22).toInt) (b := (-9)) rfl (by decide)).mpr c1
    refine lv_aload_n hx hb dX12_formNow_9 rfl (lv_at hl 0 rfl) ?_
    refine mget_23 hx hb hts (fun _ h => List.mem_cons_of_mem _ (List.mem_append_right _ h)) hown hK hP (hts (.fieldLink RX12 50 "TalePlayModel" "nForm" "[I") (by decide +kernel)) dX12_formNow_10 ?_
    refine lv_iload_n hx hb dX12_formNow_13 rfl (lv_at hl 1 rfl) ?_
    refine mld_23 hx hb hK hP (vp_in_iff.mpr (by have h9 : w.toInt = w.toInt := rfl; omega)) dX12_formNow_14 (fun x5 ex5 => ?_)
    have rx5 : x5.toInt = -9 ∨ (0 ≤ x5.toInt ∧ x5.toInt ≤ 4) := by rw [ex5]; exact hI.2 23 _
    exact ro_iret hx hb hr hlocks hS dX12_formNow_15 (show x5.toInt = -9 ∨ (0 ≤ x5.toInt ∧ x5.toInt ≤ 7) from by omega)

def wm_X12_atNow : List Cond := .code yX12_atNow cX12_atNow 3 (some .int) :: (([.fieldLink RX12 155 "TalePlayModel" "player" "I", .methodLink RX12 208 yX12_placing, .instanceMethod yX12_placing, .selects RX12 yX12_placing yX12_placing, .initialized RX12, .code yX12_placing cX12_placing 3 (some .int), .fieldLink RX12 202 "TalePlayModel" "sentences" "I", .fieldLink RX12 37 "TalePlayModel" "isSaid" "[Z", .fieldLink RX12 25 "TalePlayModel" "form" "[I", .fieldLink RX12 28 "TalePlayModel" "left" "[I", .fieldLink RX12 31 "TalePlayModel" "middle" "[I", .fieldLink RX12 53 "TalePlayModel" "nAt" "[I"] : List Cond) ++ wsX120)
set_option maxRecDepth 20000 in
theorem gm_X12_atNow_X12_placing : GoodIn wm_X12_atNow (wsV RX12 208 RX12 yX12_placing wm_X12_placing) := goodIn_app (goodIn_of _ (by decide +kernel)) (goodIn_r _ [6, 7, 8, 9, 10, 13, 14, 15, 16, 17, 18, 19, 20, 21, 22, 23, 24, 25, 26, 27, 28, 29, 30, 31, 32, 33, 34, 35, 36, 37, 38, 39, 40, 41, 42, 43, 44, 45, 46, 47, 48, 49, 50, 51, 52, 53, 54, 55, 56, 57, 58, 59, 60, 61, 62, 63, 64, 65, 66, 67, 68, 69, 70, 71, 72, 73, 74, 75, 76, 77, 78, 79, 80, 81] (by decide +kernel) (by decide +kernel))
set_option maxHeartbeats 4000000 in
set_option maxRecDepth 100000 in
theorem s_X12_atNow (l : Launch) (D : va_G) (sz : Nat) (o : Nat) (a : Nat → Nat) (t : Nat → ClassId) (i : Nat → Int32) (q : Int64) (c : Nat → Nat → Int32) (d : Nat → Nat → Int64) (w : Int32) (hI : mInv i c) (hw : 0 ≤ w.toInt ∧ w.toInt ≤ 29) : Met l yX12_atNow wm_X12_atNow ({ frames := 1, cells := 0, slots := 0, locals := 22 }) (va_Pc [.ref o, .int w] (pA D sz (mW o a t i q c d) (mT t))) (va_Qi (fun (r : Int32) (_ : Unit) => (r.toInt = -9 ∨ (0 ≤ r.toInt ∧ r.toInt ≤ 29))) oA (ro sz)) 0 0 (ro sz) := by
  refine Met.ofW (cc := cX12_atNow) (maxL := 3) (ret := (some .int)) (by decide) rfl ?_
  intro p e s m args below meth cd s₁ B hml hv
  obtain ⟨rfl, hsz, hP, hK⟩ := hv
  have hx := B.exec
  have hb := B.bytes
  have hr := B.returns
  have hts := atoms_spec (ws := wm_X12_atNow) B.pre
  have hown : s.vm.findClass RX12 = some m.cls := findClass_of_methodNamed B.named
  have hlocks := B.notSynchronized
  subst hsz
  have hA : ∀ q : Nat, s.heap.size ≤ q → ro s.heap.size q := fun _ h => h
  have hS : va_S (ro s.heap.size) s.heap s.heap [] := va_S.rf
  have hl := lv_entry ([.ref o, .int w]) (n := 3) (Nat.le_of_ble_eq_true rfl)
  rw [lg_entry_eq]
  generalize (lg_sl ([.ref o, .int w]) ++ List.replicate (3 - (lg_sl ([.ref o, .int w])).length) Slot.unset).toArray = ls at hl ⊢
  have hl : lv_has ls 3 [(0, .ref o), (1, .int w)] := hl
  refine lv_aload_n hx hb dX12_atNow_0 rfl (lv_at hl 0 rfl) ?_
  refine mget_22 (v := (i 22)) rfl hx hb hts (fun _ h => List.mem_cons_of_mem _ (List.mem_append_right _ h)) hown hK hP (hts (.fieldLink RX12 155 "TalePlayModel" "player" "I") (by decide +kernel)) dX12_atNow_1 ?_
  have rb22_i : (i 22).toInt = -9 ∨ (0 ≤ (i 22).toInt ∧ (i 22).toInt ≤ 29) := hI.1 22
  refine lv_bipush (v := (-9)) hx hb dX12_atNow_4 (by decide) ?_
  refine lv_icmp_eq (tgt := 16) hx hb dX12_atNow_6 (by decide) (fun c1 => ?_) (fun c1 => ?_)
  · have f1 := (ti_eq (a := (i 22).toInt) (b := (-9)) rfl (by decide)).mp c1
    refine lv_aload_n hx hb dX12_atNow_16 rfl (lv_at hl 0 rfl) ?_
    refine lv_iload_n hx hb dX12_atNow_17 rfl (lv_at hl 1 rfl) ?_
    refine ro_calli (va_runV (As := [.int w]) (rest := []) ⟨hx, hb, hml, hown, hts⟩ (s_X12_placing l D s.heap.size o a t i q c d w hI ) (cwV 1 hts gm_X12_atNow_X12_placing rfl rfl rfl (by decide +kernel) ⟨Nat.le_of_ble_eq_true rfl, Nat.le_of_ble_eq_true rfl⟩) (pA_V hK hP (ci := 12) (q0 := 0) rfl rfl) rfl rfl hl.1 rfl (lv_room (Nat.le_of_ble_eq_true rfl)) dX12_atNow_18 ⟨Nat.le_of_ble_eq_true rfl, Nat.le_of_ble_eq_true rfl⟩) hS hA hP (fun r2 u2 H locs hw2 hP hS => ?_)
    have hw2 : r2.toInt = -9 ∨ (0 ≤ r2.toInt ∧ r2.toInt ≤ 199) := hw2
    refine lv_istore_n (lv' := [(2, .int r2), (0, .ref o), (1, .int w)]) hx hb dX12_atNow_21 rfl hl (by decide) rfl (fun ls hl => ?_)
    refine lv_iload_n hx hb dX12_atNow_22 rfl (lv_at hl 0 rfl) ?_
    refine lv_bipush (v := (-9)) hx hb dX12_atNow_23 (by decide) ?_
    refine lv_icmp_ne (tgt := 33) hx hb dX12_atNow_25 (by decide) (fun c3 => ?_) (fun c3 => ?_)
    · have f3 := mt (ti_eq (a := r2.toInt) (b := (-9)) rfl (by decide)).mpr c3
      refine lv_aload_n hx hb dX12_atNow_33 rfl (lv_at hl 1 rfl) ?_
      refine mget_11 hx hb hts (fun _ h => List.mem_cons_of_mem _ (List.mem_append_right _ h)) hown hK hP (hts (.fieldLink RX12 31 "TalePlayModel" "middle" "[I") (by decide +kernel)) dX12_atNow_34 ?_
      refine lv_iload_n hx hb dX12_atNow_37 rfl (lv_at hl 0 rfl) ?_
      refine mld_11 hx hb hK hP (vp_in_iff.mpr (by have h9 : r2.toInt = r2.toInt := rfl; omega)) dX12_atNow_38 (fun x4 ex4 => ?_)
      have rx4 : 0 ≤ x4.toInt ∧ x4.toInt ≤ 29 := by rw [ex4]; exact hI.2 11 _
      exact ro_iret hx hb hr hlocks hS dX12_atNow_39 (show x4.toInt = -9 ∨ (0 ≤ x4.toInt ∧ x4.toInt ≤ 29) from by omega)
    · have f3 := (ti_eq (a := r2.toInt) (b := (-9)) rfl (by decide)).mp c3
      refine lv_bipush (v := (-9)) hx hb dX12_atNow_28 (by decide) ?_
      refine lv_goto (tgt := 39) hx hb dX12_atNow_30 (by decide) ?_
      exact ro_iret hx hb hr hlocks hS dX12_atNow_39 (show ((-9) : Int32).toInt = -9 ∨ (0 ≤ ((-9) : Int32).toInt ∧ ((-9) : Int32).toInt ≤ 29) from by have h9 : ((-9) : Int32).toInt = -9 := (by decide); omega)
  · have f1 := mt (ti_eq (a := (i 22).toInt) (b := (-9)) rfl (by decide)).mpr c1
    refine lv_aload_n hx hb dX12_atNow_9 rfl (lv_at hl 0 rfl) ?_
    refine mget_24 hx hb hts (fun _ h => List.mem_cons_of_mem _ (List.mem_append_right _ h)) hown hK hP (hts (.fieldLink RX12 53 "TalePlayModel" "nAt" "[I") (by decide +kernel)) dX12_atNow_10 ?_
    refine lv_iload_n hx hb dX12_atNow_13 rfl (lv_at hl 1 rfl) ?_
    refine mld_24 hx hb hK hP (vp_in_iff.mpr (by have h9 : w.toInt = w.toInt := rfl; omega)) dX12_atNow_14 (fun x5 ex5 => ?_)
    have rx5 : x5.toInt = -9 ∨ (0 ≤ x5.toInt ∧ x5.toInt ≤ 29) := by rw [ex5]; exact hI.2 24 _
    exact ro_iret hx hb hr hlocks hS dX12_atNow_15 (show x5.toInt = -9 ∨ (0 ≤ x5.toInt ∧ x5.toInt ≤ 29) from by omega)

def wm_X12_body : List Cond := .code yX12_body cX12_body 2 none :: (([.fieldLink RX12 294 "TalePlayModel" "traces" "Z", .fieldLink RX12 297 "TalePlayModel" "traced" "I", .fieldLink RX12 77 "TalePlayModel" "trace" "[I"] : List Cond) ++ wsX120)
set_option maxHeartbeats 4000000 in
set_option maxRecDepth 100000 in
theorem s_X12_body (l : Launch) (D : va_G) (sz : Nat) (o : Nat) (a : Nat → Nat) (t : Nat → ClassId) (i : Nat → Int32) (q : Int64) (c : Nat → Nat → Int32) (d : Nat → Nat → Int64) (b1 : Int32) (hI : mInv i c) (hb1 : 0 ≤ b1.toInt ∧ b1.toInt ≤ 5) : Met l yX12_body wm_X12_body ({ frames := 0, cells := 0, slots := 0, locals := 0 }) (va_Pc [.ref o, .int b1] (pB D sz (mW o a t i q c d) (mT t))) (va_Qv (fun (u : MS) => True ∧ mInv u.1 u.2.2.1 ∧ (∀ k, k ∉ ([35] : List Nat) → u.1 k = i k) ∧ (∀ k, k ∉ ([34] : List Nat) → u.2.2.1 k = c k)) (oC D (va_A (mW o a t i q c d) sz) (fun u : MS => mW o a t u.1 u.2.1 u.2.2.1 u.2.2.2) (fun _ => [])) (va_A (mW o a t i q c d) sz)) 0 0 (va_A (mW o a t i q c d) sz) := by
  refine Met.ofW (cc := cX12_body) (maxL := 2) (ret := none) (by decide) rfl ?_
  intro p e s m args below meth cd s₁ B hml hv
  obtain ⟨rfl, hsz, hP, hK, hD0⟩ := hv
  have hx := B.exec
  have hb := B.bytes
  have hr := B.returns
  have hts := atoms_spec (ws := wm_X12_body) B.pre
  have hown : s.vm.findClass RX12 = some m.cls := findClass_of_methodNamed B.named
  have hlocks := B.notSynchronized
  subst hsz
  have hD := hD0.self (sz := s.heap.size)
  generalize hAe : va_A (mW o a t i q c d) s.heap.size = A at hD ⊢
  have hA : ∀ q : Nat, s.heap.size ≤ q → A q := fun q h => by rw [← hAe]; exact Or.inr h
  have hS : va_S A s.heap s.heap [] := va_S.rf
  have hfi : ∀ k, k ∉ ([35] : List Nat) → i k = i k := fun _ _ => rfl
  have hfc : ∀ k, k ∉ ([34] : List Nat) → c k = c k := fun _ _ => rfl
  have hl := lv_entry ([.ref o, .int b1]) (n := 2) (Nat.le_of_ble_eq_true rfl)
  rw [lg_entry_eq]
  generalize (lg_sl ([.ref o, .int b1]) ++ List.replicate (2 - (lg_sl ([.ref o, .int b1])).length) Slot.unset).toArray = ls at hl ⊢
  have hl : lv_has ls 2 [(0, .ref o), (1, .int b1)] := hl
  refine lv_aload_n hx hb dX12_body_0 rfl (lv_at hl 0 rfl) ?_
  refine mget_33 (v := (i 33)) rfl hx hb hts (fun _ h => List.mem_cons_of_mem _ (List.mem_append_right _ h)) hown hK hP (hts (.fieldLink RX12 294 "TalePlayModel" "traces" "Z") (by decide +kernel)) dX12_body_1 ?_
  have rb33_i : 0 ≤ (i 33).toInt ∧ (i 33).toInt ≤ 1 := hI.1 33
  refine lv_if_eq (tgt := 36) hx hb dX12_body_4 (by decide) (fun c1 => ?_) (fun c1 => ?_)
  · have f1 := (ti_eq (a := (i 33).toInt) (b := 0) rfl (by decide)).mp c1
    exact rw_vret (i, q, c, d) hx hb hr hlocks hS (hK.sub (tys' := []) [] rfl) hP hD dX12_body_36 ⟨trivial, hI, hfi, hfc⟩
  · have f1 := mt (ti_eq (a := (i 33).toInt) (b := 0) rfl (by decide)).mpr c1
    refine lv_aload_n hx hb dX12_body_7 rfl (lv_at hl 0 rfl) ?_
    refine mget_35 (v := (i 35)) rfl hx hb hts (fun _ h => List.mem_cons_of_mem _ (List.mem_append_right _ h)) hown hK hP (hts (.fieldLink RX12 297 "TalePlayModel" "traced" "I") (by decide +kernel)) dX12_body_8 ?_
    have rb35_i : 0 ≤ (i 35).toInt ∧ (i 35).toInt ≤ 100 := hI.1 35
    refine lv_bipush (v := 100) hx hb dX12_body_11 (by decide) ?_
    refine lv_icmp_ge (tgt := 36) hx hb dX12_body_13 (by decide) (fun c2 => ?_) (fun c2 => ?_)
    · have f2 := (ti_le (a := 100) (b := (i 35).toInt) (by decide) rfl).mp c2
      exact rw_vret (i, q, c, d) hx hb hr hlocks hS (hK.sub (tys' := []) [] rfl) hP hD dX12_body_36 ⟨trivial, hI, hfi, hfc⟩
    · have f2 := mt (ti_le (a := 100) (b := (i 35).toInt) (by decide) rfl).mpr c2
      refine lv_aload_n hx hb dX12_body_16 rfl (lv_at hl 0 rfl) ?_
      refine mget_34 hx hb hts (fun _ h => List.mem_cons_of_mem _ (List.mem_append_right _ h)) hown hK hP (hts (.fieldLink RX12 77 "TalePlayModel" "trace" "[I") (by decide +kernel)) dX12_body_17 ?_
      refine lv_aload_n hx hb dX12_body_20 rfl (lv_at hl 0 rfl) ?_
      refine mget_35 (v := (i 35)) rfl hx hb hts (fun _ h => List.mem_cons_of_mem _ (List.mem_append_right _ h)) hown hK hP (hts (.fieldLink RX12 297 "TalePlayModel" "traced" "I") (by decide +kernel)) dX12_body_21 ?_
      refine lv_iload_n hx hb dX12_body_24 rfl (lv_at hl 1 rfl) ?_
      refine mst_34 hx hb hK hP hD hS (vp_in_iff.mpr (by have h9 : (i 35).toInt = (i 35).toInt := rfl; omega)) dX12_body_25 (fun H locs hP hD hS => ?_)
      have hI := mInv_c hI (k := 34) (j := ((i 35) : Int32).toNatClampNeg) (x := b1) (show 0 ≤ (b1 : Int32).toInt ∧ (b1 : Int32).toInt ≤ 5 from by omega)
      have hfc := fr_c hfc (k := 34) (j := ((i 35) : Int32).toNatClampNeg) (x := b1) (by decide)
      refine lv_aload_n hx hb dX12_body_26 rfl (lv_at hl 0 rfl) ?_
      refine lv_dup hx hb dX12_body_27 rfl ?_
      refine mget_35 (v := (i 35)) rfl hx hb hts (fun _ h => List.mem_cons_of_mem _ (List.mem_append_right _ h)) hown hK hP (hts (.fieldLink RX12 297 "TalePlayModel" "traced" "I") (by decide +kernel)) dX12_body_28 ?_
      refine lv_iconst (v := 1) hx hb dX12_body_31 (by decide) ?_
      refine lv_iadd hx hb dX12_body_32 ?_
      refine lv_topi (fun x3 ex3 => ?_)
      have tx3 := ti_add (a := (i 35).toInt) (b := 1) ex3 rfl (by decide) (by omega) (by omega)
      refine mput_35 hx hb hts (fun _ h => List.mem_cons_of_mem _ (List.mem_append_right _ h)) hown hK hP hD hS (hts (.fieldLink RX12 297 "TalePlayModel" "traced" "I") (by decide +kernel)) rfl rfl dX12_body_33 (fun H locs hP hD hS => ?_)
      have hI := mInv_i hI (k := 35) (v := x3) (show 0 ≤ (x3 : Int32).toInt ∧ (x3 : Int32).toInt ≤ 100 from by have h9 : x3.toInt = ((i 35).toInt + 1) := tx3; omega)
      have hfi := fr_i hfi (k := 35) (v := x3) (by decide)
      exact rw_vret ((upd i 35 x3), q, (updA c 34 ((i 35) : Int32).toNatClampNeg b1), d) hx hb hr hlocks hS (hK.sub (tys' := []) [] rfl) hP hD dX12_body_36 ⟨trivial, hI, hfi, hfc⟩

def wm_X12_lay : List Cond := .code yX12_lay cX12_lay 4 none :: (([.fieldLink RX12 50 "TalePlayModel" "nForm" "[I", .fieldLink RX12 53 "TalePlayModel" "nAt" "[I"] : List Cond) ++ wsX120)
set_option maxHeartbeats 4000000 in
set_option maxRecDepth 100000 in
theorem s_X12_lay (l : Launch) (D : va_G) (sz : Nat) (o : Nat) (a : Nat → Nat) (t : Nat → ClassId) (i : Nat → Int32) (q : Int64) (c : Nat → Nat → Int32) (d : Nat → Nat → Int64) (w : Int32) (f : Int32) (w2 : Int32) (hI : mInv i c) (hw : 0 ≤ w.toInt ∧ w.toInt ≤ 29) (hf : f.toInt = -9 ∨ (0 ≤ f.toInt ∧ f.toInt ≤ 4)) (hw2 : w2.toInt = -9 ∨ (0 ≤ w2.toInt ∧ w2.toInt ≤ 29)) : Met l yX12_lay wm_X12_lay ({ frames := 0, cells := 0, slots := 0, locals := 0 }) (va_Pc [.ref o, .int w, .int f, .int w2] (pB D sz (mW o a t i q c d) (mT t))) (va_Qv (fun (u : MS) => True ∧ mInv u.1 u.2.2.1 ∧ (∀ k, k ∉ ([] : List Nat) → u.1 k = i k) ∧ (∀ k, k ∉ ([23, 24] : List Nat) → u.2.2.1 k = c k)) (oC D (va_A (mW o a t i q c d) sz) (fun u : MS => mW o a t u.1 u.2.1 u.2.2.1 u.2.2.2) (fun _ => [])) (va_A (mW o a t i q c d) sz)) 0 0 (va_A (mW o a t i q c d) sz) := by
  refine Met.ofW (cc := cX12_lay) (maxL := 4) (ret := none) (by decide) rfl ?_
  intro p e s m args below meth cd s₁ B hml hv
  obtain ⟨rfl, hsz, hP, hK, hD0⟩ := hv
  have hx := B.exec
  have hb := B.bytes
  have hr := B.returns
  have hts := atoms_spec (ws := wm_X12_lay) B.pre
  have hown : s.vm.findClass RX12 = some m.cls := findClass_of_methodNamed B.named
  have hlocks := B.notSynchronized
  subst hsz
  have hD := hD0.self (sz := s.heap.size)
  generalize hAe : va_A (mW o a t i q c d) s.heap.size = A at hD ⊢
  have hA : ∀ q : Nat, s.heap.size ≤ q → A q := fun q h => by rw [← hAe]; exact Or.inr h
  have hS : va_S A s.heap s.heap [] := va_S.rf
  have hfi : ∀ k, k ∉ ([] : List Nat) → i k = i k := fun _ _ => rfl
  have hfc : ∀ k, k ∉ ([23, 24] : List Nat) → c k = c k := fun _ _ => rfl
  have hl := lv_entry ([.ref o, .int w, .int f, .int w2]) (n := 4) (Nat.le_of_ble_eq_true rfl)
  rw [lg_entry_eq]
  generalize (lg_sl ([.ref o, .int w, .int f, .int w2]) ++ List.replicate (4 - (lg_sl ([.ref o, .int w, .int f, .int w2])).length) Slot.unset).toArray = ls at hl ⊢
  have hl : lv_has ls 4 [(0, .ref o), (1, .int w), (2, .int f), (3, .int w2)] := hl
  refine lv_aload_n hx hb dX12_lay_0 rfl (lv_at hl 0 rfl) ?_
  refine mget_23 hx hb hts (fun _ h => List.mem_cons_of_mem _ (List.mem_append_right _ h)) hown hK hP (hts (.fieldLink RX12 50 "TalePlayModel" "nForm" "[I") (by decide +kernel)) dX12_lay_1 ?_
  refine lv_iload_n hx hb dX12_lay_4 rfl (lv_at hl 1 rfl) ?_
  refine lv_iload_n hx hb dX12_lay_5 rfl (lv_at hl 2 rfl) ?_
  refine mst_23 hx hb hK hP hD hS (vp_in_iff.mpr (by have h9 : w.toInt = w.toInt := rfl; omega)) dX12_lay_6 (fun H locs hP hD hS => ?_)
  have hI := mInv_c hI (k := 23) (j := (w : Int32).toNatClampNeg) (x := f) (show (f : Int32).toInt = -9 ∨ (0 ≤ (f : Int32).toInt ∧ (f : Int32).toInt ≤ 4) from by omega)
  have hfc := fr_c hfc (k := 23) (j := (w : Int32).toNatClampNeg) (x := f) (by decide)
  refine lv_aload_n hx hb dX12_lay_7 rfl (lv_at hl 0 rfl) ?_
  refine mget_24 hx hb hts (fun _ h => List.mem_cons_of_mem _ (List.mem_append_right _ h)) hown hK hP (hts (.fieldLink RX12 53 "TalePlayModel" "nAt" "[I") (by decide +kernel)) dX12_lay_8 ?_
  refine lv_iload_n hx hb dX12_lay_11 rfl (lv_at hl 1 rfl) ?_
  refine lv_iload_n hx hb dX12_lay_12 rfl (lv_at hl 3 rfl) ?_
  refine mst_24 hx hb hK hP hD hS (vp_in_iff.mpr (by have h9 : w.toInt = w.toInt := rfl; omega)) dX12_lay_13 (fun H locs hP hD hS => ?_)
  have hI := mInv_c hI (k := 24) (j := (w : Int32).toNatClampNeg) (x := w2) (show (w2 : Int32).toInt = -9 ∨ (0 ≤ (w2 : Int32).toInt ∧ (w2 : Int32).toInt ≤ 29) from by omega)
  have hfc := fr_c hfc (k := 24) (j := (w : Int32).toNatClampNeg) (x := w2) (by decide)
  exact rw_vret (i, q, (updA (updA c 23 (w : Int32).toNatClampNeg f) 24 (w : Int32).toNatClampNeg w2), d) hx hb hr hlocks hS (hK.sub (tys' := []) [] rfl) hP hD dX12_lay_14 ⟨trivial, hI, hfi, hfc⟩

