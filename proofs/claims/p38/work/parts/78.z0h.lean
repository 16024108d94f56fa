set_option maxHeartbeats 4000000 in
set_option maxRecDepth 100000 in
theorem s_X12_isExitBarred_e (l : Launch) (D : va_G) (sz : Nat) (o : Nat) (a : Nat → Nat) (t : Nat → ClassId) (i : Nat → Int32) (q : Int64) (c : Nat → Nat → Int32) (d : Nat → Nat → Int64) (w1 : Int32) (w2 : Int32) (w3 : Int32) (hI : mInv i c) (hw1 : 0 ≤ w1.toInt ∧ w1.toInt ≤ 29) (hw2 : 0 ≤ w2.toInt ∧ w2.toInt ≤ 29) (hrm : (i 15).toInt = 0) : Met l yX12_isExitBarred wm_X12_isExitBarred ({ frames := 1, cells := 0, slots := 0, locals := 23 }) (va_Pc [.ref o, .int w1, .int w2, .int w3] (pB D sz (mW o a t i q c d) (mT t))) (va_Qi (fun (r : Int32) (u : MS) => ((0 ≤ r.toInt ∧ r.toInt ≤ 1) ∧ (Sm r (XbM (c 9) (c 10) (c 11) (c 12) (c 13) (i 8).toInt (kS (c 3) (c 6) w2.toInt) w1.toInt w2.toInt w3.toInt))) ∧ mInv u.1 u.2.2.1 ∧ (∀ k, k ∉ ([15] : List Nat) → u.1 k = i k) ∧ (∀ k, k ∉ ([14] : List Nat) → u.2.2.1 k = c k)) (oC D (va_A (mW o a t i q c d) sz) (fun u : MS => mW o a t u.1 u.2.1 u.2.2.1 u.2.2.2) (fun _ => [])) (va_A (mW o a t i q c d) sz)) 0 0 (va_A (mW o a t i q c d) sz) := by
  refine Met.ofW (cc := cX12_isExitBarred) (maxL := 5) (ret := (some .boolean)) (by decide +kernel) rfl ?_
  intro p e s m args below meth cd s₁ B hml hv
  obtain ⟨rfl, hsz, hP, hK, hD0⟩ := hv
  have hx := B.exec
  have hb := B.bytes
  have hr := B.returns
  have hts := atoms_spec (ws := wm_X12_isExitBarred) B.pre
  have hown : s.vm.findClass RX12 = some m.cls := findClass_of_methodNamed B.named
  have hlocks := B.notSynchronized
  subst hsz
  have hD := hD0.self (sz := s.heap.size)
  generalize hAe : va_A (mW o a t i q c d) s.heap.size = A at hD ⊢
  have hA : ∀ q : Nat, s.heap.size ≤ q → A q := fun q h => by rw [← hAe]; exact Or.inr h
  have hS : va_S A s.heap s.heap [] := va_S.rf
  have hfi : ∀ k, k ∉ ([] : List Nat) → i k = i k := fun _ _ => rfl
  have hfc : ∀ k, k ∉ ([] : List Nat) → c k = c k := fun _ _ => rfl
  have hl := lv_entry ([.ref o, .int w1, .int w2, .int w3]) (n := 5) (Nat.le_of_ble_eq_true rfl)
  rw [lg_entry_eq]
  generalize (lg_sl ([.ref o, .int w1, .int w2, .int w3]) ++ List.replicate (5 - (lg_sl ([.ref o, .int w1, .int w2, .int w3])).length) Slot.unset).toArray = ls at hl ⊢
  have hl : lv_has ls 5 [(0, .ref o), (1, .int w1), (2, .int w2), (3, .int w3)] := hl
  have rb8_i : 0 ≤ (i 8).toInt ∧ (i 8).toInt ≤ 200 := hI.1 8
  have rb15_i : 0 ≤ (i 15).toInt ∧ (i 15).toInt ≤ 200 := hI.1 15
  refine lv_iconst (v := 0) hx hb dX12_isExitBarred_0 (by decide +kernel) ?_
  refine lv_istore (lv' := [(4, .int 0), (0, .ref o), (1, .int w1), (2, .int w2), (3, .int w3)]) hx hb dX12_isExitBarred_1 hl (by decide +kernel) rfl (fun ls hl => ?_)
  have lp1 : ∀ (fu : Nat) (y1_4 : Int32), (0 ≤ y1_4.toInt ∧ y1_4.toInt ≤ 200 ∧ y1_4.toInt ≤ (i 8).toInt) → (((i 15) : Int32).toInt = 0) → (∀ s : Nat, (s : Int) < y1_4.toInt → ¬ bP (c 9) (c 10) (c 12) (c 13) w1.toInt w3.toInt s) → (200 - y1_4.toInt).toNat < fu → ∀ (H : Heap) (locs : List Loc) (ls : Array Slot), va_P D vwCl (mW o a t i q c d) H → va_D A (mW o a t i q c d) → va_S A s.heap H locs → lv_has ls 5 [(4, .int y1_4), (0, .ref o), (1, .int w1), (2, .int w2), (3, .int w3)] → W p l e (headSpec wm_X12_isExitBarred ({ frames := 1, cells := 0, slots := 0, locals := 23 })).room s m ([.ref o, .int w1, .int w2, .int w3] : List Value).toArray below meth cd H locs 0 0 (MQ below (va_Qi (fun (r : Int32) (u : MS) => ((0 ≤ r.toInt ∧ r.toInt ≤ 1) ∧ (Sm r (XbM (c 9) (c 10) (c 11) (c 12) (c 13) (i 8).toInt (kS (c 3) (c 6) w2.toInt) w1.toInt w2.toInt w3.toInt))) ∧ mInv u.1 u.2.2.1 ∧ (∀ k, k ∉ ([15] : List Nat) → u.1 k = i k) ∧ (∀ k, k ∉ ([14] : List Nat) → u.2.2.1 k = c k)) (oC D A (fun u : MS => mW o a t u.1 u.2.1 u.2.2.1 u.2.2.2) (fun _ => [])) A) ([.ref o, .int w1, .int w2, .int w3] : List Value).toArray s 0 0 A) (F0 m 3 ls []) := by
    intro fu
    induction fu with
    | zero => intro y1_4 hy1_4 hz1_0 hz1_1 hm; exact absurd hm (Nat.not_lt_zero _)
    | succ fu ih =>
      intro y1_4 hy1_4 hz1_0 hz1_1 hm H locs ls hP hD hS hl
      have ih1 := ih
      refine lv_iload hx hb dX12_isExitBarred_3 (lv_at hl 0 rfl) ?_
      refine lv_aload_n hx hb dX12_isExitBarred_5 rfl (lv_at hl 1 rfl) ?_
      refine mget_8 (v := (i 8)) rfl hx hb hts (fun _ h => List.mem_cons_of_mem _ (List.mem_append_right _ h)) hown hK hP (hts (.fieldLink RX12 202 "TalePlayModel" "sentences" "I") (List.mem_cons_of_mem _ (List.mem_append_left _ (List.mem_append_left _ (List.mem_of_getElem? (i := 0) rfl))))) dX12_isExitBarred_6 ?_
      refine lv_icmp_ge (tgt := 69) hx hb dX12_isExitBarred_9 (by decide +kernel) (fun c2 => ?_) (fun c2 => ?_)
      · have f2 := (ti_le (a := (i 8).toInt) (b := y1_4.toInt) rfl rfl).mp c2
        refine lv_aload_n hx hb dX12_isExitBarred_69 rfl (lv_at hl 1 rfl) ?_
        refine lv_iload_n hx hb dX12_isExitBarred_70 rfl (lv_at hl 3 rfl) ?_
        refine lv_iconst (v := 2) hx hb dX12_isExitBarred_71 (by decide +kernel) ?_
        refine ro_calli (va_runV (As := [.int w2, .int 2]) (rest := []) ⟨hx, hb, hml, hown, hts⟩ (s_X12_isOf_e l D H.size o a t i q c d w2 2 hI (show 0 ≤ w2.toInt ∧ w2.toInt ≤ 29 from by have h91 : (2 : Int32).toInt = 2 := (by decide +kernel); omega) (show 0 ≤ 2 ∧ 2 ≤ 5 from by have h91 : (2 : Int32).toInt = 2 := (by decide +kernel); omega)) (cwV 2 hts gm_X12_isExitBarred_X12_isOf rfl rfl rfl (by decide +kernel) ⟨Nat.le_of_ble_eq_true rfl, Nat.le_of_ble_eq_true rfl⟩) (pA_V hK hP (ci := 12) (q0 := 0) rfl rfl) rfl rfl hl.1 rfl (lv_room (Nat.le_of_ble_eq_true rfl)) dX12_isExitBarred_72 ⟨Nat.le_of_ble_eq_true rfl, Nat.le_of_ble_eq_true rfl⟩) hS hA hP (fun r3 u3 H locs hw3 hP hS => ?_)
        have hw3 : ((0 ≤ r3.toInt ∧ r3.toInt ≤ 1) ∧ (0 ≤ kS (c 3) (c 6) w2.toInt ∧ kS (c 3) (c 6) w2.toInt ≤ 5 ∧ ((r3.toInt = 1 ∧ (kS (c 3) (c 6) w2.toInt = 2 ∨ ((1 : Int) = 2 ∧ 1 < kS (c 3) (c 6) w2.toInt))) ∨ (r3.toInt = 0 ∧ ¬ (kS (c 3) (c 6) w2.toInt = 2 ∨ ((1 : Int) = 2 ∧ 1 < kS (c 3) (c 6) w2.toInt)))))) := hw3
        obtain ⟨hw3, hr3_0⟩ := hw3
        have hr3_0 : 0 ≤ kS (c 3) (c 6) w2.toInt ∧ kS (c 3) (c 6) w2.toInt ≤ 5 ∧ ((r3.toInt = 1 ∧ (kS (c 3) (c 6) w2.toInt = 2 ∨ ((1 : Int) = 2 ∧ 1 < kS (c 3) (c 6) w2.toInt))) ∨ (r3.toInt = 0 ∧ ¬ (kS (c 3) (c 6) w2.toInt = 2 ∨ ((1 : Int) = 2 ∧ 1 < kS (c 3) (c 6) w2.toInt)))) := hr3_0
        refine lv_if_ne (tgt := 80) hx hb dX12_isExitBarred_75 (by decide +kernel) (fun c4 => ?_) (fun c4 => ?_)
        · have f4 := mt (ti_eq (a := r3.toInt) (b := 0) rfl (by decide +kernel)).mpr c4
          refine lv_iconst (v := 0) hx hb dX12_isExitBarred_80 (by decide +kernel) ?_
          refine lv_istore (lv' := [(4, .int 0), (0, .ref o), (1, .int w1), (2, .int w2), (3, .int w3)]) hx hb dX12_isExitBarred_81 hl (by decide +kernel) rfl (fun ls hl => ?_)
          have lp5 : ∀ (fu : Nat) (y5_4 : Int32), (0 ≤ y5_4.toInt ∧ y5_4.toInt ≤ 200 ∧ y5_4.toInt ≤ (i 8).toInt) → (((i 15) : Int32).toInt = 0) → (∀ s : Nat, (s : Int) < y5_4.toInt → ¬ aP (c 9) (c 10) (c 11) (c 13) w1.toInt w2.toInt s) → (200 - y5_4.toInt).toNat < fu → ∀ (H : Heap) (locs : List Loc) (ls : Array Slot), va_P D vwCl (mW o a t i q c d) H → va_D A (mW o a t i q c d) → va_S A s.heap H locs → lv_has ls 5 [(4, .int y5_4), (0, .ref o), (1, .int w1), (2, .int w2), (3, .int w3)] → W p l e (headSpec wm_X12_isExitBarred ({ frames := 1, cells := 0, slots := 0, locals := 23 })).room s m ([.ref o, .int w1, .int w2, .int w3] : List Value).toArray below meth cd H locs 0 0 (MQ below (va_Qi (fun (r : Int32) (u : MS) => ((0 ≤ r.toInt ∧ r.toInt ≤ 1) ∧ (Sm r (XbM (c 9) (c 10) (c 11) (c 12) (c 13) (i 8).toInt (kS (c 3) (c 6) w2.toInt) w1.toInt w2.toInt w3.toInt))) ∧ mInv u.1 u.2.2.1 ∧ (∀ k, k ∉ ([15] : List Nat) → u.1 k = i k) ∧ (∀ k, k ∉ ([14] : List Nat) → u.2.2.1 k = c k)) (oC D A (fun u : MS => mW o a t u.1 u.2.1 u.2.2.1 u.2.2.2) (fun _ => [])) A) ([.ref o, .int w1, .int w2, .int w3] : List Value).toArray s 0 0 A) (F0 m 83 ls []) := by
            intro fu
            induction fu with
            | zero => intro y5_4 hy5_4 hz5_0 hz5_1 hm; exact absurd hm (Nat.not_lt_zero _)
            | succ fu ih =>
              intro y5_4 hy5_4 hz5_0 hz5_1 hm H locs ls hP hD hS hl
              have ih5 := ih
              refine lv_iload hx hb dX12_isExitBarred_83 (lv_at hl 0 rfl) ?_
              refine lv_aload_n hx hb dX12_isExitBarred_85 rfl (lv_at hl 1 rfl) ?_
              refine mget_8 (v := (i 8)) rfl hx hb hts (fun _ h => List.mem_cons_of_mem _ (List.mem_append_right _ h)) hown hK hP (hts (.fieldLink RX12 202 "TalePlayModel" "sentences" "I") (List.mem_cons_of_mem _ (List.mem_append_left _ (List.mem_append_left _ (List.mem_of_getElem? (i := 0) rfl))))) dX12_isExitBarred_86 ?_
              refine lv_icmp_ge (tgt := 149) hx hb dX12_isExitBarred_89 (by decide +kernel) (fun c6 => ?_) (fun c6 => ?_)
              · have f6 := (ti_le (a := (i 8).toInt) (b := y5_4.toInt) rfl rfl).mp c6
                refine lv_iconst (v := 0) hx hb dX12_isExitBarred_149 (by decide +kernel) ?_
                refine lv_istore (lv' := [(4, .int 0), (0, .ref o), (1, .int w1), (2, .int w2), (3, .int w3)]) hx hb dX12_isExitBarred_150 hl (by decide +kernel) rfl (fun ls hl => ?_)
                have lp7 : ∀ (fu : Nat) (i7 : Nat → Int32) (q7 : Int64) (c7 : Nat → Nat → Int32) (d7 : Nat → Nat → Int64) (y7_4 : Int32), mInv i7 c7 → (∀ k, k ∉ ([15] : List Nat) → i7 k = i k) → (∀ k, k ∉ ([14] : List Nat) → c7 k = c k) → (0 ≤ y7_4.toInt ∧ y7_4.toInt ≤ 200 ∧ y7_4.toInt ≤ (i 8).toInt) → (((i7 15) : Int32).toInt ≤ y7_4.toInt) → (CN (EB (c 9) (c 11) (c 13) w2.toInt) y7_4.toInt ((i7 15) : Int32).toInt) → (200 - y7_4.toInt).toNat < fu → ∀ (H : Heap) (locs : List Loc) (ls : Array Slot), va_P D vwCl (mW o a t i7 q7 c7 d7) H → va_D A (mW o a t i7 q7 c7 d7) → va_S A s.heap H locs → lv_has ls 5 [(4, .int y7_4), (0, .ref o), (1, .int w1), (2, .int w2), (3, .int w3)] → W p l e (headSpec wm_X12_isExitBarred ({ frames := 1, cells := 0, slots := 0, locals := 23 })).room s m ([.ref o, .int w1, .int w2, .int w3] : List Value).toArray below meth cd H locs 0 0 (MQ below (va_Qi (fun (r : Int32) (u : MS) => ((0 ≤ r.toInt ∧ r.toInt ≤ 1) ∧ (Sm r (XbM (c 9) (c 10) (c 11) (c 12) (c 13) (i 8).toInt (kS (c 3) (c 6) w2.toInt) w1.toInt w2.toInt w3.toInt))) ∧ mInv u.1 u.2.2.1 ∧ (∀ k, k ∉ ([15] : List Nat) → u.1 k = i k) ∧ (∀ k, k ∉ ([14] : List Nat) → u.2.2.1 k = c k)) (oC D A (fun u : MS => mW o a t u.1 u.2.1 u.2.2.1 u.2.2.2) (fun _ => [])) A) ([.ref o, .int w1, .int w2, .int w3] : List Value).toArray s 0 0 A) (F0 m 152 ls []) := by
                  intro fu
                  induction fu with
                  | zero => intro i7 q7 c7 d7 y7_4 hI hfi hfc hy7_4 hz7_0 hz7_1 hm; exact absurd hm (Nat.not_lt_zero _)
                  | succ fu ih =>
                    intro i7 q7 c7 d7 y7_4 hI hfi hfc hy7_4 hz7_0 hz7_1 hm H locs ls hP hD hS hl
                    have ih7 := ih
                    refine lv_iload hx hb dX12_isExitBarred_152 (lv_at hl 0 rfl) ?_
                    refine lv_aload_n hx hb dX12_isExitBarred_154 rfl (lv_at hl 1 rfl) ?_
                    refine mget_8 (v := (i7 8)) rfl hx hb hts (fun _ h => List.mem_cons_of_mem _ (List.mem_append_right _ h)) hown hK hP (hts (.fieldLink RX12 202 "TalePlayModel" "sentences" "I") (List.mem_cons_of_mem _ (List.mem_append_left _ (List.mem_append_left _ (List.mem_of_getElem? (i := 0) rfl))))) dX12_isExitBarred_155 ?_
                    have rb8_i7 : 0 ≤ (i7 8).toInt ∧ (i7 8).toInt ≤ 200 := hI.1 8
                    have re8_i7 : (i7 8).toInt = (i 8).toInt := congrArg Int32.toInt (hfi 8 (by decide +kernel))
                    refine lv_icmp_ge (tgt := 205) hx hb dX12_isExitBarred_158 (by decide +kernel) (fun c8 => ?_) (fun c8 => ?_)
                    · have f8 := (ti_le (a := (i7 8).toInt) (b := y7_4.toInt) rfl rfl).mp c8
                      refine lv_aload_n hx hb dX12_isExitBarred_205 rfl (lv_at hl 1 rfl) ?_
                      refine mget_15 (v := (i7 15)) rfl hx hb hts (fun _ h => List.mem_cons_of_mem _ (List.mem_append_right _ h)) hown hK hP (hts (.fieldLink RX12 205 "TalePlayModel" "rowMany" "I") (List.mem_cons_of_mem _ (List.mem_append_left _ (List.mem_append_left _ (List.mem_of_getElem? (i := 8) rfl))))) dX12_isExitBarred_206 ?_
                      have rb15_i7 : 0 ≤ (i7 15).toInt ∧ (i7 15).toInt ≤ 200 := hI.1 15
                      refine lv_iconst (v := 2) hx hb dX12_isExitBarred_209 (by decide +kernel) ?_
                      refine lv_icmp_ge (tgt := 218) hx hb dX12_isExitBarred_210 (by decide +kernel) (fun c9 => ?_) (fun c9 => ?_)
                      · have f9 := (ti_le (a := 2) (b := (i7 15).toInt) (by decide +kernel) rfl).mp c9
                        refine lv_aload_n hx hb dX12_isExitBarred_218 rfl (lv_at hl 1 rfl) ?_
                        refine mget_15 (v := (i7 15)) rfl hx hb hts (fun _ h => List.mem_cons_of_mem _ (List.mem_append_right _ h)) hown hK hP (hts (.fieldLink RX12 205 "TalePlayModel" "rowMany" "I") (List.mem_cons_of_mem _ (List.mem_append_left _ (List.mem_append_left _ (List.mem_of_getElem? (i := 8) rfl))))) dX12_isExitBarred_219 ?_
                        refine lv_if_le (tgt := 229) hx hb dX12_isExitBarred_222 (by decide +kernel) (fun c10 => ?_) (fun c10 => ?_)
                        · have f10 := (ti_le (a := (i7 15).toInt) (b := 0) rfl (by decide +kernel)).mp c10
                          refine lv_iconst (v := 0) hx hb dX12_isExitBarred_229 (by decide +kernel) ?_
                          exact rw_zret (i7, q7, c7, d7) hx hb hr hlocks hS (hK.sub (tys' := []) [] rfl) hP hD rfl dX12_isExitBarred_230 ⟨⟨(show 0 ≤ (0 : Int32).toInt ∧ (0 : Int32).toInt ≤ 1 from by have h9 : (0 : Int32).toInt = 0 := (by decide +kernel); omega), (show Sm (0 : Int32) (XbM (c 9) (c 10) (c 11) (c 12) (c 13) (i 8).toInt (kS (c 3) (c 6) w2.toInt) w1.toInt w2.toInt w3.toInt) from by first | (exfalso; omega; done) | exact sm_0 (fun h9 => by rcases h9 with h9 | ⟨_, h9 | h9⟩; (· exact h9 ((fs_no hz1_1 (by omega)).symm)); (· exact h9 ((fs_no hz5_1 (by omega)).symm)); (· rw [show (i 8).toInt = y7_4.toInt by omega] at h9; exact CN_1 hz7_1 (by omega) h9)))⟩, hI, fr_w hfi (by decide +kernel), fr_w hfc (by decide +kernel)⟩
                        · have f10 := mt (ti_le (a := (i7 15).toInt) (b := 0) rfl (by decide +kernel)).mpr c10
                          refine lv_iconst (v := 1) hx hb dX12_isExitBarred_225 (by decide +kernel) ?_
                          refine lv_goto (tgt := 230) hx hb dX12_isExitBarred_226 (by decide +kernel) ?_
                          exact rw_zret (i7, q7, c7, d7) hx hb hr hlocks hS (hK.sub (tys' := []) [] rfl) hP hD rfl dX12_isExitBarred_230 ⟨⟨(show 0 ≤ (1 : Int32).toInt ∧ (1 : Int32).toInt ≤ 1 from by have h9 : (1 : Int32).toInt = 1 := (by decide +kernel); omega), (show Sm (1 : Int32) (XbM (c 9) (c 10) (c 11) (c 12) (c 13) (i 8).toInt (kS (c 3) (c 6) w2.toInt) w1.toInt w2.toInt w3.toInt) from by first | (exfalso; omega; done) | exact sm_1 (Or.inr ⟨by omega, Or.inr (by rw [show (i 8).toInt = y7_4.toInt by omega]; exact CN_2 hz7_1 (by omega))⟩))⟩, hI, fr_w hfi (by decide +kernel), fr_w hfc (by decide +kernel)⟩
                      · have f9 := mt (ti_le (a := 2) (b := (i7 15).toInt) (by decide +kernel) rfl).mpr c9
                        refine lv_aload_n hx hb dX12_isExitBarred_213 rfl (lv_at hl 1 rfl) ?_
                        refine lv_iconst (v := 0) hx hb dX12_isExitBarred_214 (by decide +kernel) ?_
                        refine mput_15 hx hb hts (fun _ h => List.mem_cons_of_mem _ (List.mem_append_right _ h)) hown hK hP hD hS (hts (.fieldLink RX12 205 "TalePlayModel" "rowMany" "I") (List.mem_cons_of_mem _ (List.mem_append_left _ (List.mem_append_left _ (List.mem_of_getElem? (i := 8) rfl))))) rfl rfl dX12_isExitBarred_215 (fun H locs hP hD hS => ?_)
                        have hI := mInv_i hI (k := 15) (v := 0) (show 0 ≤ (0 : Int32).toInt ∧ (0 : Int32).toInt ≤ 200 from by have h9 : (0 : Int32).toInt = 0 := (by decide +kernel); omega)
                        have hfi := fr_i hfi (k := 15) (v := 0) (by decide +kernel)
                        refine lv_aload_n hx hb dX12_isExitBarred_218 rfl (lv_at hl 1 rfl) ?_
                        refine mget_15 (i := (upd i7 15 0)) (v := 0) rfl hx hb hts (fun _ h => List.mem_cons_of_mem _ (List.mem_append_right _ h)) hown hK hP (hts (.fieldLink RX12 205 "TalePlayModel" "rowMany" "I") (List.mem_cons_of_mem _ (List.mem_append_left _ (List.mem_append_left _ (List.mem_of_getElem? (i := 8) rfl))))) dX12_isExitBarred_219 ?_
                        refine lv_if_le (tgt := 229) hx hb dX12_isExitBarred_222 (by decide +kernel) (fun _ => ?_) (fun q9 => absurd (by decide +kernel) q9)
                        refine lv_iconst (v := 0) hx hb dX12_isExitBarred_229 (by decide +kernel) ?_
                        exact rw_zret ((upd i7 15 0), q7, c7, d7) hx hb hr hlocks hS (hK.sub (tys' := []) [] rfl) hP hD rfl dX12_isExitBarred_230 ⟨⟨(show 0 ≤ (0 : Int32).toInt ∧ (0 : Int32).toInt ≤ 1 from by have h9 : (0 : Int32).toInt = 0 := (by decide +kernel); omega), (show Sm (0 : Int32) (XbM (c 9) (c 10) (c 11) (c 12) (c 13) (i 8).toInt (kS (c 3) (c 6) w2.toInt) w1.toInt w2.toInt w3.toInt) from by first | (exfalso; omega; done) | exact sm_0 (fun h9 => by rcases h9 with h9 | ⟨_, h9 | h9⟩; (· exact h9 ((fs_no hz1_1 (by omega)).symm)); (· exact h9 ((fs_no hz5_1 (by omega)).symm)); (· rw [show (i 8).toInt = y7_4.toInt by omega] at h9; exact CN_1 hz7_1 (by omega) h9)))⟩, hI, fr_w hfi (by decide +kernel), fr_w hfc (by decide +kernel)⟩
                    · have f8 := mt (ti_le (a := (i7 8).toInt) (b := y7_4.toInt) rfl rfl).mpr c8
                      refine lv_aload_n hx hb dX12_isExitBarred_161 rfl (lv_at hl 1 rfl) ?_
                      refine mget_13 hx hb hts (fun _ h => List.mem_cons_of_mem _ (List.mem_append_right _ h)) hown hK hP (hts (.fieldLink RX12 37 "TalePlayModel" "isSaid" "[Z") (List.mem_cons_of_mem _ (List.mem_append_left _ (List.mem_append_left _ (List.mem_of_getElem? (i := 9) rfl))))) dX12_isExitBarred_162 ?_
                      refine lv_iload hx hb dX12_isExitBarred_165 (lv_at hl 0 rfl) ?_
                      refine mld_13 hx hb hK hP (vp_in_iff.mpr (by have h9 : y7_4.toInt = y7_4.toInt := rfl; omega)) dX12_isExitBarred_167 (fun x11 ex11 => ?_)
                      have rx11 : 0 ≤ x11.toInt ∧ x11.toInt ≤ 1 := by rw [ex11]; exact hI.2 13 _
                      have gx11 : (c 13 (y7_4 : Int32).toNatClampNeg).toInt = x11.toInt := by rw [ex11, show c7 13 = c 13 from hfc 13 (by decide +kernel)]
                      refine lv_if_eq (tgt := 199) hx hb dX12_isExitBarred_168 (by decide +kernel) (fun c12 => ?_) (fun c12 => ?_)
                      · have f12 := (ti_eq (a := x11.toInt) (b := 0) rfl (by decide +kernel)).mp c12
                        obtain ⟨x13, ex13⟩ : ∃ y : Int32, y = y7_4 + 1 := ⟨_, rfl⟩
                        have tx13 := ti_add (a := y7_4.toInt) (b := 1) ex13 rfl (by decide +kernel) (by omega) (by omega)
                        refine lv_iinc (v := x13) (lv' := [(4, .int x13), (0, .ref o), (1, .int w1), (2, .int w2), (3, .int w3)]) hx hb dX12_isExitBarred_199 hl (k := 0) rfl (by rw [ex13]; rfl) (by decide +kernel) rfl (fun ls hl => ?_)
                        refine lv_goto (tgt := 152) hx hb dX12_isExitBarred_202 (by decide +kernel) ?_
                        exact ih7 i7 q7 c7 d7 x13 hI (fr_w hfi (by decide +kernel)) (fr_w hfc (by decide +kernel)) (show 0 ≤ x13.toInt ∧ x13.toInt ≤ 200 ∧ x13.toInt ≤ (i 8).toInt from by have h50 : x13.toInt = (y7_4.toInt + 1) := tx13; omega) (show ((i7 15) : Int32).toInt ≤ x13.toInt from by have h50 : x13.toInt = (y7_4.toInt + 1) := tx13; omega) (show CN (EB (c 9) (c 11) (c 13) w2.toInt) x13.toInt ((i7 15) : Int32).toInt from CN_n hz7_1 (by omega) (by unfold EB; omega) tx13) (by have h50 : x13.toInt = (y7_4.toInt + 1) := tx13; omega) _ _ _ hP hD hS (lv_sub hl [0, 1, 2, 3, 4] rfl)
                      · have f12 := mt (ti_eq (a := x11.toInt) (b := 0) rfl (by decide +kernel)).mpr c12
                        refine lv_aload_n hx hb dX12_isExitBarred_171 rfl (lv_at hl 1 rfl) ?_
                        refine mget_9 hx hb hts (fun _ h => List.mem_cons_of_mem _ (List.mem_append_right _ h)) hown hK hP (hts (.fieldLink RX12 25 "TalePlayModel" "form" "[I") (List.mem_cons_of_mem _ (List.mem_append_left _ (List.mem_append_left _ (List.mem_of_getElem? (i := 10) rfl))))) dX12_isExitBarred_172 ?_
                        refine lv_iload hx hb dX12_isExitBarred_175 (lv_at hl 0 rfl) ?_
                        refine mld_9 hx hb hK hP (vp_in_iff.mpr (by have h9 : y7_4.toInt = y7_4.toInt := rfl; omega)) dX12_isExitBarred_177 (fun x14 ex14 => ?_)
                        have rx14 : 0 ≤ x14.toInt ∧ x14.toInt ≤ 7 := by rw [ex14]; exact hI.2 9 _
                        have gx14 : (c 9 (y7_4 : Int32).toNatClampNeg).toInt = x14.toInt := by rw [ex14, show c7 9 = c 9 from hfc 9 (by decide +kernel)]
                        refine lv_iconst (v := 5) hx hb dX12_isExitBarred_178 (by decide +kernel) ?_
                        refine lv_icmp_ne (tgt := 199) hx hb dX12_isExitBarred_179 (by decide +kernel) (fun c15 => ?_) (fun c15 => ?_)
                        · have f15 := mt (ti_eq (a := x14.toInt) (b := 5) rfl (by decide +kernel)).mpr c15
                          obtain ⟨x16, ex16⟩ : ∃ y : Int32, y = y7_4 + 1 := ⟨_, rfl⟩
                          have tx16 := ti_add (a := y7_4.toInt) (b := 1) ex16 rfl (by decide +kernel) (by omega) (by omega)
                          refine lv_iinc (v := x16) (lv' := [(4, .int x16), (0, .ref o), (1, .int w1), (2, .int w2), (3, .int w3)]) hx hb dX12_isExitBarred_199 hl (k := 0) rfl (by rw [ex16]; rfl) (by decide +kernel) rfl (fun ls hl => ?_)
                          refine lv_goto (tgt := 152) hx hb dX12_isExitBarred_202 (by decide +kernel) ?_
                          exact ih7 i7 q7 c7 d7 x16 hI (fr_w hfi (by decide +kernel)) (fr_w hfc (by decide +kernel)) (show 0 ≤ x16.toInt ∧ x16.toInt ≤ 200 ∧ x16.toInt ≤ (i 8).toInt from by have h50 : x16.toInt = (y7_4.toInt + 1) := tx16; omega) (show ((i7 15) : Int32).toInt ≤ x16.toInt from by have h50 : x16.toInt = (y7_4.toInt + 1) := tx16; omega) (show CN (EB (c 9) (c 11) (c 13) w2.toInt) x16.toInt ((i7 15) : Int32).toInt from CN_n hz7_1 (by omega) (by unfold EB; omega) tx16) (by have h50 : x16.toInt = (y7_4.toInt + 1) := tx16; omega) _ _ _ hP hD hS (lv_sub hl [0, 1, 2, 3, 4] rfl)
                        · have f15 := (ti_eq (a := x14.toInt) (b := 5) rfl (by decide +kernel)).mp c15
                          refine lv_aload_n hx hb dX12_isExitBarred_182 rfl (lv_at hl 1 rfl) ?_
                          refine mget_11 hx hb hts (fun _ h => List.mem_cons_of_mem _ (List.mem_append_right _ h)) hown hK hP (hts (.fieldLink RX12 31 "TalePlayModel" "middle" "[I") (List.mem_cons_of_mem _ (List.mem_append_left _ (List.mem_append_left _ (List.mem_of_getElem? (i := 11) rfl))))) dX12_isExitBarred_183 ?_
                          refine lv_iload hx hb dX12_isExitBarred_186 (lv_at hl 0 rfl) ?_
                          refine mld_11 hx hb hK hP (vp_in_iff.mpr (by have h9 : y7_4.toInt = y7_4.toInt := rfl; omega)) dX12_isExitBarred_188 (fun x17 ex17 => ?_)
                          have rx17 : 0 ≤ x17.toInt ∧ x17.toInt ≤ 29 := by rw [ex17]; exact hI.2 11 _
                          have gx17 : (c 11 (y7_4 : Int32).toNatClampNeg).toInt = x17.toInt := by rw [ex17, show c7 11 = c 11 from hfc 11 (by decide +kernel)]
                          refine lv_iload_n hx hb dX12_isExitBarred_189 rfl (lv_at hl 3 rfl) ?_
                          refine lv_icmp_ne (tgt := 199) hx hb dX12_isExitBarred_190 (by decide +kernel) (fun c18 => ?_) (fun c18 => ?_)
                          · have f18 := mt (ti_eq (a := x17.toInt) (b := w2.toInt) rfl rfl).mpr c18
                            obtain ⟨x19, ex19⟩ : ∃ y : Int32, y = y7_4 + 1 := ⟨_, rfl⟩
                            have tx19 := ti_add (a := y7_4.toInt) (b := 1) ex19 rfl (by decide +kernel) (by omega) (by omega)
                            refine lv_iinc (v := x19) (lv' := [(4, .int x19), (0, .ref o), (1, .int w1), (2, .int w2), (3, .int w3)]) hx hb dX12_isExitBarred_199 hl (k := 0) rfl (by rw [ex19]; rfl) (by decide +kernel) rfl (fun ls hl => ?_)
                            refine lv_goto (tgt := 152) hx hb dX12_isExitBarred_202 (by decide +kernel) ?_
                            exact ih7 i7 q7 c7 d7 x19 hI (fr_w hfi (by decide +kernel)) (fr_w hfc (by decide +kernel)) (show 0 ≤ x19.toInt ∧ x19.toInt ≤ 200 ∧ x19.toInt ≤ (i 8).toInt from by have h50 : x19.toInt = (y7_4.toInt + 1) := tx19; omega) (show ((i7 15) : Int32).toInt ≤ x19.toInt from by have h50 : x19.toInt = (y7_4.toInt + 1) := tx19; omega) (show CN (EB (c 9) (c 11) (c 13) w2.toInt) x19.toInt ((i7 15) : Int32).toInt from CN_n hz7_1 (by omega) (by unfold EB; omega) tx19) (by have h50 : x19.toInt = (y7_4.toInt + 1) := tx19; omega) _ _ _ hP hD hS (lv_sub hl [0, 1, 2, 3, 4] rfl)
                          · have f18 := (ti_eq (a := x17.toInt) (b := w2.toInt) rfl rfl).mp c18
                            refine lv_aload_n hx hb dX12_isExitBarred_193 rfl (lv_at hl 1 rfl) ?_
                            refine lv_iload hx hb dX12_isExitBarred_194 (lv_at hl 0 rfl) ?_
                            have rb15_i7 : 0 ≤ (i7 15).toInt ∧ (i7 15).toInt ≤ 200 := hI.1 15
                            refine al_callv (va_runV (As := [.int y7_4]) (rest := []) ⟨hx, hb, hml, hown, hts⟩ (s_X12_clashes l D H.size o a t i7 q7 c7 d7 y7_4 hI (show 0 ≤ y7_4.toInt ∧ y7_4.toInt ≤ 199 from by omega) (show ((i7 15) : Int32).toInt ≤ 199 from by omega)) (cwV 1 hts gm_X12_isExitBarred_X12_clashes rfl rfl rfl (by decide +kernel) ⟨Nat.le_of_ble_eq_true rfl, Nat.le_of_ble_eq_true rfl⟩) (pB_V hK hP hD (ci := 12) (q0 := 0) rfl rfl) rfl rfl hl.1 rfl (lv_room (Nat.le_of_ble_eq_true rfl)) dX12_isExitBarred_196 ⟨Nat.le_of_ble_eq_true rfl, Nat.le_of_ble_eq_true rfl⟩) hS hA hP hD (fun u20 H locs hw20 hP hD hS => ?_)
                            obtain ⟨i20, q20, c20, d20⟩ := u20
                            have hw20 : True ∧ mInv i20 c20 ∧ (∀ k, k ∉ ([15] : List Nat) → i20 k = i7 k) ∧ (∀ k, k ∉ ([14] : List Nat) → c20 k = c7 k) ∧ ((i20 15).toInt = (i7 15).toInt + 1) := hw20
                            obtain ⟨hw20, hI, hei20, hec20, hxp20_0⟩ := hw20
                            have hxp20_0 : (i20 15).toInt = (i7 15).toInt + 1 := hxp20_0
                            have hfi : ∀ k, k ∉ ([15] : List Nat) → i20 k = i k := fr_z hfi hei20 (by decide +kernel) (by decide +kernel)
                            have hfc : ∀ k, k ∉ ([14] : List Nat) → c20 k = c k := fr_z hfc hec20 (by decide +kernel) (by decide +kernel)
                            have hP : va_P D vwCl (mW o a t i20 q20 c20 d20) H := hP
                            have hD : va_D A (mW o a t i20 q20 c20 d20) := hD
                            obtain ⟨x21, ex21⟩ : ∃ y : Int32, y = y7_4 + 1 := ⟨_, rfl⟩
                            have tx21 := ti_add (a := y7_4.toInt) (b := 1) ex21 rfl (by decide +kernel) (by omega) (by omega)
                            refine lv_iinc (v := x21) (lv' := [(4, .int x21), (0, .ref o), (1, .int w1), (2, .int w2), (3, .int w3)]) hx hb dX12_isExitBarred_199 hl (k := 0) rfl (by rw [ex21]; rfl) (by decide +kernel) rfl (fun ls hl => ?_)
                            refine lv_goto (tgt := 152) hx hb dX12_isExitBarred_202 (by decide +kernel) ?_
                            exact ih7 i20 q20 c20 d20 x21 hI (fr_w hfi (by decide +kernel)) (fr_w hfc (by decide +kernel)) (show 0 ≤ x21.toInt ∧ x21.toInt ≤ 200 ∧ x21.toInt ≤ (i 8).toInt from by have h50 : x21.toInt = (y7_4.toInt + 1) := tx21; omega) (show ((i20 15) : Int32).toInt ≤ x21.toInt from by have h50 : x21.toInt = (y7_4.toInt + 1) := tx21; omega) (show CN (EB (c 9) (c 11) (c 13) w2.toInt) x21.toInt ((i20 15) : Int32).toInt from CN_y hz7_1 (by omega) (by unfold EB; omega) tx21 (Or.inl hxp20_0)) (by have h50 : x21.toInt = (y7_4.toInt + 1) := tx21; omega) _ _ _ hP hD hS (lv_sub hl [0, 1, 2, 3, 4] rfl)
                exact lp7 _ i q c d (0 : Int32) hI (fr_w hfi (by decide +kernel)) (fr_w hfc (by decide +kernel)) (show 0 ≤ (0 : Int32).toInt ∧ (0 : Int32).toInt ≤ 200 ∧ (0 : Int32).toInt ≤ (i 8).toInt from by have h50 : (0 : Int32).toInt = 0 := (by decide +kernel); omega) (show ((i 15) : Int32).toInt ≤ (0 : Int32).toInt from by have h50 : (0 : Int32).toInt = 0 := (by decide +kernel); omega) (show CN (EB (c 9) (c 11) (c 13) w2.toInt) (0 : Int32).toInt ((i 15) : Int32).toInt from CN_0 (by decide +kernel) (by omega)) (Nat.lt_succ_self _) _ _ _ hP hD hS (lv_sub hl [0, 1, 2, 3, 4] rfl)
              · have f6 := mt (ti_le (a := (i 8).toInt) (b := y5_4.toInt) rfl rfl).mpr c6
                refine lv_aload_n hx hb dX12_isExitBarred_92 rfl (lv_at hl 1 rfl) ?_
                refine mget_13 hx hb hts (fun _ h => List.mem_cons_of_mem _ (List.mem_append_right _ h)) hown hK hP (hts (.fieldLink RX12 37 "TalePlayModel" "isSaid" "[Z") (List.mem_cons_of_mem _ (List.mem_append_left _ (List.mem_append_left _ (List.mem_of_getElem? (i := 9) rfl))))) dX12_isExitBarred_93 ?_
                refine lv_iload hx hb dX12_isExitBarred_96 (lv_at hl 0 rfl) ?_
                refine mld_13 hx hb hK hP (vp_in_iff.mpr (by have h9 : y5_4.toInt = y5_4.toInt := rfl; omega)) dX12_isExitBarred_98 (fun x22 ex22 => ?_)
                have rx22 : 0 ≤ x22.toInt ∧ x22.toInt ≤ 1 := by rw [ex22]; exact hI.2 13 _
                have gx22 : (c 13 (y5_4 : Int32).toNatClampNeg).toInt = x22.toInt := by rw [ex22]
                refine lv_if_eq (tgt := 143) hx hb dX12_isExitBarred_99 (by decide +kernel) (fun c23 => ?_) (fun c23 => ?_)
                · have f23 := (ti_eq (a := x22.toInt) (b := 0) rfl (by decide +kernel)).mp c23
                  obtain ⟨x24, ex24⟩ : ∃ y : Int32, y = y5_4 + 1 := ⟨_, rfl⟩
                  have tx24 := ti_add (a := y5_4.toInt) (b := 1) ex24 rfl (by decide +kernel) (by omega) (by omega)
                  refine lv_iinc (v := x24) (lv' := [(4, .int x24), (0, .ref o), (1, .int w1), (2, .int w2), (3, .int w3)]) hx hb dX12_isExitBarred_143 hl (k := 0) rfl (by rw [ex24]; rfl) (by decide +kernel) rfl (fun ls hl => ?_)
                  refine lv_goto (tgt := 83) hx hb dX12_isExitBarred_146 (by decide +kernel) ?_
                  exact ih5 x24 (show 0 ≤ x24.toInt ∧ x24.toInt ≤ 200 ∧ x24.toInt ≤ (i 8).toInt from by have h50 : x24.toInt = (y5_4.toInt + 1) := tx24; omega) (show ((i 15) : Int32).toInt = 0 from by have h50 : x24.toInt = (y5_4.toInt + 1) := tx24; omega) (show ∀ s : Nat, (s : Int) < x24.toInt → ¬ aP (c 9) (c 10) (c 11) (c 13) w1.toInt w2.toInt s from fs_go hz5_1 (by omega) (by unfold aP; omega) tx24) (by have h50 : x24.toInt = (y5_4.toInt + 1) := tx24; omega) _ _ _ hP hD hS (lv_sub hl [0, 1, 2, 3, 4] rfl)
                · have f23 := mt (ti_eq (a := x22.toInt) (b := 0) rfl (by decide +kernel)).mpr c23
                  refine lv_aload_n hx hb dX12_isExitBarred_102 rfl (lv_at hl 1 rfl) ?_
                  refine mget_9 hx hb hts (fun _ h => List.mem_cons_of_mem _ (List.mem_append_right _ h)) hown hK hP (hts (.fieldLink RX12 25 "TalePlayModel" "form" "[I") (List.mem_cons_of_mem _ (List.mem_append_left _ (List.mem_append_left _ (List.mem_of_getElem? (i := 10) rfl))))) dX12_isExitBarred_103 ?_
                  refine lv_iload hx hb dX12_isExitBarred_106 (lv_at hl 0 rfl) ?_
                  refine mld_9 hx hb hK hP (vp_in_iff.mpr (by have h9 : y5_4.toInt = y5_4.toInt := rfl; omega)) dX12_isExitBarred_108 (fun x25 ex25 => ?_)
                  have rx25 : 0 ≤ x25.toInt ∧ x25.toInt ≤ 7 := by rw [ex25]; exact hI.2 9 _
                  have gx25 : (c 9 (y5_4 : Int32).toNatClampNeg).toInt = x25.toInt := by rw [ex25]
                  refine lv_iconst (v := 5) hx hb dX12_isExitBarred_109 (by decide +kernel) ?_
                  refine lv_icmp_ne (tgt := 143) hx hb dX12_isExitBarred_110 (by decide +kernel) (fun c26 => ?_) (fun c26 => ?_)
                  · have f26 := mt (ti_eq (a := x25.toInt) (b := 5) rfl (by decide +kernel)).mpr c26
                    obtain ⟨x27, ex27⟩ : ∃ y : Int32, y = y5_4 + 1 := ⟨_, rfl⟩
                    have tx27 := ti_add (a := y5_4.toInt) (b := 1) ex27 rfl (by decide +kernel) (by omega) (by omega)
                    refine lv_iinc (v := x27) (lv' := [(4, .int x27), (0, .ref o), (1, .int w1), (2, .int w2), (3, .int w3)]) hx hb dX12_isExitBarred_143 hl (k := 0) rfl (by rw [ex27]; rfl) (by decide +kernel) rfl (fun ls hl => ?_)
                    refine lv_goto (tgt := 83) hx hb dX12_isExitBarred_146 (by decide +kernel) ?_
                    exact ih5 x27 (show 0 ≤ x27.toInt ∧ x27.toInt ≤ 200 ∧ x27.toInt ≤ (i 8).toInt from by have h50 : x27.toInt = (y5_4.toInt + 1) := tx27; omega) (show ((i 15) : Int32).toInt = 0 from by have h50 : x27.toInt = (y5_4.toInt + 1) := tx27; omega) (show ∀ s : Nat, (s : Int) < x27.toInt → ¬ aP (c 9) (c 10) (c 11) (c 13) w1.toInt w2.toInt s from fs_go hz5_1 (by omega) (by unfold aP; omega) tx27) (by have h50 : x27.toInt = (y5_4.toInt + 1) := tx27; omega) _ _ _ hP hD hS (lv_sub hl [0, 1, 2, 3, 4] rfl)
                  · have f26 := (ti_eq (a := x25.toInt) (b := 5) rfl (by decide +kernel)).mp c26
                    refine lv_aload_n hx hb dX12_isExitBarred_113 rfl (lv_at hl 1 rfl) ?_
                    refine mget_10 hx hb hts (fun _ h => List.mem_cons_of_mem _ (List.mem_append_right _ h)) hown hK hP (hts (.fieldLink RX12 28 "TalePlayModel" "left" "[I") (List.mem_cons_of_mem _ (List.mem_append_left _ (List.mem_append_right _ (List.mem_of_getElem? (i := 1) rfl))))) dX12_isExitBarred_114 ?_
                    refine lv_iload hx hb dX12_isExitBarred_117 (lv_at hl 0 rfl) ?_
                    refine mld_10 hx hb hK hP (vp_in_iff.mpr (by have h9 : y5_4.toInt = y5_4.toInt := rfl; omega)) dX12_isExitBarred_119 (fun x28 ex28 => ?_)
                    have rx28 : 0 ≤ x28.toInt ∧ x28.toInt ≤ 29 := by rw [ex28]; exact hI.2 10 _
                    have gx28 : (c 10 (y5_4 : Int32).toNatClampNeg).toInt = x28.toInt := by rw [ex28]
                    refine lv_iload_n hx hb dX12_isExitBarred_120 rfl (lv_at hl 2 rfl) ?_
                    refine lv_icmp_ne (tgt := 143) hx hb dX12_isExitBarred_121 (by decide +kernel) (fun c29 => ?_) (fun c29 => ?_)
                    · have f29 := mt (ti_eq (a := x28.toInt) (b := w1.toInt) rfl rfl).mpr c29
                      obtain ⟨x30, ex30⟩ : ∃ y : Int32, y = y5_4 + 1 := ⟨_, rfl⟩
                      have tx30 := ti_add (a := y5_4.toInt) (b := 1) ex30 rfl (by decide +kernel) (by omega) (by omega)
                      refine lv_iinc (v := x30) (lv' := [(4, .int x30), (0, .ref o), (1, .int w1), (2, .int w2), (3, .int w3)]) hx hb dX12_isExitBarred_143 hl (k := 0) rfl (by rw [ex30]; rfl) (by decide +kernel) rfl (fun ls hl => ?_)
                      refine lv_goto (tgt := 83) hx hb dX12_isExitBarred_146 (by decide +kernel) ?_
                      exact ih5 x30 (show 0 ≤ x30.toInt ∧ x30.toInt ≤ 200 ∧ x30.toInt ≤ (i 8).toInt from by have h50 : x30.toInt = (y5_4.toInt + 1) := tx30; omega) (show ((i 15) : Int32).toInt = 0 from by have h50 : x30.toInt = (y5_4.toInt + 1) := tx30; omega) (show ∀ s : Nat, (s : Int) < x30.toInt → ¬ aP (c 9) (c 10) (c 11) (c 13) w1.toInt w2.toInt s from fs_go hz5_1 (by omega) (by unfold aP; omega) tx30) (by have h50 : x30.toInt = (y5_4.toInt + 1) := tx30; omega) _ _ _ hP hD hS (lv_sub hl [0, 1, 2, 3, 4] rfl)
                    · have f29 := (ti_eq (a := x28.toInt) (b := w1.toInt) rfl rfl).mp c29
                      refine lv_aload_n hx hb dX12_isExitBarred_124 rfl (lv_at hl 1 rfl) ?_
                      refine mget_11 hx hb hts (fun _ h => List.mem_cons_of_mem _ (List.mem_append_right _ h)) hown hK hP (hts (.fieldLink RX12 31 "TalePlayModel" "middle" "[I") (List.mem_cons_of_mem _ (List.mem_append_left _ (List.mem_append_left _ (List.mem_of_getElem? (i := 11) rfl))))) dX12_isExitBarred_125 ?_
                      refine lv_iload hx hb dX12_isExitBarred_128 (lv_at hl 0 rfl) ?_
                      refine mld_11 hx hb hK hP (vp_in_iff.mpr (by have h9 : y5_4.toInt = y5_4.toInt := rfl; omega)) dX12_isExitBarred_130 (fun x31 ex31 => ?_)
                      have rx31 : 0 ≤ x31.toInt ∧ x31.toInt ≤ 29 := by rw [ex31]; exact hI.2 11 _
                      have gx31 : (c 11 (y5_4 : Int32).toNatClampNeg).toInt = x31.toInt := by rw [ex31]
                      refine lv_iload_n hx hb dX12_isExitBarred_131 rfl (lv_at hl 3 rfl) ?_
                      refine lv_icmp_ne (tgt := 143) hx hb dX12_isExitBarred_132 (by decide +kernel) (fun c32 => ?_) (fun c32 => ?_)
                      · have f32 := mt (ti_eq (a := x31.toInt) (b := w2.toInt) rfl rfl).mpr c32
                        obtain ⟨x33, ex33⟩ : ∃ y : Int32, y = y5_4 + 1 := ⟨_, rfl⟩
                        have tx33 := ti_add (a := y5_4.toInt) (b := 1) ex33 rfl (by decide +kernel) (by omega) (by omega)
                        refine lv_iinc (v := x33) (lv' := [(4, .int x33), (0, .ref o), (1, .int w1), (2, .int w2), (3, .int w3)]) hx hb dX12_isExitBarred_143 hl (k := 0) rfl (by rw [ex33]; rfl) (by decide +kernel) rfl (fun ls hl => ?_)
                        refine lv_goto (tgt := 83) hx hb dX12_isExitBarred_146 (by decide +kernel) ?_
                        exact ih5 x33 (show 0 ≤ x33.toInt ∧ x33.toInt ≤ 200 ∧ x33.toInt ≤ (i 8).toInt from by have h50 : x33.toInt = (y5_4.toInt + 1) := tx33; omega) (show ((i 15) : Int32).toInt = 0 from by have h50 : x33.toInt = (y5_4.toInt + 1) := tx33; omega) (show ∀ s : Nat, (s : Int) < x33.toInt → ¬ aP (c 9) (c 10) (c 11) (c 13) w1.toInt w2.toInt s from fs_go hz5_1 (by omega) (by unfold aP; omega) tx33) (by have h50 : x33.toInt = (y5_4.toInt + 1) := tx33; omega) _ _ _ hP hD hS (lv_sub hl [0, 1, 2, 3, 4] rfl)
                      · have f32 := (ti_eq (a := x31.toInt) (b := w2.toInt) rfl rfl).mp c32
                        refine lv_aload_n hx hb dX12_isExitBarred_135 rfl (lv_at hl 1 rfl) ?_
                        refine lv_iload hx hb dX12_isExitBarred_136 (lv_at hl 0 rfl) ?_
                        refine al_callv (va_runV (As := [.int y5_4]) (rest := []) ⟨hx, hb, hml, hown, hts⟩ (s_X12_clashes l D H.size o a t i q c d y5_4 hI (show 0 ≤ y5_4.toInt ∧ y5_4.toInt ≤ 199 from by omega) (show ((i 15) : Int32).toInt ≤ 199 from by omega)) (cwV 1 hts gm_X12_isExitBarred_X12_clashes rfl rfl rfl (by decide +kernel) ⟨Nat.le_of_ble_eq_true rfl, Nat.le_of_ble_eq_true rfl⟩) (pB_V hK hP hD (ci := 12) (q0 := 0) rfl rfl) rfl rfl hl.1 rfl (lv_room (Nat.le_of_ble_eq_true rfl)) dX12_isExitBarred_138 ⟨Nat.le_of_ble_eq_true rfl, Nat.le_of_ble_eq_true rfl⟩) hS hA hP hD (fun u34 H locs hw34 hP hD hS => ?_)
                        obtain ⟨i34, q34, c34, d34⟩ := u34
                        have hw34 : True ∧ mInv i34 c34 ∧ (∀ k, k ∉ ([15] : List Nat) → i34 k = i k) ∧ (∀ k, k ∉ ([14] : List Nat) → c34 k = c k) ∧ ((i34 15).toInt = (i 15).toInt + 1) := hw34
                        obtain ⟨hw34, hI, hei34, hec34, hxp34_0⟩ := hw34
                        have hxp34_0 : (i34 15).toInt = (i 15).toInt + 1 := hxp34_0
                        have hfi : ∀ k, k ∉ ([15] : List Nat) → i34 k = i k := fr_z hfi hei34 (by decide +kernel) (by decide +kernel)
                        have hfc : ∀ k, k ∉ ([14] : List Nat) → c34 k = c k := fr_z hfc hec34 (by decide +kernel) (by decide +kernel)
                        have hP : va_P D vwCl (mW o a t i34 q34 c34 d34) H := hP
                        have hD : va_D A (mW o a t i34 q34 c34 d34) := hD
                        refine lv_iconst (v := 1) hx hb dX12_isExitBarred_141 (by decide +kernel) ?_
                        exact rw_zret (i34, q34, c34, d34) hx hb hr hlocks hS (hK.sub (tys' := []) [] rfl) hP hD rfl dX12_isExitBarred_142 ⟨⟨(show 0 ≤ (1 : Int32).toInt ∧ (1 : Int32).toInt ≤ 1 from by have h9 : (1 : Int32).toInt = 1 := (by decide +kernel); omega), (show Sm (1 : Int32) (XbM (c 9) (c 10) (c 11) (c 12) (c 13) (i 8).toInt (kS (c 3) (c 6) w2.toInt) w1.toInt w2.toInt w3.toInt) from sm_1 (Or.inr ⟨by omega, Or.inl (fsF_x.mpr ⟨y5_4.toNatClampNeg, by rw [cl_nn (by omega)]; omega, by unfold aP; omega⟩)⟩))⟩, hI, fr_w hfi (by decide +kernel), fr_w hfc (by decide +kernel)⟩
          exact lp5 _ (0 : Int32) (show 0 ≤ (0 : Int32).toInt ∧ (0 : Int32).toInt ≤ 200 ∧ (0 : Int32).toInt ≤ (i 8).toInt from by have h50 : (0 : Int32).toInt = 0 := (by decide +kernel); omega) (show ((i 15) : Int32).toInt = 0 from by have h50 : (0 : Int32).toInt = 0 := (by decide +kernel); omega) (show ∀ s : Nat, (s : Int) < (0 : Int32).toInt → ¬ aP (c 9) (c 10) (c 11) (c 13) w1.toInt w2.toInt s from fs_0 (by decide +kernel)) (Nat.lt_succ_self _) _ _ _ hP hD hS (lv_sub hl [0, 1, 2, 3, 4] rfl)
        · have f4 := (ti_eq (a := r3.toInt) (b := 0) rfl (by decide +kernel)).mp c4
          refine lv_iconst (v := 0) hx hb dX12_isExitBarred_78 (by decide +kernel) ?_
          exact rw_zret (i, q, c, d) hx hb hr hlocks hS (hK.sub (tys' := []) [] rfl) hP hD rfl dX12_isExitBarred_79 ⟨⟨(show 0 ≤ (0 : Int32).toInt ∧ (0 : Int32).toInt ≤ 1 from by have h9 : (0 : Int32).toInt = 0 := (by decide +kernel); omega), (show Sm (0 : Int32) (XbM (c 9) (c 10) (c 11) (c 12) (c 13) (i 8).toInt (kS (c 3) (c 6) w2.toInt) w1.toInt w2.toInt w3.toInt) from sm_0 (fun h9 => by rcases h9 with h9 | h9; (· exact h9 ((fs_no hz1_1 (by omega)).symm)); (· omega)))⟩, hI, fr_w hfi (by decide +kernel), fr_w hfc (by decide +kernel)⟩
      · have f2 := mt (ti_le (a := (i 8).toInt) (b := y1_4.toInt) rfl rfl).mpr c2
        refine lv_aload_n hx hb dX12_isExitBarred_12 rfl (lv_at hl 1 rfl) ?_
        refine mget_13 hx hb hts (fun _ h => List.mem_cons_of_mem _ (List.mem_append_right _ h)) hown hK hP (hts (.fieldLink RX12 37 "TalePlayModel" "isSaid" "[Z") (List.mem_cons_of_mem _ (List.mem_append_left _ (List.mem_append_left _ (List.mem_of_getElem? (i := 9) rfl))))) dX12_isExitBarred_13 ?_
        refine lv_iload hx hb dX12_isExitBarred_16 (lv_at hl 0 rfl) ?_
        refine mld_13 hx hb hK hP (vp_in_iff.mpr (by have h9 : y1_4.toInt = y1_4.toInt := rfl; omega)) dX12_isExitBarred_18 (fun x35 ex35 => ?_)
        have rx35 : 0 ≤ x35.toInt ∧ x35.toInt ≤ 1 := by rw [ex35]; exact hI.2 13 _
        have gx35 : (c 13 (y1_4 : Int32).toNatClampNeg).toInt = x35.toInt := by rw [ex35]
        refine lv_if_eq (tgt := 63) hx hb dX12_isExitBarred_19 (by decide +kernel) (fun c36 => ?_) (fun c36 => ?_)
        · have f36 := (ti_eq (a := x35.toInt) (b := 0) rfl (by decide +kernel)).mp c36
          obtain ⟨x37, ex37⟩ : ∃ y : Int32, y = y1_4 + 1 := ⟨_, rfl⟩
          have tx37 := ti_add (a := y1_4.toInt) (b := 1) ex37 rfl (by decide +kernel) (by omega) (by omega)
          refine lv_iinc (v := x37) (lv' := [(4, .int x37), (0, .ref o), (1, .int w1), (2, .int w2), (3, .int w3)]) hx hb dX12_isExitBarred_63 hl (k := 0) rfl (by rw [ex37]; rfl) (by decide +kernel) rfl (fun ls hl => ?_)
          refine lv_goto (tgt := 3) hx hb dX12_isExitBarred_66 (by decide +kernel) ?_
          exact ih1 x37 (show 0 ≤ x37.toInt ∧ x37.toInt ≤ 200 ∧ x37.toInt ≤ (i 8).toInt from by have h50 : x37.toInt = (y1_4.toInt + 1) := tx37; omega) (show ((i 15) : Int32).toInt = 0 from by have h50 : x37.toInt = (y1_4.toInt + 1) := tx37; omega) (show ∀ s : Nat, (s : Int) < x37.toInt → ¬ bP (c 9) (c 10) (c 12) (c 13) w1.toInt w3.toInt s from fs_go hz1_1 (by omega) (by unfold bP; omega) tx37) (by have h50 : x37.toInt = (y1_4.toInt + 1) := tx37; omega) _ _ _ hP hD hS (lv_sub hl [0, 1, 2, 3, 4] rfl)
        · have f36 := mt (ti_eq (a := x35.toInt) (b := 0) rfl (by decide +kernel)).mpr c36
          refine lv_aload_n hx hb dX12_isExitBarred_22 rfl (lv_at hl 1 rfl) ?_
          refine mget_9 hx hb hts (fun _ h => List.mem_cons_of_mem _ (List.mem_append_right _ h)) hown hK hP (hts (.fieldLink RX12 25 "TalePlayModel" "form" "[I") (List.mem_cons_of_mem _ (List.mem_append_left _ (List.mem_append_left _ (List.mem_of_getElem? (i := 10) rfl))))) dX12_isExitBarred_23 ?_
          refine lv_iload hx hb dX12_isExitBarred_26 (lv_at hl 0 rfl) ?_
          refine mld_9 hx hb hK hP (vp_in_iff.mpr (by have h9 : y1_4.toInt = y1_4.toInt := rfl; omega)) dX12_isExitBarred_28 (fun x38 ex38 => ?_)
          have rx38 : 0 ≤ x38.toInt ∧ x38.toInt ≤ 7 := by rw [ex38]; exact hI.2 9 _
          have gx38 : (c 9 (y1_4 : Int32).toNatClampNeg).toInt = x38.toInt := by rw [ex38]
          refine lv_iconst (v := 5) hx hb dX12_isExitBarred_29 (by decide +kernel) ?_
          refine lv_icmp_ne (tgt := 63) hx hb dX12_isExitBarred_30 (by decide +kernel) (fun c39 => ?_) (fun c39 => ?_)
          · have f39 := mt (ti_eq (a := x38.toInt) (b := 5) rfl (by decide +kernel)).mpr c39
            obtain ⟨x40, ex40⟩ : ∃ y : Int32, y = y1_4 + 1 := ⟨_, rfl⟩
            have tx40 := ti_add (a := y1_4.toInt) (b := 1) ex40 rfl (by decide +kernel) (by omega) (by omega)
            refine lv_iinc (v := x40) (lv' := [(4, .int x40), (0, .ref o), (1, .int w1), (2, .int w2), (3, .int w3)]) hx hb dX12_isExitBarred_63 hl (k := 0) rfl (by rw [ex40]; rfl) (by decide +kernel) rfl (fun ls hl => ?_)
            refine lv_goto (tgt := 3) hx hb dX12_isExitBarred_66 (by decide +kernel) ?_
            exact ih1 x40 (show 0 ≤ x40.toInt ∧ x40.toInt ≤ 200 ∧ x40.toInt ≤ (i 8).toInt from by have h50 : x40.toInt = (y1_4.toInt + 1) := tx40; omega) (show ((i 15) : Int32).toInt = 0 from by have h50 : x40.toInt = (y1_4.toInt + 1) := tx40; omega) (show ∀ s : Nat, (s : Int) < x40.toInt → ¬ bP (c 9) (c 10) (c 12) (c 13) w1.toInt w3.toInt s from fs_go hz1_1 (by omega) (by unfold bP; omega) tx40) (by have h50 : x40.toInt = (y1_4.toInt + 1) := tx40; omega) _ _ _ hP hD hS (lv_sub hl [0, 1, 2, 3, 4] rfl)
          · have f39 := (ti_eq (a := x38.toInt) (b := 5) rfl (by decide +kernel)).mp c39
            refine lv_aload_n hx hb dX12_isExitBarred_33 rfl (lv_at hl 1 rfl) ?_
            refine mget_10 hx hb hts (fun _ h => List.mem_cons_of_mem _ (List.mem_append_right _ h)) hown hK hP (hts (.fieldLink RX12 28 "TalePlayModel" "left" "[I") (List.mem_cons_of_mem _ (List.mem_append_left _ (List.mem_append_right _ (List.mem_of_getElem? (i := 1) rfl))))) dX12_isExitBarred_34 ?_
            refine lv_iload hx hb dX12_isExitBarred_37 (lv_at hl 0 rfl) ?_
            refine mld_10 hx hb hK hP (vp_in_iff.mpr (by have h9 : y1_4.toInt = y1_4.toInt := rfl; omega)) dX12_isExitBarred_39 (fun x41 ex41 => ?_)
            have rx41 : 0 ≤ x41.toInt ∧ x41.toInt ≤ 29 := by rw [ex41]; exact hI.2 10 _
            have gx41 : (c 10 (y1_4 : Int32).toNatClampNeg).toInt = x41.toInt := by rw [ex41]
            refine lv_iload_n hx hb dX12_isExitBarred_40 rfl (lv_at hl 2 rfl) ?_
            refine lv_icmp_ne (tgt := 63) hx hb dX12_isExitBarred_41 (by decide +kernel) (fun c42 => ?_) (fun c42 => ?_)
            · have f42 := mt (ti_eq (a := x41.toInt) (b := w1.toInt) rfl rfl).mpr c42
              obtain ⟨x43, ex43⟩ : ∃ y : Int32, y = y1_4 + 1 := ⟨_, rfl⟩
              have tx43 := ti_add (a := y1_4.toInt) (b := 1) ex43 rfl (by decide +kernel) (by omega) (by omega)
              refine lv_iinc (v := x43) (lv' := [(4, .int x43), (0, .ref o), (1, .int w1), (2, .int w2), (3, .int w3)]) hx hb dX12_isExitBarred_63 hl (k := 0) rfl (by rw [ex43]; rfl) (by decide +kernel) rfl (fun ls hl => ?_)
              refine lv_goto (tgt := 3) hx hb dX12_isExitBarred_66 (by decide +kernel) ?_
              exact ih1 x43 (show 0 ≤ x43.toInt ∧ x43.toInt ≤ 200 ∧ x43.toInt ≤ (i 8).toInt from by have h50 : x43.toInt = (y1_4.toInt + 1) := tx43; omega) (show ((i 15) : Int32).toInt = 0 from by have h50 : x43.toInt = (y1_4.toInt + 1) := tx43; omega) (show ∀ s : Nat, (s : Int) < x43.toInt → ¬ bP (c 9) (c 10) (c 12) (c 13) w1.toInt w3.toInt s from fs_go hz1_1 (by omega) (by unfold bP; omega) tx43) (by have h50 : x43.toInt = (y1_4.toInt + 1) := tx43; omega) _ _ _ hP hD hS (lv_sub hl [0, 1, 2, 3, 4] rfl)
            · have f42 := (ti_eq (a := x41.toInt) (b := w1.toInt) rfl rfl).mp c42
              refine lv_aload_n hx hb dX12_isExitBarred_44 rfl (lv_at hl 1 rfl) ?_
              refine mget_12 hx hb hts (fun _ h => List.mem_cons_of_mem _ (List.mem_append_right _ h)) hown hK hP (hts (.fieldLink RX12 34 "TalePlayModel" "right" "[I") (List.mem_cons_of_mem _ (List.mem_append_left _ (List.mem_append_right _ (List.mem_of_getElem? (i := 2) rfl))))) dX12_isExitBarred_45 ?_
              refine lv_iload hx hb dX12_isExitBarred_48 (lv_at hl 0 rfl) ?_
              refine mld_12 hx hb hK hP (vp_in_iff.mpr (by have h9 : y1_4.toInt = y1_4.toInt := rfl; omega)) dX12_isExitBarred_50 (fun x44 ex44 => ?_)
              have rx44 : 0 ≤ x44.toInt ∧ x44.toInt ≤ 9 := by rw [ex44]; exact hI.2 12 _
              have gx44 : (c 12 (y1_4 : Int32).toNatClampNeg).toInt = x44.toInt := by rw [ex44]
              refine lv_iload_n hx hb dX12_isExitBarred_51 rfl (lv_at hl 4 rfl) ?_
              refine lv_icmp_ne (tgt := 63) hx hb dX12_isExitBarred_52 (by decide +kernel) (fun c45 => ?_) (fun c45 => ?_)
              · have f45 := mt (ti_eq (a := x44.toInt) (b := w3.toInt) rfl rfl).mpr c45
                obtain ⟨x46, ex46⟩ : ∃ y : Int32, y = y1_4 + 1 := ⟨_, rfl⟩
                have tx46 := ti_add (a := y1_4.toInt) (b := 1) ex46 rfl (by decide +kernel) (by omega) (by omega)
                refine lv_iinc (v := x46) (lv' := [(4, .int x46), (0, .ref o), (1, .int w1), (2, .int w2), (3, .int w3)]) hx hb dX12_isExitBarred_63 hl (k := 0) rfl (by rw [ex46]; rfl) (by decide +kernel) rfl (fun ls hl => ?_)
                refine lv_goto (tgt := 3) hx hb dX12_isExitBarred_66 (by decide +kernel) ?_
                exact ih1 x46 (show 0 ≤ x46.toInt ∧ x46.toInt ≤ 200 ∧ x46.toInt ≤ (i 8).toInt from by have h50 : x46.toInt = (y1_4.toInt + 1) := tx46; omega) (show ((i 15) : Int32).toInt = 0 from by have h50 : x46.toInt = (y1_4.toInt + 1) := tx46; omega) (show ∀ s : Nat, (s : Int) < x46.toInt → ¬ bP (c 9) (c 10) (c 12) (c 13) w1.toInt w3.toInt s from fs_go hz1_1 (by omega) (by unfold bP; omega) tx46) (by have h50 : x46.toInt = (y1_4.toInt + 1) := tx46; omega) _ _ _ hP hD hS (lv_sub hl [0, 1, 2, 3, 4] rfl)
              · have f45 := (ti_eq (a := x44.toInt) (b := w3.toInt) rfl rfl).mp c45
                refine lv_aload_n hx hb dX12_isExitBarred_55 rfl (lv_at hl 1 rfl) ?_
                refine lv_iload hx hb dX12_isExitBarred_56 (lv_at hl 0 rfl) ?_
                refine al_callv (va_runV (As := [.int y1_4]) (rest := []) ⟨hx, hb, hml, hown, hts⟩ (s_X12_clashes l D H.size o a t i q c d y1_4 hI (show 0 ≤ y1_4.toInt ∧ y1_4.toInt ≤ 199 from by omega) (show ((i 15) : Int32).toInt ≤ 199 from by omega)) (cwV 1 hts gm_X12_isExitBarred_X12_clashes rfl rfl rfl (by decide +kernel) ⟨Nat.le_of_ble_eq_true rfl, Nat.le_of_ble_eq_true rfl⟩) (pB_V hK hP hD (ci := 12) (q0 := 0) rfl rfl) rfl rfl hl.1 rfl (lv_room (Nat.le_of_ble_eq_true rfl)) dX12_isExitBarred_58 ⟨Nat.le_of_ble_eq_true rfl, Nat.le_of_ble_eq_true rfl⟩) hS hA hP hD (fun u47 H locs hw47 hP hD hS => ?_)
                obtain ⟨i47, q47, c47, d47⟩ := u47
                have hw47 : True ∧ mInv i47 c47 ∧ (∀ k, k ∉ ([15] : List Nat) → i47 k = i k) ∧ (∀ k, k ∉ ([14] : List Nat) → c47 k = c k) ∧ ((i47 15).toInt = (i 15).toInt + 1) := hw47
                obtain ⟨hw47, hI, hei47, hec47, hxp47_0⟩ := hw47
                have hxp47_0 : (i47 15).toInt = (i 15).toInt + 1 := hxp47_0
                have hfi : ∀ k, k ∉ ([15] : List Nat) → i47 k = i k := fr_z hfi hei47 (by decide +kernel) (by decide +kernel)
                have hfc : ∀ k, k ∉ ([14] : List Nat) → c47 k = c k := fr_z hfc hec47 (by decide +kernel) (by decide +kernel)
                have hP : va_P D vwCl (mW o a t i47 q47 c47 d47) H := hP
                have hD : va_D A (mW o a t i47 q47 c47 d47) := hD
                refine lv_iconst (v := 1) hx hb dX12_isExitBarred_61 (by decide +kernel) ?_
                exact rw_zret (i47, q47, c47, d47) hx hb hr hlocks hS (hK.sub (tys' := []) [] rfl) hP hD rfl dX12_isExitBarred_62 ⟨⟨(show 0 ≤ (1 : Int32).toInt ∧ (1 : Int32).toInt ≤ 1 from by have h9 : (1 : Int32).toInt = 1 := (by decide +kernel); omega), (show Sm (1 : Int32) (XbM (c 9) (c 10) (c 11) (c 12) (c 13) (i 8).toInt (kS (c 3) (c 6) w2.toInt) w1.toInt w2.toInt w3.toInt) from sm_1 (Or.inl (fsF_x.mpr ⟨y1_4.toNatClampNeg, by rw [cl_nn (by omega)]; omega, by unfold bP; omega⟩)))⟩, hI, fr_w hfi (by decide +kernel), fr_w hfc (by decide +kernel)⟩
  exact lp1 _ (0 : Int32) (show 0 ≤ (0 : Int32).toInt ∧ (0 : Int32).toInt ≤ 200 ∧ (0 : Int32).toInt ≤ (i 8).toInt from by have h50 : (0 : Int32).toInt = 0 := (by decide +kernel); omega) (show ((i 15) : Int32).toInt = 0 from by have h50 : (0 : Int32).toInt = 0 := (by decide +kernel); omega) (show ∀ s : Nat, (s : Int) < (0 : Int32).toInt → ¬ bP (c 9) (c 10) (c 12) (c 13) w1.toInt w3.toInt s from fs_0 (by decide +kernel)) (Nat.lt_succ_self _) _ _ _ hP hD hS (lv_sub hl [0, 1, 2, 3, 4] rfl)

