def wm_X12_walk : List Cond := .code yX12_walk cX12_walk 7 none :: (([.fieldLink RX12 177 "TalePlayModel" "objects" "I", .fieldLink RX12 44 "TalePlayModel" "far" "[I", .fieldLink RX12 47 "TalePlayModel" "line" "[I", .methodLink RX12 281 yX12_findExit, .instanceMethod yX12_findExit, .selects RX12 yX12_findExit yX12_findExit, .initialized RX12, .code yX12_findExit cX12_findExit 6 (some .boolean), .fieldLink RX12 263 "TalePlayModel" "leads" "I", .fieldLink RX12 266 "TalePlayModel" "byDoor" "I", .fieldLink RX12 269 "TalePlayModel" "bySentence" "I", .fieldLink RX12 272 "TalePlayModel" "isImplied" "Z", .fieldLink RX12 202 "TalePlayModel" "sentences" "I", .fieldLink RX12 28 "TalePlayModel" "left" "[I", .fieldLink RX12 31 "TalePlayModel" "middle" "[I", .methodLink RX12 184 yX12_isOf, .instanceMethod yX12_isOf, .selects RX12 yX12_isOf yX12_isOf, .code yX12_isOf cX12_isOf 4 (some .boolean), .fieldLink RX12 19 "TalePlayModel" "kindOf" "[I", .fieldLink RX12 13 "TalePlayModel" "parentOf" "[I", .methodLink RX12 276 yX12_otherSide, .instanceMethod yX12_otherSide, .selects RX12 yX12_otherSide yX12_otherSide, .code yX12_otherSide cX12_otherSide 4 (some .int), .fieldLink RX12 37 "TalePlayModel" "isSaid" "[Z", .fieldLink RX12 25 "TalePlayModel" "form" "[I", .fieldLink RX12 34 "TalePlayModel" "right" "[I", .methodLink RX12 256 yX12_saidFlag, .instanceMethod yX12_saidFlag, .selects RX12 yX12_saidFlag yX12_saidFlag, .code yX12_saidFlag cX12_saidFlag 4 (some .int), .methodLink RX12 216 yX12_saidSo, .instanceMethod yX12_saidSo, .selects RX12 yX12_saidSo yX12_saidSo, .code yX12_saidSo cX12_saidSo 6 (some .int), .fieldLink RX12 16 "TalePlayModel" "defaults" "[I"] : List Cond) ++ wsX120)
set_option maxRecDepth 20000 in
theorem gm_X12_walk_X12_findExit : GoodIn wm_X12_walk (wsV RX12 281 RX12 yX12_findExit wm_X12_findExit) := goodIn_app (goodIn_of _ (by decide +kernel)) (goodIn_r _ [8, 9, 10, 11, 12, 13, 14, 15, 16, 17, 18, 7, 19, 20, 21, 22, 23, 24, 25, 26, 27, 28, 38, 39, 40, 41, 42, 43, 44, 45, 46, 47, 48, 49, 50, 51, 52, 53, 54, 55, 56, 57, 58, 59, 60, 61, 62, 63, 64, 65, 66, 67, 68, 69, 70, 71, 72, 73, 74, 75, 76, 77, 78, 79, 80, 81, 82, 83, 84, 85, 86, 87, 88, 89, 90, 91, 92, 93, 94, 95, 96, 97, 98, 99, 100, 101, 102, 103, 104, 105, 106] (by decide +kernel) (by decide +kernel))
set_option maxRecDepth 20000 in
theorem gm_X12_walk_X12_saidFlag : GoodIn wm_X12_walk (wsV RX12 256 RX12 yX12_saidFlag wm_X12_saidFlag) := goodIn_app (goodIn_of _ (by decide +kernel)) (goodIn_r _ [32, 33, 34, 35, 7, 36, 13, 26, 27, 14, 15, 28, 20, 16, 17, 18, 19, 21, 37, 38, 39, 40, 41, 42, 43, 44, 45, 46, 47, 48, 49, 50, 51, 52, 53, 54, 55, 56, 57, 58, 59, 60, 61, 62, 63, 64, 65, 66, 67, 68, 69, 70, 71, 72, 73, 74, 75, 76, 77, 78, 79, 80, 81, 82, 83, 84, 85, 86, 87, 88, 89, 90, 91, 92, 93, 94, 95, 96, 97, 98, 99, 100, 101, 102, 103, 104, 105, 106] (by decide +kernel) (by decide +kernel))
set_option maxHeartbeats 4000000 in
set_option maxRecDepth 100000 in
theorem s_X12_walk (l : Launch) (D : va_G) (sz : Nat) (o : Nat) (a : Nat → Nat) (t : Nat → ClassId) (i : Nat → Int32) (q : Int64) (c : Nat → Nat → Int32) (d : Nat → Nat → Int64) (w : Int32) (b1 : Int32) (hI : mInv i c) (hw : 0 ≤ w.toInt ∧ w.toInt ≤ 29) : Met l yX12_walk wm_X12_walk ({ frames := 2, cells := 0, slots := 0, locals := 48 }) (va_Pc [.ref o, .int w, .int b1] (pB D sz (mW o a t i q c d) (mT t))) (va_Qv (fun (u : MS) => True ∧ mInv u.1 u.2.2.1 ∧ (∀ k, k ∉ ([16, 17, 18, 19] : List Nat) → u.1 k = i k) ∧ (∀ k, k ∉ ([20, 21] : List Nat) → u.2.2.1 k = c k)) (oC D (va_A (mW o a t i q c d) sz) (fun u : MS => mW o a t u.1 u.2.1 u.2.2.1 u.2.2.2) (fun _ => [])) (va_A (mW o a t i q c d) sz)) 0 0 (va_A (mW o a t i q c d) sz) := by
  refine Met.ofW (cc := cX12_walk) (maxL := 7) (ret := none) (by decide) rfl ?_
  intro p e s m args below meth cd s₁ B hml hv
  obtain ⟨rfl, hsz, hP, hK, hD0⟩ := hv
  have hx := B.exec
  have hb := B.bytes
  have hr := B.returns
  have hts := atoms_spec (ws := wm_X12_walk) B.pre
  have hown : s.vm.findClass RX12 = some m.cls := findClass_of_methodNamed B.named
  have hlocks := B.notSynchronized
  subst hsz
  have hD := hD0.self (sz := s.heap.size)
  generalize hAe : va_A (mW o a t i q c d) s.heap.size = A at hD ⊢
  have hA : ∀ q : Nat, s.heap.size ≤ q → A q := fun q h => by rw [← hAe]; exact Or.inr h
  have hS : va_S A s.heap s.heap [] := va_S.rf
  have hfi : ∀ k, k ∉ ([] : List Nat) → i k = i k := fun _ _ => rfl
  have hfc : ∀ k, k ∉ ([] : List Nat) → c k = c k := fun _ _ => rfl
  have hl := lv_entry ([.ref o, .int w, .int b1]) (n := 7) (Nat.le_of_ble_eq_true rfl)
  rw [lg_entry_eq]
  generalize (lg_sl ([.ref o, .int w, .int b1]) ++ List.replicate (7 - (lg_sl ([.ref o, .int w, .int b1])).length) Slot.unset).toArray = ls at hl ⊢
  have hl : lv_has ls 7 [(0, .ref o), (1, .int w), (2, .int b1)] := hl
  refine lv_iconst (v := 0) hx hb dX12_walk_0 (by decide) ?_
  refine lv_istore_n (lv' := [(3, .int 0), (0, .ref o), (1, .int w), (2, .int b1)]) hx hb dX12_walk_1 rfl hl (by decide) rfl (fun ls hl => ?_)
  have lp1 : ∀ (fu : Nat) (i1 : Nat → Int32) (q1 : Int64) (c1 : Nat → Nat → Int32) (d1 : Nat → Nat → Int64) (y1_3 : Int32), mInv i1 c1 → (∀ k, k ∉ ([] : List Nat) → i1 k = i k) → (∀ k, k ∉ ([20] : List Nat) → c1 k = c k) → (0 ≤ y1_3.toInt ∧ y1_3.toInt ≤ 30) → (30 - y1_3.toInt).toNat < fu → ∀ (H : Heap) (locs : List Loc) (ls : Array Slot), va_P D vwCl (mW o a t i1 q1 c1 d1) H → va_D A (mW o a t i1 q1 c1 d1) → va_S A s.heap H locs → lv_has ls 7 [(3, .int y1_3), (0, .ref o), (1, .int w), (2, .int b1)] → W p l e (headSpec wm_X12_walk ({ frames := 2, cells := 0, slots := 0, locals := 48 })).room s m ([.ref o, .int w, .int b1] : List Value).toArray below meth cd H locs 0 0 (MQ below (va_Qv (fun (u : MS) => True ∧ mInv u.1 u.2.2.1 ∧ (∀ k, k ∉ ([16, 17, 18, 19] : List Nat) → u.1 k = i k) ∧ (∀ k, k ∉ ([20, 21] : List Nat) → u.2.2.1 k = c k)) (oC D A (fun u : MS => mW o a t u.1 u.2.1 u.2.2.1 u.2.2.2) (fun _ => [])) A) ([.ref o, .int w, .int b1] : List Value).toArray s 0 0 A) (F0 m 2 ls []) := by
    intro fu
    induction fu with
    | zero => intro i1 q1 c1 d1 y1_3 hI hfi hfc hy1_3 hm; exact absurd hm (Nat.not_lt_zero _)
    | succ fu ih =>
      intro i1 q1 c1 d1 y1_3 hI hfi hfc hy1_3 hm H locs ls hP hD hS hl
      have ih1 := ih
      refine lv_iload_n hx hb dX12_walk_2 rfl (lv_at hl 0 rfl) ?_
      refine lv_aload_n hx hb dX12_walk_3 rfl (lv_at hl 1 rfl) ?_
      refine mget_5 (v := (i1 5)) rfl hx hb hts (fun _ h => List.mem_cons_of_mem _ (List.mem_append_right _ h)) hown hK hP (hts (.fieldLink RX12 177 "TalePlayModel" "objects" "I") (by decide +kernel)) dX12_walk_4 ?_
      have rb5_i1 : 0 ≤ (i1 5).toInt ∧ (i1 5).toInt ≤ 30 := hI.1 5
      have re5_i1 : (i1 5).toInt = (i 5).toInt := congrArg Int32.toInt (hfi 5 (by decide))
      refine lv_icmp_ge (tgt := 24) hx hb dX12_walk_7 (by decide) (fun c2 => ?_) (fun c2 => ?_)
      · have f2 := (ti_le (a := (i1 5).toInt) (b := y1_3.toInt) rfl rfl).mp c2
        refine lv_aload_n hx hb dX12_walk_24 rfl (lv_at hl 1 rfl) ?_
        refine mget_20 hx hb hts (fun _ h => List.mem_cons_of_mem _ (List.mem_append_right _ h)) hown hK hP (hts (.fieldLink RX12 44 "TalePlayModel" "far" "[I") (by decide +kernel)) dX12_walk_25 ?_
        refine lv_iload_n hx hb dX12_walk_28 rfl (lv_at hl 2 rfl) ?_
        refine lv_iconst (v := 0) hx hb dX12_walk_29 (by decide) ?_
        refine mst_20 hx hb hK hP hD hS (vp_in_iff.mpr (by have h9 : w.toInt = w.toInt := rfl; omega)) dX12_walk_30 (fun H locs hP hD hS => ?_)
        have hI := mInv_c hI (k := 20) (j := (w : Int32).toNatClampNeg) (x := 0) (show (0 : Int32).toInt = -9 ∨ (0 ≤ (0 : Int32).toInt ∧ (0 : Int32).toInt ≤ 29) from by have h9 : (0 : Int32).toInt = 0 := (by decide); omega)
        have hfc := fr_c hfc (k := 20) (j := (w : Int32).toNatClampNeg) (x := 0) (by decide)
        refine lv_aload_n hx hb dX12_walk_31 rfl (lv_at hl 1 rfl) ?_
        refine mget_21 hx hb hts (fun _ h => List.mem_cons_of_mem _ (List.mem_append_right _ h)) hown hK hP (hts (.fieldLink RX12 47 "TalePlayModel" "line" "[I") (by decide +kernel)) dX12_walk_32 ?_
        refine lv_iconst (v := 0) hx hb dX12_walk_35 (by decide) ?_
        refine lv_iload_n hx hb dX12_walk_36 rfl (lv_at hl 2 rfl) ?_
        refine mst_21 hx hb hK hP hD hS (show vp_in 0 30 from by unfold vp_in; decide) dX12_walk_37 (fun H locs hP hD hS => ?_)
        have hI := mInv_c hI (k := 21) (j := (0 : Int32).toNatClampNeg) (x := w) (show 0 ≤ (w : Int32).toInt ∧ (w : Int32).toInt ≤ 29 from by omega)
        have hfc : ∀ k, k ∉ ([20, 21] : List Nat) → (updA (updA c1 20 (w : Int32).toNatClampNeg 0) 21 (0 : Int32).toNatClampNeg w) k = c k := fr_cz hfc (by decide) (by decide)
        refine lv_iconst (v := 1) hx hb dX12_walk_38 (by decide) ?_
        refine lv_istore_n (lv' := [(3, .int 1), (0, .ref o), (1, .int w), (2, .int b1)]) hx hb dX12_walk_39 rfl hl (by decide) rfl (fun ls hl => ?_)
        refine lv_iconst (v := 0) hx hb dX12_walk_40 (by decide) ?_
        refine lv_istore (lv' := [(4, .int 0), (3, .int 1), (0, .ref o), (1, .int w), (2, .int b1)]) hx hb dX12_walk_41 hl (by decide) rfl (fun ls hl => ?_)
        have lp3 : ∀ (fu : Nat) (i3 : Nat → Int32) (q3 : Int64) (c3 : Nat → Nat → Int32) (d3 : Nat → Nat → Int64) (y3_4 : Int32) (y3_3 : Int32), mInv i3 c3 → (∀ k, k ∉ ([16, 17, 18, 19] : List Nat) → i3 k = i k) → (∀ k, k ∉ ([20, 21] : List Nat) → c3 k = c k) → (0 ≤ y3_4.toInt ∧ y3_4.toInt ≤ 30) → (1 ≤ y3_3.toInt ∧ y3_3.toInt ≤ 30) → (WQ (c3 20) (c3 21) y3_3.toInt) → (30 - y3_4.toInt).toNat < fu → ∀ (H : Heap) (locs : List Loc) (ls : Array Slot), va_P D vwCl (mW o a t i3 q3 c3 d3) H → va_D A (mW o a t i3 q3 c3 d3) → va_S A s.heap H locs → lv_has ls 7 [(4, .int y3_4), (3, .int y3_3), (0, .ref o), (1, .int w), (2, .int b1)] → W p l e (headSpec wm_X12_walk ({ frames := 2, cells := 0, slots := 0, locals := 48 })).room s m ([.ref o, .int w, .int b1] : List Value).toArray below meth cd H locs 0 0 (MQ below (va_Qv (fun (u : MS) => True ∧ mInv u.1 u.2.2.1 ∧ (∀ k, k ∉ ([16, 17, 18, 19] : List Nat) → u.1 k = i k) ∧ (∀ k, k ∉ ([20, 21] : List Nat) → u.2.2.1 k = c k)) (oC D A (fun u : MS => mW o a t u.1 u.2.1 u.2.2.1 u.2.2.2) (fun _ => [])) A) ([.ref o, .int w, .int b1] : List Value).toArray s 0 0 A) (F0 m 43 ls []) := by
          intro fu
          induction fu with
          | zero => intro i3 q3 c3 d3 y3_4 y3_3 hI hfi hfc hy3_4 hy3_3 hz3_0 hm; exact absurd hm (Nat.not_lt_zero _)
          | succ fu ih =>
            intro i3 q3 c3 d3 y3_4 y3_3 hI hfi hfc hy3_4 hy3_3 hz3_0 hm H locs ls hP hD hS hl
            have ih3 := ih
            refine lv_iload hx hb dX12_walk_43 (lv_at hl 0 rfl) ?_
            refine lv_iload_n hx hb dX12_walk_45 rfl (lv_at hl 1 rfl) ?_
            refine lv_icmp_ge (tgt := 184) hx hb dX12_walk_46 (by decide) (fun c4 => ?_) (fun c4 => ?_)
            · have f4 := (ti_le (a := y3_3.toInt) (b := y3_4.toInt) rfl rfl).mp c4
              exact rw_vret (i3, q3, c3, d3) hx hb hr hlocks hS (hK.sub (tys' := []) [] rfl) hP hD dX12_walk_184 ⟨trivial, hI, fr_w hfi (by decide), fr_w hfc (by decide)⟩
            · have f4 := mt (ti_le (a := y3_3.toInt) (b := y3_4.toInt) rfl rfl).mpr c4
              refine lv_iconst (v := 0) hx hb dX12_walk_49 (by decide) ?_
              refine lv_istore (lv' := [(5, .int 0), (4, .int y3_4), (3, .int y3_3), (0, .ref o), (1, .int w), (2, .int b1)]) hx hb dX12_walk_50 hl (by decide) rfl (fun ls hl => ?_)
              have lp5 : ∀ (fu : Nat) (i5 : Nat → Int32) (q5 : Int64) (c5 : Nat → Nat → Int32) (d5 : Nat → Nat → Int64) (y5_5 : Int32) (y5_3 : Int32), mInv i5 c5 → (∀ k, k ∉ ([16, 17, 18, 19] : List Nat) → i5 k = i k) → (∀ k, k ∉ ([20, 21] : List Nat) → c5 k = c k) → (0 ≤ y5_5.toInt ∧ y5_5.toInt ≤ 10) → (1 ≤ y5_3.toInt ∧ y5_3.toInt ≤ 30) → (WQ (c5 20) (c5 21) y5_3.toInt) → (y3_4.toInt < y5_3.toInt) → (10 - y5_5.toInt).toNat < fu → ∀ (H : Heap) (locs : List Loc) (ls : Array Slot), va_P D vwCl (mW o a t i5 q5 c5 d5) H → va_D A (mW o a t i5 q5 c5 d5) → va_S A s.heap H locs → lv_has ls 7 [(5, .int y5_5), (4, .int y3_4), (3, .int y5_3), (0, .ref o), (1, .int w), (2, .int b1)] → W p l e (headSpec wm_X12_walk ({ frames := 2, cells := 0, slots := 0, locals := 48 })).room s m ([.ref o, .int w, .int b1] : List Value).toArray below meth cd H locs 0 0 (MQ below (va_Qv (fun (u : MS) => True ∧ mInv u.1 u.2.2.1 ∧ (∀ k, k ∉ ([16, 17, 18, 19] : List Nat) → u.1 k = i k) ∧ (∀ k, k ∉ ([20, 21] : List Nat) → u.2.2.1 k = c k)) (oC D A (fun u : MS => mW o a t u.1 u.2.1 u.2.2.1 u.2.2.2) (fun _ => [])) A) ([.ref o, .int w, .int b1] : List Value).toArray s 0 0 A) (F0 m 52 ls []) := by
                intro fu
                induction fu with
                | zero => intro i5 q5 c5 d5 y5_5 y5_3 hI hfi hfc hy5_5 hy5_3 hz5_0 hz5_1 hm; exact absurd hm (Nat.not_lt_zero _)
                | succ fu ih =>
                  intro i5 q5 c5 d5 y5_5 y5_3 hI hfi hfc hy5_5 hy5_3 hz5_0 hz5_1 hm H locs ls hP hD hS hl
                  have ih5 := ih
                  refine lv_iload hx hb dX12_walk_52 (lv_at hl 0 rfl) ?_
                  refine lv_bipush (v := 10) hx hb dX12_walk_54 (by decide) ?_
                  refine lv_icmp_ge (tgt := 178) hx hb dX12_walk_56 (by decide) (fun c6 => ?_) (fun c6 => ?_)
                  · have f6 := (ti_le (a := 10) (b := y5_5.toInt) (by decide) rfl).mp c6
                    obtain ⟨x7, ex7⟩ : ∃ y : Int32, y = y3_4 + 1 := ⟨_, rfl⟩
                    have tx7 := ti_add (a := y3_4.toInt) (b := 1) ex7 rfl (by decide) (by omega) (by omega)
                    refine lv_iinc (v := x7) (lv' := [(4, .int x7), (5, .int y5_5), (3, .int y5_3), (0, .ref o), (1, .int w), (2, .int b1)]) hx hb dX12_walk_178 hl (k := 1) rfl (by rw [ex7]; rfl) (by decide) rfl (fun ls hl => ?_)
                    refine lv_goto (tgt := 43) hx hb dX12_walk_181 (by decide) ?_
                    exact ih3 i5 q5 c5 d5 x7 y5_3 hI (fr_w hfi (by decide)) (fr_w hfc (by decide)) (show 0 ≤ x7.toInt ∧ x7.toInt ≤ 30 from by have h50 : x7.toInt = (y3_4.toInt + 1) := tx7; omega) (show 1 ≤ y5_3.toInt ∧ y5_3.toInt ≤ 30 from by have h50 : x7.toInt = (y3_4.toInt + 1) := tx7; omega) (show WQ (c5 20) (c5 21) y5_3.toInt from hz5_0) (by have h50 : x7.toInt = (y3_4.toInt + 1) := tx7; omega) _ _ _ hP hD hS (lv_sub hl [0, 2, 3, 4, 5] rfl)
                  · have f6 := mt (ti_le (a := 10) (b := y5_5.toInt) (by decide) rfl).mpr c6
                    refine lv_aload_n hx hb dX12_walk_59 rfl (lv_at hl 3 rfl) ?_
                    refine lv_aload_n hx hb dX12_walk_60 rfl (lv_at hl 3 rfl) ?_
                    refine mget_21 hx hb hts (fun _ h => List.mem_cons_of_mem _ (List.mem_append_right _ h)) hown hK hP (hts (.fieldLink RX12 47 "TalePlayModel" "line" "[I") (by decide +kernel)) dX12_walk_61 ?_
                    refine lv_iload hx hb dX12_walk_64 (lv_at hl 1 rfl) ?_
                    refine mld_21 hx hb hK hP (vp_in_iff.mpr (by have h9 : y3_4.toInt = y3_4.toInt := rfl; omega)) dX12_walk_66 (fun x8 ex8 => ?_)
                    have rx8 : 0 ≤ x8.toInt ∧ x8.toInt ≤ 29 := by rw [ex8]; exact hI.2 21 _
                    refine lv_iload hx hb dX12_walk_67 (lv_at hl 0 rfl) ?_
                    have rb8_i5 : 0 ≤ (i5 8).toInt ∧ (i5 8).toInt ≤ 200 := hI.1 8
                    have re8_i5 : (i5 8).toInt = (i 8).toInt := congrArg Int32.toInt (hfi 8 (by decide))
                    refine al_calli (va_runV (As := [.int x8, .int y5_5]) (rest := []) ⟨hx, hb, hml, hown, hts⟩ (s_X12_findExit l D H.size o a t i5 q5 c5 d5 x8 y5_5 hI (show 0 ≤ x8.toInt ∧ x8.toInt ≤ 29 from by omega) (show 0 ≤ y5_5.toInt ∧ y5_5.toInt ≤ 9 from by omega)) (cwV 2 hts gm_X12_walk_X12_findExit rfl rfl rfl (by decide +kernel) ⟨Nat.le_of_ble_eq_true rfl, Nat.le_of_ble_eq_true rfl⟩) (pB_V hK hP hD (ci := 12) (q0 := 0) rfl rfl) rfl rfl hl.1 rfl (lv_room (Nat.le_of_ble_eq_true rfl)) dX12_walk_69 ⟨Nat.le_of_ble_eq_true rfl, Nat.le_of_ble_eq_true rfl⟩) hS hA hP hD (fun r9 u9 H locs hw9 hP hD hS => ?_)
                    obtain ⟨i9, q9, c9, d9⟩ := u9
                    have hw9 : (0 ≤ r9.toInt ∧ r9.toInt ≤ 1) ∧ mInv i9 c9 ∧ (∀ k, k ∉ ([16, 17, 18, 19] : List Nat) → i9 k = i5 k) ∧ (∀ k, k ∉ ([] : List Nat) → c9 k = c5 k) ∧ (LdR (c5 3) (c5 6) (c5 9) (c5 10) (c5 11) (c5 12) (c5 13) (i5 8).toInt x8.toInt y5_5.toInt (i9 16).toInt) := hw9
                    obtain ⟨hw9, hI, hei9, hec9, hxp9_0⟩ := hw9
                    have hxp9_0 : LdR (c 3) (c 6) (c 9) (c 10) (c 11) (c 12) (c 13) (i 8).toInt x8.toInt y5_5.toInt (i9 16).toInt := by have h9 := hxp9_0; rw [show c5 3 = c 3 from hfc 3 (by decide), show c5 6 = c 6 from hfc 6 (by decide), show c5 9 = c 9 from hfc 9 (by decide), show c5 10 = c 10 from hfc 10 (by decide), show c5 11 = c 11 from hfc 11 (by decide), show c5 12 = c 12 from hfc 12 (by decide), show c5 13 = c 13 from hfc 13 (by decide), show i5 8 = i 8 from hfi 8 (by decide)] at h9; exact h9
                    have hfi : ∀ k, k ∉ ([16, 17, 18, 19] : List Nat) → i9 k = i k := fr_z hfi hei9 (by decide) (by decide)
                    have hfc : ∀ k, k ∉ ([20, 21] : List Nat) → c9 k = c k := fr_z hfc hec9 (by decide) (by decide)
                    have hP : va_P D vwCl (mW o a t i9 q9 c9 d9) H := hP
                    have hD : va_D A (mW o a t i9 q9 c9 d9) := hD
                    have hW : WQ (c9 20) (c9 21) y5_3.toInt := by rw [hec9 20 (by decide), hec9 21 (by decide)]; exact hz5_0
                    have jn10 : ∀ (z10_0 : Int32), (z10_0.toInt = 0 ∨ z10_0.toInt = 1) → (z10_0.toInt = 1 → ¬ ((i9 16) : Int32).toInt = -9) → ∀ (H : Heap) (locs : List Loc) (ls : Array Slot), va_P D vwCl (mW o a t i9 q9 c9 d9) H → va_D A (mW o a t i9 q9 c9 d9) → va_S A s.heap H locs → lv_has ls 7 [(5, .int y5_5), (4, .int y3_4), (3, .int y5_3), (0, .ref o), (1, .int w), (2, .int b1)] → W p l e (headSpec wm_X12_walk ({ frames := 2, cells := 0, slots := 0, locals := 48 })).room s m ([.ref o, .int w, .int b1] : List Value).toArray below meth cd H locs 0 0 (MQ below (va_Qv (fun (u : MS) => True ∧ mInv u.1 u.2.2.1 ∧ (∀ k, k ∉ ([16, 17, 18, 19] : List Nat) → u.1 k = i k) ∧ (∀ k, k ∉ ([20, 21] : List Nat) → u.2.2.1 k = c k)) (oC D A (fun u : MS => mW o a t u.1 u.2.1 u.2.2.1 u.2.2.2) (fun _ => [])) A) ([.ref o, .int w, .int b1] : List Value).toArray s 0 0 A) (F0 m 115 ls [.int z10_0]) := by
                      intro z10_0 hs10_0 hz10_0 H locs ls hP hD hS hl
                      refine lv_istore (lv' := [(6, .int z10_0), (5, .int y5_5), (4, .int y3_4), (3, .int y5_3), (0, .ref o), (1, .int w), (2, .int b1)]) hx hb dX12_walk_115 hl (by decide) rfl (fun ls hl => ?_)
                      refine lv_iload hx hb dX12_walk_117 (lv_at hl 0 rfl) ?_
                      have jn11 : ∀ (i11 : Nat → Int32) (q11 : Int64) (c11 : Nat → Nat → Int32) (d11 : Nat → Nat → Int64) (y11_3 : Int32), mInv i11 c11 → (∀ k, k ∉ ([16, 17, 18, 19] : List Nat) → i11 k = i k) → (∀ k, k ∉ ([20, 21] : List Nat) → c11 k = c k) → (1 ≤ y11_3.toInt ∧ y11_3.toInt ≤ 30) → (WQ (c11 20) (c11 21) y11_3.toInt) → (y3_4.toInt < y11_3.toInt) → ∀ (H : Heap) (locs : List Loc) (ls : Array Slot), va_P D vwCl (mW o a t i11 q11 c11 d11) H → va_D A (mW o a t i11 q11 c11 d11) → va_S A s.heap H locs → lv_has ls 7 [(6, .int z10_0), (5, .int y5_5), (4, .int y3_4), (0, .ref o), (1, .int w), (2, .int b1), (3, .int y11_3)] → W p l e (headSpec wm_X12_walk ({ frames := 2, cells := 0, slots := 0, locals := 48 })).room s m ([.ref o, .int w, .int b1] : List Value).toArray below meth cd H locs 0 0 (MQ below (va_Qv (fun (u : MS) => True ∧ mInv u.1 u.2.2.1 ∧ (∀ k, k ∉ ([16, 17, 18, 19] : List Nat) → u.1 k = i k) ∧ (∀ k, k ∉ ([20, 21] : List Nat) → u.2.2.1 k = c k)) (oC D A (fun u : MS => mW o a t u.1 u.2.1 u.2.2.1 u.2.2.2) (fun _ => [])) A) ([.ref o, .int w, .int b1] : List Value).toArray s 0 0 A) (F0 m 172 ls []) := by
                        intro i11 q11 c11 d11 y11_3 hI hfi hfc hy11_3 hz11_0 hz11_1 H locs ls hP hD hS hl
                        obtain ⟨x12, ex12⟩ : ∃ y : Int32, y = y5_5 + 1 := ⟨_, rfl⟩
                        have tx12 := ti_add (a := y5_5.toInt) (b := 1) ex12 rfl (by decide) (by omega) (by omega)
                        refine lv_iinc (v := x12) (lv' := [(5, .int x12), (6, .int z10_0), (4, .int y3_4), (0, .ref o), (1, .int w), (2, .int b1), (3, .int y11_3)]) hx hb dX12_walk_172 hl (k := 1) rfl (by rw [ex12]; rfl) (by decide) rfl (fun ls hl => ?_)
                        refine lv_goto (tgt := 52) hx hb dX12_walk_175 (by decide) ?_
                        exact ih5 i11 q11 c11 d11 x12 y11_3 hI (fr_w hfi (by decide)) (fr_w hfc (by decide)) (show 0 ≤ x12.toInt ∧ x12.toInt ≤ 10 from by have h50 : x12.toInt = (y5_5.toInt + 1) := tx12; omega) (show 1 ≤ y11_3.toInt ∧ y11_3.toInt ≤ 30 from by have h50 : x12.toInt = (y5_5.toInt + 1) := tx12; omega) (show WQ (c11 20) (c11 21) y11_3.toInt from hz11_0) (show y3_4.toInt < y11_3.toInt from by have h50 : x12.toInt = (y5_5.toInt + 1) := tx12; omega) (by have h50 : x12.toInt = (y5_5.toInt + 1) := tx12; omega) _ _ _ hP hD hS (lv_sub hl [0, 2, 6, 3, 4, 5] rfl)
                      refine lv_if_eq (tgt := 172) hx hb dX12_walk_119 (by decide) (fun c13 => ?_) (fun c13 => ?_)
                      · have f13 := (ti_eq (a := z10_0.toInt) (b := 0) rfl (by decide)).mp c13
                        exact jn11 i9 q9 c9 d9 y5_3  hI (fr_w hfi (by decide)) (fr_w hfc (by decide)) (show 1 ≤ y5_3.toInt ∧ y5_3.toInt ≤ 30 from by omega) (show WQ (c9 20) (c9 21) y5_3.toInt from hW) (show y3_4.toInt < y5_3.toInt from by omega) _ _ _ hP hD hS (lv_sub hl [0, 1, 2, 4, 5, 6, 3] rfl)
                      · have f13 := mt (ti_eq (a := z10_0.toInt) (b := 0) rfl (by decide)).mpr c13
                        refine lv_aload_n hx hb dX12_walk_122 rfl (lv_at hl 4 rfl) ?_
                        refine mget_20 hx hb hts (fun _ h => List.mem_cons_of_mem _ (List.mem_append_right _ h)) hown hK hP (hts (.fieldLink RX12 44 "TalePlayModel" "far" "[I") (by decide +kernel)) dX12_walk_123 ?_
                        refine lv_aload_n hx hb dX12_walk_126 rfl (lv_at hl 4 rfl) ?_
                        refine mget_16 (v := (i9 16)) rfl hx hb hts (fun _ h => List.mem_cons_of_mem _ (List.mem_append_right _ h)) hown hK hP (hts (.fieldLink RX12 263 "TalePlayModel" "leads" "I") (by decide +kernel)) dX12_walk_127 ?_
                        have rb16_i9 : (i9 16).toInt = -9 ∨ (0 ≤ (i9 16).toInt ∧ (i9 16).toInt ≤ 29) := hI.1 16
                        refine mld_20 hx hb hK hP (vp_in_iff.mpr (by have h9 : (i9 16).toInt = (i9 16).toInt := rfl; omega)) dX12_walk_130 (fun x14 ex14 => ?_)
                        have rx14 : x14.toInt = -9 ∨ (0 ≤ x14.toInt ∧ x14.toInt ≤ 29) := by rw [ex14]; exact hI.2 20 _
                        refine lv_bipush (v := (-9)) hx hb dX12_walk_131 (by decide) ?_
                        refine lv_icmp_ne (tgt := 172) hx hb dX12_walk_133 (by decide) (fun c15 => ?_) (fun c15 => ?_)
                        · have f15 := mt (ti_eq (a := x14.toInt) (b := (-9)) rfl (by decide)).mpr c15
                          exact jn11 i9 q9 c9 d9 y5_3  hI (fr_w hfi (by decide)) (fr_w hfc (by decide)) (show 1 ≤ y5_3.toInt ∧ y5_3.toInt ≤ 30 from by omega) (show WQ (c9 20) (c9 21) y5_3.toInt from hW) (show y3_4.toInt < y5_3.toInt from by omega) _ _ _ hP hD hS (lv_sub hl [0, 1, 2, 4, 5, 6, 3] rfl)
                        · have f15 := (ti_eq (a := x14.toInt) (b := (-9)) rfl (by decide)).mp c15
                          refine lv_aload_n hx hb dX12_walk_136 rfl (lv_at hl 4 rfl) ?_
                          refine mget_20 hx hb hts (fun _ h => List.mem_cons_of_mem _ (List.mem_append_right _ h)) hown hK hP (hts (.fieldLink RX12 44 "TalePlayModel" "far" "[I") (by decide +kernel)) dX12_walk_137 ?_
                          refine lv_aload_n hx hb dX12_walk_140 rfl (lv_at hl 4 rfl) ?_
                          refine mget_16 (v := (i9 16)) rfl hx hb hts (fun _ h => List.mem_cons_of_mem _ (List.mem_append_right _ h)) hown hK hP (hts (.fieldLink RX12 263 "TalePlayModel" "leads" "I") (by decide +kernel)) dX12_walk_141 ?_
                          refine lv_aload_n hx hb dX12_walk_144 rfl (lv_at hl 4 rfl) ?_
                          refine mget_20 hx hb hts (fun _ h => List.mem_cons_of_mem _ (List.mem_append_right _ h)) hown hK hP (hts (.fieldLink RX12 44 "TalePlayModel" "far" "[I") (by decide +kernel)) dX12_walk_145 ?_
                          refine lv_aload_n hx hb dX12_walk_148 rfl (lv_at hl 4 rfl) ?_
                          refine mget_21 hx hb hts (fun _ h => List.mem_cons_of_mem _ (List.mem_append_right _ h)) hown hK hP (hts (.fieldLink RX12 47 "TalePlayModel" "line" "[I") (by decide +kernel)) dX12_walk_149 ?_
                          refine lv_iload hx hb dX12_walk_152 (lv_at hl 2 rfl) ?_
                          refine mld_21 hx hb hK hP (vp_in_iff.mpr (by have h9 : y3_4.toInt = y3_4.toInt := rfl; omega)) dX12_walk_154 (fun x16 ex16 => ?_)
                          have rx16 : 0 ≤ x16.toInt ∧ x16.toInt ≤ 29 := by rw [ex16]; exact hI.2 21 _
                          refine mld_20 hx hb hK hP (vp_in_iff.mpr (by have h9 : x16.toInt = x16.toInt := rfl; omega)) dX12_walk_155 (fun x17 ex17 => ?_)
                          have rx17 : x17.toInt = -9 ∨ (0 ≤ x17.toInt ∧ x17.toInt ≤ 29) := by rw [ex17]; exact hI.2 20 _
                          have hq1 : ¬ x17.toInt = -9 ∧ x17.toInt ≤ y3_4.toInt := WQ_k (far := c9 20) (ln := c9 21) hW (by omega) (by omega) ex16 ex17
                          have hq2 : y5_3.toInt ≤ 29 := WQ_n (far := c9 20) (ln := c9 21) hW (by omega) ex14 (by omega)
                          refine lv_iconst (v := 1) hx hb dX12_walk_156 (by decide) ?_
                          refine lv_iadd hx hb dX12_walk_157 ?_
                          refine lv_topi (fun x18 ex18 => ?_)
                          have tx18 := ti_add (a := x17.toInt) (b := 1) ex18 rfl (by decide) (by omega) (by omega)
                          refine mst_20 hx hb hK hP hD hS (vp_in_iff.mpr (by have h9 : (i9 16).toInt = (i9 16).toInt := rfl; omega)) dX12_walk_158 (fun H locs hP hD hS => ?_)
                          have hI := mInv_c hI (k := 20) (j := ((i9 16) : Int32).toNatClampNeg) (x := x18) (show (x18 : Int32).toInt = -9 ∨ (0 ≤ (x18 : Int32).toInt ∧ (x18 : Int32).toInt ≤ 29) from by have h9 : x18.toInt = (x17.toInt + 1) := tx18; omega)
                          have hfc := fr_c hfc (k := 20) (j := ((i9 16) : Int32).toNatClampNeg) (x := x18) (by decide)
                          refine lv_aload_n hx hb dX12_walk_159 rfl (lv_at hl 4 rfl) ?_
                          refine mget_21 hx hb hts (fun _ h => List.mem_cons_of_mem _ (List.mem_append_right _ h)) hown hK hP (hts (.fieldLink RX12 47 "TalePlayModel" "line" "[I") (by decide +kernel)) dX12_walk_160 ?_
                          refine lv_iload_n hx hb dX12_walk_163 rfl (lv_at hl 3 rfl) ?_
                          refine lv_aload_n hx hb dX12_walk_164 rfl (lv_at hl 4 rfl) ?_
                          refine mget_16 (v := (i9 16)) rfl hx hb hts (fun _ h => List.mem_cons_of_mem _ (List.mem_append_right _ h)) hown hK hP (hts (.fieldLink RX12 263 "TalePlayModel" "leads" "I") (by decide +kernel)) dX12_walk_165 ?_
                          refine mst_21 hx hb hK hP hD hS (vp_in_iff.mpr (by have h9 : y5_3.toInt = y5_3.toInt := rfl; omega)) dX12_walk_168 (fun H locs hP hD hS => ?_)
                          have hI := mInv_c hI (k := 21) (j := (y5_3 : Int32).toNatClampNeg) (x := (i9 16)) (show 0 ≤ ((i9 16) : Int32).toInt ∧ ((i9 16) : Int32).toInt ≤ 29 from by omega)
                          have hfc := fr_c hfc (k := 21) (j := (y5_3 : Int32).toNatClampNeg) (x := (i9 16)) (by decide)
                          obtain ⟨x19, ex19⟩ : ∃ y : Int32, y = y5_3 + 1 := ⟨_, rfl⟩
                          have tx19 := ti_add (a := y5_3.toInt) (b := 1) ex19 rfl (by decide) (by omega) (by omega)
                          refine lv_iinc (v := x19) (lv' := [(3, .int x19), (6, .int z10_0), (5, .int y5_5), (4, .int y3_4), (0, .ref o), (1, .int w), (2, .int b1)]) hx hb dX12_walk_169 hl (k := 3) rfl (by rw [ex19]; rfl) (by decide) rfl (fun ls hl => ?_)
                          exact jn11 i9 q9 (updA (updA c9 20 ((i9 16) : Int32).toNatClampNeg x18) 21 (y5_3 : Int32).toNatClampNeg (i9 16)) d9 x19  hI (fr_w hfi (by decide)) (fr_w hfc (by decide)) (show 1 ≤ x19.toInt ∧ x19.toInt ≤ 30 from by have h50 : x19.toInt = (y5_3.toInt + 1) := tx19; omega) (show WQ ((updA (updA c9 20 ((i9 16) : Int32).toNatClampNeg x18) 21 (y5_3 : Int32).toNatClampNeg (i9 16)) 20) ((updA (updA c9 20 ((i9 16) : Int32).toNatClampNeg x18) 21 (y5_3 : Int32).toNatClampNeg (i9 16)) 21) x19.toInt from by rw [tx19]; exact WQ_a (xa := x14) hW (by omega) (by omega) ex14 (by omega) (by have h9 := tx18; omega)) (show y3_4.toInt < x19.toInt from by have h50 : x19.toInt = (y5_3.toInt + 1) := tx19; omega) _ _ _ hP hD hS (lv_sub hl [1, 2, 3, 4, 5, 6, 0] rfl)
                    have jn20 : ∀ (H : Heap) (locs : List Loc) (ls : Array Slot), va_P D vwCl (mW o a t i9 q9 c9 d9) H → va_D A (mW o a t i9 q9 c9 d9) → va_S A s.heap H locs → lv_has ls 7 [(5, .int y5_5), (4, .int y3_4), (3, .int y5_3), (0, .ref o), (1, .int w), (2, .int b1)] → W p l e (headSpec wm_X12_walk ({ frames := 2, cells := 0, slots := 0, locals := 48 })).room s m ([.ref o, .int w, .int b1] : List Value).toArray below meth cd H locs 0 0 (MQ below (va_Qv (fun (u : MS) => True ∧ mInv u.1 u.2.2.1 ∧ (∀ k, k ∉ ([16, 17, 18, 19] : List Nat) → u.1 k = i k) ∧ (∀ k, k ∉ ([20, 21] : List Nat) → u.2.2.1 k = c k)) (oC D A (fun u : MS => mW o a t u.1 u.2.1 u.2.2.1 u.2.2.2) (fun _ => [])) A) ([.ref o, .int w, .int b1] : List Value).toArray s 0 0 A) (F0 m 114 ls []) := by
                      intro H locs ls hP hD hS hl
                      refine lv_iconst (v := 0) hx hb dX12_walk_114 (by decide) ?_
                      exact jn10  (0 : Int32) (show (0 : Int32).toInt = 0 ∨ (0 : Int32).toInt = 1 from by have h56 : (0 : Int32).toInt = 0 := (by decide); omega) (show (0 : Int32).toInt = 1 → ¬ ((i9 16) : Int32).toInt = -9 from by have h56 : (0 : Int32).toInt = 0 := (by decide); omega) _ _ _ hP hD hS (lv_sub hl [0, 1, 2, 3, 4, 5] rfl)
                    refine lv_if_eq (tgt := 114) hx hb dX12_walk_72 (by decide) (fun c21 => ?_) (fun c21 => ?_)
                    · have f21 := (ti_eq (a := r9.toInt) (b := 0) rfl (by decide)).mp c21
                      exact jn20    _ _ _ hP hD hS (lv_sub hl [0, 1, 2, 3, 4, 5] rfl)
                    · have f21 := mt (ti_eq (a := r9.toInt) (b := 0) rfl (by decide)).mpr c21
                      refine lv_aload_n hx hb dX12_walk_75 rfl (lv_at hl 3 rfl) ?_
                      refine mget_16 (v := (i9 16)) rfl hx hb hts (fun _ h => List.mem_cons_of_mem _ (List.mem_append_right _ h)) hown hK hP (hts (.fieldLink RX12 263 "TalePlayModel" "leads" "I") (by decide +kernel)) dX12_walk_76 ?_
                      have rb16_i9 : (i9 16).toInt = -9 ∨ (0 ≤ (i9 16).toInt ∧ (i9 16).toInt ≤ 29) := hI.1 16
                      refine lv_bipush (v := (-9)) hx hb dX12_walk_79 (by decide) ?_
                      refine lv_icmp_eq (tgt := 114) hx hb dX12_walk_81 (by decide) (fun c22 => ?_) (fun c22 => ?_)
                      · have f22 := (ti_eq (a := (i9 16).toInt) (b := (-9)) rfl (by decide)).mp c22
                        exact jn20    _ _ _ hP hD hS (lv_sub hl [0, 1, 2, 3, 4, 5] rfl)
                      · have f22 := mt (ti_eq (a := (i9 16).toInt) (b := (-9)) rfl (by decide)).mpr c22
                        refine lv_iload_n hx hb dX12_walk_84 rfl (lv_at hl 5 rfl) ?_
                        have jn23 : ∀ (H : Heap) (locs : List Loc) (ls : Array Slot), va_P D vwCl (mW o a t i9 q9 c9 d9) H → va_D A (mW o a t i9 q9 c9 d9) → va_S A s.heap H locs → lv_has ls 7 [(5, .int y5_5), (4, .int y3_4), (3, .int y5_3), (0, .ref o), (1, .int w), (2, .int b1)] → W p l e (headSpec wm_X12_walk ({ frames := 2, cells := 0, slots := 0, locals := 48 })).room s m ([.ref o, .int w, .int b1] : List Value).toArray below meth cd H locs 0 0 (MQ below (va_Qv (fun (u : MS) => True ∧ mInv u.1 u.2.2.1 ∧ (∀ k, k ∉ ([16, 17, 18, 19] : List Nat) → u.1 k = i k) ∧ (∀ k, k ∉ ([20, 21] : List Nat) → u.2.2.1 k = c k)) (oC D A (fun u : MS => mW o a t u.1 u.2.1 u.2.2.1 u.2.2.2) (fun _ => [])) A) ([.ref o, .int w, .int b1] : List Value).toArray s 0 0 A) (F0 m 110 ls []) := by
                          intro H locs ls hP hD hS hl
                          refine lv_iconst (v := 1) hx hb dX12_walk_110 (by decide) ?_
                          refine lv_goto (tgt := 115) hx hb dX12_walk_111 (by decide) ?_
                          exact jn10  (1 : Int32) (show (1 : Int32).toInt = 0 ∨ (1 : Int32).toInt = 1 from by have h56 : (1 : Int32).toInt = 1 := (by decide); omega) (show (1 : Int32).toInt = 1 → ¬ ((i9 16) : Int32).toInt = -9 from by have h56 : (1 : Int32).toInt = 1 := (by decide); omega) _ _ _ hP hD hS (lv_sub hl [0, 1, 2, 3, 4, 5] rfl)
                        refine lv_if_eq (tgt := 110) hx hb dX12_walk_85 (by decide) (fun c24 => ?_) (fun c24 => ?_)
                        · have f24 := (ti_eq (a := b1.toInt) (b := 0) rfl (by decide)).mp c24
                          exact jn23    _ _ _ hP hD hS (lv_sub hl [0, 1, 2, 3, 4, 5] rfl)
                        · have f24 := mt (ti_eq (a := b1.toInt) (b := 0) rfl (by decide)).mpr c24
                          refine lv_aload_n hx hb dX12_walk_88 rfl (lv_at hl 3 rfl) ?_
                          refine mget_17 (v := (i9 17)) rfl hx hb hts (fun _ h => List.mem_cons_of_mem _ (List.mem_append_right _ h)) hown hK hP (hts (.fieldLink RX12 266 "TalePlayModel" "byDoor" "I") (by decide +kernel)) dX12_walk_89 ?_
                          have rb17_i9 : (i9 17).toInt = -9 ∨ (0 ≤ (i9 17).toInt ∧ (i9 17).toInt ≤ 29) := hI.1 17
                          refine lv_bipush (v := (-9)) hx hb dX12_walk_92 (by decide) ?_
                          refine lv_icmp_eq (tgt := 110) hx hb dX12_walk_94 (by decide) (fun c25 => ?_) (fun c25 => ?_)
                          · have f25 := (ti_eq (a := (i9 17).toInt) (b := (-9)) rfl (by decide)).mp c25
                            exact jn23    _ _ _ hP hD hS (lv_sub hl [0, 1, 2, 3, 4, 5] rfl)
                          · have f25 := mt (ti_eq (a := (i9 17).toInt) (b := (-9)) rfl (by decide)).mpr c25
                            refine lv_aload_n hx hb dX12_walk_97 rfl (lv_at hl 3 rfl) ?_
                            refine lv_aload_n hx hb dX12_walk_98 rfl (lv_at hl 3 rfl) ?_
                            refine mget_17 (v := (i9 17)) rfl hx hb hts (fun _ h => List.mem_cons_of_mem _ (List.mem_append_right _ h)) hown hK hP (hts (.fieldLink RX12 266 "TalePlayModel" "byDoor" "I") (by decide +kernel)) dX12_walk_99 ?_
                            refine lv_iconst (v := 0) hx hb dX12_walk_102 (by decide) ?_
                            refine ro_calli (va_runV (As := [.int (i9 17), .int 0]) (rest := []) ⟨hx, hb, hml, hown, hts⟩ (s_X12_saidFlag l D H.size o a t i9 q9 c9 d9 (i9 17) 0 hI (show 0 ≤ (i9 17).toInt ∧ (i9 17).toInt ≤ 29 from by have h91 : (0 : Int32).toInt = 0 := (by decide); omega) (show 0 ≤ 0 ∧ 0 ≤ 5 from by have h91 : (0 : Int32).toInt = 0 := (by decide); omega)) (cwV 2 hts gm_X12_walk_X12_saidFlag rfl rfl rfl (by decide +kernel) ⟨Nat.le_of_ble_eq_true rfl, Nat.le_of_ble_eq_true rfl⟩) (pA_V hK hP (ci := 12) (q0 := 0) rfl rfl) rfl rfl hl.1 rfl (lv_room (Nat.le_of_ble_eq_true rfl)) dX12_walk_103 ⟨Nat.le_of_ble_eq_true rfl, Nat.le_of_ble_eq_true rfl⟩) hS hA hP (fun r26 u26 H locs hw26 hP hS => ?_)
                            have hw26 : (r26.toInt = -9 ∨ (0 ≤ r26.toInt ∧ r26.toInt ≤ 1)) := hw26
                            refine lv_iconst (v := 1) hx hb dX12_walk_106 (by decide) ?_
                            refine lv_icmp_ne (tgt := 114) hx hb dX12_walk_107 (by decide) (fun c27 => ?_) (fun c27 => ?_)
                            · have f27 := mt (ti_eq (a := r26.toInt) (b := 1) rfl (by decide)).mpr c27
                              exact jn20    _ _ _ hP hD hS (lv_sub hl [0, 1, 2, 3, 4, 5] rfl)
                            · have f27 := (ti_eq (a := r26.toInt) (b := 1) rfl (by decide)).mp c27
                              exact jn23    _ _ _ hP hD hS (lv_sub hl [0, 1, 2, 3, 4, 5] rfl)
              exact lp5 _ i3 q3 c3 d3 (0 : Int32) y3_3 hI (fr_w hfi (by decide)) (fr_w hfc (by decide)) (show 0 ≤ (0 : Int32).toInt ∧ (0 : Int32).toInt ≤ 10 from by have h50 : (0 : Int32).toInt = 0 := (by decide); omega) (show 1 ≤ y3_3.toInt ∧ y3_3.toInt ≤ 30 from by have h50 : (0 : Int32).toInt = 0 := (by decide); omega) (show WQ (c3 20) (c3 21) y3_3.toInt from hz3_0) (show y3_4.toInt < y3_3.toInt from by have h50 : (0 : Int32).toInt = 0 := (by decide); omega) (Nat.lt_succ_self _) _ _ _ hP hD hS (lv_sub hl [0, 1, 2, 3, 4, 5] rfl)
        exact lp3 _ i1 q1 (updA (updA c1 20 (w : Int32).toNatClampNeg 0) 21 (0 : Int32).toNatClampNeg w) d1 (0 : Int32) (1 : Int32) hI (fr_w hfi (by decide)) (fr_w hfc (by decide)) (show 0 ≤ (0 : Int32).toInt ∧ (0 : Int32).toInt ≤ 30 from by have h50 : (0 : Int32).toInt = 0 := (by decide); have h51 : (1 : Int32).toInt = 1 := (by decide); omega) (show 1 ≤ (1 : Int32).toInt ∧ (1 : Int32).toInt ≤ 30 from by have h50 : (0 : Int32).toInt = 0 := (by decide); have h51 : (1 : Int32).toInt = 1 := (by decide); omega) (show WQ ((updA (updA c1 20 (w : Int32).toNatClampNeg 0) 21 (0 : Int32).toNatClampNeg w) 20) ((updA (updA c1 20 (w : Int32).toNatClampNeg 0) 21 (0 : Int32).toNatClampNeg w) 21) (1 : Int32).toInt from WQ_0 (by omega)) (Nat.lt_succ_self _) _ _ _ hP hD hS (lv_sub hl [0, 1, 2, 3, 4] rfl)
      · have f2 := mt (ti_le (a := (i1 5).toInt) (b := y1_3.toInt) rfl rfl).mpr c2
        refine lv_aload_n hx hb dX12_walk_10 rfl (lv_at hl 1 rfl) ?_
        refine mget_20 hx hb hts (fun _ h => List.mem_cons_of_mem _ (List.mem_append_right _ h)) hown hK hP (hts (.fieldLink RX12 44 "TalePlayModel" "far" "[I") (by decide +kernel)) dX12_walk_11 ?_
        refine lv_iload_n hx hb dX12_walk_14 rfl (lv_at hl 0 rfl) ?_
        refine lv_bipush (v := (-9)) hx hb dX12_walk_15 (by decide) ?_
        refine mst_20 hx hb hK hP hD hS (vp_in_iff.mpr (by have h9 : y1_3.toInt = y1_3.toInt := rfl; omega)) dX12_walk_17 (fun H locs hP hD hS => ?_)
        have hI := mInv_c hI (k := 20) (j := (y1_3 : Int32).toNatClampNeg) (x := (-9)) (show ((-9) : Int32).toInt = -9 ∨ (0 ≤ ((-9) : Int32).toInt ∧ ((-9) : Int32).toInt ≤ 29) from by have h9 : ((-9) : Int32).toInt = -9 := (by decide); omega)
        have hfc := fr_c hfc (k := 20) (j := (y1_3 : Int32).toNatClampNeg) (x := (-9)) (by decide)
        obtain ⟨x28, ex28⟩ : ∃ y : Int32, y = y1_3 + 1 := ⟨_, rfl⟩
        have tx28 := ti_add (a := y1_3.toInt) (b := 1) ex28 rfl (by decide) (by omega) (by omega)
        refine lv_iinc (v := x28) (lv' := [(3, .int x28), (0, .ref o), (1, .int w), (2, .int b1)]) hx hb dX12_walk_18 hl (k := 0) rfl (by rw [ex28]; rfl) (by decide) rfl (fun ls hl => ?_)
        refine lv_goto (tgt := 2) hx hb dX12_walk_21 (by decide) ?_
        exact ih1 i1 q1 (updA c1 20 (y1_3 : Int32).toNatClampNeg (-9)) d1 x28 hI (fr_w hfi (by decide)) (fr_w hfc (by decide)) (show 0 ≤ x28.toInt ∧ x28.toInt ≤ 30 from by have h50 : x28.toInt = (y1_3.toInt + 1) := tx28; omega) (by have h50 : x28.toInt = (y1_3.toInt + 1) := tx28; omega) _ _ _ hP hD hS (lv_sub hl [0, 1, 2, 3] rfl)
  exact lp1 _ i q c d (0 : Int32) hI (fr_w hfi (by decide)) (fr_w hfc (by decide)) (show 0 ≤ (0 : Int32).toInt ∧ (0 : Int32).toInt ≤ 30 from by have h50 : (0 : Int32).toInt = 0 := (by decide); omega) (Nat.lt_succ_self _) _ _ _ hP hD hS (lv_sub hl [0, 1, 2, 3] rfl)

def wm_X12_way : List Cond := .code yX12_way cX12_way 5 (some .int) :: (([.methodLink RX12 284 yX12_wayRefused, .instanceMethod yX12_wayRefused, .selects RX12 yX12_wayRefused yX12_wayRefused, .initialized RX12, .code yX12_wayRefused cX12_wayRefused 3 (some .int), .methodLink RX12 180 yX12_isObject, .instanceMethod yX12_isObject, .selects RX12 yX12_isObject yX12_isObject, .code yX12_isObject cX12_isObject 2 (some .boolean), .fieldLink RX12 177 "TalePlayModel" "objects" "I", .methodLink RX12 166 yX12_in, .static yX12_in, .code yX12_in cX12_in 6 (some .boolean), .methodLink RX12 184 yX12_isOf, .instanceMethod yX12_isOf, .selects RX12 yX12_isOf yX12_isOf, .code yX12_isOf cX12_isOf 4 (some .boolean), .fieldLink RX12 19 "TalePlayModel" "kindOf" "[I", .fieldLink RX12 13 "TalePlayModel" "parentOf" "[I", .methodLink RX12 233 yX12_meets, .instanceMethod yX12_meets, .selects RX12 yX12_meets yX12_meets, .code yX12_meets cX12_meets 2 (some .int), .fieldLink RX12 161 "TalePlayModel" "latest" "I", .fieldLink RX12 7 "TalePlayModel" "came" "[I", .methodLink RX12 287 yX12_walk, .instanceMethod yX12_walk, .selects RX12 yX12_walk yX12_walk, .code yX12_walk cX12_walk 7 none, .fieldLink RX12 44 "TalePlayModel" "far" "[I", .fieldLink RX12 47 "TalePlayModel" "line" "[I", .methodLink RX12 281 yX12_findExit, .instanceMethod yX12_findExit, .selects RX12 yX12_findExit yX12_findExit, .code yX12_findExit cX12_findExit 6 (some .boolean), .fieldLink RX12 263 "TalePlayModel" "leads" "I", .fieldLink RX12 266 "TalePlayModel" "byDoor" "I", .fieldLink RX12 269 "TalePlayModel" "bySentence" "I", .fieldLink RX12 272 "TalePlayModel" "isImplied" "Z", .fieldLink RX12 202 "TalePlayModel" "sentences" "I", .fieldLink RX12 28 "TalePlayModel" "left" "[I", .fieldLink RX12 31 "TalePlayModel" "middle" "[I", .methodLink RX12 276 yX12_otherSide, .instanceMethod yX12_otherSide, .selects RX12 yX12_otherSide yX12_otherSide, .code yX12_otherSide cX12_otherSide 4 (some .int), .fieldLink RX12 37 "TalePlayModel" "isSaid" "[Z", .fieldLink RX12 25 "TalePlayModel" "form" "[I", .fieldLink RX12 34 "TalePlayModel" "right" "[I", .methodLink RX12 256 yX12_saidFlag, .instanceMethod yX12_saidFlag, .selects RX12 yX12_saidFlag yX12_saidFlag, .code yX12_saidFlag cX12_saidFlag 4 (some .int), .methodLink RX12 216 yX12_saidSo, .instanceMethod yX12_saidSo, .selects RX12 yX12_saidSo yX12_saidSo, .code yX12_saidSo cX12_saidSo 6 (some .int), .fieldLink RX12 16 "TalePlayModel" "defaults" "[I"] : List Cond) ++ wsX120)
set_option maxRecDepth 20000 in
theorem gm_X12_way_X12_wayRefused : GoodIn wm_X12_way (wsV RX12 284 RX12 yX12_wayRefused wm_X12_wayRefused) := goodIn_app (goodIn_of _ (by decide +kernel)) (goodIn_r _ [5, 6, 7, 8, 4, 9, 10, 11, 12, 13, 14, 15, 16, 17, 18, 19, 20, 21, 22, 23, 24, 25, 59, 60, 61, 62, 63, 64, 65, 66, 67, 68, 69, 70, 71, 72, 73, 74, 75, 76, 77, 78, 79, 80, 81, 82, 83, 84, 85, 86, 87, 88, 89, 90, 91, 92, 93, 94, 95, 96, 97, 98, 99, 100, 101, 102, 103, 104, 105, 106, 107, 108, 109, 110, 111, 112, 113, 114, 115, 116, 117, 118, 119, 120, 121, 122, 123, 124, 125, 126, 127] (by decide +kernel) (by decide +kernel))
set_option maxRecDepth 20000 in
theorem gm_X12_way_X12_walk : GoodIn wm_X12_way (wsV RX12 287 RX12 yX12_walk wm_X12_walk) := goodIn_app (goodIn_of _ (by decide +kernel)) (goodIn_r _ [29, 10, 30, 31, 32, 33, 34, 4, 35, 36, 37, 38, 39, 40, 41, 42, 14, 15, 16, 17, 18, 19, 43, 44, 45, 46, 47, 48, 49, 50, 51, 52, 53, 54, 55, 56, 57, 58, 59, 60, 61, 62, 63, 64, 65, 66, 67, 68, 69, 70, 71, 72, 73, 74, 75, 76, 77, 78, 79, 80, 81, 82, 83, 84, 85, 86, 87, 88, 89, 90, 91, 92, 93, 94, 95, 96, 97, 98, 99, 100, 101, 102, 103, 104, 105, 106, 107, 108, 109, 110, 111, 112, 113, 114, 115, 116, 117, 118, 119, 120, 121, 122, 123, 124, 125, 126, 127] (by decide +kernel) (by decide +kernel))
set_option maxHeartbeats 4000000 in
set_option maxRecDepth 100000 in
theorem s_X12_way (l : Launch) (D : va_G) (sz : Nat) (o : Nat) (a : Nat → Nat) (t : Nat → ClassId) (i : Nat → Int32) (q : Int64) (c : Nat → Nat → Int32) (d : Nat → Nat → Int64) (w1 : Int32) (w2 : Int32) (b1 : Int32) (hI : mInv i c) : Met l yX12_way wm_X12_way ({ frames := 3, cells := 0, slots := 0, locals := 74 }) (va_Pc [.ref o, .int w1, .int w2, .int b1] (pB D sz (mW o a t i q c d) (mT t))) (va_Qi (fun (r : Int32) (u : MS) => True ∧ mInv u.1 u.2.2.1 ∧ (∀ k, k ∉ ([0, 16, 17, 18, 19] : List Nat) → u.1 k = i k) ∧ (∀ k, k ∉ ([1, 20, 21] : List Nat) → u.2.2.1 k = c k)) (oC D (va_A (mW o a t i q c d) sz) (fun u : MS => mW o a t u.1 u.2.1 u.2.2.1 u.2.2.2) (fun _ => [])) (va_A (mW o a t i q c d) sz)) 0 0 (va_A (mW o a t i q c d) sz) := by
  refine Met.ofW (cc := cX12_way) (maxL := 5) (ret := (some .int)) (by decide) rfl ?_
  intro p e s m args below meth cd s₁ B hml hv
  obtain ⟨rfl, hsz, hP, hK, hD0⟩ := hv
  have hx := B.exec
  have hb := B.bytes
  have hr := B.returns
  have hts := atoms_spec (ws := wm_X12_way) B.pre
  have hown : s.vm.findClass RX12 = some m.cls := findClass_of_methodNamed B.named
  have hlocks := B.notSynchronized
  subst hsz
  have hD := hD0.self (sz := s.heap.size)
  generalize hAe : va_A (mW o a t i q c d) s.heap.size = A at hD ⊢
  have hA : ∀ q : Nat, s.heap.size ≤ q → A q := fun q h => by rw [← hAe]; exact Or.inr h
  have hS : va_S A s.heap s.heap [] := va_S.rf
  have hfi : ∀ k, k ∉ ([] : List Nat) → i k = i k := fun _ _ => rfl
  have hfc : ∀ k, k ∉ ([] : List Nat) → c k = c k := fun _ _ => rfl
  have hl := lv_entry ([.ref o, .int w1, .int w2, .int b1]) (n := 5) (Nat.le_of_ble_eq_true rfl)
  rw [lg_entry_eq]
  generalize (lg_sl ([.ref o, .int w1, .int w2, .int b1]) ++ List.replicate (5 - (lg_sl ([.ref o, .int w1, .int w2, .int b1])).length) Slot.unset).toArray = ls at hl ⊢
  have hl : lv_has ls 5 [(0, .ref o), (1, .int w1), (2, .int w2), (3, .int b1)] := hl
  refine lv_aload_n hx hb dX12_way_0 rfl (lv_at hl 0 rfl) ?_
  refine lv_iload_n hx hb dX12_way_1 rfl (lv_at hl 1 rfl) ?_
  refine lv_iload_n hx hb dX12_way_2 rfl (lv_at hl 2 rfl) ?_
  have rb5_i : 0 ≤ (i 5).toInt ∧ (i 5).toInt ≤ 30 := hI.1 5
  refine al_calli (va_runV (As := [.int w1, .int w2]) (rest := []) ⟨hx, hb, hml, hown, hts⟩ (s_X12_wayRefused l D s.heap.size o a t i q c d w1 w2 hI ) (cwV 2 hts gm_X12_way_X12_wayRefused rfl rfl rfl (by decide +kernel) ⟨Nat.le_of_ble_eq_true rfl, Nat.le_of_ble_eq_true rfl⟩) (pB_V hK hP hD (ci := 12) (q0 := 0) rfl rfl) rfl rfl hl.1 rfl (lv_room (Nat.le_of_ble_eq_true rfl)) dX12_way_3 ⟨Nat.le_of_ble_eq_true rfl, Nat.le_of_ble_eq_true rfl⟩) hS hA hP hD (fun r1 u1 H locs hw1 hP hD hS => ?_)
  obtain ⟨i1, q1, c1, d1⟩ := u1
  have hw1 : ((r1.toInt = 0 ∧ 0 ≤ w1.toInt ∧ w1.toInt < (i 5).toInt ∧ 0 ≤ w2.toInt ∧ w2.toInt < (i 5).toInt) ∨ r1.toInt < 0) ∧ mInv i1 c1 ∧ (∀ k, k ∉ ([0] : List Nat) → i1 k = i k) ∧ (∀ k, k ∉ ([1] : List Nat) → c1 k = c k) := hw1
  obtain ⟨hw1, hI, hei1, hec1⟩ := hw1
  have hfi : ∀ k, k ∉ ([0] : List Nat) → i1 k = i k := fr_z hfi hei1 (by decide) (by decide)
  have hfc : ∀ k, k ∉ ([1] : List Nat) → c1 k = c k := fr_z hfc hec1 (by decide) (by decide)
  have hP : va_P D vwCl (mW o a t i1 q1 c1 d1) H := hP
  have hD : va_D A (mW o a t i1 q1 c1 d1) := hD
  refine lv_istore (lv' := [(4, .int r1), (0, .ref o), (1, .int w1), (2, .int w2), (3, .int b1)]) hx hb dX12_way_6 hl (by decide) rfl (fun ls hl => ?_)
  refine lv_iload hx hb dX12_way_8 (lv_at hl 0 rfl) ?_
  refine lv_if_ge (tgt := 16) hx hb dX12_way_10 (by decide) (fun c2 => ?_) (fun c2 => ?_)
  · have f2 := (ti_le (a := 0) (b := r1.toInt) (by decide) rfl).mp c2
    refine lv_aload_n hx hb dX12_way_16 rfl (lv_at hl 1 rfl) ?_
    refine lv_iload_n hx hb dX12_way_17 rfl (lv_at hl 2 rfl) ?_
    refine lv_iload_n hx hb dX12_way_18 rfl (lv_at hl 4 rfl) ?_
    refine al_callv (va_runV (As := [.int w1, .int b1]) (rest := []) ⟨hx, hb, hml, hown, hts⟩ (s_X12_walk l D H.size o a t i1 q1 c1 d1 w1 b1 hI (show 0 ≤ w1.toInt ∧ w1.toInt ≤ 29 from by omega)) (cwV 2 hts gm_X12_way_X12_walk rfl rfl rfl (by decide +kernel) ⟨Nat.le_of_ble_eq_true rfl, Nat.le_of_ble_eq_true rfl⟩) (pB_V hK hP hD (ci := 12) (q0 := 0) rfl rfl) rfl rfl hl.1 rfl (lv_room (Nat.le_of_ble_eq_true rfl)) dX12_way_19 ⟨Nat.le_of_ble_eq_true rfl, Nat.le_of_ble_eq_true rfl⟩) hS hA hP hD (fun u3 H locs hw3 hP hD hS => ?_)
    obtain ⟨i3, q3, c3, d3⟩ := u3
    have hw3 : True ∧ mInv i3 c3 ∧ (∀ k, k ∉ ([16, 17, 18, 19] : List Nat) → i3 k = i1 k) ∧ (∀ k, k ∉ ([20, 21] : List Nat) → c3 k = c1 k) := hw3
    obtain ⟨hw3, hI, hei3, hec3⟩ := hw3
    have hfi : ∀ k, k ∉ ([0, 16, 17, 18, 19] : List Nat) → i3 k = i k := fr_z hfi hei3 (by decide) (by decide)
    have hfc : ∀ k, k ∉ ([1, 20, 21] : List Nat) → c3 k = c k := fr_z hfc hec3 (by decide) (by decide)
    have hP : va_P D vwCl (mW o a t i3 q3 c3 d3) H := hP
    have hD : va_D A (mW o a t i3 q3 c3 d3) := hD
    refine lv_aload_n hx hb dX12_way_22 rfl (lv_at hl 1 rfl) ?_
    refine mget_20 hx hb hts (fun _ h => List.mem_cons_of_mem _ (List.mem_append_right _ h)) hown hK hP (hts (.fieldLink RX12 44 "TalePlayModel" "far" "[I") (by decide +kernel)) dX12_way_23 ?_
    refine lv_iload_n hx hb dX12_way_26 rfl (lv_at hl 3 rfl) ?_
    refine mld_20 hx hb hK hP (vp_in_iff.mpr (by have h9 : w2.toInt = w2.toInt := rfl; omega)) dX12_way_27 (fun x4 ex4 => ?_)
    have rx4 : x4.toInt = -9 ∨ (0 ≤ x4.toInt ∧ x4.toInt ≤ 29) := by rw [ex4]; exact hI.2 20 _
    exact rw_iret (i3, q3, c3, d3) hx hb hr hlocks hS (hK.sub (tys' := []) [] rfl) hP hD dX12_way_28 ⟨trivial, hI, fr_w hfi (by decide), fr_w hfc (by decide)⟩
  · have f2 := mt (ti_le (a := 0) (b := r1.toInt) (by decide) rfl).mpr c2
    refine lv_iload hx hb dX12_way_13 (lv_at hl 0 rfl) ?_
    exact rw_iret (i1, q1, c1, d1) hx hb hr hlocks hS (hK.sub (tys' := []) [] rfl) hP hD dX12_way_15 ⟨trivial, hI, fr_w hfi (by decide), fr_w hfc (by decide)⟩

def wm_X12_toward : List Cond := .code yX12_toward cX12_toward 9 (some .int) :: (([.methodLink RX12 284 yX12_wayRefused, .instanceMethod yX12_wayRefused, .selects RX12 yX12_wayRefused yX12_wayRefused, .initialized RX12, .code yX12_wayRefused cX12_wayRefused 3 (some .int), .methodLink RX12 180 yX12_isObject, .instanceMethod yX12_isObject, .selects RX12 yX12_isObject yX12_isObject, .code yX12_isObject cX12_isObject 2 (some .boolean), .fieldLink RX12 177 "TalePlayModel" "objects" "I", .methodLink RX12 166 yX12_in, .static yX12_in, .code yX12_in cX12_in 6 (some .boolean), .methodLink RX12 184 yX12_isOf, .instanceMethod yX12_isOf, .selects RX12 yX12_isOf yX12_isOf, .code yX12_isOf cX12_isOf 4 (some .boolean), .fieldLink RX12 19 "TalePlayModel" "kindOf" "[I", .fieldLink RX12 13 "TalePlayModel" "parentOf" "[I", .methodLink RX12 233 yX12_meets, .instanceMethod yX12_meets, .selects RX12 yX12_meets yX12_meets, .code yX12_meets cX12_meets 2 (some .int), .fieldLink RX12 161 "TalePlayModel" "latest" "I", .fieldLink RX12 7 "TalePlayModel" "came" "[I", .methodLink RX12 287 yX12_walk, .instanceMethod yX12_walk, .selects RX12 yX12_walk yX12_walk, .code yX12_walk cX12_walk 7 none, .fieldLink RX12 44 "TalePlayModel" "far" "[I", .fieldLink RX12 47 "TalePlayModel" "line" "[I", .methodLink RX12 281 yX12_findExit, .instanceMethod yX12_findExit, .selects RX12 yX12_findExit yX12_findExit, .code yX12_findExit cX12_findExit 6 (some .boolean), .fieldLink RX12 263 "TalePlayModel" "leads" "I", .fieldLink RX12 266 "TalePlayModel" "byDoor" "I", .fieldLink RX12 269 "TalePlayModel" "bySentence" "I", .fieldLink RX12 272 "TalePlayModel" "isImplied" "Z", .fieldLink RX12 202 "TalePlayModel" "sentences" "I", .fieldLink RX12 28 "TalePlayModel" "left" "[I", .fieldLink RX12 31 "TalePlayModel" "middle" "[I", .methodLink RX12 276 yX12_otherSide, .instanceMethod yX12_otherSide, .selects RX12 yX12_otherSide yX12_otherSide, .code yX12_otherSide cX12_otherSide 4 (some .int), .fieldLink RX12 37 "TalePlayModel" "isSaid" "[Z", .fieldLink RX12 25 "TalePlayModel" "form" "[I", .fieldLink RX12 34 "TalePlayModel" "right" "[I", .methodLink RX12 256 yX12_saidFlag, .instanceMethod yX12_saidFlag, .selects RX12 yX12_saidFlag yX12_saidFlag, .code yX12_saidFlag cX12_saidFlag 4 (some .int), .methodLink RX12 216 yX12_saidSo, .instanceMethod yX12_saidSo, .selects RX12 yX12_saidSo yX12_saidSo, .code yX12_saidSo cX12_saidSo 6 (some .int), .fieldLink RX12 16 "TalePlayModel" "defaults" "[I"] : List Cond) ++ wsX120)
set_option maxRecDepth 20000 in
theorem gm_X12_toward_X12_wayRefused : GoodIn wm_X12_toward (wsV RX12 284 RX12 yX12_wayRefused wm_X12_wayRefused) := goodIn_app (goodIn_of _ (by decide +kernel)) (goodIn_r _ [5, 6, 7, 8, 4, 9, 10, 11, 12, 13, 14, 15, 16, 17, 18, 19, 20, 21, 22, 23, 24, 25, 59, 60, 61, 62, 63, 64, 65, 66, 67, 68, 69, 70, 71, 72, 73, 74, 75, 76, 77, 78, 79, 80, 81, 82, 83, 84, 85, 86, 87, 88, 89, 90, 91, 92, 93, 94, 95, 96, 97, 98, 99, 100, 101, 102, 103, 104, 105, 106, 107, 108, 109, 110, 111, 112, 113, 114, 115, 116, 117, 118, 119, 120, 121, 122, 123, 124, 125, 126, 127] (by decide +kernel) (by decide +kernel))
set_option maxRecDepth 20000 in
theorem gm_X12_toward_X12_walk : GoodIn wm_X12_toward (wsV RX12 287 RX12 yX12_walk wm_X12_walk) := goodIn_app (goodIn_of _ (by decide +kernel)) (goodIn_r _ [29, 10, 30, 31, 32, 33, 34, 4, 35, 36, 37, 38, 39, 40, 41, 42, 14, 15, 16, 17, 18, 19, 43, 44, 45, 46, 47, 48, 49, 50, 51, 52, 53, 54, 55, 56, 57, 58, 59, 60, 61, 62, 63, 64, 65, 66, 67, 68, 69, 70, 71, 72, 73, 74, 75, 76, 77, 78, 79, 80, 81, 82, 83, 84, 85, 86, 87, 88, 89, 90, 91, 92, 93, 94, 95, 96, 97, 98, 99, 100, 101, 102, 103, 104, 105, 106, 107, 108, 109, 110, 111, 112, 113, 114, 115, 116, 117, 118, 119, 120, 121, 122, 123, 124, 125, 126, 127] (by decide +kernel) (by decide +kernel))
set_option maxRecDepth 20000 in
theorem gm_X12_toward_X12_findExit : GoodIn wm_X12_toward (wsV RX12 281 RX12 yX12_findExit wm_X12_findExit) := goodIn_app (goodIn_of _ (by decide +kernel)) (goodIn_r _ [35, 36, 37, 38, 39, 40, 41, 42, 14, 15, 16, 4, 17, 18, 19, 43, 44, 45, 46, 47, 48, 49, 59, 60, 61, 62, 63, 64, 65, 66, 67, 68, 69, 70, 71, 72, 73, 74, 75, 76, 77, 78, 79, 80, 81, 82, 83, 84, 85, 86, 87, 88, 89, 90, 91, 92, 93, 94, 95, 96, 97, 98, 99, 100, 101, 102, 103, 104, 105, 106, 107, 108, 109, 110, 111, 112, 113, 114, 115, 116, 117, 118, 119, 120, 121, 122, 123, 124, 125, 126, 127] (by decide +kernel) (by decide +kernel))
set_option maxRecDepth 20000 in
theorem gm_X12_toward_X12_saidFlag : GoodIn wm_X12_toward (wsV RX12 256 RX12 yX12_saidFlag wm_X12_saidFlag) := goodIn_app (goodIn_of _ (by decide +kernel)) (goodIn_r _ [53, 54, 55, 56, 4, 57, 40, 47, 48, 41, 42, 49, 18, 14, 15, 16, 17, 19, 58, 59, 60, 61, 62, 63, 64, 65, 66, 67, 68, 69, 70, 71, 72, 73, 74, 75, 76, 77, 78, 79, 80, 81, 82, 83, 84, 85, 86, 87, 88, 89, 90, 91, 92, 93, 94, 95, 96, 97, 98, 99, 100, 101, 102, 103, 104, 105, 106, 107, 108, 109, 110, 111, 112, 113, 114, 115, 116, 117, 118, 119, 120, 121, 122, 123, 124, 125, 126, 127] (by decide +kernel) (by decide +kernel))
set_option maxHeartbeats 4000000 in
set_option maxRecDepth 100000 in
theorem s_X12_toward (l : Launch) (D : va_G) (sz : Nat) (o : Nat) (a : Nat → Nat) (t : Nat → ClassId) (i : Nat → Int32) (q : Int64) (c : Nat → Nat → Int32) (d : Nat → Nat → Int64) (w1 : Int32) (w2 : Int32) (b1 : Int32) (hI : mInv i c) : Met l yX12_toward wm_X12_toward ({ frames := 3, cells := 0, slots := 0, locals := 74 }) (va_Pc [.ref o, .int w1, .int w2, .int b1] (pB D sz (mW o a t i q c d) (mT t))) (va_Qi (fun (r : Int32) (u : MS) => True ∧ mInv u.1 u.2.2.1 ∧ (∀ k, k ∉ ([0, 16, 17, 18, 19] : List Nat) → u.1 k = i k) ∧ (∀ k, k ∉ ([1, 20, 21] : List Nat) → u.2.2.1 k = c k)) (oC D (va_A (mW o a t i q c d) sz) (fun u : MS => mW o a t u.1 u.2.1 u.2.2.1 u.2.2.2) (fun _ => [])) (va_A (mW o a t i q c d) sz)) 0 0 (va_A (mW o a t i q c d) sz) := by
  refine Met.ofW (cc := cX12_toward) (maxL := 9) (ret := (some .int)) (by decide) rfl ?_
  intro p e s m args below meth cd s₁ B hml hv
  obtain ⟨rfl, hsz, hP, hK, hD0⟩ := hv
  have hx := B.exec
  have hb := B.bytes
  have hr := B.returns
  have hts := atoms_spec (ws := wm_X12_toward) B.pre
  have hown : s.vm.findClass RX12 = some m.cls := findClass_of_methodNamed B.named
  have hlocks := B.notSynchronized
  subst hsz
  have hD := hD0.self (sz := s.heap.size)
  generalize hAe : va_A (mW o a t i q c d) s.heap.size = A at hD ⊢
  have hA : ∀ q : Nat, s.heap.size ≤ q → A q := fun q h => by rw [← hAe]; exact Or.inr h
  have hS : va_S A s.heap s.heap [] := va_S.rf
  have hfi : ∀ k, k ∉ ([] : List Nat) → i k = i k := fun _ _ => rfl
  have hfc : ∀ k, k ∉ ([] : List Nat) → c k = c k := fun _ _ => rfl
  have hl := lv_entry ([.ref o, .int w1, .int w2, .int b1]) (n := 9) (Nat.le_of_ble_eq_true rfl)
  rw [lg_entry_eq]
  generalize (lg_sl ([.ref o, .int w1, .int w2, .int b1]) ++ List.replicate (9 - (lg_sl ([.ref o, .int w1, .int w2, .int b1])).length) Slot.unset).toArray = ls at hl ⊢
  have hl : lv_has ls 9 [(0, .ref o), (1, .int w1), (2, .int w2), (3, .int b1)] := hl
  refine lv_aload_n hx hb dX12_toward_0 rfl (lv_at hl 0 rfl) ?_
  refine lv_iload_n hx hb dX12_toward_1 rfl (lv_at hl 1 rfl) ?_
  refine lv_iload_n hx hb dX12_toward_2 rfl (lv_at hl 2 rfl) ?_
  have rb5_i : 0 ≤ (i 5).toInt ∧ (i 5).toInt ≤ 30 := hI.1 5
  refine al_calli (va_runV (As := [.int w1, .int w2]) (rest := []) ⟨hx, hb, hml, hown, hts⟩ (s_X12_wayRefused l D s.heap.size o a t i q c d w1 w2 hI ) (cwV 2 hts gm_X12_toward_X12_wayRefused rfl rfl rfl (by decide +kernel) ⟨Nat.le_of_ble_eq_true rfl, Nat.le_of_ble_eq_true rfl⟩) (pB_V hK hP hD (ci := 12) (q0 := 0) rfl rfl) rfl rfl hl.1 rfl (lv_room (Nat.le_of_ble_eq_true rfl)) dX12_toward_3 ⟨Nat.le_of_ble_eq_true rfl, Nat.le_of_ble_eq_true rfl⟩) hS hA hP hD (fun r1 u1 H locs hw1 hP hD hS => ?_)
  obtain ⟨i1, q1, c1, d1⟩ := u1
  have hw1 : ((r1.toInt = 0 ∧ 0 ≤ w1.toInt ∧ w1.toInt < (i 5).toInt ∧ 0 ≤ w2.toInt ∧ w2.toInt < (i 5).toInt) ∨ r1.toInt < 0) ∧ mInv i1 c1 ∧ (∀ k, k ∉ ([0] : List Nat) → i1 k = i k) ∧ (∀ k, k ∉ ([1] : List Nat) → c1 k = c k) := hw1
  obtain ⟨hw1, hI, hei1, hec1⟩ := hw1
  have hfi : ∀ k, k ∉ ([0] : List Nat) → i1 k = i k := fr_z hfi hei1 (by decide) (by decide)
  have hfc : ∀ k, k ∉ ([1] : List Nat) → c1 k = c k := fr_z hfc hec1 (by decide) (by decide)
  have hP : va_P D vwCl (mW o a t i1 q1 c1 d1) H := hP
  have hD : va_D A (mW o a t i1 q1 c1 d1) := hD
  refine lv_istore (lv' := [(4, .int r1), (0, .ref o), (1, .int w1), (2, .int w2), (3, .int b1)]) hx hb dX12_toward_6 hl (by decide) rfl (fun ls hl => ?_)
  refine lv_iload hx hb dX12_toward_8 (lv_at hl 0 rfl) ?_
  refine lv_if_ge (tgt := 16) hx hb dX12_toward_10 (by decide) (fun c2 => ?_) (fun c2 => ?_)
  · have f2 := (ti_le (a := 0) (b := r1.toInt) (by decide) rfl).mp c2
    refine lv_aload_n hx hb dX12_toward_16 rfl (lv_at hl 1 rfl) ?_
    refine lv_iload_n hx hb dX12_toward_17 rfl (lv_at hl 2 rfl) ?_
    refine lv_iload_n hx hb dX12_toward_18 rfl (lv_at hl 4 rfl) ?_
    refine al_callv (va_runV (As := [.int w1, .int b1]) (rest := []) ⟨hx, hb, hml, hown, hts⟩ (s_X12_walk l D H.size o a t i1 q1 c1 d1 w1 b1 hI (show 0 ≤ w1.toInt ∧ w1.toInt ≤ 29 from by omega)) (cwV 2 hts gm_X12_toward_X12_walk rfl rfl rfl (by decide +kernel) ⟨Nat.le_of_ble_eq_true rfl, Nat.le_of_ble_eq_true rfl⟩) (pB_V hK hP hD (ci := 12) (q0 := 0) rfl rfl) rfl rfl hl.1 rfl (lv_room (Nat.le_of_ble_eq_true rfl)) dX12_toward_19 ⟨Nat.le_of_ble_eq_true rfl, Nat.le_of_ble_eq_true rfl⟩) hS hA hP hD (fun u3 H locs hw3 hP hD hS => ?_)
    obtain ⟨i3, q3, c3, d3⟩ := u3
    have hw3 : True ∧ mInv i3 c3 ∧ (∀ k, k ∉ ([16, 17, 18, 19] : List Nat) → i3 k = i1 k) ∧ (∀ k, k ∉ ([20, 21] : List Nat) → c3 k = c1 k) := hw3
    obtain ⟨hw3, hI, hei3, hec3⟩ := hw3
    have hfi : ∀ k, k ∉ ([0, 16, 17, 18, 19] : List Nat) → i3 k = i k := fr_z hfi hei3 (by decide) (by decide)
    have hfc : ∀ k, k ∉ ([1, 20, 21] : List Nat) → c3 k = c k := fr_z hfc hec3 (by decide) (by decide)
    have hP : va_P D vwCl (mW o a t i3 q3 c3 d3) H := hP
    have hD : va_D A (mW o a t i3 q3 c3 d3) := hD
    refine lv_aload_n hx hb dX12_toward_22 rfl (lv_at hl 1 rfl) ?_
    refine mget_20 hx hb hts (fun _ h => List.mem_cons_of_mem _ (List.mem_append_right _ h)) hown hK hP (hts (.fieldLink RX12 44 "TalePlayModel" "far" "[I") (by decide +kernel)) dX12_toward_23 ?_
    refine lv_iload_n hx hb dX12_toward_26 rfl (lv_at hl 3 rfl) ?_
    refine mld_20 hx hb hK hP (vp_in_iff.mpr (by have h9 : w2.toInt = w2.toInt := rfl; omega)) dX12_toward_27 (fun x4 ex4 => ?_)
    have rx4 : x4.toInt = -9 ∨ (0 ≤ x4.toInt ∧ x4.toInt ≤ 29) := by rw [ex4]; exact hI.2 20 _
    refine lv_istore (lv' := [(5, .int x4), (4, .int r1), (0, .ref o), (1, .int w1), (2, .int w2), (3, .int b1)]) hx hb dX12_toward_28 hl (by decide) rfl (fun ls hl => ?_)
    refine lv_iload hx hb dX12_toward_30 (lv_at hl 0 rfl) ?_
    refine lv_bipush (v := (-9)) hx hb dX12_toward_32 (by decide) ?_
    refine lv_icmp_eq (tgt := 42) hx hb dX12_toward_34 (by decide) (fun c5 => ?_) (fun c5 => ?_)
    · have f5 := (ti_eq (a := x4.toInt) (b := (-9)) rfl (by decide)).mp c5
      refine lv_bipush (v := (-9)) hx hb dX12_toward_42 (by decide) ?_
      exact rw_iret (i3, q3, c3, d3) hx hb hr hlocks hS (hK.sub (tys' := []) [] rfl) hP hD dX12_toward_44 ⟨trivial, hI, fr_w hfi (by decide), fr_w hfc (by decide)⟩
    · have f5 := mt (ti_eq (a := x4.toInt) (b := (-9)) rfl (by decide)).mpr c5
      refine lv_iload hx hb dX12_toward_37 (lv_at hl 0 rfl) ?_
      refine lv_if_ne (tgt := 45) hx hb dX12_toward_39 (by decide) (fun c6 => ?_) (fun c6 => ?_)
      · have f6 := mt (ti_eq (a := x4.toInt) (b := 0) rfl (by decide)).mpr c6
        refine lv_iconst (v := 0) hx hb dX12_toward_45 (by decide) ?_
        refine lv_istore (lv' := [(6, .int 0), (5, .int x4), (4, .int r1), (0, .ref o), (1, .int w1), (2, .int w2), (3, .int b1)]) hx hb dX12_toward_46 hl (by decide) rfl (fun ls hl => ?_)
        have lp7 : ∀ (fu : Nat) (i7 : Nat → Int32) (q7 : Int64) (c7 : Nat → Nat → Int32) (d7 : Nat → Nat → Int64) (y7_6 : Int32), mInv i7 c7 → (∀ k, k ∉ ([0, 16, 17, 18, 19] : List Nat) → i7 k = i k) → (∀ k, k ∉ ([1, 20, 21] : List Nat) → c7 k = c k) → (0 ≤ y7_6.toInt ∧ y7_6.toInt ≤ 10) → (10 - y7_6.toInt).toNat < fu → ∀ (H : Heap) (locs : List Loc) (ls : Array Slot), va_P D vwCl (mW o a t i7 q7 c7 d7) H → va_D A (mW o a t i7 q7 c7 d7) → va_S A s.heap H locs → lv_has ls 9 [(6, .int y7_6), (5, .int x4), (4, .int r1), (0, .ref o), (1, .int w1), (2, .int w2), (3, .int b1)] → W p l e (headSpec wm_X12_toward ({ frames := 3, cells := 0, slots := 0, locals := 74 })).room s m ([.ref o, .int w1, .int w2, .int b1] : List Value).toArray below meth cd H locs 0 0 (MQ below (va_Qi (fun (r : Int32) (u : MS) => True ∧ mInv u.1 u.2.2.1 ∧ (∀ k, k ∉ ([0, 16, 17, 18, 19] : List Nat) → u.1 k = i k) ∧ (∀ k, k ∉ ([1, 20, 21] : List Nat) → u.2.2.1 k = c k)) (oC D A (fun u : MS => mW o a t u.1 u.2.1 u.2.2.1 u.2.2.2) (fun _ => [])) A) ([.ref o, .int w1, .int w2, .int b1] : List Value).toArray s 0 0 A) (F0 m 48 ls []) := by
          intro fu
          induction fu with
          | zero => intro i7 q7 c7 d7 y7_6 hI hfi hfc hy7_6 hm; exact absurd hm (Nat.not_lt_zero _)
          | succ fu ih =>
            intro i7 q7 c7 d7 y7_6 hI hfi hfc hy7_6 hm H locs ls hP hD hS hl
            have ih7 := ih
            refine lv_iload hx hb dX12_toward_48 (lv_at hl 0 rfl) ?_
            refine lv_bipush (v := 10) hx hb dX12_toward_50 (by decide) ?_
            refine lv_icmp_ge (tgt := 147) hx hb dX12_toward_52 (by decide) (fun c8 => ?_) (fun c8 => ?_)
            · have f8 := (ti_le (a := 10) (b := y7_6.toInt) (by decide) rfl).mp c8
              refine lv_bipush (v := (-9)) hx hb dX12_toward_147 (by decide) ?_
              exact rw_iret (i7, q7, c7, d7) hx hb hr hlocks hS (hK.sub (tys' := []) [] rfl) hP hD dX12_toward_149 ⟨trivial, hI, fr_w hfi (by decide), fr_w hfc (by decide)⟩
            · have f8 := mt (ti_le (a := 10) (b := y7_6.toInt) (by decide) rfl).mpr c8
              refine lv_aload_n hx hb dX12_toward_55 rfl (lv_at hl 3 rfl) ?_
              refine lv_iload_n hx hb dX12_toward_56 rfl (lv_at hl 4 rfl) ?_
              refine lv_iload hx hb dX12_toward_57 (lv_at hl 0 rfl) ?_
              have rb8_i7 : 0 ≤ (i7 8).toInt ∧ (i7 8).toInt ≤ 200 := hI.1 8
              have re8_i7 : (i7 8).toInt = (i 8).toInt := congrArg Int32.toInt (hfi 8 (by decide))
              refine al_calli (va_runV (As := [.int w1, .int y7_6]) (rest := []) ⟨hx, hb, hml, hown, hts⟩ (s_X12_findExit l D H.size o a t i7 q7 c7 d7 w1 y7_6 hI (show 0 ≤ w1.toInt ∧ w1.toInt ≤ 29 from by omega) (show 0 ≤ y7_6.toInt ∧ y7_6.toInt ≤ 9 from by omega)) (cwV 2 hts gm_X12_toward_X12_findExit rfl rfl rfl (by decide +kernel) ⟨Nat.le_of_ble_eq_true rfl, Nat.le_of_ble_eq_true rfl⟩) (pB_V hK hP hD (ci := 12) (q0 := 0) rfl rfl) rfl rfl hl.1 rfl (lv_room (Nat.le_of_ble_eq_true rfl)) dX12_toward_59 ⟨Nat.le_of_ble_eq_true rfl, Nat.le_of_ble_eq_true rfl⟩) hS hA hP hD (fun r9 u9 H locs hw9 hP hD hS => ?_)
              obtain ⟨i9, q9, c9, d9⟩ := u9
              have hw9 : (0 ≤ r9.toInt ∧ r9.toInt ≤ 1) ∧ mInv i9 c9 ∧ (∀ k, k ∉ ([16, 17, 18, 19] : List Nat) → i9 k = i7 k) ∧ (∀ k, k ∉ ([] : List Nat) → c9 k = c7 k) ∧ (LdR (c7 3) (c7 6) (c7 9) (c7 10) (c7 11) (c7 12) (c7 13) (i7 8).toInt w1.toInt y7_6.toInt (i9 16).toInt) := hw9
              obtain ⟨hw9, hI, hei9, hec9, hxp9_0⟩ := hw9
              have hxp9_0 : LdR (c 3) (c 6) (c 9) (c 10) (c 11) (c 12) (c 13) (i 8).toInt w1.toInt y7_6.toInt (i9 16).toInt := by have h9 := hxp9_0; rw [show c7 3 = c 3 from hfc 3 (by decide), show c7 6 = c 6 from hfc 6 (by decide), show c7 9 = c 9 from hfc 9 (by decide), show c7 10 = c 10 from hfc 10 (by decide), show c7 11 = c 11 from hfc 11 (by decide), show c7 12 = c 12 from hfc 12 (by decide), show c7 13 = c 13 from hfc 13 (by decide), show i7 8 = i 8 from hfi 8 (by decide)] at h9; exact h9
              have hfi : ∀ k, k ∉ ([0, 16, 17, 18, 19] : List Nat) → i9 k = i k := fr_z hfi hei9 (by decide) (by decide)
              have hfc : ∀ k, k ∉ ([1, 20, 21] : List Nat) → c9 k = c k := fr_z hfc hec9 (by decide) (by decide)
              have hP : va_P D vwCl (mW o a t i9 q9 c9 d9) H := hP
              have hD : va_D A (mW o a t i9 q9 c9 d9) := hD
              have jn10 : ∀ (z10_0 : Int32), (z10_0.toInt = 0 ∨ z10_0.toInt = 1) → (z10_0.toInt = 1 → ¬ ((i9 16) : Int32).toInt = -9) → ∀ (H : Heap) (locs : List Loc) (ls : Array Slot), va_P D vwCl (mW o a t i9 q9 c9 d9) H → va_D A (mW o a t i9 q9 c9 d9) → va_S A s.heap H locs → lv_has ls 9 [(6, .int y7_6), (5, .int x4), (4, .int r1), (0, .ref o), (1, .int w1), (2, .int w2), (3, .int b1)] → W p l e (headSpec wm_X12_toward ({ frames := 3, cells := 0, slots := 0, locals := 74 })).room s m ([.ref o, .int w1, .int w2, .int b1] : List Value).toArray below meth cd H locs 0 0 (MQ below (va_Qi (fun (r : Int32) (u : MS) => True ∧ mInv u.1 u.2.2.1 ∧ (∀ k, k ∉ ([0, 16, 17, 18, 19] : List Nat) → u.1 k = i k) ∧ (∀ k, k ∉ ([1, 20, 21] : List Nat) → u.2.2.1 k = c k)) (oC D A (fun u : MS => mW o a t u.1 u.2.1 u.2.2.1 u.2.2.2) (fun _ => [])) A) ([.ref o, .int w1, .int w2, .int b1] : List Value).toArray s 0 0 A) (F0 m 105 ls [.int z10_0]) := by
                intro z10_0 hs10_0 hz10_0 H locs ls hP hD hS hl
                refine lv_istore (lv' := [(7, .int z10_0), (6, .int y7_6), (5, .int x4), (4, .int r1), (0, .ref o), (1, .int w1), (2, .int w2), (3, .int b1)]) hx hb dX12_toward_105 hl (by decide) rfl (fun ls hl => ?_)
                refine lv_aload_n hx hb dX12_toward_107 rfl (lv_at hl 4 rfl) ?_
                refine mget_16 (v := (i9 16)) rfl hx hb hts (fun _ h => List.mem_cons_of_mem _ (List.mem_append_right _ h)) hown hK hP (hts (.fieldLink RX12 263 "TalePlayModel" "leads" "I") (by decide +kernel)) dX12_toward_108 ?_
                have rb16_i9 : (i9 16).toInt = -9 ∨ (0 ≤ (i9 16).toInt ∧ (i9 16).toInt ≤ 29) := hI.1 16
                refine lv_istore (lv' := [(8, .int (i9 16)), (7, .int z10_0), (6, .int y7_6), (5, .int x4), (4, .int r1), (0, .ref o), (1, .int w1), (2, .int w2), (3, .int b1)]) hx hb dX12_toward_111 hl (by decide) rfl (fun ls hl => ?_)
                refine lv_iload hx hb dX12_toward_113 (lv_at hl 1 rfl) ?_
                have jn11 : ∀ (i11 : Nat → Int32) (q11 : Int64) (c11 : Nat → Nat → Int32) (d11 : Nat → Nat → Int64), mInv i11 c11 → (∀ k, k ∉ ([0, 16, 17, 18, 19] : List Nat) → i11 k = i k) → (∀ k, k ∉ ([1, 20, 21] : List Nat) → c11 k = c k) → ∀ (H : Heap) (locs : List Loc) (ls : Array Slot), va_P D vwCl (mW o a t i11 q11 c11 d11) H → va_D A (mW o a t i11 q11 c11 d11) → va_S A s.heap H locs → lv_has ls 9 [(8, .int (i9 16)), (7, .int z10_0), (6, .int y7_6), (5, .int x4), (4, .int r1), (0, .ref o), (1, .int w1), (2, .int w2), (3, .int b1)] → W p l e (headSpec wm_X12_toward ({ frames := 3, cells := 0, slots := 0, locals := 74 })).room s m ([.ref o, .int w1, .int w2, .int b1] : List Value).toArray below meth cd H locs 0 0 (MQ below (va_Qi (fun (r : Int32) (u : MS) => True ∧ mInv u.1 u.2.2.1 ∧ (∀ k, k ∉ ([0, 16, 17, 18, 19] : List Nat) → u.1 k = i k) ∧ (∀ k, k ∉ ([1, 20, 21] : List Nat) → u.2.2.1 k = c k)) (oC D A (fun u : MS => mW o a t u.1 u.2.1 u.2.2.1 u.2.2.2) (fun _ => [])) A) ([.ref o, .int w1, .int w2, .int b1] : List Value).toArray s 0 0 A) (F0 m 141 ls []) := by
                  intro i11 q11 c11 d11 hI hfi hfc H locs ls hP hD hS hl
                  obtain ⟨x12, ex12⟩ : ∃ y : Int32, y = y7_6 + 1 := ⟨_, rfl⟩
                  have tx12 := ti_add (a := y7_6.toInt) (b := 1) ex12 rfl (by decide) (by omega) (by omega)
                  refine lv_iinc (v := x12) (lv' := [(6, .int x12), (8, .int (i9 16)), (7, .int z10_0), (5, .int x4), (4, .int r1), (0, .ref o), (1, .int w1), (2, .int w2), (3, .int b1)]) hx hb dX12_toward_141 hl (k := 2) rfl (by rw [ex12]; rfl) (by decide) rfl (fun ls hl => ?_)
                  refine lv_goto (tgt := 48) hx hb dX12_toward_144 (by decide) ?_
                  exact ih7 i11 q11 c11 d11 x12 hI (fr_w hfi (by decide)) (fr_w hfc (by decide)) (show 0 ≤ x12.toInt ∧ x12.toInt ≤ 10 from by have h50 : x12.toInt = (y7_6.toInt + 1) := tx12; omega) (by have h50 : x12.toInt = (y7_6.toInt + 1) := tx12; omega) _ _ _ hP hD hS (lv_sub hl [0, 3, 4, 5, 6, 7, 8] rfl)
                refine lv_if_eq (tgt := 141) hx hb dX12_toward_115 (by decide) (fun c13 => ?_) (fun c13 => ?_)
                · have f13 := (ti_eq (a := z10_0.toInt) (b := 0) rfl (by decide)).mp c13
                  exact jn11 i9 q9 c9 d9   hI (fr_w hfi (by decide)) (fr_w hfc (by decide)) _ _ _ hP hD hS (lv_sub hl [0, 1, 2, 3, 4, 5, 6, 7, 8] rfl)
                · have f13 := mt (ti_eq (a := z10_0.toInt) (b := 0) rfl (by decide)).mpr c13
                  refine lv_aload_n hx hb dX12_toward_118 rfl (lv_at hl 5 rfl) ?_
                  refine lv_iload hx hb dX12_toward_119 (lv_at hl 0 rfl) ?_
                  refine lv_iload_n hx hb dX12_toward_121 rfl (lv_at hl 8 rfl) ?_
                  refine al_callv (va_runV (As := [.int (i9 16), .int b1]) (rest := []) ⟨hx, hb, hml, hown, hts⟩ (s_X12_walk l D H.size o a t i9 q9 c9 d9 (i9 16) b1 hI (show 0 ≤ (i9 16).toInt ∧ (i9 16).toInt ≤ 29 from by omega)) (cwV 2 hts gm_X12_toward_X12_walk rfl rfl rfl (by decide +kernel) ⟨Nat.le_of_ble_eq_true rfl, Nat.le_of_ble_eq_true rfl⟩) (pB_V hK hP hD (ci := 12) (q0 := 0) rfl rfl) rfl rfl hl.1 rfl (lv_room (Nat.le_of_ble_eq_true rfl)) dX12_toward_122 ⟨Nat.le_of_ble_eq_true rfl, Nat.le_of_ble_eq_true rfl⟩) hS hA hP hD (fun u14 H locs hw14 hP hD hS => ?_)
                  obtain ⟨i14, q14, c14, d14⟩ := u14
                  have hw14 : True ∧ mInv i14 c14 ∧ (∀ k, k ∉ ([16, 17, 18, 19] : List Nat) → i14 k = i9 k) ∧ (∀ k, k ∉ ([20, 21] : List Nat) → c14 k = c9 k) := hw14
                  obtain ⟨hw14, hI, hei14, hec14⟩ := hw14
                  have hfi : ∀ k, k ∉ ([0, 16, 17, 18, 19] : List Nat) → i14 k = i k := fr_z hfi hei14 (by decide) (by decide)
                  have hfc : ∀ k, k ∉ ([1, 20, 21] : List Nat) → c14 k = c k := fr_z hfc hec14 (by decide) (by decide)
                  have hP : va_P D vwCl (mW o a t i14 q14 c14 d14) H := hP
                  have hD : va_D A (mW o a t i14 q14 c14 d14) := hD
                  refine lv_aload_n hx hb dX12_toward_125 rfl (lv_at hl 5 rfl) ?_
                  refine mget_20 hx hb hts (fun _ h => List.mem_cons_of_mem _ (List.mem_append_right _ h)) hown hK hP (hts (.fieldLink RX12 44 "TalePlayModel" "far" "[I") (by decide +kernel)) dX12_toward_126 ?_
                  refine lv_iload_n hx hb dX12_toward_129 rfl (lv_at hl 7 rfl) ?_
                  refine mld_20 hx hb hK hP (vp_in_iff.mpr (by have h9 : w2.toInt = w2.toInt := rfl; omega)) dX12_toward_130 (fun x15 ex15 => ?_)
                  have rx15 : x15.toInt = -9 ∨ (0 ≤ x15.toInt ∧ x15.toInt ≤ 29) := by rw [ex15]; exact hI.2 20 _
                  refine lv_iload hx hb dX12_toward_131 (lv_at hl 3 rfl) ?_
                  refine lv_iconst (v := 1) hx hb dX12_toward_133 (by decide) ?_
                  refine lv_isub hx hb dX12_toward_134 ?_
                  refine lv_topi (fun x16 ex16 => ?_)
                  have tx16 := ti_sub (a := x4.toInt) (b := 1) ex16 rfl (by decide) (by omega) (by omega)
                  refine lv_icmp_ne (tgt := 141) hx hb dX12_toward_135 (by decide) (fun c17 => ?_) (fun c17 => ?_)
                  · have f17 := mt (ti_eq (a := x15.toInt) (b := (x4.toInt - 1)) rfl tx16).mpr c17
                    exact jn11 i14 q14 c14 d14   hI (fr_w hfi (by decide)) (fr_w hfc (by decide)) _ _ _ hP hD hS (lv_sub hl [0, 1, 2, 3, 4, 5, 6, 7, 8] rfl)
                  · have f17 := (ti_eq (a := x15.toInt) (b := (x4.toInt - 1)) rfl tx16).mp c17
                    refine lv_iload hx hb dX12_toward_138 (lv_at hl 2 rfl) ?_
                    exact rw_iret (i14, q14, c14, d14) hx hb hr hlocks hS (hK.sub (tys' := []) [] rfl) hP hD dX12_toward_140 ⟨trivial, hI, fr_w hfi (by decide), fr_w hfc (by decide)⟩
              have jn18 : ∀ (H : Heap) (locs : List Loc) (ls : Array Slot), va_P D vwCl (mW o a t i9 q9 c9 d9) H → va_D A (mW o a t i9 q9 c9 d9) → va_S A s.heap H locs → lv_has ls 9 [(6, .int y7_6), (5, .int x4), (4, .int r1), (0, .ref o), (1, .int w1), (2, .int w2), (3, .int b1)] → W p l e (headSpec wm_X12_toward ({ frames := 3, cells := 0, slots := 0, locals := 74 })).room s m ([.ref o, .int w1, .int w2, .int b1] : List Value).toArray below meth cd H locs 0 0 (MQ below (va_Qi (fun (r : Int32) (u : MS) => True ∧ mInv u.1 u.2.2.1 ∧ (∀ k, k ∉ ([0, 16, 17, 18, 19] : List Nat) → u.1 k = i k) ∧ (∀ k, k ∉ ([1, 20, 21] : List Nat) → u.2.2.1 k = c k)) (oC D A (fun u : MS => mW o a t u.1 u.2.1 u.2.2.1 u.2.2.2) (fun _ => [])) A) ([.ref o, .int w1, .int w2, .int b1] : List Value).toArray s 0 0 A) (F0 m 104 ls []) := by
                intro H locs ls hP hD hS hl
                refine lv_iconst (v := 0) hx hb dX12_toward_104 (by decide) ?_
                exact jn10  (0 : Int32) (show (0 : Int32).toInt = 0 ∨ (0 : Int32).toInt = 1 from by have h57 : (0 : Int32).toInt = 0 := (by decide); omega) (show (0 : Int32).toInt = 1 → ¬ ((i9 16) : Int32).toInt = -9 from by have h57 : (0 : Int32).toInt = 0 := (by decide); omega) _ _ _ hP hD hS (lv_sub hl [0, 1, 2, 3, 4, 5, 6] rfl)
              refine lv_if_eq (tgt := 104) hx hb dX12_toward_62 (by decide) (fun c19 => ?_) (fun c19 => ?_)
              · have f19 := (ti_eq (a := r9.toInt) (b := 0) rfl (by decide)).mp c19
                exact jn18    _ _ _ hP hD hS (lv_sub hl [0, 1, 2, 3, 4, 5, 6] rfl)
              · have f19 := mt (ti_eq (a := r9.toInt) (b := 0) rfl (by decide)).mpr c19
                refine lv_aload_n hx hb dX12_toward_65 rfl (lv_at hl 3 rfl) ?_
                refine mget_16 (v := (i9 16)) rfl hx hb hts (fun _ h => List.mem_cons_of_mem _ (List.mem_append_right _ h)) hown hK hP (hts (.fieldLink RX12 263 "TalePlayModel" "leads" "I") (by decide +kernel)) dX12_toward_66 ?_
                have rb16_i9 : (i9 16).toInt = -9 ∨ (0 ≤ (i9 16).toInt ∧ (i9 16).toInt ≤ 29) := hI.1 16
                refine lv_bipush (v := (-9)) hx hb dX12_toward_69 (by decide) ?_
                refine lv_icmp_eq (tgt := 104) hx hb dX12_toward_71 (by decide) (fun c20 => ?_) (fun c20 => ?_)
                · have f20 := (ti_eq (a := (i9 16).toInt) (b := (-9)) rfl (by decide)).mp c20
                  exact jn18    _ _ _ hP hD hS (lv_sub hl [0, 1, 2, 3, 4, 5, 6] rfl)
                · have f20 := mt (ti_eq (a := (i9 16).toInt) (b := (-9)) rfl (by decide)).mpr c20
                  refine lv_iload_n hx hb dX12_toward_74 rfl (lv_at hl 6 rfl) ?_
                  have jn21 : ∀ (H : Heap) (locs : List Loc) (ls : Array Slot), va_P D vwCl (mW o a t i9 q9 c9 d9) H → va_D A (mW o a t i9 q9 c9 d9) → va_S A s.heap H locs → lv_has ls 9 [(6, .int y7_6), (5, .int x4), (4, .int r1), (0, .ref o), (1, .int w1), (2, .int w2), (3, .int b1)] → W p l e (headSpec wm_X12_toward ({ frames := 3, cells := 0, slots := 0, locals := 74 })).room s m ([.ref o, .int w1, .int w2, .int b1] : List Value).toArray below meth cd H locs 0 0 (MQ below (va_Qi (fun (r : Int32) (u : MS) => True ∧ mInv u.1 u.2.2.1 ∧ (∀ k, k ∉ ([0, 16, 17, 18, 19] : List Nat) → u.1 k = i k) ∧ (∀ k, k ∉ ([1, 20, 21] : List Nat) → u.2.2.1 k = c k)) (oC D A (fun u : MS => mW o a t u.1 u.2.1 u.2.2.1 u.2.2.2) (fun _ => [])) A) ([.ref o, .int w1, .int w2, .int b1] : List Value).toArray s 0 0 A) (F0 m 100 ls []) := by
                    intro H locs ls hP hD hS hl
                    refine lv_iconst (v := 1) hx hb dX12_toward_100 (by decide) ?_
                    refine lv_goto (tgt := 105) hx hb dX12_toward_101 (by decide) ?_
                    exact jn10  (1 : Int32) (show (1 : Int32).toInt = 0 ∨ (1 : Int32).toInt = 1 from by have h57 : (1 : Int32).toInt = 1 := (by decide); omega) (show (1 : Int32).toInt = 1 → ¬ ((i9 16) : Int32).toInt = -9 from by have h57 : (1 : Int32).toInt = 1 := (by decide); omega) _ _ _ hP hD hS (lv_sub hl [0, 1, 2, 3, 4, 5, 6] rfl)
                  refine lv_if_eq (tgt := 100) hx hb dX12_toward_75 (by decide) (fun c22 => ?_) (fun c22 => ?_)
                  · have f22 := (ti_eq (a := b1.toInt) (b := 0) rfl (by decide)).mp c22
                    exact jn21    _ _ _ hP hD hS (lv_sub hl [0, 1, 2, 3, 4, 5, 6] rfl)
                  · have f22 := mt (ti_eq (a := b1.toInt) (b := 0) rfl (by decide)).mpr c22
                    refine lv_aload_n hx hb dX12_toward_78 rfl (lv_at hl 3 rfl) ?_
                    refine mget_17 (v := (i9 17)) rfl hx hb hts (fun _ h => List.mem_cons_of_mem _ (List.mem_append_right _ h)) hown hK hP (hts (.fieldLink RX12 266 "TalePlayModel" "byDoor" "I") (by decide +kernel)) dX12_toward_79 ?_
                    have rb17_i9 : (i9 17).toInt = -9 ∨ (0 ≤ (i9 17).toInt ∧ (i9 17).toInt ≤ 29) := hI.1 17
                    refine lv_bipush (v := (-9)) hx hb dX12_toward_82 (by decide) ?_
                    refine lv_icmp_eq (tgt := 100) hx hb dX12_toward_84 (by decide) (fun c23 => ?_) (fun c23 => ?_)
                    · have f23 := (ti_eq (a := (i9 17).toInt) (b := (-9)) rfl (by decide)).mp c23
                      exact jn21    _ _ _ hP hD hS (lv_sub hl [0, 1, 2, 3, 4, 5, 6] rfl)
                    · have f23 := mt (ti_eq (a := (i9 17).toInt) (b := (-9)) rfl (by decide)).mpr c23
                      refine lv_aload_n hx hb dX12_toward_87 rfl (lv_at hl 3 rfl) ?_
                      refine lv_aload_n hx hb dX12_toward_88 rfl (lv_at hl 3 rfl) ?_
                      refine mget_17 (v := (i9 17)) rfl hx hb hts (fun _ h => List.mem_cons_of_mem _ (List.mem_append_right _ h)) hown hK hP (hts (.fieldLink RX12 266 "TalePlayModel" "byDoor" "I") (by decide +kernel)) dX12_toward_89 ?_
                      refine lv_iconst (v := 0) hx hb dX12_toward_92 (by decide) ?_
                      refine ro_calli (va_runV (As := [.int (i9 17), .int 0]) (rest := []) ⟨hx, hb, hml, hown, hts⟩ (s_X12_saidFlag l D H.size o a t i9 q9 c9 d9 (i9 17) 0 hI (show 0 ≤ (i9 17).toInt ∧ (i9 17).toInt ≤ 29 from by have h91 : (0 : Int32).toInt = 0 := (by decide); omega) (show 0 ≤ 0 ∧ 0 ≤ 5 from by have h91 : (0 : Int32).toInt = 0 := (by decide); omega)) (cwV 2 hts gm_X12_toward_X12_saidFlag rfl rfl rfl (by decide +kernel) ⟨Nat.le_of_ble_eq_true rfl, Nat.le_of_ble_eq_true rfl⟩) (pA_V hK hP (ci := 12) (q0 := 0) rfl rfl) rfl rfl hl.1 rfl (lv_room (Nat.le_of_ble_eq_true rfl)) dX12_toward_93 ⟨Nat.le_of_ble_eq_true rfl, Nat.le_of_ble_eq_true rfl⟩) hS hA hP (fun r24 u24 H locs hw24 hP hS => ?_)
                      have hw24 : (r24.toInt = -9 ∨ (0 ≤ r24.toInt ∧ r24.toInt ≤ 1)) := hw24
                      refine lv_iconst (v := 1) hx hb dX12_toward_96 (by decide) ?_
                      refine lv_icmp_ne (tgt := 104) hx hb dX12_toward_97 (by decide) (fun c25 => ?_) (fun c25 => ?_)
                      · have f25 := mt (ti_eq (a := r24.toInt) (b := 1) rfl (by decide)).mpr c25
                        exact jn18    _ _ _ hP hD hS (lv_sub hl [0, 1, 2, 3, 4, 5, 6] rfl)
                      · have f25 := (ti_eq (a := r24.toInt) (b := 1) rfl (by decide)).mp c25
                        exact jn21    _ _ _ hP hD hS (lv_sub hl [0, 1, 2, 3, 4, 5, 6] rfl)
        exact lp7 _ i3 q3 c3 d3 (0 : Int32) hI (fr_w hfi (by decide)) (fr_w hfc (by decide)) (show 0 ≤ (0 : Int32).toInt ∧ (0 : Int32).toInt ≤ 10 from by have h50 : (0 : Int32).toInt = 0 := (by decide); omega) (Nat.lt_succ_self _) _ _ _ hP hD hS (lv_sub hl [0, 1, 2, 3, 4, 5, 6] rfl)
      · have f6 := (ti_eq (a := x4.toInt) (b := 0) rfl (by decide)).mp c6
        refine lv_bipush (v := (-9)) hx hb dX12_toward_42 (by decide) ?_
        exact rw_iret (i3, q3, c3, d3) hx hb hr hlocks hS (hK.sub (tys' := []) [] rfl) hP hD dX12_toward_44 ⟨trivial, hI, fr_w hfi (by decide), fr_w hfc (by decide)⟩
  · have f2 := mt (ti_le (a := 0) (b := r1.toInt) (by decide) rfl).mpr c2
    refine lv_iload hx hb dX12_toward_13 (lv_at hl 0 rfl) ?_
    exact rw_iret (i1, q1, c1, d1) hx hb hr hlocks hS (hK.sub (tys' := []) [] rfl) hP hD dX12_toward_15 ⟨trivial, hI, fr_w hfi (by decide), fr_w hfc (by decide)⟩

def wm_X12_exit : List Cond := .code yX12_exit cX12_exit 4 (some .int) :: (([.methodLink RX12 180 yX12_isObject, .instanceMethod yX12_isObject, .selects RX12 yX12_isObject yX12_isObject, .initialized RX12, .code yX12_isObject cX12_isObject 2 (some .boolean), .fieldLink RX12 177 "TalePlayModel" "objects" "I", .methodLink RX12 166 yX12_in, .static yX12_in, .code yX12_in cX12_in 6 (some .boolean), .constantLong RX12 197 (9), .constantLong RX12 279 (3), .methodLink RX12 184 yX12_isOf, .instanceMethod yX12_isOf, .selects RX12 yX12_isOf yX12_isOf, .code yX12_isOf cX12_isOf 4 (some .boolean), .fieldLink RX12 19 "TalePlayModel" "kindOf" "[I", .fieldLink RX12 13 "TalePlayModel" "parentOf" "[I", .methodLink RX12 281 yX12_findExit, .instanceMethod yX12_findExit, .selects RX12 yX12_findExit yX12_findExit, .code yX12_findExit cX12_findExit 6 (some .boolean), .fieldLink RX12 263 "TalePlayModel" "leads" "I", .fieldLink RX12 266 "TalePlayModel" "byDoor" "I", .fieldLink RX12 269 "TalePlayModel" "bySentence" "I", .fieldLink RX12 272 "TalePlayModel" "isImplied" "Z", .fieldLink RX12 202 "TalePlayModel" "sentences" "I", .fieldLink RX12 28 "TalePlayModel" "left" "[I", .fieldLink RX12 31 "TalePlayModel" "middle" "[I", .methodLink RX12 276 yX12_otherSide, .instanceMethod yX12_otherSide, .selects RX12 yX12_otherSide yX12_otherSide, .code yX12_otherSide cX12_otherSide 4 (some .int), .fieldLink RX12 37 "TalePlayModel" "isSaid" "[Z", .fieldLink RX12 25 "TalePlayModel" "form" "[I", .fieldLink RX12 34 "TalePlayModel" "right" "[I", .methodLink RX12 233 yX12_meets, .instanceMethod yX12_meets, .selects RX12 yX12_meets yX12_meets, .code yX12_meets cX12_meets 2 (some .int), .fieldLink RX12 161 "TalePlayModel" "latest" "I", .fieldLink RX12 7 "TalePlayModel" "came" "[I"] : List Cond) ++ wsX120)
set_option maxRecDepth 20000 in
theorem gm_X12_exit_X12_isObject : GoodIn wm_X12_exit (wsV RX12 180 RX12 yX12_isObject wm_X12_isObject) := goodIn_app (goodIn_of _ (by decide +kernel)) (goodIn_r _ [5, 6, 7, 8, 4, 9, 42, 43, 44, 45, 46, 47, 48, 49, 50, 51, 52, 53, 54, 55, 56, 57, 58, 59, 60, 61, 62, 63, 64, 65, 66, 67, 68, 69, 70, 71, 72, 73, 74, 75, 76, 77, 78, 79, 80, 81, 82, 83, 84, 85, 86, 87, 88, 89, 90, 91, 92, 93, 94, 95, 96, 97, 98, 99, 100, 101, 102, 103, 104, 105, 106, 107, 108, 109, 110] (by decide +kernel) (by decide +kernel))
set_option maxRecDepth 20000 in
theorem gm_X12_exit_X12_in : GoodIn wm_X12_exit (va_wsS RX12 166 yX12_in wm_X12_in) := goodIn_app (goodIn_of _ (by decide +kernel)) (goodIn_r _ [9] (by decide +kernel) (by decide +kernel))
set_option maxRecDepth 20000 in
theorem gm_X12_exit_X12_isOf : GoodIn wm_X12_exit (wsV RX12 184 RX12 yX12_isOf wm_X12_isOf) := goodIn_app (goodIn_of _ (by decide +kernel)) (goodIn_r _ [15, 16, 17, 42, 43, 44, 45, 46, 47, 48, 49, 50, 51, 52, 53, 54, 55, 56, 57, 58, 59, 60, 61, 62, 63, 64, 65, 66, 67, 68, 69, 70, 71, 72, 73, 74, 75, 76, 77, 78, 79, 80, 81, 82, 83, 84, 85, 86, 87, 88, 89, 90, 91, 92, 93, 94, 95, 96, 97, 98, 99, 100, 101, 102, 103, 104, 105, 106, 107, 108, 109, 110] (by decide +kernel) (by decide +kernel))
set_option maxRecDepth 20000 in
theorem gm_X12_exit_X12_findExit : GoodIn wm_X12_exit (wsV RX12 281 RX12 yX12_findExit wm_X12_findExit) := goodIn_app (goodIn_of _ (by decide +kernel)) (goodIn_r _ [21, 22, 23, 24, 25, 26, 27, 28, 12, 13, 14, 4, 15, 16, 17, 29, 30, 31, 32, 33, 34, 35, 42, 43, 44, 45, 46, 47, 48, 49, 50, 51, 52, 53, 54, 55, 56, 57, 58, 59, 60, 61, 62, 63, 64, 65, 66, 67, 68, 69, 70, 71, 72, 73, 74, 75, 76, 77, 78, 79, 80, 81, 82, 83, 84, 85, 86, 87, 88, 89, 90, 91, 92, 93, 94, 95, 96, 97, 98, 99, 100, 101, 102, 103, 104, 105, 106, 107, 108, 109, 110] (by decide +kernel) (by decide +kernel))
set_option maxRecDepth 20000 in
theorem gm_X12_exit_X12_meets : GoodIn wm_X12_exit (wsV RX12 233 RX12 yX12_meets wm_X12_meets) := goodIn_app (goodIn_of _ (by decide +kernel)) (goodIn_r _ [39, 40, 41, 42, 43, 44, 45, 46, 47, 48, 49, 50, 51, 52, 53, 54, 55, 56, 57, 58, 59, 60, 61, 62, 63, 64, 65, 66, 67, 68, 69, 70, 71, 72, 73, 74, 75, 76, 77, 78, 79, 80, 81, 82, 83, 84, 85, 86, 87, 88, 89, 90, 91, 92, 93, 94, 95, 96, 97, 98, 99, 100, 101, 102, 103, 104, 105, 106, 107, 108, 109, 110] (by decide +kernel) (by decide +kernel))
set_option maxHeartbeats 4000000 in
set_option maxRecDepth 100000 in
theorem s_X12_exit (l : Launch) (D : va_G) (sz : Nat) (o : Nat) (a : Nat → Nat) (t : Nat → ClassId) (i : Nat → Int32) (q : Int64) (c : Nat → Nat → Int32) (d : Nat → Nat → Int64) (w : Int32) (d1 : Int32) (w1 : Int32) (hI : mInv i c) : Met l yX12_exit wm_X12_exit ({ frames := 2, cells := 0, slots := 0, locals := 48 }) (va_Pc [.ref o, .int w, .int d1, .int w1] (pB D sz (mW o a t i q c d) (mT t))) (va_Qi (fun (r : Int32) (u : MS) => True ∧ mInv u.1 u.2.2.1 ∧ (∀ k, k ∉ ([0, 16, 17, 18, 19] : List Nat) → u.1 k = i k) ∧ (∀ k, k ∉ ([1] : List Nat) → u.2.2.1 k = c k)) (oC D (va_A (mW o a t i q c d) sz) (fun u : MS => mW o a t u.1 u.2.1 u.2.2.1 u.2.2.2) (fun _ => [])) (va_A (mW o a t i q c d) sz)) 0 0 (va_A (mW o a t i q c d) sz) := by
  refine Met.ofW (cc := cX12_exit) (maxL := 4) (ret := (some .int)) (by decide) rfl ?_
  intro p e s m args below meth cd s₁ B hml hv
  obtain ⟨rfl, hsz, hP, hK, hD0⟩ := hv
  have hx := B.exec
  have hb := B.bytes
  have hr := B.returns
  have hts := atoms_spec (ws := wm_X12_exit) B.pre
  have hown : s.vm.findClass RX12 = some m.cls := findClass_of_methodNamed B.named
  have hlocks := B.notSynchronized
  subst hsz
  have hD := hD0.self (sz := s.heap.size)
  generalize hAe : va_A (mW o a t i q c d) s.heap.size = A at hD ⊢
  have hA : ∀ q : Nat, s.heap.size ≤ q → A q := fun q h => by rw [← hAe]; exact Or.inr h
  have hS : va_S A s.heap s.heap [] := va_S.rf
  have hfi : ∀ k, k ∉ ([] : List Nat) → i k = i k := fun _ _ => rfl
  have hfc : ∀ k, k ∉ ([] : List Nat) → c k = c k := fun _ _ => rfl
  have hl := lv_entry ([.ref o, .int w, .int d1, .int w1]) (n := 4) (Nat.le_of_ble_eq_true rfl)
  rw [lg_entry_eq]
  generalize (lg_sl ([.ref o, .int w, .int d1, .int w1]) ++ List.replicate (4 - (lg_sl ([.ref o, .int w, .int d1, .int w1])).length) Slot.unset).toArray = ls at hl ⊢
  have hl : lv_has ls 4 [(0, .ref o), (1, .int w), (2, .int d1), (3, .int w1)] := hl
  refine lv_aload_n hx hb dX12_exit_0 rfl (lv_at hl 0 rfl) ?_
  refine lv_iload_n hx hb dX12_exit_1 rfl (lv_at hl 1 rfl) ?_
  have rb5_i : 0 ≤ (i 5).toInt ∧ (i 5).toInt ≤ 30 := hI.1 5
  refine ro_calli (va_runV (As := [.int w]) (rest := []) ⟨hx, hb, hml, hown, hts⟩ (s_X12_isObject l D s.heap.size o a t i q c d w hI ) (cwV 1 hts gm_X12_exit_X12_isObject rfl rfl rfl (by decide +kernel) ⟨Nat.le_of_ble_eq_true rfl, Nat.le_of_ble_eq_true rfl⟩) (pA_V hK hP (ci := 12) (q0 := 0) rfl rfl) rfl rfl hl.1 rfl (lv_room (Nat.le_of_ble_eq_true rfl)) dX12_exit_2 ⟨Nat.le_of_ble_eq_true rfl, Nat.le_of_ble_eq_true rfl⟩) hS hA hP (fun r1 u1 H locs hw1 hP hS => ?_)
  have hw1 : r1 = if (0 ≤ w.toInt ∧ w.toInt ≤ (i 5).toInt - 1) then 1 else 0 := hw1
  refine lv_if_eq (tgt := 32) hx hb dX12_exit_5 (by decide) (fun c2 => ?_) (fun c2 => ?_)
  · have f2 := fl_f hw1 c2
    refine lv_iconst (v := (-1)) hx hb dX12_exit_32 (by decide) ?_
    exact rw_iret (i, q, c, d) hx hb hr hlocks hS (hK.sub (tys' := []) [] rfl) hP hD dX12_exit_33 ⟨trivial, hI, fr_w hfi (by decide), fr_w hfc (by decide)⟩
  · have f2 := fl_t hw1 c2
    refine lv_iload_n hx hb dX12_exit_8 rfl (lv_at hl 2 rfl) ?_
    refine lv_i2l (v := d1.toInt64) hx hb dX12_exit_9 rfl ?_
    refine lv_lconst (v := 0) hx hb dX12_exit_10 (by decide) ?_
    refine lv_ldc2 (v := 9) hx hb hown (hts (.constantLong RX12 197 (9)) (by decide +kernel)) dX12_exit_11 ?_
    have hPc := hP.sub (ws' := []) [] rfl
    have hKc := hK.sub (tys' := []) [] rfl
    refine ro_calli (va_runS (As := [.long d1.toInt64, .long 0, .long 9]) (rest := []) ⟨hx, hb, hml, hown, hts⟩ (c_X12_in l D H.size d1.toInt64 0 9 d1.toInt 0 9 ((Int32.toInt_toInt64 d1).trans rfl) (by decide) (by decide)) (va_cwS 3 hts gm_X12_exit_X12_in rfl rfl rfl (by decide +kernel) ⟨Nat.le_of_ble_eq_true rfl, Nat.le_of_ble_eq_true rfl⟩) (pA_S hKc hPc) rfl rfl hl.1 rfl (lv_room (Nat.le_of_ble_eq_true rfl)) dX12_exit_14 ⟨Nat.le_of_ble_eq_true rfl, Nat.le_of_ble_eq_true rfl⟩) hS hA hP (fun r3 u3 H locs hw3 hP hS => ?_)
    have hw3 : r3 = if (0 ≤ d1.toInt ∧ d1.toInt ≤ 9) then 1 else 0 := hw3
    refine lv_if_eq (tgt := 32) hx hb dX12_exit_17 (by decide) (fun c4 => ?_) (fun c4 => ?_)
    · have f4 := fl_f hw3 c4
      refine lv_iconst (v := (-1)) hx hb dX12_exit_32 (by decide) ?_
      exact rw_iret (i, q, c, d) hx hb hr hlocks hS (hK.sub (tys' := []) [] rfl) hP hD dX12_exit_33 ⟨trivial, hI, fr_w hfi (by decide), fr_w hfc (by decide)⟩
    · have f4 := fl_t hw3 c4
      refine lv_iload_n hx hb dX12_exit_20 rfl (lv_at hl 3 rfl) ?_
      refine lv_i2l (v := w1.toInt64) hx hb dX12_exit_21 rfl ?_
      refine lv_lconst (v := 0) hx hb dX12_exit_22 (by decide) ?_
      refine lv_ldc2 (v := 3) hx hb hown (hts (.constantLong RX12 279 (3)) (by decide +kernel)) dX12_exit_23 ?_
      have hPc := hP.sub (ws' := []) [] rfl
      have hKc := hK.sub (tys' := []) [] rfl
      refine ro_calli (va_runS (As := [.long w1.toInt64, .long 0, .long 3]) (rest := []) ⟨hx, hb, hml, hown, hts⟩ (c_X12_in l D H.size w1.toInt64 0 3 w1.toInt 0 3 ((Int32.toInt_toInt64 w1).trans rfl) (by decide) (by decide)) (va_cwS 3 hts gm_X12_exit_X12_in rfl rfl rfl (by decide +kernel) ⟨Nat.le_of_ble_eq_true rfl, Nat.le_of_ble_eq_true rfl⟩) (pA_S hKc hPc) rfl rfl hl.1 rfl (lv_room (Nat.le_of_ble_eq_true rfl)) dX12_exit_26 ⟨Nat.le_of_ble_eq_true rfl, Nat.le_of_ble_eq_true rfl⟩) hS hA hP (fun r5 u5 H locs hw5 hP hS => ?_)
      have hw5 : r5 = if (0 ≤ w1.toInt ∧ w1.toInt ≤ 3) then 1 else 0 := hw5
      refine lv_if_ne (tgt := 34) hx hb dX12_exit_29 (by decide) (fun c6 => ?_) (fun c6 => ?_)
      · have f6 := fl_t hw5 c6
        refine lv_aload_n hx hb dX12_exit_34 rfl (lv_at hl 0 rfl) ?_
        refine lv_iload_n hx hb dX12_exit_35 rfl (lv_at hl 1 rfl) ?_
        refine lv_iconst (v := 0) hx hb dX12_exit_36 (by decide) ?_
        refine ro_calli (va_runV (As := [.int w, .int 0]) (rest := []) ⟨hx, hb, hml, hown, hts⟩ (s_X12_isOf l D H.size o a t i q c d w 0 hI (show 0 ≤ w.toInt ∧ w.toInt ≤ 29 from by have h91 : (0 : Int32).toInt = 0 := (by decide); omega) (show 0 ≤ 0 from by have h91 : (0 : Int32).toInt = 0 := (by decide); omega)) (cwV 2 hts gm_X12_exit_X12_isOf rfl rfl rfl (by decide +kernel) ⟨Nat.le_of_ble_eq_true rfl, Nat.le_of_ble_eq_true rfl⟩) (pA_V hK hP (ci := 12) (q0 := 0) rfl rfl) rfl rfl hl.1 rfl (lv_room (Nat.le_of_ble_eq_true rfl)) dX12_exit_37 ⟨Nat.le_of_ble_eq_true rfl, Nat.le_of_ble_eq_true rfl⟩) hS hA hP (fun r7 u7 H locs hw7 hP hS => ?_)
        have hw7 : ((0 ≤ r7.toInt ∧ r7.toInt ≤ 1) ∧ (Sm r7 (Kd (c 3) (c 6) w.toInt 0))) := hw7
        obtain ⟨hw7, hr7_0⟩ := hw7
        have hr7_0 : Sm r7 (Kd (c 3) (c 6) w.toInt 0) := hr7_0
        refine lv_if_ne (tgt := 49) hx hb dX12_exit_40 (by decide) (fun c8 => ?_) (fun c8 => ?_)
        · have f8 := mt (ti_eq (a := r7.toInt) (b := 0) rfl (by decide)).mpr c8
          have s8 := sm_t hr7_0 c8
          refine lv_aload_n hx hb dX12_exit_49 rfl (lv_at hl 0 rfl) ?_
          refine lv_iload_n hx hb dX12_exit_50 rfl (lv_at hl 1 rfl) ?_
          refine lv_iload_n hx hb dX12_exit_51 rfl (lv_at hl 2 rfl) ?_
          have rb8_i : 0 ≤ (i 8).toInt ∧ (i 8).toInt ≤ 200 := hI.1 8
          refine al_calli (va_runV (As := [.int w, .int d1]) (rest := []) ⟨hx, hb, hml, hown, hts⟩ (s_X12_findExit l D H.size o a t i q c d w d1 hI (show 0 ≤ w.toInt ∧ w.toInt ≤ 29 from by omega) (show 0 ≤ d1.toInt ∧ d1.toInt ≤ 9 from by omega)) (cwV 2 hts gm_X12_exit_X12_findExit rfl rfl rfl (by decide +kernel) ⟨Nat.le_of_ble_eq_true rfl, Nat.le_of_ble_eq_true rfl⟩) (pB_V hK hP hD (ci := 12) (q0 := 0) rfl rfl) rfl rfl hl.1 rfl (lv_room (Nat.le_of_ble_eq_true rfl)) dX12_exit_52 ⟨Nat.le_of_ble_eq_true rfl, Nat.le_of_ble_eq_true rfl⟩) hS hA hP hD (fun r9 u9 H locs hw9 hP hD hS => ?_)
          obtain ⟨i9, q9, c9, d9⟩ := u9
          have hw9 : (0 ≤ r9.toInt ∧ r9.toInt ≤ 1) ∧ mInv i9 c9 ∧ (∀ k, k ∉ ([16, 17, 18, 19] : List Nat) → i9 k = i k) ∧ (∀ k, k ∉ ([] : List Nat) → c9 k = c k) ∧ (LdR (c 3) (c 6) (c 9) (c 10) (c 11) (c 12) (c 13) (i 8).toInt w.toInt d1.toInt (i9 16).toInt) := hw9
          obtain ⟨hw9, hI, hei9, hec9, hxp9_0⟩ := hw9
          have hxp9_0 : LdR (c 3) (c 6) (c 9) (c 10) (c 11) (c 12) (c 13) (i 8).toInt w.toInt d1.toInt (i9 16).toInt := hxp9_0
          have hfi : ∀ k, k ∉ ([16, 17, 18, 19] : List Nat) → i9 k = i k := fr_z hfi hei9 (by decide) (by decide)
          have hfc : ∀ k, k ∉ ([] : List Nat) → c9 k = c k := fr_z hfc hec9 (by decide) (by decide)
          have hP : va_P D vwCl (mW o a t i9 q9 c9 d9) H := hP
          have hD : va_D A (mW o a t i9 q9 c9 d9) := hD
          refine lv_if_ne (tgt := 61) hx hb dX12_exit_55 (by decide) (fun c10 => ?_) (fun c10 => ?_)
          · have f10 := mt (ti_eq (a := r9.toInt) (b := 0) rfl (by decide)).mpr c10
            refine lv_iload_n hx hb dX12_exit_61 rfl (lv_at hl 3 rfl) ?_
            refine lv_if_ne (tgt := 72) hx hb dX12_exit_62 (by decide) (fun c11 => ?_) (fun c11 => ?_)
            · have f11 := mt (ti_eq (a := w1.toInt) (b := 0) rfl (by decide)).mpr c11
              refine lv_iload_n hx hb dX12_exit_72 rfl (lv_at hl 3 rfl) ?_
              refine lv_iconst (v := 1) hx hb dX12_exit_73 (by decide) ?_
              refine lv_icmp_ne (tgt := 84) hx hb dX12_exit_74 (by decide) (fun c12 => ?_) (fun c12 => ?_)
              · have f12 := mt (ti_eq (a := w1.toInt) (b := 1) rfl (by decide)).mpr c12
                refine lv_iload_n hx hb dX12_exit_84 rfl (lv_at hl 3 rfl) ?_
                refine lv_iconst (v := 2) hx hb dX12_exit_85 (by decide) ?_
                refine lv_icmp_ne (tgt := 96) hx hb dX12_exit_86 (by decide) (fun c13 => ?_) (fun c13 => ?_)
                · have f13 := mt (ti_eq (a := w1.toInt) (b := 2) rfl (by decide)).mpr c13
                  refine lv_aload_n hx hb dX12_exit_96 rfl (lv_at hl 0 rfl) ?_
                  refine mget_19 (v := (i9 19)) rfl hx hb hts (fun _ h => List.mem_cons_of_mem _ (List.mem_append_right _ h)) hown hK hP (hts (.fieldLink RX12 272 "TalePlayModel" "isImplied" "Z") (by decide +kernel)) dX12_exit_97 ?_
                  have rb19_i9 : 0 ≤ (i9 19).toInt ∧ (i9 19).toInt ≤ 1 := hI.1 19
                  refine lv_if_eq (tgt := 107) hx hb dX12_exit_100 (by decide) (fun c14 => ?_) (fun c14 => ?_)
                  · have f14 := (ti_eq (a := (i9 19).toInt) (b := 0) rfl (by decide)).mp c14
                    refine lv_iconst (v := 0) hx hb dX12_exit_107 (by decide) ?_
                    exact rw_iret (i9, q9, c9, d9) hx hb hr hlocks hS (hK.sub (tys' := []) [] rfl) hP hD dX12_exit_108 ⟨trivial, hI, fr_w hfi (by decide), fr_w hfc (by decide)⟩
                  · have f14 := mt (ti_eq (a := (i9 19).toInt) (b := 0) rfl (by decide)).mpr c14
                    refine lv_iconst (v := 1) hx hb dX12_exit_103 (by decide) ?_
                    refine lv_goto (tgt := 108) hx hb dX12_exit_104 (by decide) ?_
                    exact rw_iret (i9, q9, c9, d9) hx hb hr hlocks hS (hK.sub (tys' := []) [] rfl) hP hD dX12_exit_108 ⟨trivial, hI, fr_w hfi (by decide), fr_w hfc (by decide)⟩
                · have f13 := (ti_eq (a := w1.toInt) (b := 2) rfl (by decide)).mp c13
                  refine lv_aload_n hx hb dX12_exit_89 rfl (lv_at hl 0 rfl) ?_
                  refine mget_18 (v := (i9 18)) rfl hx hb hts (fun _ h => List.mem_cons_of_mem _ (List.mem_append_right _ h)) hown hK hP (hts (.fieldLink RX12 269 "TalePlayModel" "bySentence" "I") (by decide +kernel)) dX12_exit_90 ?_
                  have rb18_i9 : (i9 18).toInt = -9 ∨ (0 ≤ (i9 18).toInt ∧ (i9 18).toInt ≤ 199) := hI.1 18
                  refine lv_goto (tgt := 108) hx hb dX12_exit_93 (by decide) ?_
                  exact rw_iret (i9, q9, c9, d9) hx hb hr hlocks hS (hK.sub (tys' := []) [] rfl) hP hD dX12_exit_108 ⟨trivial, hI, fr_w hfi (by decide), fr_w hfc (by decide)⟩
              · have f12 := (ti_eq (a := w1.toInt) (b := 1) rfl (by decide)).mp c12
                refine lv_aload_n hx hb dX12_exit_77 rfl (lv_at hl 0 rfl) ?_
                refine mget_17 (v := (i9 17)) rfl hx hb hts (fun _ h => List.mem_cons_of_mem _ (List.mem_append_right _ h)) hown hK hP (hts (.fieldLink RX12 266 "TalePlayModel" "byDoor" "I") (by decide +kernel)) dX12_exit_78 ?_
                have rb17_i9 : (i9 17).toInt = -9 ∨ (0 ≤ (i9 17).toInt ∧ (i9 17).toInt ≤ 29) := hI.1 17
                refine lv_goto (tgt := 108) hx hb dX12_exit_81 (by decide) ?_
                exact rw_iret (i9, q9, c9, d9) hx hb hr hlocks hS (hK.sub (tys' := []) [] rfl) hP hD dX12_exit_108 ⟨trivial, hI, fr_w hfi (by decide), fr_w hfc (by decide)⟩
            · have f11 := (ti_eq (a := w1.toInt) (b := 0) rfl (by decide)).mp c11
              refine lv_aload_n hx hb dX12_exit_65 rfl (lv_at hl 0 rfl) ?_
              refine mget_16 (v := (i9 16)) rfl hx hb hts (fun _ h => List.mem_cons_of_mem _ (List.mem_append_right _ h)) hown hK hP (hts (.fieldLink RX12 263 "TalePlayModel" "leads" "I") (by decide +kernel)) dX12_exit_66 ?_
              have rb16_i9 : (i9 16).toInt = -9 ∨ (0 ≤ (i9 16).toInt ∧ (i9 16).toInt ≤ 29) := hI.1 16
              refine lv_goto (tgt := 108) hx hb dX12_exit_69 (by decide) ?_
              exact rw_iret (i9, q9, c9, d9) hx hb hr hlocks hS (hK.sub (tys' := []) [] rfl) hP hD dX12_exit_108 ⟨trivial, hI, fr_w hfi (by decide), fr_w hfc (by decide)⟩
          · have f10 := (ti_eq (a := r9.toInt) (b := 0) rfl (by decide)).mp c10
            refine lv_bipush (v := (-9)) hx hb dX12_exit_58 (by decide) ?_
            exact rw_iret (i9, q9, c9, d9) hx hb hr hlocks hS (hK.sub (tys' := []) [] rfl) hP hD dX12_exit_60 ⟨trivial, hI, fr_w hfi (by decide), fr_w hfc (by decide)⟩
        · have f8 := (ti_eq (a := r7.toInt) (b := 0) rfl (by decide)).mp c8
          have s8 := sm_f hr7_0 c8
          refine lv_aload_n hx hb dX12_exit_43 rfl (lv_at hl 0 rfl) ?_
          refine lv_iconst (v := 3) hx hb dX12_exit_44 (by decide) ?_
          refine al_calli (va_runV (As := [.int 3]) (rest := []) ⟨hx, hb, hml, hown, hts⟩ (s_X12_meets l D H.size o a t i q c d 3 hI (show 1 ≤ 3 ∧ 3 ≤ 6 from by have h90 : (3 : Int32).toInt = 3 := (by decide); omega)) (cwV 1 hts gm_X12_exit_X12_meets rfl rfl rfl (by decide +kernel) ⟨Nat.le_of_ble_eq_true rfl, Nat.le_of_ble_eq_true rfl⟩) (pB_V hK hP hD (ci := 12) (q0 := 0) rfl rfl) rfl rfl hl.1 rfl (lv_room (Nat.le_of_ble_eq_true rfl)) dX12_exit_45 ⟨Nat.le_of_ble_eq_true rfl, Nat.le_of_ble_eq_true rfl⟩) hS hA hP hD (fun r15 u15 H locs hw15 hP hD hS => ?_)
          obtain ⟨i15, q15, c15, d15⟩ := u15
          have hw15 : r15 = (-3) ∧ mInv i15 c15 ∧ (∀ k, k ∉ ([0] : List Nat) → i15 k = i k) ∧ (∀ k, k ∉ ([1] : List Nat) → c15 k = c k) := hw15
          obtain ⟨hw15, hI, hei15, hec15⟩ := hw15
          have hfi : ∀ k, k ∉ ([0] : List Nat) → i15 k = i k := fr_z hfi hei15 (by decide) (by decide)
          have hfc : ∀ k, k ∉ ([1] : List Nat) → c15 k = c k := fr_z hfc hec15 (by decide) (by decide)
          have hP : va_P D vwCl (mW o a t i15 q15 c15 d15) H := hP
          have hD : va_D A (mW o a t i15 q15 c15 d15) := hD
          have hw15 : r15 = (-3) := hw15
          subst hw15
          exact rw_iret (i15, q15, c15, d15) hx hb hr hlocks hS (hK.sub (tys' := []) [] rfl) hP hD dX12_exit_48 ⟨trivial, hI, fr_w hfi (by decide), fr_w hfc (by decide)⟩
      · have f6 := fl_f hw5 c6
        refine lv_iconst (v := (-1)) hx hb dX12_exit_32 (by decide) ?_
        exact rw_iret (i, q, c, d) hx hb hr hlocks hS (hK.sub (tys' := []) [] rfl) hP hD dX12_exit_33 ⟨trivial, hI, fr_w hfi (by decide), fr_w hfc (by decide)⟩

def wm_X12_formNow : List Cond := .code yX12_formNow cX12_formNow 3 (some .int) :: (([.fieldLink RX12 155 "TalePlayModel" "player" "I", .methodLink RX12 208 yX12_placing, .instanceMethod yX12_placing, .selects RX12 yX12_placing yX12_placing, .initialized RX12, .code yX12_placing cX12_placing 3 (some .int), .fieldLink RX12 202 "TalePlayModel" "sentences" "I", .fieldLink RX12 37 "TalePlayModel" "isSaid" "[Z", .fieldLink RX12 25 "TalePlayModel" "form" "[I", .fieldLink RX12 28 "TalePlayModel" "left" "[I", .fieldLink RX12 50 "TalePlayModel" "nForm" "[I"] : List Cond) ++ wsX120)
set_option maxRecDepth 20000 in
theorem gm_X12_formNow_X12_placing : GoodIn wm_X12_formNow (wsV RX12 208 RX12 yX12_placing wm_X12_placing) := goodIn_app (goodIn_of _ (by decide +kernel)) (goodIn_r _ [6, 7, 8, 9, 10, 12, 13, 14, 15, 16, 17, 18, 19, 20, 21, 22, 23, 24, 25, 26, 27, 28, 29, 30, 31, 32, 33, 34, 35, 36, 37, 38, 39, 40, 41, 42, 43, 44, 45, 46, 47, 48, 49, 50, 51, 52, 53, 54, 55, 56, 57, 58, 59, 60, 61, 62, 63, 64, 65, 66, 67, 68, 69, 70, 71, 72, 73, 74, 75, 76, 77, 78, 79, 80] (by decide +kernel) (by decide +kernel))
set_option maxHeartbeats 4000000 in
set_option maxRecDepth 100000 in
theorem s_X12_formNow (l : Launch) (D : va_G) (sz : Nat) (o : Nat) (a : Nat → Nat) (t : Nat → ClassId) (i : Nat → Int32) (q : Int64) (c : Nat → Nat → Int32) (d : Nat → Nat → Int64) (w : Int32) (hI : mInv i c) (hw : 0 ≤ w.toInt ∧ w.toInt ≤ 29) : Met l yX12_formNow wm_X12_formNow ({ frames := 1, cells := 0, slots := 0, locals := 22 }) (va_Pc [.ref o, .int w] (pA D sz (mW o a t i q c d) (mT t))) (va_Qi (fun (r : Int32) (_ : Unit) => ((r.toInt = -9 ∨ (0 ≤ r.toInt ∧ r.toInt ≤ 7)) ∧ (r.toInt = gM (c 9) (c 10) (c 13) (c 23) (i 8).toInt (i 22).toInt w.toInt))) oA (ro sz)) 0 0 (ro sz) := by
  refine Met.ofW (cc := cX12_formNow) (maxL := 3) (ret := (some .int)) (by decide) rfl ?_
  intro p e s m args below meth cd s₁ B hml hv
  obtain ⟨rfl, hsz, hP, hK⟩ := hv
  have hx := B.exec
  have hb := B.bytes
  have hr := B.returns
  have hts := atoms_spec (ws := wm_X12_formNow) B.pre
  have hown : s.vm.findClass RX12 = some m.cls := findClass_of_methodNamed B.named
  have hlocks := B.notSynchronized
  subst hsz
  have hA : ∀ q : Nat, s.heap.size ≤ q → ro s.heap.size q := fun _ h => h
  have hS : va_S (ro s.heap.size) s.heap s.heap [] := va_S.rf
  have hl := lv_entry ([.ref o, .int w]) (n := 3) (Nat.le_of_ble_eq_true rfl)
  rw [lg_entry_eq]
  generalize (lg_sl ([.ref o, .int w]) ++ List.replicate (3 - (lg_sl ([.ref o, .int w])).length) Slot.unset).toArray = ls at hl ⊢
  have hl : lv_has ls 3 [(0, .ref o), (1, .int w)] := hl
  have rb22_i : (i 22).toInt = -9 ∨ (0 ≤ (i 22).toInt ∧ (i 22).toInt ≤ 29) := hI.1 22
  refine lv_aload_n hx hb dX12_formNow_0 rfl (lv_at hl 0 rfl) ?_
  refine mget_22 (v := (i 22)) rfl hx hb hts (fun _ h => List.mem_cons_of_mem _ (List.mem_append_right _ h)) hown hK hP (hts (.fieldLink RX12 155 "TalePlayModel" "player" "I") (by decide +kernel)) dX12_formNow_1 ?_
  refine lv_bipush (v := (-9)) hx hb dX12_formNow_4 (by decide) ?_
  refine lv_icmp_eq (tgt := 16) hx hb dX12_formNow_6 (by decide) (fun c1 => ?_) (fun c1 => ?_)
  · have f1 := (ti_eq (a := (i 22).toInt) (b := (-9)) rfl (by decide)).mp c1
    refine lv_aload_n hx hb dX12_formNow_16 rfl (lv_at hl 0 rfl) ?_
    refine lv_iload_n hx hb dX12_formNow_17 rfl (lv_at hl 1 rfl) ?_
    have rb8_i : 0 ≤ (i 8).toInt ∧ (i 8).toInt ≤ 200 := hI.1 8
    refine ro_calli (va_runV (As := [.int w]) (rest := []) ⟨hx, hb, hml, hown, hts⟩ (s_X12_placing l D s.heap.size o a t i q c d w hI ) (cwV 1 hts gm_X12_formNow_X12_placing rfl rfl rfl (by decide +kernel) ⟨Nat.le_of_ble_eq_true rfl, Nat.le_of_ble_eq_true rfl⟩) (pA_V hK hP (ci := 12) (q0 := 0) rfl rfl) rfl rfl hl.1 rfl (lv_room (Nat.le_of_ble_eq_true rfl)) dX12_formNow_18 ⟨Nat.le_of_ble_eq_true rfl, Nat.le_of_ble_eq_true rfl⟩) hS hA hP (fun r2 u2 H locs hw2 hP hS => ?_)
    have hw2 : ((r2.toInt = -9 ∨ (0 ≤ r2.toInt ∧ r2.toInt ≤ 199)) ∧ (r2.toInt = pL (c 9) (c 10) (c 13) (i 8).toInt w.toInt)) := hw2
    obtain ⟨hw2, hr2_0⟩ := hw2
    have hr2_0 : r2.toInt = pL (c 9) (c 10) (c 13) (i 8).toInt w.toInt := hr2_0
    refine lv_istore_n (lv' := [(2, .int r2), (0, .ref o), (1, .int w)]) hx hb dX12_formNow_21 rfl hl (by decide) rfl (fun ls hl => ?_)
    refine lv_iload_n hx hb dX12_formNow_22 rfl (lv_at hl 0 rfl) ?_
    refine lv_bipush (v := (-9)) hx hb dX12_formNow_23 (by decide) ?_
    refine lv_icmp_ne (tgt := 33) hx hb dX12_formNow_25 (by decide) (fun c3 => ?_) (fun c3 => ?_)
    · have f3 := mt (ti_eq (a := r2.toInt) (b := (-9)) rfl (by decide)).mpr c3
      refine lv_aload_n hx hb dX12_formNow_33 rfl (lv_at hl 1 rfl) ?_
      refine mget_9 hx hb hts (fun _ h => List.mem_cons_of_mem _ (List.mem_append_right _ h)) hown hK hP (hts (.fieldLink RX12 25 "TalePlayModel" "form" "[I") (by decide +kernel)) dX12_formNow_34 ?_
      refine lv_iload_n hx hb dX12_formNow_37 rfl (lv_at hl 0 rfl) ?_
      refine mld_9 hx hb hK hP (vp_in_iff.mpr (by have h9 : r2.toInt = r2.toInt := rfl; omega)) dX12_formNow_38 (fun x4 ex4 => ?_)
      have rx4 : 0 ≤ x4.toInt ∧ x4.toInt ≤ 7 := by rw [ex4]; exact hI.2 9 _
      have gx4 : (c 9 (r2 : Int32).toNatClampNeg).toInt = x4.toInt := by rw [ex4]
      exact ro_iret hx hb hr hlocks hS dX12_formNow_39 ⟨(show x4.toInt = -9 ∨ (0 ≤ x4.toInt ∧ x4.toInt ≤ 7) from by omega), (show x4.toInt = gM (c 9) (c 10) (c 13) (c 23) (i 8).toInt (i 22).toInt w.toInt from by unfold gM; rw [if_pos (by omega), ← hr2_0, if_neg (by omega)]; exact gx4.symm)⟩
    · have f3 := (ti_eq (a := r2.toInt) (b := (-9)) rfl (by decide)).mp c3
      refine lv_bipush (v := (-9)) hx hb dX12_formNow_28 (by decide) ?_
      refine lv_goto (tgt := 39) hx hb dX12_formNow_30 (by decide) ?_
      exact ro_iret hx hb hr hlocks hS dX12_formNow_39 ⟨(show ((-9) : Int32).toInt = -9 ∨ (0 ≤ ((-9) : Int32).toInt ∧ ((-9) : Int32).toInt ≤ 7) from by have h9 : ((-9) : Int32).toInt = -9 := (by decide); omega), (show ((-9) : Int32).toInt = gM (c 9) (c 10) (c 13) (c 23) (i 8).toInt (i 22).toInt w.toInt from by unfold gM; rw [if_pos (by omega), if_pos (by omega)]; decide)⟩
  · have f1 := mt (ti_eq (a := (i 22).toInt) (b := (-9)) rfl (by decide)).mpr c1
    refine lv_aload_n hx hb dX12_formNow_9 rfl (lv_at hl 0 rfl) ?_
    refine mget_23 hx hb hts (fun _ h => List.mem_cons_of_mem _ (List.mem_append_right _ h)) hown hK hP (hts (.fieldLink RX12 50 "TalePlayModel" "nForm" "[I") (by decide +kernel)) dX12_formNow_10 ?_
    refine lv_iload_n hx hb dX12_formNow_13 rfl (lv_at hl 1 rfl) ?_
    refine mld_23 hx hb hK hP (vp_in_iff.mpr (by have h9 : w.toInt = w.toInt := rfl; omega)) dX12_formNow_14 (fun x5 ex5 => ?_)
    have rx5 : x5.toInt = -9 ∨ (0 ≤ x5.toInt ∧ x5.toInt ≤ 4) := by rw [ex5]; exact hI.2 23 _
    have gx5 : (c 23 (w : Int32).toNatClampNeg).toInt = x5.toInt := by rw [ex5]
    exact ro_iret hx hb hr hlocks hS dX12_formNow_15 ⟨(show x5.toInt = -9 ∨ (0 ≤ x5.toInt ∧ x5.toInt ≤ 7) from by omega), (show x5.toInt = gM (c 9) (c 10) (c 13) (c 23) (i 8).toInt (i 22).toInt w.toInt from by unfold gM; rw [if_neg (by omega)]; exact gx5.symm)⟩

def wm_X12_atNow : List Cond := .code yX12_atNow cX12_atNow 3 (some .int) :: (([.fieldLink RX12 155 "TalePlayModel" "player" "I", .methodLink RX12 208 yX12_placing, .instanceMethod yX12_placing, .selects RX12 yX12_placing yX12_placing, .initialized RX12, .code yX12_placing cX12_placing 3 (some .int), .fieldLink RX12 202 "TalePlayModel" "sentences" "I", .fieldLink RX12 37 "TalePlayModel" "isSaid" "[Z", .fieldLink RX12 25 "TalePlayModel" "form" "[I", .fieldLink RX12 28 "TalePlayModel" "left" "[I", .fieldLink RX12 31 "TalePlayModel" "middle" "[I", .fieldLink RX12 53 "TalePlayModel" "nAt" "[I"] : List Cond) ++ wsX120)
set_option maxRecDepth 20000 in
theorem gm_X12_atNow_X12_placing : GoodIn wm_X12_atNow (wsV RX12 208 RX12 yX12_placing wm_X12_placing) := goodIn_app (goodIn_of _ (by decide +kernel)) (goodIn_r _ [6, 7, 8, 9, 10, 13, 14, 15, 16, 17, 18, 19, 20, 21, 22, 23, 24, 25, 26, 27, 28, 29, 30, 31, 32, 33, 34, 35, 36, 37, 38, 39, 40, 41, 42, 43, 44, 45, 46, 47, 48, 49, 50, 51, 52, 53, 54, 55, 56, 57, 58, 59, 60, 61, 62, 63, 64, 65, 66, 67, 68, 69, 70, 71, 72, 73, 74, 75, 76, 77, 78, 79, 80, 81] (by decide +kernel) (by decide +kernel))
set_option maxHeartbeats 4000000 in
set_option maxRecDepth 100000 in
theorem s_X12_atNow (l : Launch) (D : va_G) (sz : Nat) (o : Nat) (a : Nat → Nat) (t : Nat → ClassId) (i : Nat → Int32) (q : Int64) (c : Nat → Nat → Int32) (d : Nat → Nat → Int64) (w : Int32) (hI : mInv i c) (hw : 0 ≤ w.toInt ∧ w.toInt ≤ 29) : Met l yX12_atNow wm_X12_atNow ({ frames := 1, cells := 0, slots := 0, locals := 22 }) (va_Pc [.ref o, .int w] (pA D sz (mW o a t i q c d) (mT t))) (va_Qi (fun (r : Int32) (_ : Unit) => ((r.toInt = -9 ∨ (0 ≤ r.toInt ∧ r.toInt ≤ 29)) ∧ (r.toInt = gA (c 9) (c 10) (c 11) (c 13) (c 24) (i 8).toInt (i 22).toInt w.toInt))) oA (ro sz)) 0 0 (ro sz) := by
  refine Met.ofW (cc := cX12_atNow) (maxL := 3) (ret := (some .int)) (by decide) rfl ?_
  intro p e s m args below meth cd s₁ B hml hv
  obtain ⟨rfl, hsz, hP, hK⟩ := hv
  have hx := B.exec
  have hb := B.bytes
  have hr := B.returns
  have hts := atoms_spec (ws := wm_X12_atNow) B.pre
  have hown : s.vm.findClass RX12 = some m.cls := findClass_of_methodNamed B.named
  have hlocks := B.notSynchronized
  subst hsz
  have hA : ∀ q : Nat, s.heap.size ≤ q → ro s.heap.size q := fun _ h => h
  have hS : va_S (ro s.heap.size) s.heap s.heap [] := va_S.rf
  have hl := lv_entry ([.ref o, .int w]) (n := 3) (Nat.le_of_ble_eq_true rfl)
  rw [lg_entry_eq]
  generalize (lg_sl ([.ref o, .int w]) ++ List.replicate (3 - (lg_sl ([.ref o, .int w])).length) Slot.unset).toArray = ls at hl ⊢
  have hl : lv_has ls 3 [(0, .ref o), (1, .int w)] := hl
  have rb22_i : (i 22).toInt = -9 ∨ (0 ≤ (i 22).toInt ∧ (i 22).toInt ≤ 29) := hI.1 22
  refine lv_aload_n hx hb dX12_atNow_0 rfl (lv_at hl 0 rfl) ?_
  refine mget_22 (v := (i 22)) rfl hx hb hts (fun _ h => List.mem_cons_of_mem _ (List.mem_append_right _ h)) hown hK hP (hts (.fieldLink RX12 155 "TalePlayModel" "player" "I") (by decide +kernel)) dX12_atNow_1 ?_
  refine lv_bipush (v := (-9)) hx hb dX12_atNow_4 (by decide) ?_
  refine lv_icmp_eq (tgt := 16) hx hb dX12_atNow_6 (by decide) (fun c1 => ?_) (fun c1 => ?_)
  · have f1 := (ti_eq (a := (i 22).toInt) (b := (-9)) rfl (by decide)).mp c1
    refine lv_aload_n hx hb dX12_atNow_16 rfl (lv_at hl 0 rfl) ?_
    refine lv_iload_n hx hb dX12_atNow_17 rfl (lv_at hl 1 rfl) ?_
    have rb8_i : 0 ≤ (i 8).toInt ∧ (i 8).toInt ≤ 200 := hI.1 8
    refine ro_calli (va_runV (As := [.int w]) (rest := []) ⟨hx, hb, hml, hown, hts⟩ (s_X12_placing l D s.heap.size o a t i q c d w hI ) (cwV 1 hts gm_X12_atNow_X12_placing rfl rfl rfl (by decide +kernel) ⟨Nat.le_of_ble_eq_true rfl, Nat.le_of_ble_eq_true rfl⟩) (pA_V hK hP (ci := 12) (q0 := 0) rfl rfl) rfl rfl hl.1 rfl (lv_room (Nat.le_of_ble_eq_true rfl)) dX12_atNow_18 ⟨Nat.le_of_ble_eq_true rfl, Nat.le_of_ble_eq_true rfl⟩) hS hA hP (fun r2 u2 H locs hw2 hP hS => ?_)
    have hw2 : ((r2.toInt = -9 ∨ (0 ≤ r2.toInt ∧ r2.toInt ≤ 199)) ∧ (r2.toInt = pL (c 9) (c 10) (c 13) (i 8).toInt w.toInt)) := hw2
    obtain ⟨hw2, hr2_0⟩ := hw2
    have hr2_0 : r2.toInt = pL (c 9) (c 10) (c 13) (i 8).toInt w.toInt := hr2_0
    refine lv_istore_n (lv' := [(2, .int r2), (0, .ref o), (1, .int w)]) hx hb dX12_atNow_21 rfl hl (by decide) rfl (fun ls hl => ?_)
    refine lv_iload_n hx hb dX12_atNow_22 rfl (lv_at hl 0 rfl) ?_
    refine lv_bipush (v := (-9)) hx hb dX12_atNow_23 (by decide) ?_
    refine lv_icmp_ne (tgt := 33) hx hb dX12_atNow_25 (by decide) (fun c3 => ?_) (fun c3 => ?_)
    · have f3 := mt (ti_eq (a := r2.toInt) (b := (-9)) rfl (by decide)).mpr c3
      refine lv_aload_n hx hb dX12_atNow_33 rfl (lv_at hl 1 rfl) ?_
      refine mget_11 hx hb hts (fun _ h => List.mem_cons_of_mem _ (List.mem_append_right _ h)) hown hK hP (hts (.fieldLink RX12 31 "TalePlayModel" "middle" "[I") (by decide +kernel)) dX12_atNow_34 ?_
      refine lv_iload_n hx hb dX12_atNow_37 rfl (lv_at hl 0 rfl) ?_
      refine mld_11 hx hb hK hP (vp_in_iff.mpr (by have h9 : r2.toInt = r2.toInt := rfl; omega)) dX12_atNow_38 (fun x4 ex4 => ?_)
      have rx4 : 0 ≤ x4.toInt ∧ x4.toInt ≤ 29 := by rw [ex4]; exact hI.2 11 _
      have gx4 : (c 11 (r2 : Int32).toNatClampNeg).toInt = x4.toInt := by rw [ex4]
      exact ro_iret hx hb hr hlocks hS dX12_atNow_39 ⟨(show x4.toInt = -9 ∨ (0 ≤ x4.toInt ∧ x4.toInt ≤ 29) from by omega), (show x4.toInt = gA (c 9) (c 10) (c 11) (c 13) (c 24) (i 8).toInt (i 22).toInt w.toInt from by unfold gA; rw [if_pos (by omega), ← hr2_0, if_neg (by omega)]; exact gx4.symm)⟩
    · have f3 := (ti_eq (a := r2.toInt) (b := (-9)) rfl (by decide)).mp c3
      refine lv_bipush (v := (-9)) hx hb dX12_atNow_28 (by decide) ?_
      refine lv_goto (tgt := 39) hx hb dX12_atNow_30 (by decide) ?_
      exact ro_iret hx hb hr hlocks hS dX12_atNow_39 ⟨(show ((-9) : Int32).toInt = -9 ∨ (0 ≤ ((-9) : Int32).toInt ∧ ((-9) : Int32).toInt ≤ 29) from by have h9 : ((-9) : Int32).toInt = -9 := (by decide); omega), (show ((-9) : Int32).toInt = gA (c 9) (c 10) (c 11) (c 13) (c 24) (i 8).toInt (i 22).toInt w.toInt from by unfold gA; rw [if_pos (by omega), if_pos (by omega)]; decide)⟩
  · have f1 := mt (ti_eq (a := (i 22).toInt) (b := (-9)) rfl (by decide)).mpr c1
    refine lv_aload_n hx hb dX12_atNow_9 rfl (lv_at hl 0 rfl) ?_
    refine mget_24 hx hb hts (fun _ h => List.mem_cons_of_mem _ (List.mem_append_right _ h)) hown hK hP (hts (.fieldLink RX12 53 "TalePlayModel" "nAt" "[I") (by decide +kernel)) dX12_atNow_10 ?_
    refine lv_iload_n hx hb dX12_atNow_13 rfl (lv_at hl 1 rfl) ?_
    refine mld_24 hx hb hK hP (vp_in_iff.mpr (by have h9 : w.toInt = w.toInt := rfl; omega)) dX12_atNow_14 (fun x5 ex5 => ?_)
    have rx5 : x5.toInt = -9 ∨ (0 ≤ x5.toInt ∧ x5.toInt ≤ 29) := by rw [ex5]; exact hI.2 24 _
    have gx5 : (c 24 (w : Int32).toNatClampNeg).toInt = x5.toInt := by rw [ex5]
    exact ro_iret hx hb hr hlocks hS dX12_atNow_15 ⟨(show x5.toInt = -9 ∨ (0 ≤ x5.toInt ∧ x5.toInt ≤ 29) from by omega), (show x5.toInt = gA (c 9) (c 10) (c 11) (c 13) (c 24) (i 8).toInt (i 22).toInt w.toInt from by unfold gA; rw [if_neg (by omega)]; exact gx5.symm)⟩

def wm_X12_beginBulk : List Cond := .code yX12_beginBulk cX12_beginBulk 3 (some .int) :: (([.fieldLink RX12 80 "TalePlayModel" "pile" "[I", .fieldLink RX12 83 "TalePlayModel" "nextIn" "[I", .methodLink RX12 184 yX12_isOf, .instanceMethod yX12_isOf, .selects RX12 yX12_isOf yX12_isOf, .initialized RX12, .code yX12_isOf cX12_isOf 4 (some .boolean), .fieldLink RX12 19 "TalePlayModel" "kindOf" "[I", .fieldLink RX12 13 "TalePlayModel" "parentOf" "[I", .methodLink RX12 300 yX12_body, .instanceMethod yX12_body, .selects RX12 yX12_body yX12_body, .code yX12_body cX12_body 2 none, .fieldLink RX12 294 "TalePlayModel" "traces" "Z", .fieldLink RX12 297 "TalePlayModel" "traced" "I", .fieldLink RX12 77 "TalePlayModel" "trace" "[I", .fieldLink RX12 22 "TalePlayModel" "sizeOf" "[I"] : List Cond) ++ wsX120)
set_option maxRecDepth 20000 in
theorem gm_X12_beginBulk_X12_isOf : GoodIn wm_X12_beginBulk (wsV RX12 184 RX12 yX12_isOf wm_X12_isOf) := goodIn_app (goodIn_of _ (by decide +kernel)) (goodIn_r _ [7, 8, 9, 18, 19, 20, 21, 22, 23, 24, 25, 26, 27, 28, 29, 30, 31, 32, 33, 34, 35, 36, 37, 38, 39, 40, 41, 42, 43, 44, 45, 46, 47, 48, 49, 50, 51, 52, 53, 54, 55, 56, 57, 58, 59, 60, 61, 62, 63, 64, 65, 66, 67, 68, 69, 70, 71, 72, 73, 74, 75, 76, 77, 78, 79, 80, 81, 82, 83, 84, 85, 86] (by decide +kernel) (by decide +kernel))
set_option maxRecDepth 20000 in
theorem gm_X12_beginBulk_X12_body : GoodIn wm_X12_beginBulk (wsV RX12 300 RX12 yX12_body wm_X12_body) := goodIn_app (goodIn_of _ (by decide +kernel)) (goodIn_r _ [13, 14, 15, 16, 18, 19, 20, 21, 22, 23, 24, 25, 26, 27, 28, 29, 30, 31, 32, 33, 34, 35, 36, 37, 38, 39, 40, 41, 42, 43, 44, 45, 46, 47, 48, 49, 50, 51, 52, 53, 54, 55, 56, 57, 58, 59, 60, 61, 62, 63, 64, 65, 66, 67, 68, 69, 70, 71, 72, 73, 74, 75, 76, 77, 78, 79, 80, 81, 82, 83, 84, 85, 86] (by decide +kernel) (by decide +kernel))
set_option maxHeartbeats 4000000 in
set_option maxRecDepth 100000 in
theorem s_X12_beginBulk (l : Launch) (D : va_G) (sz : Nat) (o : Nat) (a : Nat → Nat) (t : Nat → ClassId) (i : Nat → Int32) (q : Int64) (c : Nat → Nat → Int32) (d : Nat → Nat → Int64) (e1 : Int32) (w : Int32) (hI : mInv i c) (he1 : 0 ≤ e1.toInt ∧ e1.toInt ≤ 29) (hw : 0 ≤ w.toInt ∧ w.toInt ≤ 29) : Met l yX12_beginBulk wm_X12_beginBulk ({ frames := 1, cells := 0, slots := 0, locals := 23 }) (va_Pc [.ref o, .int e1, .int w] (pB D sz (mW o a t i q c d) (mT t))) (va_Qi (fun (r : Int32) (u : MS) => (0 ≤ r.toInt ∧ r.toInt ≤ 198) ∧ mInv u.1 u.2.2.1 ∧ (∀ k, k ∉ ([35] : List Nat) → u.1 k = i k) ∧ (∀ k, k ∉ ([34, 38, 39] : List Nat) → u.2.2.1 k = c k) ∧ ((u.2.2.1 38) = upd (c 38) e1.toNatClampNeg w) ∧ ((u.2.2.1 39) = upd (c 39) e1.toNatClampNeg 0)) (oC D (va_A (mW o a t i q c d) sz) (fun u : MS => mW o a t u.1 u.2.1 u.2.2.1 u.2.2.2) (fun _ => [])) (va_A (mW o a t i q c d) sz)) 0 0 (va_A (mW o a t i q c d) sz) := by
  refine Met.ofW (cc := cX12_beginBulk) (maxL := 3) (ret := (some .int)) (by decide) rfl ?_
  intro p e s m args below meth cd s₁ B hml hv
  obtain ⟨rfl, hsz, hP, hK, hD0⟩ := hv
  have hx := B.exec
  have hb := B.bytes
  have hr := B.returns
  have hts := atoms_spec (ws := wm_X12_beginBulk) B.pre
  have hown : s.vm.findClass RX12 = some m.cls := findClass_of_methodNamed B.named
  have hlocks := B.notSynchronized
  subst hsz
  have hD := hD0.self (sz := s.heap.size)
  generalize hAe : va_A (mW o a t i q c d) s.heap.size = A at hD ⊢
  have hA : ∀ q : Nat, s.heap.size ≤ q → A q := fun q h => by rw [← hAe]; exact Or.inr h
  have hS : va_S A s.heap s.heap [] := va_S.rf
  have hfi : ∀ k, k ∉ ([] : List Nat) → i k = i k := fun _ _ => rfl
  have hfc : ∀ k, k ∉ ([] : List Nat) → c k = c k := fun _ _ => rfl
  have hl := lv_entry ([.ref o, .int e1, .int w]) (n := 3) (Nat.le_of_ble_eq_true rfl)
  rw [lg_entry_eq]
  generalize (lg_sl ([.ref o, .int e1, .int w]) ++ List.replicate (3 - (lg_sl ([.ref o, .int e1, .int w])).length) Slot.unset).toArray = ls at hl ⊢
  have hl : lv_has ls 3 [(0, .ref o), (1, .int e1), (2, .int w)] := hl
  refine lv_aload_n hx hb dX12_beginBulk_0 rfl (lv_at hl 0 rfl) ?_
  refine mget_38 hx hb hts (fun _ h => List.mem_cons_of_mem _ (List.mem_append_right _ h)) hown hK hP (hts (.fieldLink RX12 80 "TalePlayModel" "pile" "[I") (by decide +kernel)) dX12_beginBulk_1 ?_
  refine lv_iload_n hx hb dX12_beginBulk_4 rfl (lv_at hl 1 rfl) ?_
  refine lv_iload_n hx hb dX12_beginBulk_5 rfl (lv_at hl 2 rfl) ?_
  refine mst_38 hx hb hK hP hD hS (vp_in_iff.mpr (by have h9 : e1.toInt = e1.toInt := rfl; omega)) dX12_beginBulk_6 (fun H locs hP hD hS => ?_)
  have hI := mInv_c hI (k := 38) (j := (e1 : Int32).toNatClampNeg) (x := w) (show 0 ≤ (w : Int32).toInt ∧ (w : Int32).toInt ≤ 29 from by omega)
  have hfc : ∀ k, k ∉ ([38] : List Nat) → (updA c 38 (e1 : Int32).toNatClampNeg w) k = c k := fr_cz hfc (by decide) (by decide)
  refine lv_aload_n hx hb dX12_beginBulk_7 rfl (lv_at hl 0 rfl) ?_
  refine mget_39 hx hb hts (fun _ h => List.mem_cons_of_mem _ (List.mem_append_right _ h)) hown hK hP (hts (.fieldLink RX12 83 "TalePlayModel" "nextIn" "[I") (by decide +kernel)) dX12_beginBulk_8 ?_
  refine lv_iload_n hx hb dX12_beginBulk_11 rfl (lv_at hl 1 rfl) ?_
  refine lv_iconst (v := 0) hx hb dX12_beginBulk_12 (by decide) ?_
  refine mst_39 hx hb hK hP hD hS (vp_in_iff.mpr (by have h9 : e1.toInt = e1.toInt := rfl; omega)) dX12_beginBulk_13 (fun H locs hP hD hS => ?_)
  have hI := mInv_c hI (k := 39) (j := (e1 : Int32).toNatClampNeg) (x := 0) (show 0 ≤ (0 : Int32).toInt ∧ (0 : Int32).toInt ≤ 31 from by have h9 : (0 : Int32).toInt = 0 := (by decide); omega)
  have hfc : ∀ k, k ∉ ([38, 39] : List Nat) → (updA (updA c 38 (e1 : Int32).toNatClampNeg w) 39 (e1 : Int32).toNatClampNeg 0) k = c k := fr_cz hfc (by decide) (by decide)
  refine lv_aload_n hx hb dX12_beginBulk_14 rfl (lv_at hl 0 rfl) ?_
  refine lv_iload_n hx hb dX12_beginBulk_15 rfl (lv_at hl 2 rfl) ?_
  refine lv_iconst (v := 3) hx hb dX12_beginBulk_16 (by decide) ?_
  refine ro_calli (va_runV (As := [.int w, .int 3]) (rest := []) ⟨hx, hb, hml, hown, hts⟩ (s_X12_isOf l D H.size o a t i q (updA (updA c 38 (e1 : Int32).toNatClampNeg w) 39 (e1 : Int32).toNatClampNeg 0) d w 3 hI (show 0 ≤ w.toInt ∧ w.toInt ≤ 29 from by have h91 : (3 : Int32).toInt = 3 := (by decide); omega) (show 0 ≤ 3 from by have h91 : (3 : Int32).toInt = 3 := (by decide); omega)) (cwV 2 hts gm_X12_beginBulk_X12_isOf rfl rfl rfl (by decide +kernel) ⟨Nat.le_of_ble_eq_true rfl, Nat.le_of_ble_eq_true rfl⟩) (pA_V hK hP (ci := 12) (q0 := 0) rfl rfl) rfl rfl hl.1 rfl (lv_room (Nat.le_of_ble_eq_true rfl)) dX12_beginBulk_17 ⟨Nat.le_of_ble_eq_true rfl, Nat.le_of_ble_eq_true rfl⟩) hS hA hP (fun r1 u1 H locs hw1 hP hS => ?_)
  have hw1 : ((0 ≤ r1.toInt ∧ r1.toInt ≤ 1) ∧ (Sm r1 (Kd ((updA (updA c 38 (e1 : Int32).toNatClampNeg w) 39 (e1 : Int32).toNatClampNeg 0) 3) ((updA (updA c 38 (e1 : Int32).toNatClampNeg w) 39 (e1 : Int32).toNatClampNeg 0) 6) w.toInt 3))) := hw1
  obtain ⟨hw1, hr1_0⟩ := hw1
  have hr1_0 : Sm r1 (Kd (c 3) (c 6) w.toInt 3) := by have h9 := hr1_0; rw [show (updA (updA c 38 (e1 : Int32).toNatClampNeg w) 39 (e1 : Int32).toNatClampNeg 0) 3 = c 3 from hfc 3 (by decide), show (updA (updA c 38 (e1 : Int32).toNatClampNeg w) 39 (e1 : Int32).toNatClampNeg 0) 6 = c 6 from hfc 6 (by decide)] at h9; exact h9
  have jn2 : ∀ (i2 : Nat → Int32) (q2 : Int64) (c2 : Nat → Nat → Int32) (d2 : Nat → Nat → Int64), mInv i2 c2 → (∀ k, k ∉ ([35] : List Nat) → i2 k = i k) → (∀ k, k ∉ ([34, 38, 39] : List Nat) → c2 k = c k) → ((c2 38) = upd (c 38) e1.toNatClampNeg w) → ((c2 39) = upd (c 39) e1.toNatClampNeg 0) → ∀ (H : Heap) (locs : List Loc) (ls : Array Slot), va_P D vwCl (mW o a t i2 q2 c2 d2) H → va_D A (mW o a t i2 q2 c2 d2) → va_S A s.heap H locs → lv_has ls 3 [(0, .ref o), (1, .int e1), (2, .int w)] → W p l e (headSpec wm_X12_beginBulk ({ frames := 1, cells := 0, slots := 0, locals := 23 })).room s m ([.ref o, .int e1, .int w] : List Value).toArray below meth cd H locs 0 0 (MQ below (va_Qi (fun (r : Int32) (u : MS) => (0 ≤ r.toInt ∧ r.toInt ≤ 198) ∧ mInv u.1 u.2.2.1 ∧ (∀ k, k ∉ ([35] : List Nat) → u.1 k = i k) ∧ (∀ k, k ∉ ([34, 38, 39] : List Nat) → u.2.2.1 k = c k) ∧ ((u.2.2.1 38) = upd (c 38) e1.toNatClampNeg w) ∧ ((u.2.2.1 39) = upd (c 39) e1.toNatClampNeg 0)) (oC D A (fun u : MS => mW o a t u.1 u.2.1 u.2.2.1 u.2.2.2) (fun _ => [])) A) ([.ref o, .int e1, .int w] : List Value).toArray s 0 0 A) (F0 m 62 ls []) := by
    intro i2 q2 c2 d2 hI hfi hfc hz2_0 hz2_1 H locs ls hP hD hS hl
    refine lv_aload_n hx hb dX12_beginBulk_62 rfl (lv_at hl 0 rfl) ?_
    refine lv_iconst (v := 1) hx hb dX12_beginBulk_63 (by decide) ?_
    refine al_callv (va_runV (As := [.int 1]) (rest := []) ⟨hx, hb, hml, hown, hts⟩ (s_X12_body l D H.size o a t i2 q2 c2 d2 1 hI (show 0 ≤ 1 ∧ 1 ≤ 5 from by have h90 : (1 : Int32).toInt = 1 := (by decide); omega)) (cwV 1 hts gm_X12_beginBulk_X12_body rfl rfl rfl (by decide +kernel) ⟨Nat.le_of_ble_eq_true rfl, Nat.le_of_ble_eq_true rfl⟩) (pB_V hK hP hD (ci := 12) (q0 := 0) rfl rfl) rfl rfl hl.1 rfl (lv_room (Nat.le_of_ble_eq_true rfl)) dX12_beginBulk_64 ⟨Nat.le_of_ble_eq_true rfl, Nat.le_of_ble_eq_true rfl⟩) hS hA hP hD (fun u3 H locs hw3 hP hD hS => ?_)
    obtain ⟨i3, q3, c3, d3⟩ := u3
    have hw3 : True ∧ mInv i3 c3 ∧ (∀ k, k ∉ ([35] : List Nat) → i3 k = i2 k) ∧ (∀ k, k ∉ ([34] : List Nat) → c3 k = c2 k) := hw3
    obtain ⟨hw3, hI, hei3, hec3⟩ := hw3
    have hfi : ∀ k, k ∉ ([35] : List Nat) → i3 k = i k := fr_z hfi hei3 (by decide) (by decide)
    have hfc : ∀ k, k ∉ ([34, 38, 39] : List Nat) → c3 k = c k := fr_z hfc hec3 (by decide) (by decide)
    have hP : va_P D vwCl (mW o a t i3 q3 c3 d3) H := hP
    have hD : va_D A (mW o a t i3 q3 c3 d3) := hD
    refine lv_aload_n hx hb dX12_beginBulk_67 rfl (lv_at hl 0 rfl) ?_
    refine lv_iload_n hx hb dX12_beginBulk_68 rfl (lv_at hl 2 rfl) ?_
    refine lv_iconst (v := 5) hx hb dX12_beginBulk_69 (by decide) ?_
    refine ro_calli (va_runV (As := [.int w, .int 5]) (rest := []) ⟨hx, hb, hml, hown, hts⟩ (s_X12_isOf l D H.size o a t i3 q3 c3 d3 w 5 hI (show 0 ≤ w.toInt ∧ w.toInt ≤ 29 from by have h91 : (5 : Int32).toInt = 5 := (by decide); omega) (show 0 ≤ 5 from by have h91 : (5 : Int32).toInt = 5 := (by decide); omega)) (cwV 2 hts gm_X12_beginBulk_X12_isOf rfl rfl rfl (by decide +kernel) ⟨Nat.le_of_ble_eq_true rfl, Nat.le_of_ble_eq_true rfl⟩) (pA_V hK hP (ci := 12) (q0 := 0) rfl rfl) rfl rfl hl.1 rfl (lv_room (Nat.le_of_ble_eq_true rfl)) dX12_beginBulk_70 ⟨Nat.le_of_ble_eq_true rfl, Nat.le_of_ble_eq_true rfl⟩) hS hA hP (fun r4 u4 H locs hw4 hP hS => ?_)
    have hw4 : ((0 ≤ r4.toInt ∧ r4.toInt ≤ 1) ∧ (Sm r4 (Kd (c3 3) (c3 6) w.toInt 5))) := hw4
    obtain ⟨hw4, hr4_0⟩ := hw4
    have hr4_0 : Sm r4 (Kd (c 3) (c 6) w.toInt 5) := by have h9 := hr4_0; rw [show c3 3 = c 3 from hfc 3 (by decide), show c3 6 = c 6 from hfc 6 (by decide)] at h9; exact h9
    refine lv_if_eq (tgt := 87) hx hb dX12_beginBulk_73 (by decide) (fun c5 => ?_) (fun c5 => ?_)
    · have f5 := (ti_eq (a := r4.toInt) (b := 0) rfl (by decide)).mp c5
      have s5 := sm_f hr4_0 c5
      refine lv_aload_n hx hb dX12_beginBulk_87 rfl (lv_at hl 0 rfl) ?_
      refine mget_7 hx hb hts (fun _ h => List.mem_cons_of_mem _ (List.mem_append_right _ h)) hown hK hP (hts (.fieldLink RX12 22 "TalePlayModel" "sizeOf" "[I") (by decide +kernel)) dX12_beginBulk_88 ?_
      refine lv_iload_n hx hb dX12_beginBulk_91 rfl (lv_at hl 2 rfl) ?_
      refine mld_7 hx hb hK hP (vp_in_iff.mpr (by have h9 : w.toInt = w.toInt := rfl; omega)) dX12_beginBulk_92 (fun x6 ex6 => ?_)
      have rx6 : 0 ≤ x6.toInt ∧ x6.toInt ≤ 99 := by rw [ex6]; exact hI.2 7 _
      exact rw_iret (i3, q3, c3, d3) hx hb hr hlocks hS (hK.sub (tys' := []) [] rfl) hP hD dX12_beginBulk_93 ⟨(show 0 ≤ x6.toInt ∧ x6.toInt ≤ 198 from by omega), hI, fr_w hfi (by decide), fr_w hfc (by decide), (show (c3 38) = upd (c 38) e1.toNatClampNeg w from (hec3 38 (by decide)).trans hz2_0), (show (c3 39) = upd (c 39) e1.toNatClampNeg 0 from (hec3 39 (by decide)).trans hz2_1)⟩
    · have f5 := mt (ti_eq (a := r4.toInt) (b := 0) rfl (by decide)).mpr c5
      have s5 := sm_t hr4_0 c5
      refine lv_iconst (v := 2) hx hb dX12_beginBulk_76 (by decide) ?_
      refine lv_aload_n hx hb dX12_beginBulk_77 rfl (lv_at hl 0 rfl) ?_
      refine mget_7 hx hb hts (fun _ h => List.mem_cons_of_mem _ (List.mem_append_right _ h)) hown hK hP (hts (.fieldLink RX12 22 "TalePlayModel" "sizeOf" "[I") (by decide +kernel)) dX12_beginBulk_78 ?_
      refine lv_iload_n hx hb dX12_beginBulk_81 rfl (lv_at hl 2 rfl) ?_
      refine mld_7 hx hb hK hP (vp_in_iff.mpr (by have h9 : w.toInt = w.toInt := rfl; omega)) dX12_beginBulk_82 (fun x7 ex7 => ?_)
      have rx7 : 0 ≤ x7.toInt ∧ x7.toInt ≤ 99 := by rw [ex7]; exact hI.2 7 _
      refine lv_imul hx hb dX12_beginBulk_83 ?_
      refine lv_topi (fun x8 ex8 => ?_)
      have tx8 := ti_mul (a := 2) (b := x7.toInt) ex8 (by decide) rfl (by omega) (by omega)
      refine lv_goto (tgt := 93) hx hb dX12_beginBulk_84 (by decide) ?_
      exact rw_iret (i3, q3, c3, d3) hx hb hr hlocks hS (hK.sub (tys' := []) [] rfl) hP hD dX12_beginBulk_93 ⟨(show 0 ≤ x8.toInt ∧ x8.toInt ≤ 198 from by have h9 : x8.toInt = (2 * x7.toInt) := tx8; omega), hI, fr_w hfi (by decide), fr_w hfc (by decide), (show (c3 38) = upd (c 38) e1.toNatClampNeg w from (hec3 38 (by decide)).trans hz2_0), (show (c3 39) = upd (c 39) e1.toNatClampNeg 0 from (hec3 39 (by decide)).trans hz2_1)⟩
  refine lv_if_eq (tgt := 31) hx hb dX12_beginBulk_20 (by decide) (fun c9 => ?_) (fun c9 => ?_)
  · have f9 := (ti_eq (a := r1.toInt) (b := 0) rfl (by decide)).mp c9
    have s9 := sm_f hr1_0 c9
    refine lv_aload_n hx hb dX12_beginBulk_31 rfl (lv_at hl 0 rfl) ?_
    refine lv_iload_n hx hb dX12_beginBulk_32 rfl (lv_at hl 2 rfl) ?_
    refine lv_iconst (v := 4) hx hb dX12_beginBulk_33 (by decide) ?_
    refine ro_calli (va_runV (As := [.int w, .int 4]) (rest := []) ⟨hx, hb, hml, hown, hts⟩ (s_X12_isOf l D H.size o a t i q (updA (updA c 38 (e1 : Int32).toNatClampNeg w) 39 (e1 : Int32).toNatClampNeg 0) d w 4 hI (show 0 ≤ w.toInt ∧ w.toInt ≤ 29 from by have h91 : (4 : Int32).toInt = 4 := (by decide); omega) (show 0 ≤ 4 from by have h91 : (4 : Int32).toInt = 4 := (by decide); omega)) (cwV 2 hts gm_X12_beginBulk_X12_isOf rfl rfl rfl (by decide +kernel) ⟨Nat.le_of_ble_eq_true rfl, Nat.le_of_ble_eq_true rfl⟩) (pA_V hK hP (ci := 12) (q0 := 0) rfl rfl) rfl rfl hl.1 rfl (lv_room (Nat.le_of_ble_eq_true rfl)) dX12_beginBulk_34 ⟨Nat.le_of_ble_eq_true rfl, Nat.le_of_ble_eq_true rfl⟩) hS hA hP (fun r10 u10 H locs hw10 hP hS => ?_)
    have hw10 : ((0 ≤ r10.toInt ∧ r10.toInt ≤ 1) ∧ (Sm r10 (Kd ((updA (updA c 38 (e1 : Int32).toNatClampNeg w) 39 (e1 : Int32).toNatClampNeg 0) 3) ((updA (updA c 38 (e1 : Int32).toNatClampNeg w) 39 (e1 : Int32).toNatClampNeg 0) 6) w.toInt 4))) := hw10
    obtain ⟨hw10, hr10_0⟩ := hw10
    have hr10_0 : Sm r10 (Kd (c 3) (c 6) w.toInt 4) := by have h9 := hr10_0; rw [show (updA (updA c 38 (e1 : Int32).toNatClampNeg w) 39 (e1 : Int32).toNatClampNeg 0) 3 = c 3 from hfc 3 (by decide), show (updA (updA c 38 (e1 : Int32).toNatClampNeg w) 39 (e1 : Int32).toNatClampNeg 0) 6 = c 6 from hfc 6 (by decide)] at h9; exact h9
    refine lv_if_eq (tgt := 48) hx hb dX12_beginBulk_37 (by decide) (fun c11 => ?_) (fun c11 => ?_)
    · have f11 := (ti_eq (a := r10.toInt) (b := 0) rfl (by decide)).mp c11
      have s11 := sm_f hr10_0 c11
      refine lv_aload_n hx hb dX12_beginBulk_48 rfl (lv_at hl 0 rfl) ?_
      refine lv_iload_n hx hb dX12_beginBulk_49 rfl (lv_at hl 2 rfl) ?_
      refine lv_iconst (v := 5) hx hb dX12_beginBulk_50 (by decide) ?_
      refine ro_calli (va_runV (As := [.int w, .int 5]) (rest := []) ⟨hx, hb, hml, hown, hts⟩ (s_X12_isOf l D H.size o a t i q (updA (updA c 38 (e1 : Int32).toNatClampNeg w) 39 (e1 : Int32).toNatClampNeg 0) d w 5 hI (show 0 ≤ w.toInt ∧ w.toInt ≤ 29 from by have h91 : (5 : Int32).toInt = 5 := (by decide); omega) (show 0 ≤ 5 from by have h91 : (5 : Int32).toInt = 5 := (by decide); omega)) (cwV 2 hts gm_X12_beginBulk_X12_isOf rfl rfl rfl (by decide +kernel) ⟨Nat.le_of_ble_eq_true rfl, Nat.le_of_ble_eq_true rfl⟩) (pA_V hK hP (ci := 12) (q0 := 0) rfl rfl) rfl rfl hl.1 rfl (lv_room (Nat.le_of_ble_eq_true rfl)) dX12_beginBulk_51 ⟨Nat.le_of_ble_eq_true rfl, Nat.le_of_ble_eq_true rfl⟩) hS hA hP (fun r12 u12 H locs hw12 hP hS => ?_)
      have hw12 : ((0 ≤ r12.toInt ∧ r12.toInt ≤ 1) ∧ (Sm r12 (Kd ((updA (updA c 38 (e1 : Int32).toNatClampNeg w) 39 (e1 : Int32).toNatClampNeg 0) 3) ((updA (updA c 38 (e1 : Int32).toNatClampNeg w) 39 (e1 : Int32).toNatClampNeg 0) 6) w.toInt 5))) := hw12
      obtain ⟨hw12, hr12_0⟩ := hw12
      have hr12_0 : Sm r12 (Kd (c 3) (c 6) w.toInt 5) := by have h9 := hr12_0; rw [show (updA (updA c 38 (e1 : Int32).toNatClampNeg w) 39 (e1 : Int32).toNatClampNeg 0) 3 = c 3 from hfc 3 (by decide), show (updA (updA c 38 (e1 : Int32).toNatClampNeg w) 39 (e1 : Int32).toNatClampNeg 0) 6 = c 6 from hfc 6 (by decide)] at h9; exact h9
      refine lv_if_eq (tgt := 62) hx hb dX12_beginBulk_54 (by decide) (fun c13 => ?_) (fun c13 => ?_)
      · have f13 := (ti_eq (a := r12.toInt) (b := 0) rfl (by decide)).mp c13
        have s13 := sm_f hr12_0 c13
        exact jn2 i q (updA (updA c 38 (e1 : Int32).toNatClampNeg w) 39 (e1 : Int32).toNatClampNeg 0) d   hI (fr_w hfi (by decide)) (fr_w hfc (by decide)) (show ((updA (updA c 38 (e1 : Int32).toNatClampNeg w) 39 (e1 : Int32).toNatClampNeg 0) 38) = upd (c 38) e1.toNatClampNeg w from rfl) (show ((updA (updA c 38 (e1 : Int32).toNatClampNeg w) 39 (e1 : Int32).toNatClampNeg 0) 39) = upd (c 39) e1.toNatClampNeg 0 from rfl) _ _ _ hP hD hS (lv_sub hl [0, 1, 2] rfl)
      · have f13 := mt (ti_eq (a := r12.toInt) (b := 0) rfl (by decide)).mpr c13
        have s13 := sm_t hr12_0 c13
        refine lv_aload_n hx hb dX12_beginBulk_57 rfl (lv_at hl 0 rfl) ?_
        refine lv_iconst (v := 5) hx hb dX12_beginBulk_58 (by decide) ?_
        refine al_callv (va_runV (As := [.int 5]) (rest := []) ⟨hx, hb, hml, hown, hts⟩ (s_X12_body l D H.size o a t i q (updA (updA c 38 (e1 : Int32).toNatClampNeg w) 39 (e1 : Int32).toNatClampNeg 0) d 5 hI (show 0 ≤ 5 ∧ 5 ≤ 5 from by have h90 : (5 : Int32).toInt = 5 := (by decide); omega)) (cwV 1 hts gm_X12_beginBulk_X12_body rfl rfl rfl (by decide +kernel) ⟨Nat.le_of_ble_eq_true rfl, Nat.le_of_ble_eq_true rfl⟩) (pB_V hK hP hD (ci := 12) (q0 := 0) rfl rfl) rfl rfl hl.1 rfl (lv_room (Nat.le_of_ble_eq_true rfl)) dX12_beginBulk_59 ⟨Nat.le_of_ble_eq_true rfl, Nat.le_of_ble_eq_true rfl⟩) hS hA hP hD (fun u14 H locs hw14 hP hD hS => ?_)
        obtain ⟨i14, q14, c14, d14⟩ := u14
        have hw14 : True ∧ mInv i14 c14 ∧ (∀ k, k ∉ ([35] : List Nat) → i14 k = i k) ∧ (∀ k, k ∉ ([34] : List Nat) → c14 k = (updA (updA c 38 (e1 : Int32).toNatClampNeg w) 39 (e1 : Int32).toNatClampNeg 0) k) := hw14
        obtain ⟨hw14, hI, hei14, hec14⟩ := hw14
        have hfi : ∀ k, k ∉ ([35] : List Nat) → i14 k = i k := fr_z hfi hei14 (by decide) (by decide)
        have hfc : ∀ k, k ∉ ([34, 38, 39] : List Nat) → c14 k = c k := fr_z hfc hec14 (by decide) (by decide)
        have hP : va_P D vwCl (mW o a t i14 q14 c14 d14) H := hP
        have hD : va_D A (mW o a t i14 q14 c14 d14) := hD
        exact jn2 i14 q14 c14 d14   hI (fr_w hfi (by decide)) (fr_w hfc (by decide)) (show (c14 38) = upd (c 38) e1.toNatClampNeg w from hec14 38 (by decide)) (show (c14 39) = upd (c 39) e1.toNatClampNeg 0 from hec14 39 (by decide)) _ _ _ hP hD hS (lv_sub hl [0, 1, 2] rfl)
    · have f11 := mt (ti_eq (a := r10.toInt) (b := 0) rfl (by decide)).mpr c11
      have s11 := sm_t hr10_0 c11
      refine lv_aload_n hx hb dX12_beginBulk_40 rfl (lv_at hl 0 rfl) ?_
      refine lv_iconst (v := 3) hx hb dX12_beginBulk_41 (by decide) ?_
      refine al_callv (va_runV (As := [.int 3]) (rest := []) ⟨hx, hb, hml, hown, hts⟩ (s_X12_body l D H.size o a t i q (updA (updA c 38 (e1 : Int32).toNatClampNeg w) 39 (e1 : Int32).toNatClampNeg 0) d 3 hI (show 0 ≤ 3 ∧ 3 ≤ 5 from by have h90 : (3 : Int32).toInt = 3 := (by decide); omega)) (cwV 1 hts gm_X12_beginBulk_X12_body rfl rfl rfl (by decide +kernel) ⟨Nat.le_of_ble_eq_true rfl, Nat.le_of_ble_eq_true rfl⟩) (pB_V hK hP hD (ci := 12) (q0 := 0) rfl rfl) rfl rfl hl.1 rfl (lv_room (Nat.le_of_ble_eq_true rfl)) dX12_beginBulk_42 ⟨Nat.le_of_ble_eq_true rfl, Nat.le_of_ble_eq_true rfl⟩) hS hA hP hD (fun u15 H locs hw15 hP hD hS => ?_)
      obtain ⟨i15, q15, c15, d15⟩ := u15
      have hw15 : True ∧ mInv i15 c15 ∧ (∀ k, k ∉ ([35] : List Nat) → i15 k = i k) ∧ (∀ k, k ∉ ([34] : List Nat) → c15 k = (updA (updA c 38 (e1 : Int32).toNatClampNeg w) 39 (e1 : Int32).toNatClampNeg 0) k) := hw15
      obtain ⟨hw15, hI, hei15, hec15⟩ := hw15
      have hfi : ∀ k, k ∉ ([35] : List Nat) → i15 k = i k := fr_z hfi hei15 (by decide) (by decide)
      have hfc : ∀ k, k ∉ ([34, 38, 39] : List Nat) → c15 k = c k := fr_z hfc hec15 (by decide) (by decide)
      have hP : va_P D vwCl (mW o a t i15 q15 c15 d15) H := hP
      have hD : va_D A (mW o a t i15 q15 c15 d15) := hD
      refine lv_goto (tgt := 62) hx hb dX12_beginBulk_45 (by decide) ?_
      exact jn2 i15 q15 c15 d15   hI (fr_w hfi (by decide)) (fr_w hfc (by decide)) (show (c15 38) = upd (c 38) e1.toNatClampNeg w from hec15 38 (by decide)) (show (c15 39) = upd (c 39) e1.toNatClampNeg 0 from hec15 39 (by decide)) _ _ _ hP hD hS (lv_sub hl [0, 1, 2] rfl)
  · have f9 := mt (ti_eq (a := r1.toInt) (b := 0) rfl (by decide)).mpr c9
    have s9 := sm_t hr1_0 c9
    refine lv_aload_n hx hb dX12_beginBulk_23 rfl (lv_at hl 0 rfl) ?_
    refine lv_iconst (v := 2) hx hb dX12_beginBulk_24 (by decide) ?_
    refine al_callv (va_runV (As := [.int 2]) (rest := []) ⟨hx, hb, hml, hown, hts⟩ (s_X12_body l D H.size o a t i q (updA (updA c 38 (e1 : Int32).toNatClampNeg w) 39 (e1 : Int32).toNatClampNeg 0) d 2 hI (show 0 ≤ 2 ∧ 2 ≤ 5 from by have h90 : (2 : Int32).toInt = 2 := (by decide); omega)) (cwV 1 hts gm_X12_beginBulk_X12_body rfl rfl rfl (by decide +kernel) ⟨Nat.le_of_ble_eq_true rfl, Nat.le_of_ble_eq_true rfl⟩) (pB_V hK hP hD (ci := 12) (q0 := 0) rfl rfl) rfl rfl hl.1 rfl (lv_room (Nat.le_of_ble_eq_true rfl)) dX12_beginBulk_25 ⟨Nat.le_of_ble_eq_true rfl, Nat.le_of_ble_eq_true rfl⟩) hS hA hP hD (fun u16 H locs hw16 hP hD hS => ?_)
    obtain ⟨i16, q16, c16, d16⟩ := u16
    have hw16 : True ∧ mInv i16 c16 ∧ (∀ k, k ∉ ([35] : List Nat) → i16 k = i k) ∧ (∀ k, k ∉ ([34] : List Nat) → c16 k = (updA (updA c 38 (e1 : Int32).toNatClampNeg w) 39 (e1 : Int32).toNatClampNeg 0) k) := hw16
    obtain ⟨hw16, hI, hei16, hec16⟩ := hw16
    have hfi : ∀ k, k ∉ ([35] : List Nat) → i16 k = i k := fr_z hfi hei16 (by decide) (by decide)
    have hfc : ∀ k, k ∉ ([34, 38, 39] : List Nat) → c16 k = c k := fr_z hfc hec16 (by decide) (by decide)
    have hP : va_P D vwCl (mW o a t i16 q16 c16 d16) H := hP
    have hD : va_D A (mW o a t i16 q16 c16 d16) := hD
    refine lv_goto (tgt := 62) hx hb dX12_beginBulk_28 (by decide) ?_
    exact jn2 i16 q16 c16 d16   hI (fr_w hfi (by decide)) (fr_w hfc (by decide)) (show (c16 38) = upd (c 38) e1.toNatClampNeg w from hec16 38 (by decide)) (show (c16 39) = upd (c 39) e1.toNatClampNeg 0 from hec16 39 (by decide)) _ _ _ hP hD hS (lv_sub hl [0, 1, 2] rfl)

def wm_X12_bulkOf : List Cond := .code yX12_bulkOf cX12_bulkOf 6 (some .int) :: (([.methodLink RX12 184 yX12_isOf, .instanceMethod yX12_isOf, .selects RX12 yX12_isOf yX12_isOf, .initialized RX12, .code yX12_isOf cX12_isOf 4 (some .boolean), .fieldLink RX12 19 "TalePlayModel" "kindOf" "[I", .fieldLink RX12 13 "TalePlayModel" "parentOf" "[I", .methodLink RX12 306 yX12_beginBulk, .instanceMethod yX12_beginBulk, .selects RX12 yX12_beginBulk yX12_beginBulk, .code yX12_beginBulk cX12_beginBulk 3 (some .int), .fieldLink RX12 80 "TalePlayModel" "pile" "[I", .fieldLink RX12 83 "TalePlayModel" "nextIn" "[I", .methodLink RX12 300 yX12_body, .instanceMethod yX12_body, .selects RX12 yX12_body yX12_body, .code yX12_body cX12_body 2 none, .fieldLink RX12 294 "TalePlayModel" "traces" "Z", .fieldLink RX12 297 "TalePlayModel" "traced" "I", .fieldLink RX12 77 "TalePlayModel" "trace" "[I", .fieldLink RX12 22 "TalePlayModel" "sizeOf" "[I", .fieldLink RX12 177 "TalePlayModel" "objects" "I", .methodLink RX12 309 yX12_formNow, .instanceMethod yX12_formNow, .selects RX12 yX12_formNow yX12_formNow, .code yX12_formNow cX12_formNow 3 (some .int), .fieldLink RX12 155 "TalePlayModel" "player" "I", .methodLink RX12 208 yX12_placing, .instanceMethod yX12_placing, .selects RX12 yX12_placing yX12_placing, .code yX12_placing cX12_placing 3 (some .int), .fieldLink RX12 202 "TalePlayModel" "sentences" "I", .fieldLink RX12 37 "TalePlayModel" "isSaid" "[Z", .fieldLink RX12 25 "TalePlayModel" "form" "[I", .fieldLink RX12 28 "TalePlayModel" "left" "[I", .fieldLink RX12 50 "TalePlayModel" "nForm" "[I", .methodLink RX12 312 yX12_atNow, .instanceMethod yX12_atNow, .selects RX12 yX12_atNow yX12_atNow, .code yX12_atNow cX12_atNow 3 (some .int), .fieldLink RX12 31 "TalePlayModel" "middle" "[I", .fieldLink RX12 53 "TalePlayModel" "nAt" "[I", .fieldLink RX12 303 "TalePlayModel" "isNought" "Z"] : List Cond) ++ wsX120)
set_option maxRecDepth 20000 in
theorem gm_X12_bulkOf_X12_isOf : GoodIn wm_X12_bulkOf (wsV RX12 184 RX12 yX12_isOf wm_X12_isOf) := goodIn_app (goodIn_of _ (by decide +kernel)) (goodIn_r _ [5, 6, 7, 44, 45, 46, 47, 48, 49, 50, 51, 52, 53, 54, 55, 56, 57, 58, 59, 60, 61, 62, 63, 64, 65, 66, 67, 68, 69, 70, 71, 72, 73, 74, 75, 76, 77, 78, 79, 80, 81, 82, 83, 84, 85, 86, 87, 88, 89, 90, 91, 92, 93, 94, 95, 96, 97, 98, 99, 100, 101, 102, 103, 104, 105, 106, 107, 108, 109, 110, 111, 112] (by decide +kernel) (by decide +kernel))
set_option maxRecDepth 20000 in
theorem gm_X12_bulkOf_X12_beginBulk : GoodIn wm_X12_bulkOf (wsV RX12 306 RX12 yX12_beginBulk wm_X12_beginBulk) := goodIn_app (goodIn_of _ (by decide +kernel)) (goodIn_r _ [11, 12, 13, 1, 2, 3, 4, 5, 6, 7, 14, 15, 16, 17, 18, 19, 20, 21, 44, 45, 46, 47, 48, 49, 50, 51, 52, 53, 54, 55, 56, 57, 58, 59, 60, 61, 62, 63, 64, 65, 66, 67, 68, 69, 70, 71, 72, 73, 74, 75, 76, 77, 78, 79, 80, 81, 82, 83, 84, 85, 86, 87, 88, 89, 90, 91, 92, 93, 94, 95, 96, 97, 98, 99, 100, 101, 102, 103, 104, 105, 106, 107, 108, 109, 110, 111, 112] (by decide +kernel) (by decide +kernel))
set_option maxRecDepth 20000 in
theorem gm_X12_bulkOf_X12_formNow : GoodIn wm_X12_bulkOf (wsV RX12 309 RX12 yX12_formNow wm_X12_formNow) := goodIn_app (goodIn_of _ (by decide +kernel)) (goodIn_r _ [26, 27, 28, 29, 30, 4, 31, 32, 33, 34, 35, 36, 44, 45, 46, 47, 48, 49, 50, 51, 52, 53, 54, 55, 56, 57, 58, 59, 60, 61, 62, 63, 64, 65, 66, 67, 68, 69, 70, 71, 72, 73, 74, 75, 76, 77, 78, 79, 80, 81, 82, 83, 84, 85, 86, 87, 88, 89, 90, 91, 92, 93, 94, 95, 96, 97, 98, 99, 100, 101, 102, 103, 104, 105, 106, 107, 108, 109, 110, 111, 112] (by decide +kernel) (by decide +kernel))
set_option maxRecDepth 20000 in
theorem gm_X12_bulkOf_X12_atNow : GoodIn wm_X12_bulkOf (wsV RX12 312 RX12 yX12_atNow wm_X12_atNow) := goodIn_app (goodIn_of _ (by decide +kernel)) (goodIn_r _ [40, 27, 28, 29, 30, 4, 31, 32, 33, 34, 35, 41, 42, 44, 45, 46, 47, 48, 49, 50, 51, 52, 53, 54, 55, 56, 57, 58, 59, 60, 61, 62, 63, 64, 65, 66, 67, 68, 69, 70, 71, 72, 73, 74, 75, 76, 77, 78, 79, 80, 81, 82, 83, 84, 85, 86, 87, 88, 89, 90, 91, 92, 93, 94, 95, 96, 97, 98, 99, 100, 101, 102, 103, 104, 105, 106, 107, 108, 109, 110, 111, 112] (by decide +kernel) (by decide +kernel))
set_option maxRecDepth 20000 in
theorem gm_X12_bulkOf_X12_body : GoodIn wm_X12_bulkOf (wsV RX12 300 RX12 yX12_body wm_X12_body) := goodIn_app (goodIn_of _ (by decide +kernel)) (goodIn_r _ [17, 18, 19, 20, 44, 45, 46, 47, 48, 49, 50, 51, 52, 53, 54, 55, 56, 57, 58, 59, 60, 61, 62, 63, 64, 65, 66, 67, 68, 69, 70, 71, 72, 73, 74, 75, 76, 77, 78, 79, 80, 81, 82, 83, 84, 85, 86, 87, 88, 89, 90, 91, 92, 93, 94, 95, 96, 97, 98, 99, 100, 101, 102, 103, 104, 105, 106, 107, 108, 109, 110, 111, 112] (by decide +kernel) (by decide +kernel))
set_option maxHeartbeats 4000000 in
set_option maxRecDepth 100000 in
theorem s_X12_bulkOf (l : Launch) (D : va_G) (sz : Nat) (o : Nat) (a : Nat → Nat) (t : Nat → ClassId) (i : Nat → Int32) (q : Int64) (c : Nat → Nat → Int32) (d : Nat → Nat → Int64) (w : Int32) (hI : mInv i c) (hw : 0 ≤ w.toInt ∧ w.toInt ≤ 29) (hs_G : Acy (gF (c 9) (c 10) (c 11) (c 13) (c 23) (c 24) (i 8).toInt (i 5).toInt (i 22).toInt)) : Met l yX12_bulkOf wm_X12_bulkOf ({ frames := 2, cells := 0, slots := 0, locals := 45 }) (va_Pc [.ref o, .int w] (pB D sz (mW o a t i q c d) (mT t))) (va_Qi (fun (r : Int32) (u : MS) => True ∧ mInv u.1 u.2.2.1 ∧ (∀ k, k ∉ ([35, 36] : List Nat) → u.1 k = i k) ∧ (∀ k, k ∉ ([34, 38, 39] : List Nat) → u.2.2.1 k = c k)) (oC D (va_A (mW o a t i q c d) sz) (fun u : MS => mW o a t u.1 u.2.1 u.2.2.1 u.2.2.2) (fun _ => [])) (va_A (mW o a t i q c d) sz)) 0 0 (va_A (mW o a t i q c d) sz) := by
  refine Met.ofW (cc := cX12_bulkOf) (maxL := 6) (ret := (some .int)) (by decide) rfl ?_
  intro p e s m args below meth cd s₁ B hml hv
  obtain ⟨rfl, hsz, hP, hK, hD0⟩ := hv
  have hx := B.exec
  have hb := B.bytes
  have hr := B.returns
  have hts := atoms_spec (ws := wm_X12_bulkOf) B.pre
  have hown : s.vm.findClass RX12 = some m.cls := findClass_of_methodNamed B.named
  have hlocks := B.notSynchronized
  subst hsz
  have hD := hD0.self (sz := s.heap.size)
  generalize hAe : va_A (mW o a t i q c d) s.heap.size = A at hD ⊢
  have hA : ∀ q : Nat, s.heap.size ≤ q → A q := fun q h => by rw [← hAe]; exact Or.inr h
  have hS : va_S A s.heap s.heap [] := va_S.rf
  have hfi : ∀ k, k ∉ ([] : List Nat) → i k = i k := fun _ _ => rfl
  have hfc : ∀ k, k ∉ ([] : List Nat) → c k = c k := fun _ _ => rfl
  have hl := lv_entry ([.ref o, .int w]) (n := 6) (Nat.le_of_ble_eq_true rfl)
  rw [lg_entry_eq]
  generalize (lg_sl ([.ref o, .int w]) ++ List.replicate (6 - (lg_sl ([.ref o, .int w])).length) Slot.unset).toArray = ls at hl ⊢
  have hl : lv_has ls 6 [(0, .ref o), (1, .int w)] := hl
  obtain ⟨rk, hrk⟩ := hs_G
  have rb5_i : 0 ≤ (i 5).toInt ∧ (i 5).toInt ≤ 30 := hI.1 5
  refine lv_aload_n hx hb dX12_bulkOf_0 rfl (lv_at hl 0 rfl) ?_
  refine lv_iload_n hx hb dX12_bulkOf_1 rfl (lv_at hl 1 rfl) ?_
  refine lv_iconst (v := 2) hx hb dX12_bulkOf_2 (by decide) ?_
  refine ro_calli (va_runV (As := [.int w, .int 2]) (rest := []) ⟨hx, hb, hml, hown, hts⟩ (s_X12_isOf l D s.heap.size o a t i q c d w 2 hI (show 0 ≤ w.toInt ∧ w.toInt ≤ 29 from by have h91 : (2 : Int32).toInt = 2 := (by decide); omega) (show 0 ≤ 2 from by have h91 : (2 : Int32).toInt = 2 := (by decide); omega)) (cwV 2 hts gm_X12_bulkOf_X12_isOf rfl rfl rfl (by decide +kernel) ⟨Nat.le_of_ble_eq_true rfl, Nat.le_of_ble_eq_true rfl⟩) (pA_V hK hP (ci := 12) (q0 := 0) rfl rfl) rfl rfl hl.1 rfl (lv_room (Nat.le_of_ble_eq_true rfl)) dX12_bulkOf_3 ⟨Nat.le_of_ble_eq_true rfl, Nat.le_of_ble_eq_true rfl⟩) hS hA hP (fun r1 u1 H locs hw1 hP hS => ?_)
  have hw1 : ((0 ≤ r1.toInt ∧ r1.toInt ≤ 1) ∧ (Sm r1 (Kd (c 3) (c 6) w.toInt 2))) := hw1
  obtain ⟨hw1, hr1_0⟩ := hw1
  have hr1_0 : Sm r1 (Kd (c 3) (c 6) w.toInt 2) := hr1_0
  refine lv_if_eq (tgt := 65) hx hb dX12_bulkOf_6 (by decide) (fun c2 => ?_) (fun c2 => ?_)
  · have f2 := (ti_eq (a := r1.toInt) (b := 0) rfl (by decide)).mp c2
    have s2 := sm_f hr1_0 c2
    refine lv_aload_n hx hb dX12_bulkOf_65 rfl (lv_at hl 0 rfl) ?_
    refine lv_iconst (v := 0) hx hb dX12_bulkOf_66 (by decide) ?_
    refine lv_iload_n hx hb dX12_bulkOf_67 rfl (lv_at hl 1 rfl) ?_
    refine al_calli (va_runV (As := [.int 0, .int w]) (rest := []) ⟨hx, hb, hml, hown, hts⟩ (s_X12_beginBulk l D H.size o a t i q c d 0 w hI (show 0 ≤ 0 ∧ 0 ≤ 29 from by have h90 : (0 : Int32).toInt = 0 := (by decide); omega) (show 0 ≤ w.toInt ∧ w.toInt ≤ 29 from by have h90 : (0 : Int32).toInt = 0 := (by decide); omega)) (cwV 2 hts gm_X12_bulkOf_X12_beginBulk rfl rfl rfl (by decide +kernel) ⟨Nat.le_of_ble_eq_true rfl, Nat.le_of_ble_eq_true rfl⟩) (pB_V hK hP hD (ci := 12) (q0 := 0) rfl rfl) rfl rfl hl.1 rfl (lv_room (Nat.le_of_ble_eq_true rfl)) dX12_bulkOf_68 ⟨Nat.le_of_ble_eq_true rfl, Nat.le_of_ble_eq_true rfl⟩) hS hA hP hD (fun r3 u3 H locs hw3 hP hD hS => ?_)
    obtain ⟨i3, q3, c3, d3⟩ := u3
    have hw3 : (0 ≤ r3.toInt ∧ r3.toInt ≤ 198) ∧ mInv i3 c3 ∧ (∀ k, k ∉ ([35] : List Nat) → i3 k = i k) ∧ (∀ k, k ∉ ([34, 38, 39] : List Nat) → c3 k = c k) ∧ ((c3 38) = upd (c 38) (0 : Int32).toNatClampNeg w) ∧ ((c3 39) = upd (c 39) (0 : Int32).toNatClampNeg 0) := hw3
    obtain ⟨hw3, hI, hei3, hec3, hxp3_0, hxp3_1⟩ := hw3
    have hxp3_0 : (c3 38) = upd (c 38) (0 : Int32).toNatClampNeg w := hxp3_0
    have hxp3_1 : (c3 39) = upd (c 39) (0 : Int32).toNatClampNeg 0 := hxp3_1
    have hfi : ∀ k, k ∉ ([35] : List Nat) → i3 k = i k := fr_z hfi hei3 (by decide) (by decide)
    have hfc : ∀ k, k ∉ ([34, 38, 39] : List Nat) → c3 k = c k := fr_z hfc hec3 (by decide) (by decide)
    have hP : va_P D vwCl (mW o a t i3 q3 c3 d3) H := hP
    have hD : va_D A (mW o a t i3 q3 c3 d3) := hD
    refine lv_istore_n (lv' := [(2, .int r3), (0, .ref o), (1, .int w)]) hx hb dX12_bulkOf_71 rfl hl (by decide) rfl (fun ls hl => ?_)
    refine lv_iconst (v := 0) hx hb dX12_bulkOf_72 (by decide) ?_
    refine lv_istore_n (lv' := [(3, .int 0), (2, .int r3), (0, .ref o), (1, .int w)]) hx hb dX12_bulkOf_73 rfl hl (by decide) rfl (fun ls hl => ?_)
    have lp4 : ∀ (fu : Nat) (i4 : Nat → Int32) (q4 : Int64) (c4 : Nat → Nat → Int32) (d4 : Nat → Nat → Int64) (y4_3 : Int32) (y4_2 : Int32), mInv i4 c4 → (∀ k, k ∉ ([35] : List Nat) → i4 k = i k) → (∀ k, k ∉ ([34, 38, 39] : List Nat) → c4 k = c k) → (-1 ≤ y4_3.toInt ∧ y4_3.toInt ≤ 29) → (PQ rk (c4 38) y4_3.toInt) → (NQ (c4 39) (i 5).toInt y4_3.toInt) → Ms (c4 39) y4_3.toInt < fu → ∀ (H : Heap) (locs : List Loc) (ls : Array Slot), va_P D vwCl (mW o a t i4 q4 c4 d4) H → va_D A (mW o a t i4 q4 c4 d4) → va_S A s.heap H locs → lv_has ls 6 [(3, .int y4_3), (2, .int y4_2), (0, .ref o), (1, .int w)] → W p l e (headSpec wm_X12_bulkOf ({ frames := 2, cells := 0, slots := 0, locals := 45 })).room s m ([.ref o, .int w] : List Value).toArray below meth cd H locs 0 0 (MQ below (va_Qi (fun (r : Int32) (u : MS) => True ∧ mInv u.1 u.2.2.1 ∧ (∀ k, k ∉ ([35, 36] : List Nat) → u.1 k = i k) ∧ (∀ k, k ∉ ([34, 38, 39] : List Nat) → u.2.2.1 k = c k)) (oC D A (fun u : MS => mW o a t u.1 u.2.1 u.2.2.1 u.2.2.2) (fun _ => [])) A) ([.ref o, .int w] : List Value).toArray s 0 0 A) (F0 m 74 ls []) := by
      intro fu
      induction fu with
      | zero => intro i4 q4 c4 d4 y4_3 y4_2 hI hfi hfc hy4_3 hz4_0 hz4_1 hm; exact absurd hm (Nat.not_lt_zero _)
      | succ fu ih =>
        intro i4 q4 c4 d4 y4_3 y4_2 hI hfi hfc hy4_3 hz4_0 hz4_1 hm H locs ls hP hD hS hl
        have ih4 := ih
        have hm4 := hm
        refine lv_iload_n hx hb dX12_bulkOf_74 rfl (lv_at hl 0 rfl) ?_
        refine lv_if_lt (tgt := 212) hx hb dX12_bulkOf_75 (by decide) (fun c5 => ?_) (fun c5 => ?_)
        · have f5 := (ti_lt (a := y4_3.toInt) (b := 0) rfl (by decide)).mp c5
          refine lv_iload_n hx hb dX12_bulkOf_212 rfl (lv_at hl 1 rfl) ?_
          exact rw_iret (i4, q4, c4, d4) hx hb hr hlocks hS (hK.sub (tys' := []) [] rfl) hP hD dX12_bulkOf_213 ⟨trivial, hI, fr_w hfi (by decide), fr_w hfc (by decide)⟩
        · have f5 := mt (ti_lt (a := y4_3.toInt) (b := 0) rfl (by decide)).mpr c5
          refine lv_aload_n hx hb dX12_bulkOf_78 rfl (lv_at hl 2 rfl) ?_
          refine lv_aload_n hx hb dX12_bulkOf_79 rfl (lv_at hl 2 rfl) ?_
          refine mget_38 hx hb hts (fun _ h => List.mem_cons_of_mem _ (List.mem_append_right _ h)) hown hK hP (hts (.fieldLink RX12 80 "TalePlayModel" "pile" "[I") (by decide +kernel)) dX12_bulkOf_80 ?_
          refine lv_iload_n hx hb dX12_bulkOf_83 rfl (lv_at hl 0 rfl) ?_
          refine mld_38 hx hb hK hP (vp_in_iff.mpr (by have h9 : y4_3.toInt = y4_3.toInt := rfl; omega)) dX12_bulkOf_84 (fun x6 ex6 => ?_)
          have rx6 : 0 ≤ x6.toInt ∧ x6.toInt ≤ 29 := by rw [ex6]; exact hI.2 38 _
          have gx6 : (c4 38 (y4_3 : Int32).toNatClampNeg).toInt = x6.toInt := by rw [ex6]
          refine lv_iconst (v := 3) hx hb dX12_bulkOf_85 (by decide) ?_
          refine ro_calli (va_runV (As := [.int x6, .int 3]) (rest := []) ⟨hx, hb, hml, hown, hts⟩ (s_X12_isOf l D H.size o a t i4 q4 c4 d4 x6 3 hI (show 0 ≤ x6.toInt ∧ x6.toInt ≤ 29 from by have h91 : (3 : Int32).toInt = 3 := (by decide); omega) (show 0 ≤ 3 from by have h91 : (3 : Int32).toInt = 3 := (by decide); omega)) (cwV 2 hts gm_X12_bulkOf_X12_isOf rfl rfl rfl (by decide +kernel) ⟨Nat.le_of_ble_eq_true rfl, Nat.le_of_ble_eq_true rfl⟩) (pA_V hK hP (ci := 12) (q0 := 0) rfl rfl) rfl rfl hl.1 rfl (lv_room (Nat.le_of_ble_eq_true rfl)) dX12_bulkOf_86 ⟨Nat.le_of_ble_eq_true rfl, Nat.le_of_ble_eq_true rfl⟩) hS hA hP (fun r7 u7 H locs hw7 hP hS => ?_)
          have hw7 : ((0 ≤ r7.toInt ∧ r7.toInt ≤ 1) ∧ (Sm r7 (Kd (c4 3) (c4 6) x6.toInt 3))) := hw7
          obtain ⟨hw7, hr7_0⟩ := hw7
          have hr7_0 : Sm r7 (Kd (c 3) (c 6) x6.toInt 3) := by have h9 := hr7_0; rw [show c4 3 = c 3 from hfc 3 (by decide), show c4 6 = c 6 from hfc 6 (by decide)] at h9; exact h9
          have jn8 : ∀ (z8_0 : Int32), (z8_0.toInt = -9 ∨ (0 ≤ z8_0.toInt ∧ z8_0.toInt ≤ 1)) → ∀ (H : Heap) (locs : List Loc) (ls : Array Slot), va_P D vwCl (mW o a t i4 q4 c4 d4) H → va_D A (mW o a t i4 q4 c4 d4) → va_S A s.heap H locs → lv_has ls 6 [(3, .int y4_3), (2, .int y4_2), (0, .ref o), (1, .int w)] → W p l e (headSpec wm_X12_bulkOf ({ frames := 2, cells := 0, slots := 0, locals := 45 })).room s m ([.ref o, .int w] : List Value).toArray below meth cd H locs 0 0 (MQ below (va_Qi (fun (r : Int32) (u : MS) => True ∧ mInv u.1 u.2.2.1 ∧ (∀ k, k ∉ ([35, 36] : List Nat) → u.1 k = i k) ∧ (∀ k, k ∉ ([34, 38, 39] : List Nat) → u.2.2.1 k = c k)) (oC D A (fun u : MS => mW o a t u.1 u.2.1 u.2.2.1 u.2.2.2) (fun _ => [])) A) ([.ref o, .int w] : List Value).toArray s 0 0 A) (F0 m 116 ls [.int z8_0]) := by
            intro z8_0 hs8_0 H locs ls hP hD hS hl
            refine lv_istore (lv' := [(4, .int z8_0), (3, .int y4_3), (2, .int y4_2), (0, .ref o), (1, .int w)]) hx hb dX12_bulkOf_116 hl (by decide) rfl (fun ls hl => ?_)
            refine lv_aload_n hx hb dX12_bulkOf_118 rfl (lv_at hl 3 rfl) ?_
            refine mget_39 hx hb hts (fun _ h => List.mem_cons_of_mem _ (List.mem_append_right _ h)) hown hK hP (hts (.fieldLink RX12 83 "TalePlayModel" "nextIn" "[I") (by decide +kernel)) dX12_bulkOf_119 ?_
            refine lv_iload_n hx hb dX12_bulkOf_122 rfl (lv_at hl 1 rfl) ?_
            refine mld_39 hx hb hK hP (vp_in_iff.mpr (by have h9 : y4_3.toInt = y4_3.toInt := rfl; omega)) dX12_bulkOf_123 (fun x9 ex9 => ?_)
            have rx9 : 0 ≤ x9.toInt ∧ x9.toInt ≤ 31 := by rw [ex9]; exact hI.2 39 _
            have gx9 : (c4 39 (y4_3 : Int32).toNatClampNeg).toInt = x9.toInt := by rw [ex9]
            have hnq := hz4_1 y4_3.toNatClampNeg (by rw [cl_nn (by omega)]; exact Int.le_refl _)
            refine lv_istore (lv' := [(5, .int x9), (4, .int z8_0), (3, .int y4_3), (2, .int y4_2), (0, .ref o), (1, .int w)]) hx hb dX12_bulkOf_124 hl (by decide) rfl (fun ls hl => ?_)
            have lp10 : ∀ (fu : Nat) (y10_5 : Int32), (0 ≤ y10_5.toInt ∧ y10_5.toInt ≤ 30 ∧ y10_5.toInt ≤ (i 5).toInt) → ((c4 39 y4_3.toNatClampNeg).toInt ≤ y10_5.toInt) → (30 - y10_5.toInt).toNat < fu → ∀ (H : Heap) (locs : List Loc) (ls : Array Slot), va_P D vwCl (mW o a t i4 q4 c4 d4) H → va_D A (mW o a t i4 q4 c4 d4) → va_S A s.heap H locs → lv_has ls 6 [(5, .int y10_5), (4, .int z8_0), (3, .int y4_3), (2, .int y4_2), (0, .ref o), (1, .int w)] → W p l e (headSpec wm_X12_bulkOf ({ frames := 2, cells := 0, slots := 0, locals := 45 })).room s m ([.ref o, .int w] : List Value).toArray below meth cd H locs 0 0 (MQ below (va_Qi (fun (r : Int32) (u : MS) => True ∧ mInv u.1 u.2.2.1 ∧ (∀ k, k ∉ ([35, 36] : List Nat) → u.1 k = i k) ∧ (∀ k, k ∉ ([34, 38, 39] : List Nat) → u.2.2.1 k = c k)) (oC D A (fun u : MS => mW o a t u.1 u.2.1 u.2.2.1 u.2.2.2) (fun _ => [])) A) ([.ref o, .int w] : List Value).toArray s 0 0 A) (F0 m 126 ls []) := by
              intro fu
              induction fu with
              | zero => intro y10_5 hy10_5 hz10_0 hm; exact absurd hm (Nat.not_lt_zero _)
              | succ fu ih =>
                intro y10_5 hy10_5 hz10_0 hm H locs ls hP hD hS hl
                have ih10 := ih
                refine lv_iload hx hb dX12_bulkOf_126 (lv_at hl 0 rfl) ?_
                refine lv_aload_n hx hb dX12_bulkOf_128 rfl (lv_at hl 4 rfl) ?_
                refine mget_5 (v := (i4 5)) rfl hx hb hts (fun _ h => List.mem_cons_of_mem _ (List.mem_append_right _ h)) hown hK hP (hts (.fieldLink RX12 177 "TalePlayModel" "objects" "I") (by decide +kernel)) dX12_bulkOf_129 ?_
                have rb5_i4 : 0 ≤ (i4 5).toInt ∧ (i4 5).toInt ≤ 30 := hI.1 5
                have re5_i4 : (i4 5).toInt = (i 5).toInt := congrArg Int32.toInt (hfi 5 (by decide))
                have jn11 : ((i 5).toInt ≤ y10_5.toInt ∨ gF (c 9) (c 10) (c 11) (c 13) (c 23) (c 24) (i 8).toInt (i 5).toInt (i 22).toInt y10_5.toInt = (c4 38 y4_3.toNatClampNeg).toInt) → ∀ (H : Heap) (locs : List Loc) (ls : Array Slot), va_P D vwCl (mW o a t i4 q4 c4 d4) H → va_D A (mW o a t i4 q4 c4 d4) → va_S A s.heap H locs → lv_has ls 6 [(5, .int y10_5), (4, .int z8_0), (3, .int y4_3), (2, .int y4_2), (0, .ref o), (1, .int w)] → W p l e (headSpec wm_X12_bulkOf ({ frames := 2, cells := 0, slots := 0, locals := 45 })).room s m ([.ref o, .int w] : List Value).toArray below meth cd H locs 0 0 (MQ below (va_Qi (fun (r : Int32) (u : MS) => True ∧ mInv u.1 u.2.2.1 ∧ (∀ k, k ∉ ([35, 36] : List Nat) → u.1 k = i k) ∧ (∀ k, k ∉ ([34, 38, 39] : List Nat) → u.2.2.1 k = c k)) (oC D A (fun u : MS => mW o a t u.1 u.2.1 u.2.2.1 u.2.2.2) (fun _ => [])) A) ([.ref o, .int w] : List Value).toArray s 0 0 A) (F0 m 174 ls []) := by
                  intro hz11_0 H locs ls hP hD hS hl
                  refine lv_aload_n hx hb dX12_bulkOf_174 rfl (lv_at hl 4 rfl) ?_
                  refine mget_39 hx hb hts (fun _ h => List.mem_cons_of_mem _ (List.mem_append_right _ h)) hown hK hP (hts (.fieldLink RX12 83 "TalePlayModel" "nextIn" "[I") (by decide +kernel)) dX12_bulkOf_175 ?_
                  refine lv_iload_n hx hb dX12_bulkOf_178 rfl (lv_at hl 2 rfl) ?_
                  refine lv_iload hx hb dX12_bulkOf_179 (lv_at hl 0 rfl) ?_
                  refine lv_iconst (v := 1) hx hb dX12_bulkOf_181 (by decide) ?_
                  refine lv_iadd hx hb dX12_bulkOf_182 ?_
                  refine lv_topi (fun x12 ex12 => ?_)
                  have tx12 := ti_add (a := y10_5.toInt) (b := 1) ex12 rfl (by decide) (by omega) (by omega)
                  refine mst_39 hx hb hK hP hD hS (vp_in_iff.mpr (by have h9 : y4_3.toInt = y4_3.toInt := rfl; omega)) dX12_bulkOf_183 (fun H locs hP hD hS => ?_)
                  have hI := mInv_c hI (k := 39) (j := (y4_3 : Int32).toNatClampNeg) (x := x12) (show 0 ≤ (x12 : Int32).toInt ∧ (x12 : Int32).toInt ≤ 31 from by have h9 : x12.toInt = (y10_5.toInt + 1) := tx12; omega)
                  have hfc := fr_c hfc (k := 39) (j := (y4_3 : Int32).toNatClampNeg) (x := x12) (by decide)
                  obtain ⟨x13, ex13⟩ : ∃ y : Int32, y = y4_3 + (-1) := ⟨_, rfl⟩
                  have tx13 := ti_add (a := y4_3.toInt) (b := (-1)) ex13 rfl (by decide) (by omega) (by omega)
                  refine lv_iinc (v := x13) (lv' := [(3, .int x13), (5, .int y10_5), (4, .int z8_0), (2, .int y4_2), (0, .ref o), (1, .int w)]) hx hb dX12_bulkOf_184 hl (k := 2) rfl (by rw [ex13]; rfl) (by decide) rfl (fun ls hl => ?_)
                  refine lv_iload hx hb dX12_bulkOf_187 (lv_at hl 1 rfl) ?_
                  refine lv_aload_n hx hb dX12_bulkOf_189 rfl (lv_at hl 4 rfl) ?_
                  refine mget_5 (v := (i4 5)) rfl hx hb hts (fun _ h => List.mem_cons_of_mem _ (List.mem_append_right _ h)) hown hK hP (hts (.fieldLink RX12 177 "TalePlayModel" "objects" "I") (by decide +kernel)) dX12_bulkOf_190 ?_
                  refine lv_icmp_ge (tgt := 209) hx hb dX12_bulkOf_193 (by decide) (fun c14 => ?_) (fun c14 => ?_)
                  · have f14 := (ti_le (a := (i4 5).toInt) (b := y10_5.toInt) rfl rfl).mp c14
                    refine lv_goto (tgt := 74) hx hb dX12_bulkOf_209 (by decide) ?_
                    exact ih4 i4 q4 (updA c4 39 (y4_3 : Int32).toNatClampNeg x12) d4 x13 y4_2 hI (fr_w hfi (by decide)) (fr_w hfc (by decide)) (show -1 ≤ x13.toInt ∧ x13.toInt ≤ 29 from by have h50 : x13.toInt = (y4_3.toInt + (-1)) := tx13; omega) (show PQ rk ((updA c4 39 (y4_3 : Int32).toNatClampNeg x12) 38) x13.toInt from PQ_out hz4_0 (by have h9 := tx13; omega)) (show NQ ((updA c4 39 (y4_3 : Int32).toNatClampNeg x12) 39) (i 5).toInt x13.toInt from NQ_out hz4_1 (by omega) (by have h9 := tx13; omega)) (Nat.lt_of_lt_of_le (Ms_o hz4_1 (by omega) (by omega) (by omega) (by have h9 := tx13; omega)) (Nat.le_of_lt_succ hm4)) _ _ _ hP hD hS (lv_sub hl [0, 3, 4, 5] rfl)
                  · have f14 := mt (ti_le (a := (i4 5).toInt) (b := y10_5.toInt) rfl rfl).mpr c14
                    have hg : gF (c 9) (c 10) (c 11) (c 13) (c 23) (c 24) (i 8).toInt (i 5).toInt (i 22).toInt y10_5.toInt = (c4 38 y4_3.toNatClampNeg).toInt := hz11_0.resolve_left (by omega)
                    have hg0 : 0 ≤ (c4 38 y4_3.toNatClampNeg).toInt ∧ (c4 38 y4_3.toNatClampNeg).toInt ≤ 29 := hI.2 38 _
                    have hk1 := hrk.2 y10_5.toInt (by omega) (by omega) (by rw [hg]; omega)
                    rw [hg] at hk1
                    have hk2 := hz4_0 y4_3.toNatClampNeg (by rw [cl_nn (by omega)]; omega)
                    rw [cl_nn (by omega)] at hk2
                    have hk3 := hrk.1 y10_5.toInt
                    obtain ⟨x15, ex15⟩ : ∃ y : Int32, y = x13 + 2 := ⟨_, rfl⟩
                    have tx15 := ti_add (a := (y4_3.toInt + (-1))) (b := 2) ex15 tx13 (by decide) (by omega) (by omega)
                    refine lv_iinc (v := x15) (lv' := [(3, .int x15), (5, .int y10_5), (4, .int z8_0), (2, .int y4_2), (0, .ref o), (1, .int w)]) hx hb dX12_bulkOf_196 hl (k := 0) rfl (by rw [ex15]; rfl) (by decide) rfl (fun ls hl => ?_)
                    refine lv_iload_n hx hb dX12_bulkOf_199 rfl (lv_at hl 3 rfl) ?_
                    refine lv_aload_n hx hb dX12_bulkOf_200 rfl (lv_at hl 4 rfl) ?_
                    refine lv_iload_n hx hb dX12_bulkOf_201 rfl (lv_at hl 0 rfl) ?_
                    refine lv_iload hx hb dX12_bulkOf_202 (lv_at hl 1 rfl) ?_
                    refine al_calli (va_runV (As := [.int x15, .int y10_5]) (rest := [.int y4_2]) ⟨hx, hb, hml, hown, hts⟩ (s_X12_beginBulk l D H.size o a t i4 q4 (updA c4 39 (y4_3 : Int32).toNatClampNeg x12) d4 x15 y10_5 hI (show 0 ≤ x15.toInt ∧ x15.toInt ≤ 29 from by have h90 : x15.toInt = ((y4_3.toInt + (-1)) + 2) := tx15; omega) (show 0 ≤ y10_5.toInt ∧ y10_5.toInt ≤ 29 from by have h90 : x15.toInt = ((y4_3.toInt + (-1)) + 2) := tx15; omega)) (cwV 2 hts gm_X12_bulkOf_X12_beginBulk rfl rfl rfl (by decide +kernel) ⟨Nat.le_of_ble_eq_true rfl, Nat.le_of_ble_eq_true rfl⟩) (pB_V hK hP hD (ci := 12) (q0 := 0) rfl rfl) rfl rfl hl.1 rfl (lv_room (Nat.le_of_ble_eq_true rfl)) dX12_bulkOf_204 ⟨Nat.le_of_ble_eq_true rfl, Nat.le_of_ble_eq_true rfl⟩) hS hA hP hD (fun r16 u16 H locs hw16 hP hD hS => ?_)
                    obtain ⟨i16, q16, c16, d16⟩ := u16
                    have hw16 : (0 ≤ r16.toInt ∧ r16.toInt ≤ 198) ∧ mInv i16 c16 ∧ (∀ k, k ∉ ([35] : List Nat) → i16 k = i4 k) ∧ (∀ k, k ∉ ([34, 38, 39] : List Nat) → c16 k = (updA c4 39 (y4_3 : Int32).toNatClampNeg x12) k) ∧ ((c16 38) = upd ((updA c4 39 (y4_3 : Int32).toNatClampNeg x12) 38) x15.toNatClampNeg y10_5) ∧ ((c16 39) = upd ((updA c4 39 (y4_3 : Int32).toNatClampNeg x12) 39) x15.toNatClampNeg 0) := hw16
                    obtain ⟨hw16, hI, hei16, hec16, hxp16_0, hxp16_1⟩ := hw16
                    have hxp16_0 : (c16 38) = upd ((updA c4 39 (y4_3 : Int32).toNatClampNeg x12) 38) x15.toNatClampNeg y10_5 := hxp16_0
                    have hxp16_1 : (c16 39) = upd ((updA c4 39 (y4_3 : Int32).toNatClampNeg x12) 39) x15.toNatClampNeg 0 := hxp16_1
                    have hfi : ∀ k, k ∉ ([35] : List Nat) → i16 k = i k := fr_z hfi hei16 (by decide) (by decide)
                    have hfc : ∀ k, k ∉ ([34, 38, 39] : List Nat) → c16 k = c k := fr_z hfc hec16 (by decide) (by decide)
                    have hP : va_P D vwCl (mW o a t i16 q16 c16 d16) H := hP
                    have hD : va_D A (mW o a t i16 q16 c16 d16) := hD
                    refine lv_iadd hx hb dX12_bulkOf_207 ?_
                    refine lv_topi (fun x17 ex17 => ?_)
                    refine lv_istore_n (lv' := [(2, .int x17), (3, .int x15), (5, .int y10_5), (4, .int z8_0), (0, .ref o), (1, .int w)]) hx hb dX12_bulkOf_208 rfl hl (by decide) rfl (fun ls hl => ?_)
                    refine lv_goto (tgt := 74) hx hb dX12_bulkOf_209 (by decide) ?_
                    exact ih4 i16 q16 c16 d16 x15 x17 hI (fr_w hfi (by decide)) (fr_w hfc (by decide)) (show -1 ≤ x15.toInt ∧ x15.toInt ≤ 29 from by have h51 : x15.toInt = ((y4_3.toInt + (-1)) + 2) := tx15; omega) (show PQ rk (c16 38) x15.toInt from by rw [hxp16_0]; exact PQ_in hz4_0 (by omega) (by have h9 := tx15; omega) (by have h9 := tx15; omega)) (show NQ (c16 39) (i 5).toInt x15.toInt from by rw [hxp16_1]; exact NQ_in hz4_1 (by omega) (by have h9 := tx15; omega) (by have h9 := tx12; omega)) (by rw [hxp16_1]; exact Nat.lt_of_lt_of_le (Ms_i (v := x9) hz4_1 (by omega) (by have h9 := tx15; omega) (by have h9 := tx15; omega) ex9 (by have h9 := tx12; omega) (by have h9 := tx12; omega)) (Nat.le_of_lt_succ hm4)) _ _ _ hP hD hS (lv_sub hl [1, 0, 4, 5] rfl)
                refine lv_icmp_ge (tgt := 174) hx hb dX12_bulkOf_132 (by decide) (fun c18 => ?_) (fun c18 => ?_)
                · have f18 := (ti_le (a := (i4 5).toInt) (b := y10_5.toInt) rfl rfl).mp c18
                  exact jn11   (show (i 5).toInt ≤ y10_5.toInt ∨ gF (c 9) (c 10) (c 11) (c 13) (c 23) (c 24) (i 8).toInt (i 5).toInt (i 22).toInt y10_5.toInt = (c4 38 y4_3.toNatClampNeg).toInt from by first | exact Or.inl (by omega) | exact Or.inr ((gF_of (by omega) (by omega)).trans (by omega))) _ _ _ hP hD hS (lv_sub hl [0, 1, 2, 3, 4, 5] rfl)
                · have f18 := mt (ti_le (a := (i4 5).toInt) (b := y10_5.toInt) rfl rfl).mpr c18
                  refine lv_iload hx hb dX12_bulkOf_135 (lv_at hl 1 rfl) ?_
                  refine lv_bipush (v := (-9)) hx hb dX12_bulkOf_137 (by decide) ?_
                  have jn19 : ∀ (H : Heap) (locs : List Loc) (ls : Array Slot), va_P D vwCl (mW o a t i4 q4 c4 d4) H → va_D A (mW o a t i4 q4 c4 d4) → va_S A s.heap H locs → lv_has ls 6 [(5, .int y10_5), (4, .int z8_0), (3, .int y4_3), (2, .int y4_2), (0, .ref o), (1, .int w)] → W p l e (headSpec wm_X12_bulkOf ({ frames := 2, cells := 0, slots := 0, locals := 45 })).room s m ([.ref o, .int w] : List Value).toArray below meth cd H locs 0 0 (MQ below (va_Qi (fun (r : Int32) (u : MS) => True ∧ mInv u.1 u.2.2.1 ∧ (∀ k, k ∉ ([35, 36] : List Nat) → u.1 k = i k) ∧ (∀ k, k ∉ ([34, 38, 39] : List Nat) → u.2.2.1 k = c k)) (oC D A (fun u : MS => mW o a t u.1 u.2.1 u.2.2.1 u.2.2.2) (fun _ => [])) A) ([.ref o, .int w] : List Value).toArray s 0 0 A) (F0 m 168 ls []) := by
                    intro H locs ls hP hD hS hl
                    obtain ⟨x20, ex20⟩ : ∃ y : Int32, y = y10_5 + 1 := ⟨_, rfl⟩
                    have tx20 := ti_add (a := y10_5.toInt) (b := 1) ex20 rfl (by decide) (by omega) (by omega)
                    refine lv_iinc (v := x20) (lv' := [(5, .int x20), (4, .int z8_0), (3, .int y4_3), (2, .int y4_2), (0, .ref o), (1, .int w)]) hx hb dX12_bulkOf_168 hl (k := 0) rfl (by rw [ex20]; rfl) (by decide) rfl (fun ls hl => ?_)
                    refine lv_goto (tgt := 126) hx hb dX12_bulkOf_171 (by decide) ?_
                    exact ih10 x20 (show 0 ≤ x20.toInt ∧ x20.toInt ≤ 30 ∧ x20.toInt ≤ (i 5).toInt from by have h50 : x20.toInt = (y10_5.toInt + 1) := tx20; omega) (show (c4 39 y4_3.toNatClampNeg).toInt ≤ x20.toInt from by have h50 : x20.toInt = (y10_5.toInt + 1) := tx20; omega) (by have h50 : x20.toInt = (y10_5.toInt + 1) := tx20; omega) _ _ _ hP hD hS (lv_sub hl [0, 1, 2, 3, 4, 5] rfl)
                  refine lv_icmp_eq (tgt := 168) hx hb dX12_bulkOf_139 (by decide) (fun c21 => ?_) (fun c21 => ?_)
                  · have f21 := (ti_eq (a := z8_0.toInt) (b := (-9)) rfl (by decide)).mp c21
                    exact jn19    _ _ _ hP hD hS (lv_sub hl [0, 1, 2, 3, 4, 5] rfl)
                  · have f21 := mt (ti_eq (a := z8_0.toInt) (b := (-9)) rfl (by decide)).mpr c21
                    refine lv_aload_n hx hb dX12_bulkOf_142 rfl (lv_at hl 4 rfl) ?_
                    refine lv_iload hx hb dX12_bulkOf_143 (lv_at hl 0 rfl) ?_
                    have rb8_i4 : 0 ≤ (i4 8).toInt ∧ (i4 8).toInt ≤ 200 := hI.1 8
                    have re8_i4 : (i4 8).toInt = (i 8).toInt := congrArg Int32.toInt (hfi 8 (by decide))
                    have rb22_i4 : (i4 22).toInt = -9 ∨ (0 ≤ (i4 22).toInt ∧ (i4 22).toInt ≤ 29) := hI.1 22
                    have re22_i4 : (i4 22).toInt = (i 22).toInt := congrArg Int32.toInt (hfi 22 (by decide))
                    refine ro_calli (va_runV (As := [.int y10_5]) (rest := []) ⟨hx, hb, hml, hown, hts⟩ (s_X12_formNow l D H.size o a t i4 q4 c4 d4 y10_5 hI (show 0 ≤ y10_5.toInt ∧ y10_5.toInt ≤ 29 from by omega)) (cwV 1 hts gm_X12_bulkOf_X12_formNow rfl rfl rfl (by decide +kernel) ⟨Nat.le_of_ble_eq_true rfl, Nat.le_of_ble_eq_true rfl⟩) (pA_V hK hP (ci := 12) (q0 := 0) rfl rfl) rfl rfl hl.1 rfl (lv_room (Nat.le_of_ble_eq_true rfl)) dX12_bulkOf_145 ⟨Nat.le_of_ble_eq_true rfl, Nat.le_of_ble_eq_true rfl⟩) hS hA hP (fun r22 u22 H locs hw22 hP hS => ?_)
                    have hw22 : ((r22.toInt = -9 ∨ (0 ≤ r22.toInt ∧ r22.toInt ≤ 7)) ∧ (r22.toInt = gM (c4 9) (c4 10) (c4 13) (c4 23) (i4 8).toInt (i4 22).toInt y10_5.toInt)) := hw22
                    obtain ⟨hw22, hr22_0⟩ := hw22
                    have hr22_0 : r22.toInt = gM (c 9) (c 10) (c 13) (c 23) (i 8).toInt (i 22).toInt y10_5.toInt := by have h9 := hr22_0; rw [show c4 9 = c 9 from hfc 9 (by decide), show c4 10 = c 10 from hfc 10 (by decide), show c4 13 = c 13 from hfc 13 (by decide), show c4 23 = c 23 from hfc 23 (by decide), show i4 8 = i 8 from hfi 8 (by decide), show i4 22 = i 22 from hfi 22 (by decide)] at h9; exact h9
                    refine lv_iload hx hb dX12_bulkOf_148 (lv_at hl 1 rfl) ?_
                    refine lv_icmp_ne (tgt := 168) hx hb dX12_bulkOf_150 (by decide) (fun c23 => ?_) (fun c23 => ?_)
                    · have f23 := mt (ti_eq (a := r22.toInt) (b := z8_0.toInt) rfl rfl).mpr c23
                      exact jn19    _ _ _ hP hD hS (lv_sub hl [0, 1, 2, 3, 4, 5] rfl)
                    · have f23 := (ti_eq (a := r22.toInt) (b := z8_0.toInt) rfl rfl).mp c23
                      refine lv_aload_n hx hb dX12_bulkOf_153 rfl (lv_at hl 4 rfl) ?_
                      refine lv_iload hx hb dX12_bulkOf_154 (lv_at hl 0 rfl) ?_
                      refine ro_calli (va_runV (As := [.int y10_5]) (rest := []) ⟨hx, hb, hml, hown, hts⟩ (s_X12_atNow l D H.size o a t i4 q4 c4 d4 y10_5 hI (show 0 ≤ y10_5.toInt ∧ y10_5.toInt ≤ 29 from by omega)) (cwV 1 hts gm_X12_bulkOf_X12_atNow rfl rfl rfl (by decide +kernel) ⟨Nat.le_of_ble_eq_true rfl, Nat.le_of_ble_eq_true rfl⟩) (pA_V hK hP (ci := 12) (q0 := 0) rfl rfl) rfl rfl hl.1 rfl (lv_room (Nat.le_of_ble_eq_true rfl)) dX12_bulkOf_156 ⟨Nat.le_of_ble_eq_true rfl, Nat.le_of_ble_eq_true rfl⟩) hS hA hP (fun r24 u24 H locs hw24 hP hS => ?_)
                      have hw24 : ((r24.toInt = -9 ∨ (0 ≤ r24.toInt ∧ r24.toInt ≤ 29)) ∧ (r24.toInt = gA (c4 9) (c4 10) (c4 11) (c4 13) (c4 24) (i4 8).toInt (i4 22).toInt y10_5.toInt)) := hw24
                      obtain ⟨hw24, hr24_0⟩ := hw24
                      have hr24_0 : r24.toInt = gA (c 9) (c 10) (c 11) (c 13) (c 24) (i 8).toInt (i 22).toInt y10_5.toInt := by have h9 := hr24_0; rw [show c4 9 = c 9 from hfc 9 (by decide), show c4 10 = c 10 from hfc 10 (by decide), show c4 11 = c 11 from hfc 11 (by decide), show c4 13 = c 13 from hfc 13 (by decide), show c4 24 = c 24 from hfc 24 (by decide), show i4 8 = i 8 from hfi 8 (by decide), show i4 22 = i 22 from hfi 22 (by decide)] at h9; exact h9
                      refine lv_aload_n hx hb dX12_bulkOf_159 rfl (lv_at hl 4 rfl) ?_
                      refine mget_38 hx hb hts (fun _ h => List.mem_cons_of_mem _ (List.mem_append_right _ h)) hown hK hP (hts (.fieldLink RX12 80 "TalePlayModel" "pile" "[I") (by decide +kernel)) dX12_bulkOf_160 ?_
                      refine lv_iload_n hx hb dX12_bulkOf_163 rfl (lv_at hl 2 rfl) ?_
                      refine mld_38 hx hb hK hP (vp_in_iff.mpr (by have h9 : y4_3.toInt = y4_3.toInt := rfl; omega)) dX12_bulkOf_164 (fun x25 ex25 => ?_)
                      have rx25 : 0 ≤ x25.toInt ∧ x25.toInt ≤ 29 := by rw [ex25]; exact hI.2 38 _
                      have gx25 : (c4 38 (y4_3 : Int32).toNatClampNeg).toInt = x25.toInt := by rw [ex25]
                      refine lv_icmp_eq (tgt := 174) hx hb dX12_bulkOf_165 (by decide) (fun c26 => ?_) (fun c26 => ?_)
                      · have f26 := (ti_eq (a := r24.toInt) (b := x25.toInt) rfl rfl).mp c26
                        exact jn11   (show (i 5).toInt ≤ y10_5.toInt ∨ gF (c 9) (c 10) (c 11) (c 13) (c 23) (c 24) (i 8).toInt (i 5).toInt (i 22).toInt y10_5.toInt = (c4 38 y4_3.toNatClampNeg).toInt from by first | exact Or.inl (by omega) | exact Or.inr ((gF_of (by omega) (by omega)).trans (by omega))) _ _ _ hP hD hS (lv_sub hl [0, 1, 2, 3, 4, 5] rfl)
                      · have f26 := mt (ti_eq (a := r24.toInt) (b := x25.toInt) rfl rfl).mpr c26
                        exact jn19    _ _ _ hP hD hS (lv_sub hl [0, 1, 2, 3, 4, 5] rfl)
            exact lp10 _ x9 (show 0 ≤ x9.toInt ∧ x9.toInt ≤ 30 ∧ x9.toInt ≤ (i 5).toInt from by omega) (show (c4 39 y4_3.toNatClampNeg).toInt ≤ x9.toInt from by omega) (Nat.lt_succ_self _) _ _ _ hP hD hS (lv_sub hl [0, 1, 2, 3, 4, 5] rfl)
          refine lv_if_eq (tgt := 96) hx hb dX12_bulkOf_89 (by decide) (fun c27 => ?_) (fun c27 => ?_)
          · have f27 := (ti_eq (a := r7.toInt) (b := 0) rfl (by decide)).mp c27
            have s27 := sm_f hr7_0 c27
            refine lv_aload_n hx hb dX12_bulkOf_96 rfl (lv_at hl 2 rfl) ?_
            refine lv_aload_n hx hb dX12_bulkOf_97 rfl (lv_at hl 2 rfl) ?_
            refine mget_38 hx hb hts (fun _ h => List.mem_cons_of_mem _ (List.mem_append_right _ h)) hown hK hP (hts (.fieldLink RX12 80 "TalePlayModel" "pile" "[I") (by decide +kernel)) dX12_bulkOf_98 ?_
            refine lv_iload_n hx hb dX12_bulkOf_101 rfl (lv_at hl 0 rfl) ?_
            refine mld_38 hx hb hK hP (vp_in_iff.mpr (by have h9 : y4_3.toInt = y4_3.toInt := rfl; omega)) dX12_bulkOf_102 (fun x28 ex28 => ?_)
            have rx28 : 0 ≤ x28.toInt ∧ x28.toInt ≤ 29 := by rw [ex28]; exact hI.2 38 _
            have gx28 : (c4 38 (y4_3 : Int32).toNatClampNeg).toInt = x28.toInt := by rw [ex28]
            refine lv_iconst (v := 4) hx hb dX12_bulkOf_103 (by decide) ?_
            refine ro_calli (va_runV (As := [.int x28, .int 4]) (rest := []) ⟨hx, hb, hml, hown, hts⟩ (s_X12_isOf l D H.size o a t i4 q4 c4 d4 x28 4 hI (show 0 ≤ x28.toInt ∧ x28.toInt ≤ 29 from by have h91 : (4 : Int32).toInt = 4 := (by decide); omega) (show 0 ≤ 4 from by have h91 : (4 : Int32).toInt = 4 := (by decide); omega)) (cwV 2 hts gm_X12_bulkOf_X12_isOf rfl rfl rfl (by decide +kernel) ⟨Nat.le_of_ble_eq_true rfl, Nat.le_of_ble_eq_true rfl⟩) (pA_V hK hP (ci := 12) (q0 := 0) rfl rfl) rfl rfl hl.1 rfl (lv_room (Nat.le_of_ble_eq_true rfl)) dX12_bulkOf_104 ⟨Nat.le_of_ble_eq_true rfl, Nat.le_of_ble_eq_true rfl⟩) hS hA hP (fun r29 u29 H locs hw29 hP hS => ?_)
            have hw29 : ((0 ≤ r29.toInt ∧ r29.toInt ≤ 1) ∧ (Sm r29 (Kd (c4 3) (c4 6) x28.toInt 4))) := hw29
            obtain ⟨hw29, hr29_0⟩ := hw29
            have hr29_0 : Sm r29 (Kd (c 3) (c 6) x28.toInt 4) := by have h9 := hr29_0; rw [show c4 3 = c 3 from hfc 3 (by decide), show c4 6 = c 6 from hfc 6 (by decide)] at h9; exact h9
            refine lv_if_eq (tgt := 114) hx hb dX12_bulkOf_107 (by decide) (fun c30 => ?_) (fun c30 => ?_)
            · have f30 := (ti_eq (a := r29.toInt) (b := 0) rfl (by decide)).mp c30
              have s30 := sm_f hr29_0 c30
              refine lv_bipush (v := (-9)) hx hb dX12_bulkOf_114 (by decide) ?_
              exact jn8  ((-9) : Int32) (show ((-9) : Int32).toInt = -9 ∨ (0 ≤ ((-9) : Int32).toInt ∧ ((-9) : Int32).toInt ≤ 1) from by have h54 : ((-9) : Int32).toInt = -9 := (by decide); omega) _ _ _ hP hD hS (lv_sub hl [0, 1, 2, 3] rfl)
            · have f30 := mt (ti_eq (a := r29.toInt) (b := 0) rfl (by decide)).mpr c30
              have s30 := sm_t hr29_0 c30
              refine lv_iconst (v := 1) hx hb dX12_bulkOf_110 (by decide) ?_
              refine lv_goto (tgt := 116) hx hb dX12_bulkOf_111 (by decide) ?_
              exact jn8  (1 : Int32) (show (1 : Int32).toInt = -9 ∨ (0 ≤ (1 : Int32).toInt ∧ (1 : Int32).toInt ≤ 1) from by have h54 : (1 : Int32).toInt = 1 := (by decide); omega) _ _ _ hP hD hS (lv_sub hl [0, 1, 2, 3] rfl)
          · have f27 := mt (ti_eq (a := r7.toInt) (b := 0) rfl (by decide)).mpr c27
            have s27 := sm_t hr7_0 c27
            refine lv_iconst (v := 0) hx hb dX12_bulkOf_92 (by decide) ?_
            refine lv_goto (tgt := 116) hx hb dX12_bulkOf_93 (by decide) ?_
            exact jn8  (0 : Int32) (show (0 : Int32).toInt = -9 ∨ (0 ≤ (0 : Int32).toInt ∧ (0 : Int32).toInt ≤ 1) from by have h54 : (0 : Int32).toInt = 0 := (by decide); omega) _ _ _ hP hD hS (lv_sub hl [0, 1, 2, 3] rfl)
    exact lp4 _ i3 q3 c3 d3 (0 : Int32) r3 hI (fr_w hfi (by decide)) (fr_w hfc (by decide)) (show -1 ≤ (0 : Int32).toInt ∧ (0 : Int32).toInt ≤ 29 from by have h50 : (0 : Int32).toInt = 0 := (by decide); omega) (show PQ rk (c3 38) (0 : Int32).toInt from fun j hj => by have h9 : (0 : Int32).toInt = 0 := (by decide); omega) (show NQ (c3 39) (i 5).toInt (0 : Int32).toInt from by rw [hxp3_1]; exact NQ_0 (by omega)) (Nat.lt_succ_self _) _ _ _ hP hD hS (lv_sub hl [0, 1, 2, 3] rfl)
  · have f2 := mt (ti_eq (a := r1.toInt) (b := 0) rfl (by decide)).mpr c2
    have s2 := sm_t hr1_0 c2
    refine lv_aload_n hx hb dX12_bulkOf_9 rfl (lv_at hl 0 rfl) ?_
    refine lv_iconst (v := 4) hx hb dX12_bulkOf_10 (by decide) ?_
    refine al_callv (va_runV (As := [.int 4]) (rest := []) ⟨hx, hb, hml, hown, hts⟩ (s_X12_body l D H.size o a t i q c d 4 hI (show 0 ≤ 4 ∧ 4 ≤ 5 from by have h90 : (4 : Int32).toInt = 4 := (by decide); omega)) (cwV 1 hts gm_X12_bulkOf_X12_body rfl rfl rfl (by decide +kernel) ⟨Nat.le_of_ble_eq_true rfl, Nat.le_of_ble_eq_true rfl⟩) (pB_V hK hP hD (ci := 12) (q0 := 0) rfl rfl) rfl rfl hl.1 rfl (lv_room (Nat.le_of_ble_eq_true rfl)) dX12_bulkOf_11 ⟨Nat.le_of_ble_eq_true rfl, Nat.le_of_ble_eq_true rfl⟩) hS hA hP hD (fun u31 H locs hw31 hP hD hS => ?_)
    obtain ⟨i31, q31, c31, d31⟩ := u31
    have hw31 : True ∧ mInv i31 c31 ∧ (∀ k, k ∉ ([35] : List Nat) → i31 k = i k) ∧ (∀ k, k ∉ ([34] : List Nat) → c31 k = c k) := hw31
    obtain ⟨hw31, hI, hei31, hec31⟩ := hw31
    have hfi : ∀ k, k ∉ ([35] : List Nat) → i31 k = i k := fr_z hfi hei31 (by decide) (by decide)
    have hfc : ∀ k, k ∉ ([34] : List Nat) → c31 k = c k := fr_z hfc hec31 (by decide) (by decide)
    have hP : va_P D vwCl (mW o a t i31 q31 c31 d31) H := hP
    have hD : va_D A (mW o a t i31 q31 c31 d31) := hD
    refine lv_aload_n hx hb dX12_bulkOf_14 rfl (lv_at hl 0 rfl) ?_
    refine lv_iconst (v := 1) hx hb dX12_bulkOf_15 (by decide) ?_
    refine al_callv (va_runV (As := [.int 1]) (rest := []) ⟨hx, hb, hml, hown, hts⟩ (s_X12_body l D H.size o a t i31 q31 c31 d31 1 hI (show 0 ≤ 1 ∧ 1 ≤ 5 from by have h90 : (1 : Int32).toInt = 1 := (by decide); omega)) (cwV 1 hts gm_X12_bulkOf_X12_body rfl rfl rfl (by decide +kernel) ⟨Nat.le_of_ble_eq_true rfl, Nat.le_of_ble_eq_true rfl⟩) (pB_V hK hP hD (ci := 12) (q0 := 0) rfl rfl) rfl rfl hl.1 rfl (lv_room (Nat.le_of_ble_eq_true rfl)) dX12_bulkOf_16 ⟨Nat.le_of_ble_eq_true rfl, Nat.le_of_ble_eq_true rfl⟩) hS hA hP hD (fun u32 H locs hw32 hP hD hS => ?_)
    obtain ⟨i32, q32, c32, d32⟩ := u32
    have hw32 : True ∧ mInv i32 c32 ∧ (∀ k, k ∉ ([35] : List Nat) → i32 k = i31 k) ∧ (∀ k, k ∉ ([34] : List Nat) → c32 k = c31 k) := hw32
    obtain ⟨hw32, hI, hei32, hec32⟩ := hw32
    have hfi : ∀ k, k ∉ ([35] : List Nat) → i32 k = i k := fr_z hfi hei32 (by decide) (by decide)
    have hfc : ∀ k, k ∉ ([34] : List Nat) → c32 k = c k := fr_z hfc hec32 (by decide) (by decide)
    have hP : va_P D vwCl (mW o a t i32 q32 c32 d32) H := hP
    have hD : va_D A (mW o a t i32 q32 c32 d32) := hD
    refine lv_aload_n hx hb dX12_bulkOf_19 rfl (lv_at hl 0 rfl) ?_
    refine lv_dup hx hb dX12_bulkOf_20 rfl ?_
    refine mget_36 (v := (i32 36)) rfl hx hb hts (fun _ h => List.mem_cons_of_mem _ (List.mem_append_right _ h)) hown hK hP (hts (.fieldLink RX12 303 "TalePlayModel" "isNought" "Z") (by decide +kernel)) dX12_bulkOf_21 ?_
    have rb36_i32 : 0 ≤ (i32 36).toInt ∧ (i32 36).toInt ≤ 1 := hI.1 36
    have re36_i32 : (i32 36).toInt = (i 36).toInt := congrArg Int32.toInt (hfi 36 (by decide))
    refine lv_aload_n hx hb dX12_bulkOf_24 rfl (lv_at hl 0 rfl) ?_
    refine mget_7 hx hb hts (fun _ h => List.mem_cons_of_mem _ (List.mem_append_right _ h)) hown hK hP (hts (.fieldLink RX12 22 "TalePlayModel" "sizeOf" "[I") (by decide +kernel)) dX12_bulkOf_25 ?_
    refine lv_iload_n hx hb dX12_bulkOf_28 rfl (lv_at hl 1 rfl) ?_
    refine mld_7 hx hb hK hP (vp_in_iff.mpr (by have h9 : w.toInt = w.toInt := rfl; omega)) dX12_bulkOf_29 (fun x33 ex33 => ?_)
    have rx33 : 0 ≤ x33.toInt ∧ x33.toInt ≤ 99 := by rw [ex33]; exact hI.2 7 _
    have gx33 : (c 7 (w : Int32).toNatClampNeg).toInt = x33.toInt := by rw [ex33, show c32 7 = c 7 from hfc 7 (by decide)]
    have jn34 : ∀ (z34_0 : Int32), (z34_0.toInt = 0 ∨ z34_0.toInt = 1) → ∀ (H : Heap) (locs : List Loc) (ls : Array Slot), va_P D vwCl (mW o a t i32 q32 c32 d32) H → va_D A (mW o a t i32 q32 c32 d32) → va_S A s.heap H locs → lv_has ls 6 [(0, .ref o), (1, .int w)] → W p l e (headSpec wm_X12_bulkOf ({ frames := 2, cells := 0, slots := 0, locals := 45 })).room s m ([.ref o, .int w] : List Value).toArray below meth cd H locs 0 0 (MQ below (va_Qi (fun (r : Int32) (u : MS) => True ∧ mInv u.1 u.2.2.1 ∧ (∀ k, k ∉ ([35, 36] : List Nat) → u.1 k = i k) ∧ (∀ k, k ∉ ([34, 38, 39] : List Nat) → u.2.2.1 k = c k)) (oC D A (fun u : MS => mW o a t u.1 u.2.1 u.2.2.1 u.2.2.2) (fun _ => [])) A) ([.ref o, .int w] : List Value).toArray s 0 0 A) (F0 m 38 ls [.int z34_0, .int (i32 36), .ref o]) := by
      intro z34_0 hs34_0 H locs ls hP hD hS hl
      refine lv_ior hx hb dX12_bulkOf_38 ?_
      refine lv_topi (fun x35 ex35 => ?_)
      have ox35 : 0 ≤ x35.toInt ∧ x35.toInt ≤ 1 := or_b ex35 (by omega) (by omega)
      refine mput_36 hx hb hts (fun _ h => List.mem_cons_of_mem _ (List.mem_append_right _ h)) hown hK hP hD hS (hts (.fieldLink RX12 303 "TalePlayModel" "isNought" "Z") (by decide +kernel)) (nb_n (show 0 ≤ x35.toInt ∧ x35.toInt ≤ 1 from by omega)) (nb_f (show 0 ≤ x35.toInt ∧ x35.toInt ≤ 1 from by omega)) dX12_bulkOf_39 (fun H locs hP hD hS => ?_)
      have hI := mInv_i hI (k := 36) (v := x35) (show 0 ≤ (x35 : Int32).toInt ∧ (x35 : Int32).toInt ≤ 1 from by omega)
      have hfi : ∀ k, k ∉ ([35, 36] : List Nat) → (upd i32 36 x35) k = i k := fr_iz hfi (by decide) (by decide)
      refine lv_aload_n hx hb dX12_bulkOf_42 rfl (lv_at hl 0 rfl) ?_
      refine mget_7 hx hb hts (fun _ h => List.mem_cons_of_mem _ (List.mem_append_right _ h)) hown hK hP (hts (.fieldLink RX12 22 "TalePlayModel" "sizeOf" "[I") (by decide +kernel)) dX12_bulkOf_43 ?_
      refine lv_iload_n hx hb dX12_bulkOf_46 rfl (lv_at hl 1 rfl) ?_
      refine mld_7 hx hb hK hP (vp_in_iff.mpr (by have h9 : w.toInt = w.toInt := rfl; omega)) dX12_bulkOf_47 (fun x36 ex36 => ?_)
      have rx36 : 0 ≤ x36.toInt ∧ x36.toInt ≤ 99 := by rw [ex36]; exact hI.2 7 _
      have gx36 : (c 7 (w : Int32).toNatClampNeg).toInt = x36.toInt := by rw [ex36, show c32 7 = c 7 from hfc 7 (by decide)]
      refine lv_if_ne (tgt := 55) hx hb dX12_bulkOf_48 (by decide) (fun c37 => ?_) (fun c37 => ?_)
      · have f37 := mt (ti_eq (a := x36.toInt) (b := 0) rfl (by decide)).mpr c37
        refine lv_bipush (v := 100) hx hb dX12_bulkOf_55 (by decide) ?_
        refine lv_aload_n hx hb dX12_bulkOf_57 rfl (lv_at hl 0 rfl) ?_
        refine mget_7 hx hb hts (fun _ h => List.mem_cons_of_mem _ (List.mem_append_right _ h)) hown hK hP (hts (.fieldLink RX12 22 "TalePlayModel" "sizeOf" "[I") (by decide +kernel)) dX12_bulkOf_58 ?_
        refine lv_iload_n hx hb dX12_bulkOf_61 rfl (lv_at hl 1 rfl) ?_
        refine mld_7 hx hb hK hP (vp_in_iff.mpr (by have h9 : w.toInt = w.toInt := rfl; omega)) dX12_bulkOf_62 (fun x38 ex38 => ?_)
        have rx38 : 0 ≤ x38.toInt ∧ x38.toInt ≤ 99 := by rw [ex38]; exact hI.2 7 _
        have gx38 : (c 7 (w : Int32).toNatClampNeg).toInt = x38.toInt := by rw [ex38, show c32 7 = c 7 from hfc 7 (by decide)]
        refine lv_idiv hx hb dX12_bulkOf_63 (mt (ti_eq (a := x38.toInt) (b := 0) rfl (by decide)).mp (by omega)) ?_
        refine lv_topi (fun x39 ex39 => ?_)
        exact rw_iret ((upd i32 36 x35), q32, c32, d32) hx hb hr hlocks hS (hK.sub (tys' := []) [] rfl) hP hD dX12_bulkOf_64 ⟨trivial, hI, fr_w hfi (by decide), fr_w hfc (by decide)⟩
      · have f37 := (ti_eq (a := x36.toInt) (b := 0) rfl (by decide)).mp c37
        refine lv_iconst (v := 0) hx hb dX12_bulkOf_51 (by decide) ?_
        refine lv_goto (tgt := 64) hx hb dX12_bulkOf_52 (by decide) ?_
        exact rw_iret ((upd i32 36 x35), q32, c32, d32) hx hb hr hlocks hS (hK.sub (tys' := []) [] rfl) hP hD dX12_bulkOf_64 ⟨trivial, hI, fr_w hfi (by decide), fr_w hfc (by decide)⟩
    refine lv_if_ne (tgt := 37) hx hb dX12_bulkOf_30 (by decide) (fun c40 => ?_) (fun c40 => ?_)
    · have f40 := mt (ti_eq (a := x33.toInt) (b := 0) rfl (by decide)).mpr c40
      refine lv_iconst (v := 0) hx hb dX12_bulkOf_37 (by decide) ?_
      exact jn34  (0 : Int32) (show (0 : Int32).toInt = 0 ∨ (0 : Int32).toInt = 1 from by have h52 : (0 : Int32).toInt = 0 := (by decide); omega) _ _ _ hP hD hS (lv_sub hl [0, 1] rfl)
    · have f40 := (ti_eq (a := x33.toInt) (b := 0) rfl (by decide)).mp c40
      refine lv_iconst (v := 1) hx hb dX12_bulkOf_33 (by decide) ?_
      refine lv_goto (tgt := 38) hx hb dX12_bulkOf_34 (by decide) ?_
      exact jn34  (1 : Int32) (show (1 : Int32).toInt = 0 ∨ (1 : Int32).toInt = 1 from by have h52 : (1 : Int32).toInt = 1 := (by decide); omega) _ _ _ hP hD hS (lv_sub hl [0, 1] rfl)

def wm_X12_bulk : List Cond := .code yX12_bulk cX12_bulk 3 (some .int) :: (([.methodLink RX12 180 yX12_isObject, .instanceMethod yX12_isObject, .selects RX12 yX12_isObject yX12_isObject, .initialized RX12, .code yX12_isObject cX12_isObject 2 (some .boolean), .fieldLink RX12 177 "TalePlayModel" "objects" "I", .methodLink RX12 166 yX12_in, .static yX12_in, .code yX12_in cX12_in 6 (some .boolean), .fieldLink RX12 297 "TalePlayModel" "traced" "I", .methodLink RX12 184 yX12_isOf, .instanceMethod yX12_isOf, .selects RX12 yX12_isOf yX12_isOf, .code yX12_isOf cX12_isOf 4 (some .boolean), .fieldLink RX12 19 "TalePlayModel" "kindOf" "[I", .fieldLink RX12 13 "TalePlayModel" "parentOf" "[I", .fieldLink RX12 294 "TalePlayModel" "traces" "Z", .fieldLink RX12 303 "TalePlayModel" "isNought" "Z", .methodLink RX12 315 yX12_bulkOf, .instanceMethod yX12_bulkOf, .selects RX12 yX12_bulkOf yX12_bulkOf, .code yX12_bulkOf cX12_bulkOf 6 (some .int), .methodLink RX12 306 yX12_beginBulk, .instanceMethod yX12_beginBulk, .selects RX12 yX12_beginBulk yX12_beginBulk, .code yX12_beginBulk cX12_beginBulk 3 (some .int), .fieldLink RX12 80 "TalePlayModel" "pile" "[I", .fieldLink RX12 83 "TalePlayModel" "nextIn" "[I", .methodLink RX12 300 yX12_body, .instanceMethod yX12_body, .selects RX12 yX12_body yX12_body, .code yX12_body cX12_body 2 none, .fieldLink RX12 77 "TalePlayModel" "trace" "[I", .fieldLink RX12 22 "TalePlayModel" "sizeOf" "[I", .methodLink RX12 309 yX12_formNow, .instanceMethod yX12_formNow, .selects RX12 yX12_formNow yX12_formNow, .code yX12_formNow cX12_formNow 3 (some .int), .fieldLink RX12 155 "TalePlayModel" "player" "I", .methodLink RX12 208 yX12_placing, .instanceMethod yX12_placing, .selects RX12 yX12_placing yX12_placing, .code yX12_placing cX12_placing 3 (some .int), .fieldLink RX12 202 "TalePlayModel" "sentences" "I", .fieldLink RX12 37 "TalePlayModel" "isSaid" "[Z", .fieldLink RX12 25 "TalePlayModel" "form" "[I", .fieldLink RX12 28 "TalePlayModel" "left" "[I", .fieldLink RX12 50 "TalePlayModel" "nForm" "[I", .methodLink RX12 312 yX12_atNow, .instanceMethod yX12_atNow, .selects RX12 yX12_atNow yX12_atNow, .code yX12_atNow cX12_atNow 3 (some .int), .fieldLink RX12 31 "TalePlayModel" "middle" "[I", .fieldLink RX12 53 "TalePlayModel" "nAt" "[I", .fieldLink RX12 318 "TalePlayModel" "asked" "J", .methodLink RX12 233 yX12_meets, .instanceMethod yX12_meets, .selects RX12 yX12_meets yX12_meets, .code yX12_meets cX12_meets 2 (some .int), .fieldLink RX12 161 "TalePlayModel" "latest" "I", .fieldLink RX12 7 "TalePlayModel" "came" "[I"] : List Cond) ++ wsX120)
set_option maxRecDepth 20000 in
theorem gm_X12_bulk_X12_isObject : GoodIn wm_X12_bulk (wsV RX12 180 RX12 yX12_isObject wm_X12_isObject) := goodIn_app (goodIn_of _ (by decide +kernel)) (goodIn_r _ [5, 6, 7, 8, 4, 9, 62, 63, 64, 65, 66, 67, 68, 69, 70, 71, 72, 73, 74, 75, 76, 77, 78, 79, 80, 81, 82, 83, 84, 85, 86, 87, 88, 89, 90, 91, 92, 93, 94, 95, 96, 97, 98, 99, 100, 101, 102, 103, 104, 105, 106, 107, 108, 109, 110, 111, 112, 113, 114, 115, 116, 117, 118, 119, 120, 121, 122, 123, 124, 125, 126, 127, 128, 129, 130] (by decide +kernel) (by decide +kernel))
set_option maxRecDepth 20000 in
theorem gm_X12_bulk_X12_isOf : GoodIn wm_X12_bulk (wsV RX12 184 RX12 yX12_isOf wm_X12_isOf) := goodIn_app (goodIn_of _ (by decide +kernel)) (goodIn_r _ [14, 15, 16, 62, 63, 64, 65, 66, 67, 68, 69, 70, 71, 72, 73, 74, 75, 76, 77, 78, 79, 80, 81, 82, 83, 84, 85, 86, 87, 88, 89, 90, 91, 92, 93, 94, 95, 96, 97, 98, 99, 100, 101, 102, 103, 104, 105, 106, 107, 108, 109, 110, 111, 112, 113, 114, 115, 116, 117, 118, 119, 120, 121, 122, 123, 124, 125, 126, 127, 128, 129, 130] (by decide +kernel) (by decide +kernel))
set_option maxRecDepth 20000 in
theorem gm_X12_bulk_X12_bulkOf : GoodIn wm_X12_bulk (wsV RX12 315 RX12 yX12_bulkOf wm_X12_bulkOf) := goodIn_app (goodIn_of _ (by decide +kernel)) (goodIn_r _ [22, 11, 12, 13, 4, 14, 15, 16, 23, 24, 25, 26, 27, 28, 29, 30, 31, 32, 17, 10, 33, 34, 6, 35, 36, 37, 38, 39, 40, 41, 42, 43, 44, 45, 46, 47, 48, 49, 50, 51, 52, 53, 54, 18, 62, 63, 64, 65, 66, 67, 68, 69, 70, 71, 72, 73, 74, 75, 76, 77, 78, 79, 80, 81, 82, 83, 84, 85, 86, 87, 88, 89, 90, 91, 92, 93, 94, 95, 96, 97, 98, 99, 100, 101, 102, 103, 104, 105, 106, 107, 108, 109, 110, 111, 112, 113, 114, 115, 116, 117, 118, 119, 120, 121, 122, 123, 124, 125, 126, 127, 128, 129, 130] (by decide +kernel) (by decide +kernel))
set_option maxRecDepth 20000 in
theorem gm_X12_bulk_X12_meets : GoodIn wm_X12_bulk (wsV RX12 233 RX12 yX12_meets wm_X12_meets) := goodIn_app (goodIn_of _ (by decide +kernel)) (goodIn_r _ [59, 60, 61, 62, 63, 64, 65, 66, 67, 68, 69, 70, 71, 72, 73, 74, 75, 76, 77, 78, 79, 80, 81, 82, 83, 84, 85, 86, 87, 88, 89, 90, 91, 92, 93, 94, 95, 96, 97, 98, 99, 100, 101, 102, 103, 104, 105, 106, 107, 108, 109, 110, 111, 112, 113, 114, 115, 116, 117, 118, 119, 120, 121, 122, 123, 124, 125, 126, 127, 128, 129, 130] (by decide +kernel) (by decide +kernel))
set_option maxHeartbeats 4000000 in
set_option maxRecDepth 100000 in
theorem s_X12_bulk (l : Launch) (D : va_G) (sz : Nat) (o : Nat) (a : Nat → Nat) (t : Nat → ClassId) (i : Nat → Int32) (q : Int64) (c : Nat → Nat → Int32) (d : Nat → Nat → Int64) (w : Int32) (hI : mInv i c) (hs_G : Acy (gF (c 9) (c 10) (c 11) (c 13) (c 23) (c 24) (i 8).toInt (i 5).toInt (i 22).toInt)) : Met l yX12_bulk wm_X12_bulk ({ frames := 3, cells := 0, slots := 0, locals := 70 }) (va_Pc [.ref o, .int w] (pB D sz (mW o a t i q c d) (mT t))) (va_Qi (fun (r : Int32) (u : MS) => True ∧ mInv u.1 u.2.2.1 ∧ (∀ k, k ∉ ([0, 33, 35, 36] : List Nat) → u.1 k = i k) ∧ (∀ k, k ∉ ([1, 34, 38, 39] : List Nat) → u.2.2.1 k = c k)) (oC D (va_A (mW o a t i q c d) sz) (fun u : MS => mW o a t u.1 u.2.1 u.2.2.1 u.2.2.2) (fun _ => [])) (va_A (mW o a t i q c d) sz)) 0 0 (va_A (mW o a t i q c d) sz) := by
  refine Met.ofW (cc := cX12_bulk) (maxL := 3) (ret := (some .int)) (by decide) rfl ?_
  intro p e s m args below meth cd s₁ B hml hv
  obtain ⟨rfl, hsz, hP, hK, hD0⟩ := hv
  have hx := B.exec
  have hb := B.bytes
  have hr := B.returns
  have hts := atoms_spec (ws := wm_X12_bulk) B.pre
  have hown : s.vm.findClass RX12 = some m.cls := findClass_of_methodNamed B.named
  have hlocks := B.notSynchronized
  subst hsz
  have hD := hD0.self (sz := s.heap.size)
  generalize hAe : va_A (mW o a t i q c d) s.heap.size = A at hD ⊢
  have hA : ∀ q : Nat, s.heap.size ≤ q → A q := fun q h => by rw [← hAe]; exact Or.inr h
  have hS : va_S A s.heap s.heap [] := va_S.rf
  have hfi : ∀ k, k ∉ ([] : List Nat) → i k = i k := fun _ _ => rfl
  have hfc : ∀ k, k ∉ ([] : List Nat) → c k = c k := fun _ _ => rfl
  have hl := lv_entry ([.ref o, .int w]) (n := 3) (Nat.le_of_ble_eq_true rfl)
  rw [lg_entry_eq]
  generalize (lg_sl ([.ref o, .int w]) ++ List.replicate (3 - (lg_sl ([.ref o, .int w])).length) Slot.unset).toArray = ls at hl ⊢
  have hl : lv_has ls 3 [(0, .ref o), (1, .int w)] := hl
  refine lv_aload_n hx hb dX12_bulk_0 rfl (lv_at hl 0 rfl) ?_
  refine lv_iload_n hx hb dX12_bulk_1 rfl (lv_at hl 1 rfl) ?_
  have rb5_i : 0 ≤ (i 5).toInt ∧ (i 5).toInt ≤ 30 := hI.1 5
  refine ro_calli (va_runV (As := [.int w]) (rest := []) ⟨hx, hb, hml, hown, hts⟩ (s_X12_isObject l D s.heap.size o a t i q c d w hI ) (cwV 1 hts gm_X12_bulk_X12_isObject rfl rfl rfl (by decide +kernel) ⟨Nat.le_of_ble_eq_true rfl, Nat.le_of_ble_eq_true rfl⟩) (pA_V hK hP (ci := 12) (q0 := 0) rfl rfl) rfl rfl hl.1 rfl (lv_room (Nat.le_of_ble_eq_true rfl)) dX12_bulk_2 ⟨Nat.le_of_ble_eq_true rfl, Nat.le_of_ble_eq_true rfl⟩) hS hA hP (fun r1 u1 H locs hw1 hP hS => ?_)
  have hw1 : r1 = if (0 ≤ w.toInt ∧ w.toInt ≤ (i 5).toInt - 1) then 1 else 0 := hw1
  refine lv_if_ne (tgt := 10) hx hb dX12_bulk_5 (by decide) (fun c2 => ?_) (fun c2 => ?_)
  · have f2 := fl_t hw1 c2
    refine lv_aload_n hx hb dX12_bulk_10 rfl (lv_at hl 0 rfl) ?_
    refine lv_iconst (v := 0) hx hb dX12_bulk_11 (by decide) ?_
    refine mput_35 hx hb hts (fun _ h => List.mem_cons_of_mem _ (List.mem_append_right _ h)) hown hK hP hD hS (hts (.fieldLink RX12 297 "TalePlayModel" "traced" "I") (by decide +kernel)) rfl rfl dX12_bulk_12 (fun H locs hP hD hS => ?_)
    have hI := mInv_i hI (k := 35) (v := 0) (show 0 ≤ (0 : Int32).toInt ∧ (0 : Int32).toInt ≤ 100 from by have h9 : (0 : Int32).toInt = 0 := (by decide); omega)
    have hfi : ∀ k, k ∉ ([35] : List Nat) → (upd i 35 0) k = i k := fr_iz hfi (by decide) (by decide)
    refine lv_aload_n hx hb dX12_bulk_15 rfl (lv_at hl 0 rfl) ?_
    refine lv_iload_n hx hb dX12_bulk_16 rfl (lv_at hl 1 rfl) ?_
    refine lv_iconst (v := 0) hx hb dX12_bulk_17 (by decide) ?_
    refine ro_calli (va_runV (As := [.int w, .int 0]) (rest := []) ⟨hx, hb, hml, hown, hts⟩ (s_X12_isOf l D H.size o a t (upd i 35 0) q c d w 0 hI (show 0 ≤ w.toInt ∧ w.toInt ≤ 29 from by have h91 : (0 : Int32).toInt = 0 := (by decide); have h60 : (0 : Int32).toInt = 0 := (by decide); omega) (show 0 ≤ 0 from by have h91 : (0 : Int32).toInt = 0 := (by decide); have h60 : (0 : Int32).toInt = 0 := (by decide); omega)) (cwV 2 hts gm_X12_bulk_X12_isOf rfl rfl rfl (by decide +kernel) ⟨Nat.le_of_ble_eq_true rfl, Nat.le_of_ble_eq_true rfl⟩) (pA_V hK hP (ci := 12) (q0 := 0) rfl rfl) rfl rfl hl.1 rfl (lv_room (Nat.le_of_ble_eq_true rfl)) dX12_bulk_18 ⟨Nat.le_of_ble_eq_true rfl, Nat.le_of_ble_eq_true rfl⟩) hS hA hP (fun r3 u3 H locs hw3 hP hS => ?_)
    have hw3 : ((0 ≤ r3.toInt ∧ r3.toInt ≤ 1) ∧ (Sm r3 (Kd (c 3) (c 6) w.toInt 0))) := hw3
    obtain ⟨hw3, hr3_0⟩ := hw3
    have hr3_0 : Sm r3 (Kd (c 3) (c 6) w.toInt 0) := hr3_0
    refine lv_if_eq (tgt := 30) hx hb dX12_bulk_21 (by decide) (fun c4 => ?_) (fun c4 => ?_)
    · have f4 := (ti_eq (a := r3.toInt) (b := 0) rfl (by decide)).mp c4
      have s4 := sm_f hr3_0 c4
      refine lv_aload_n hx hb dX12_bulk_30 rfl (lv_at hl 0 rfl) ?_
      refine lv_iconst (v := 1) hx hb dX12_bulk_31 (by decide) ?_
      refine mput_33 hx hb hts (fun _ h => List.mem_cons_of_mem _ (List.mem_append_right _ h)) hown hK hP hD hS (hts (.fieldLink RX12 294 "TalePlayModel" "traces" "Z") (by decide +kernel)) rfl rfl dX12_bulk_32 (fun H locs hP hD hS => ?_)
      have hI := mInv_i hI (k := 33) (v := 1) (show 0 ≤ (1 : Int32).toInt ∧ (1 : Int32).toInt ≤ 1 from by have h9 : (1 : Int32).toInt = 1 := (by decide); omega)
      have hfi : ∀ k, k ∉ ([33, 35] : List Nat) → (upd (upd i 35 0) 33 1) k = i k := fr_iz hfi (by decide) (by decide)
      refine lv_aload_n hx hb dX12_bulk_35 rfl (lv_at hl 0 rfl) ?_
      refine lv_iconst (v := 0) hx hb dX12_bulk_36 (by decide) ?_
      refine mput_36 hx hb hts (fun _ h => List.mem_cons_of_mem _ (List.mem_append_right _ h)) hown hK hP hD hS (hts (.fieldLink RX12 303 "TalePlayModel" "isNought" "Z") (by decide +kernel)) rfl rfl dX12_bulk_37 (fun H locs hP hD hS => ?_)
      have hI := mInv_i hI (k := 36) (v := 0) (show 0 ≤ (0 : Int32).toInt ∧ (0 : Int32).toInt ≤ 1 from by have h9 : (0 : Int32).toInt = 0 := (by decide); omega)
      have hfi : ∀ k, k ∉ ([33, 35, 36] : List Nat) → (upd (upd (upd i 35 0) 33 1) 36 0) k = i k := fr_iz hfi (by decide) (by decide)
      refine lv_aload_n hx hb dX12_bulk_40 rfl (lv_at hl 0 rfl) ?_
      refine lv_iload_n hx hb dX12_bulk_41 rfl (lv_at hl 1 rfl) ?_
      have rb8_i : 0 ≤ (i 8).toInt ∧ (i 8).toInt ≤ 200 := hI.1 8
      have rb22_i : (i 22).toInt = -9 ∨ (0 ≤ (i 22).toInt ∧ (i 22).toInt ≤ 29) := hI.1 22
      refine al_calli (va_runV (As := [.int w]) (rest := []) ⟨hx, hb, hml, hown, hts⟩ (s_X12_bulkOf l D H.size o a t (upd (upd (upd i 35 0) 33 1) 36 0) q c d w hI (show 0 ≤ w.toInt ∧ w.toInt ≤ 29 from by have h60 : (0 : Int32).toInt = 0 := (by decide); have h61 : (1 : Int32).toInt = 1 := (by decide); have h62 : (0 : Int32).toInt = 0 := (by decide); omega) (by rw [show (upd (upd (upd i 35 0) 33 1) 36 0) 5 = i 5 from hfi 5 (by decide), show (upd (upd (upd i 35 0) 33 1) 36 0) 8 = i 8 from hfi 8 (by decide), show (upd (upd (upd i 35 0) 33 1) 36 0) 22 = i 22 from hfi 22 (by decide)]; exact hs_G)) (cwV 1 hts gm_X12_bulk_X12_bulkOf rfl rfl rfl (by decide +kernel) ⟨Nat.le_of_ble_eq_true rfl, Nat.le_of_ble_eq_true rfl⟩) (pB_V hK hP hD (ci := 12) (q0 := 0) rfl rfl) rfl rfl hl.1 rfl (lv_room (Nat.le_of_ble_eq_true rfl)) dX12_bulk_42 ⟨Nat.le_of_ble_eq_true rfl, Nat.le_of_ble_eq_true rfl⟩) hS hA hP hD (fun r5 u5 H locs hw5 hP hD hS => ?_)
      obtain ⟨i5, q5, c5, d5⟩ := u5
      have hw5 : True ∧ mInv i5 c5 ∧ (∀ k, k ∉ ([35, 36] : List Nat) → i5 k = (upd (upd (upd i 35 0) 33 1) 36 0) k) ∧ (∀ k, k ∉ ([34, 38, 39] : List Nat) → c5 k = c k) := hw5
      obtain ⟨hw5, hI, hei5, hec5⟩ := hw5
      have hfi : ∀ k, k ∉ ([33, 35, 36] : List Nat) → i5 k = i k := fr_z hfi hei5 (by decide) (by decide)
      have hfc : ∀ k, k ∉ ([34, 38, 39] : List Nat) → c5 k = c k := fr_z hfc hec5 (by decide) (by decide)
      have hP : va_P D vwCl (mW o a t i5 q5 c5 d5) H := hP
      have hD : va_D A (mW o a t i5 q5 c5 d5) := hD
      refine lv_istore_n (lv' := [(2, .int r5), (0, .ref o), (1, .int w)]) hx hb dX12_bulk_45 rfl hl (by decide) rfl (fun ls hl => ?_)
      refine lv_aload_n hx hb dX12_bulk_46 rfl (lv_at hl 1 rfl) ?_
      refine lv_iconst (v := 0) hx hb dX12_bulk_47 (by decide) ?_
      refine mput_33 hx hb hts (fun _ h => List.mem_cons_of_mem _ (List.mem_append_right _ h)) hown hK hP hD hS (hts (.fieldLink RX12 294 "TalePlayModel" "traces" "Z") (by decide +kernel)) rfl rfl dX12_bulk_48 (fun H locs hP hD hS => ?_)
      have hI := mInv_i hI (k := 33) (v := 0) (show 0 ≤ (0 : Int32).toInt ∧ (0 : Int32).toInt ≤ 1 from by have h9 : (0 : Int32).toInt = 0 := (by decide); omega)
      have hfi := fr_i hfi (k := 33) (v := 0) (by decide)
      refine lv_aload_n hx hb dX12_bulk_51 rfl (lv_at hl 1 rfl) ?_
      refine mget_36 (i := (upd i5 33 0)) (v := (i5 36)) rfl hx hb hts (fun _ h => List.mem_cons_of_mem _ (List.mem_append_right _ h)) hown hK hP (hts (.fieldLink RX12 303 "TalePlayModel" "isNought" "Z") (by decide +kernel)) dX12_bulk_52 ?_
      have rb36_i5 : 0 ≤ (i5 36).toInt ∧ (i5 36).toInt ≤ 1 := hI.1 36
      refine lv_if_eq (tgt := 64) hx hb dX12_bulk_55 (by decide) (fun c6 => ?_) (fun c6 => ?_)
      · have f6 := (ti_eq (a := (i5 36).toInt) (b := 0) rfl (by decide)).mp c6
        refine lv_aload_n hx hb dX12_bulk_64 rfl (lv_at hl 1 rfl) ?_
        refine lv_iload_n hx hb dX12_bulk_65 rfl (lv_at hl 0 rfl) ?_
        refine lv_i2l (v := r5.toInt64) hx hb dX12_bulk_66 rfl ?_
        refine mput_37 hx hb hts (fun _ h => List.mem_cons_of_mem _ (List.mem_append_right _ h)) hown hK hP hD hS (hts (.fieldLink RX12 318 "TalePlayModel" "asked" "J") (by decide +kernel)) rfl rfl dX12_bulk_67 (fun H locs hP hD hS => ?_)
        refine lv_iconst (v := 1) hx hb dX12_bulk_70 (by decide) ?_
        exact rw_iret ((upd i5 33 0), r5.toInt64, c5, d5) hx hb hr hlocks hS (hK.sub (tys' := []) [] rfl) hP hD dX12_bulk_71 ⟨trivial, hI, fr_w hfi (by decide), fr_w hfc (by decide)⟩
      · have f6 := mt (ti_eq (a := (i5 36).toInt) (b := 0) rfl (by decide)).mpr c6
        refine lv_aload_n hx hb dX12_bulk_58 rfl (lv_at hl 1 rfl) ?_
        refine lv_iconst (v := 4) hx hb dX12_bulk_59 (by decide) ?_
        refine al_calli (va_runV (As := [.int 4]) (rest := []) ⟨hx, hb, hml, hown, hts⟩ (s_X12_meets l D H.size o a t (upd i5 33 0) q5 c5 d5 4 hI (show 1 ≤ 4 ∧ 4 ≤ 6 from by have h90 : (4 : Int32).toInt = 4 := (by decide); have h60 : (0 : Int32).toInt = 0 := (by decide); omega)) (cwV 1 hts gm_X12_bulk_X12_meets rfl rfl rfl (by decide +kernel) ⟨Nat.le_of_ble_eq_true rfl, Nat.le_of_ble_eq_true rfl⟩) (pB_V hK hP hD (ci := 12) (q0 := 0) rfl rfl) rfl rfl hl.1 rfl (lv_room (Nat.le_of_ble_eq_true rfl)) dX12_bulk_60 ⟨Nat.le_of_ble_eq_true rfl, Nat.le_of_ble_eq_true rfl⟩) hS hA hP hD (fun r7 u7 H locs hw7 hP hD hS => ?_)
        obtain ⟨i7, q7, c7, d7⟩ := u7
        have hw7 : r7 = (-3) ∧ mInv i7 c7 ∧ (∀ k, k ∉ ([0] : List Nat) → i7 k = (upd i5 33 0) k) ∧ (∀ k, k ∉ ([1] : List Nat) → c7 k = c5 k) := hw7
        obtain ⟨hw7, hI, hei7, hec7⟩ := hw7
        have hfi : ∀ k, k ∉ ([0, 33, 35, 36] : List Nat) → i7 k = i k := fr_z hfi hei7 (by decide) (by decide)
        have hfc : ∀ k, k ∉ ([1, 34, 38, 39] : List Nat) → c7 k = c k := fr_z hfc hec7 (by decide) (by decide)
        have hP : va_P D vwCl (mW o a t i7 q7 c7 d7) H := hP
        have hD : va_D A (mW o a t i7 q7 c7 d7) := hD
        have hw7 : r7 = (-3) := hw7
        subst hw7
        exact rw_iret (i7, q7, c7, d7) hx hb hr hlocks hS (hK.sub (tys' := []) [] rfl) hP hD dX12_bulk_63 ⟨trivial, hI, fr_w hfi (by decide), fr_w hfc (by decide)⟩
    · have f4 := mt (ti_eq (a := r3.toInt) (b := 0) rfl (by decide)).mpr c4
      have s4 := sm_t hr3_0 c4
      refine lv_aload_n hx hb dX12_bulk_24 rfl (lv_at hl 0 rfl) ?_
      refine lv_iconst (v := 3) hx hb dX12_bulk_25 (by decide) ?_
      refine al_calli (va_runV (As := [.int 3]) (rest := []) ⟨hx, hb, hml, hown, hts⟩ (s_X12_meets l D H.size o a t (upd i 35 0) q c d 3 hI (show 1 ≤ 3 ∧ 3 ≤ 6 from by have h90 : (3 : Int32).toInt = 3 := (by decide); have h60 : (0 : Int32).toInt = 0 := (by decide); omega)) (cwV 1 hts gm_X12_bulk_X12_meets rfl rfl rfl (by decide +kernel) ⟨Nat.le_of_ble_eq_true rfl, Nat.le_of_ble_eq_true rfl⟩) (pB_V hK hP hD (ci := 12) (q0 := 0) rfl rfl) rfl rfl hl.1 rfl (lv_room (Nat.le_of_ble_eq_true rfl)) dX12_bulk_26 ⟨Nat.le_of_ble_eq_true rfl, Nat.le_of_ble_eq_true rfl⟩) hS hA hP hD (fun r8 u8 H locs hw8 hP hD hS => ?_)
      obtain ⟨i8, q8, c8, d8⟩ := u8
      have hw8 : r8 = (-3) ∧ mInv i8 c8 ∧ (∀ k, k ∉ ([0] : List Nat) → i8 k = (upd i 35 0) k) ∧ (∀ k, k ∉ ([1] : List Nat) → c8 k = c k) := hw8
      obtain ⟨hw8, hI, hei8, hec8⟩ := hw8
      have hfi : ∀ k, k ∉ ([0, 35] : List Nat) → i8 k = i k := fr_z hfi hei8 (by decide) (by decide)
      have hfc : ∀ k, k ∉ ([1] : List Nat) → c8 k = c k := fr_z hfc hec8 (by decide) (by decide)
      have hP : va_P D vwCl (mW o a t i8 q8 c8 d8) H := hP
      have hD : va_D A (mW o a t i8 q8 c8 d8) := hD
      have hw8 : r8 = (-3) := hw8
      subst hw8
      exact rw_iret (i8, q8, c8, d8) hx hb hr hlocks hS (hK.sub (tys' := []) [] rfl) hP hD dX12_bulk_29 ⟨trivial, hI, fr_w hfi (by decide), fr_w hfc (by decide)⟩
  · have f2 := fl_f hw1 c2
    refine lv_iconst (v := (-1)) hx hb dX12_bulk_8 (by decide) ?_
    exact rw_iret (i, q, c, d) hx hb hr hlocks hS (hK.sub (tys' := []) [] rfl) hP hD dX12_bulk_9 ⟨trivial, hI, fr_w hfi (by decide), fr_w hfc (by decide)⟩

def wm_X12_share : List Cond := .code yX12_share cX12_share 8 (some .int) :: (([.methodLink RX12 180 yX12_isObject, .instanceMethod yX12_isObject, .selects RX12 yX12_isObject yX12_isObject, .initialized RX12, .code yX12_isObject cX12_isObject 2 (some .boolean), .fieldLink RX12 177 "TalePlayModel" "objects" "I", .methodLink RX12 166 yX12_in, .static yX12_in, .code yX12_in cX12_in 6 (some .boolean), .methodLink RX12 184 yX12_isOf, .instanceMethod yX12_isOf, .selects RX12 yX12_isOf yX12_isOf, .code yX12_isOf cX12_isOf 4 (some .boolean), .fieldLink RX12 19 "TalePlayModel" "kindOf" "[I", .fieldLink RX12 13 "TalePlayModel" "parentOf" "[I", .fieldLink RX12 303 "TalePlayModel" "isNought" "Z", .methodLink RX12 315 yX12_bulkOf, .instanceMethod yX12_bulkOf, .selects RX12 yX12_bulkOf yX12_bulkOf, .code yX12_bulkOf cX12_bulkOf 6 (some .int), .methodLink RX12 306 yX12_beginBulk, .instanceMethod yX12_beginBulk, .selects RX12 yX12_beginBulk yX12_beginBulk, .code yX12_beginBulk cX12_beginBulk 3 (some .int), .fieldLink RX12 80 "TalePlayModel" "pile" "[I", .fieldLink RX12 83 "TalePlayModel" "nextIn" "[I", .methodLink RX12 300 yX12_body, .instanceMethod yX12_body, .selects RX12 yX12_body yX12_body, .code yX12_body cX12_body 2 none, .fieldLink RX12 294 "TalePlayModel" "traces" "Z", .fieldLink RX12 297 "TalePlayModel" "traced" "I", .fieldLink RX12 77 "TalePlayModel" "trace" "[I", .fieldLink RX12 22 "TalePlayModel" "sizeOf" "[I", .methodLink RX12 309 yX12_formNow, .instanceMethod yX12_formNow, .selects RX12 yX12_formNow yX12_formNow, .code yX12_formNow cX12_formNow 3 (some .int), .fieldLink RX12 155 "TalePlayModel" "player" "I", .methodLink RX12 208 yX12_placing, .instanceMethod yX12_placing, .selects RX12 yX12_placing yX12_placing, .code yX12_placing cX12_placing 3 (some .int), .fieldLink RX12 202 "TalePlayModel" "sentences" "I", .fieldLink RX12 37 "TalePlayModel" "isSaid" "[Z", .fieldLink RX12 25 "TalePlayModel" "form" "[I", .fieldLink RX12 28 "TalePlayModel" "left" "[I", .fieldLink RX12 50 "TalePlayModel" "nForm" "[I", .methodLink RX12 312 yX12_atNow, .instanceMethod yX12_atNow, .selects RX12 yX12_atNow yX12_atNow, .code yX12_atNow cX12_atNow 3 (some .int), .fieldLink RX12 31 "TalePlayModel" "middle" "[I", .fieldLink RX12 53 "TalePlayModel" "nAt" "[I", .methodLink RX12 233 yX12_meets, .instanceMethod yX12_meets, .selects RX12 yX12_meets yX12_meets, .code yX12_meets cX12_meets 2 (some .int), .fieldLink RX12 161 "TalePlayModel" "latest" "I", .fieldLink RX12 7 "TalePlayModel" "came" "[I", .constantLong RX12 322 (1000), .fieldLink RX12 318 "TalePlayModel" "asked" "J"] : List Cond) ++ wsX120)
set_option maxRecDepth 20000 in
theorem gm_X12_share_X12_isObject : GoodIn wm_X12_share (wsV RX12 180 RX12 yX12_isObject wm_X12_isObject) := goodIn_app (goodIn_of _ (by decide +kernel)) (goodIn_r _ [5, 6, 7, 8, 4, 9, 63, 64, 65, 66, 67, 68, 69, 70, 71, 72, 73, 74, 75, 76, 77, 78, 79, 80, 81, 82, 83, 84, 85, 86, 87, 88, 89, 90, 91, 92, 93, 94, 95, 96, 97, 98, 99, 100, 101, 102, 103, 104, 105, 106, 107, 108, 109, 110, 111, 112, 113, 114, 115, 116, 117, 118, 119, 120, 121, 122, 123, 124, 125, 126, 127, 128, 129, 130, 131] (by decide +kernel) (by decide +kernel))
set_option maxRecDepth 20000 in
theorem gm_X12_share_X12_isOf : GoodIn wm_X12_share (wsV RX12 184 RX12 yX12_isOf wm_X12_isOf) := goodIn_app (goodIn_of _ (by decide +kernel)) (goodIn_r _ [13, 14, 15, 63, 64, 65, 66, 67, 68, 69, 70, 71, 72, 73, 74, 75, 76, 77, 78, 79, 80, 81, 82, 83, 84, 85, 86, 87, 88, 89, 90, 91, 92, 93, 94, 95, 96, 97, 98, 99, 100, 101, 102, 103, 104, 105, 106, 107, 108, 109, 110, 111, 112, 113, 114, 115, 116, 117, 118, 119, 120, 121, 122, 123, 124, 125, 126, 127, 128, 129, 130, 131] (by decide +kernel) (by decide +kernel))
set_option maxRecDepth 20000 in
theorem gm_X12_share_X12_bulkOf : GoodIn wm_X12_share (wsV RX12 315 RX12 yX12_bulkOf wm_X12_bulkOf) := goodIn_app (goodIn_of _ (by decide +kernel)) (goodIn_r _ [20, 10, 11, 12, 4, 13, 14, 15, 21, 22, 23, 24, 25, 26, 27, 28, 29, 30, 31, 32, 33, 34, 6, 35, 36, 37, 38, 39, 40, 41, 42, 43, 44, 45, 46, 47, 48, 49, 50, 51, 52, 53, 54, 16, 63, 64, 65, 66, 67, 68, 69, 70, 71, 72, 73, 74, 75, 76, 77, 78, 79, 80, 81, 82, 83, 84, 85, 86, 87, 88, 89, 90, 91, 92, 93, 94, 95, 96, 97, 98, 99, 100, 101, 102, 103, 104, 105, 106, 107, 108, 109, 110, 111, 112, 113, 114, 115, 116, 117, 118, 119, 120, 121, 122, 123, 124, 125, 126, 127, 128, 129, 130, 131] (by decide +kernel) (by decide +kernel))
set_option maxRecDepth 20000 in
theorem gm_X12_share_X12_meets : GoodIn wm_X12_share (wsV RX12 233 RX12 yX12_meets wm_X12_meets) := goodIn_app (goodIn_of _ (by decide +kernel)) (goodIn_r _ [58, 59, 60, 63, 64, 65, 66, 67, 68, 69, 70, 71, 72, 73, 74, 75, 76, 77, 78, 79, 80, 81, 82, 83, 84, 85, 86, 87, 88, 89, 90, 91, 92, 93, 94, 95, 96, 97, 98, 99, 100, 101, 102, 103, 104, 105, 106, 107, 108, 109, 110, 111, 112, 113, 114, 115, 116, 117, 118, 119, 120, 121, 122, 123, 124, 125, 126, 127, 128, 129, 130, 131] (by decide +kernel) (by decide +kernel))
set_option maxRecDepth 20000 in
theorem gm_X12_share_X12_formNow : GoodIn wm_X12_share (wsV RX12 309 RX12 yX12_formNow wm_X12_formNow) := goodIn_app (goodIn_of _ (by decide +kernel)) (goodIn_r _ [38, 39, 40, 41, 42, 4, 43, 44, 45, 46, 47, 48, 63, 64, 65, 66, 67, 68, 69, 70, 71, 72, 73, 74, 75, 76, 77, 78, 79, 80, 81, 82, 83, 84, 85, 86, 87, 88, 89, 90, 91, 92, 93, 94, 95, 96, 97, 98, 99, 100, 101, 102, 103, 104, 105, 106, 107, 108, 109, 110, 111, 112, 113, 114, 115, 116, 117, 118, 119, 120, 121, 122, 123, 124, 125, 126, 127, 128, 129, 130, 131] (by decide +kernel) (by decide +kernel))
set_option maxRecDepth 20000 in
theorem gm_X12_share_X12_atNow : GoodIn wm_X12_share (wsV RX12 312 RX12 yX12_atNow wm_X12_atNow) := goodIn_app (goodIn_of _ (by decide +kernel)) (goodIn_r _ [52, 39, 40, 41, 42, 4, 43, 44, 45, 46, 47, 53, 54, 63, 64, 65, 66, 67, 68, 69, 70, 71, 72, 73, 74, 75, 76, 77, 78, 79, 80, 81, 82, 83, 84, 85, 86, 87, 88, 89, 90, 91, 92, 93, 94, 95, 96, 97, 98, 99, 100, 101, 102, 103, 104, 105, 106, 107, 108, 109, 110, 111, 112, 113, 114, 115, 116, 117, 118, 119, 120, 121, 122, 123, 124, 125, 126, 127, 128, 129, 130, 131] (by decide +kernel) (by decide +kernel))
set_option maxHeartbeats 4000000 in
set_option maxRecDepth 100000 in
theorem s_X12_share (l : Launch) (D : va_G) (sz : Nat) (o : Nat) (a : Nat → Nat) (t : Nat → ClassId) (i : Nat → Int32) (q : Int64) (c : Nat → Nat → Int32) (d : Nat → Nat → Int64) (w1 : Int32) (w2 : Int32) (hI : mInv i c) (hs_G : Acy (gF (c 9) (c 10) (c 11) (c 13) (c 23) (c 24) (i 8).toInt (i 5).toInt (i 22).toInt)) : Met l yX12_share wm_X12_share ({ frames := 3, cells := 0, slots := 0, locals := 70 }) (va_Pc [.ref o, .int w1, .int w2] (pB D sz (mW o a t i q c d) (mT t))) (va_Qi (fun (r : Int32) (u : MS) => True ∧ mInv u.1 u.2.2.1 ∧ (∀ k, k ∉ ([0, 35, 36] : List Nat) → u.1 k = i k) ∧ (∀ k, k ∉ ([1, 34, 38, 39] : List Nat) → u.2.2.1 k = c k)) (oC D (va_A (mW o a t i q c d) sz) (fun u : MS => mW o a t u.1 u.2.1 u.2.2.1 u.2.2.2) (fun _ => [])) (va_A (mW o a t i q c d) sz)) 0 0 (va_A (mW o a t i q c d) sz) := by
  refine Met.ofW (cc := cX12_share) (maxL := 8) (ret := (some .int)) (by decide) rfl ?_
  intro p e s m args below meth cd s₁ B hml hv
  obtain ⟨rfl, hsz, hP, hK, hD0⟩ := hv
  have hx := B.exec
  have hb := B.bytes
  have hr := B.returns
  have hts := atoms_spec (ws := wm_X12_share) B.pre
  have hown : s.vm.findClass RX12 = some m.cls := findClass_of_methodNamed B.named
  have hlocks := B.notSynchronized
  subst hsz
  have hD := hD0.self (sz := s.heap.size)
  generalize hAe : va_A (mW o a t i q c d) s.heap.size = A at hD ⊢
  have hA : ∀ q : Nat, s.heap.size ≤ q → A q := fun q h => by rw [← hAe]; exact Or.inr h
  have hS : va_S A s.heap s.heap [] := va_S.rf
  have hfi : ∀ k, k ∉ ([] : List Nat) → i k = i k := fun _ _ => rfl
  have hfc : ∀ k, k ∉ ([] : List Nat) → c k = c k := fun _ _ => rfl
  have hl := lv_entry ([.ref o, .int w1, .int w2]) (n := 8) (Nat.le_of_ble_eq_true rfl)
  rw [lg_entry_eq]
  generalize (lg_sl ([.ref o, .int w1, .int w2]) ++ List.replicate (8 - (lg_sl ([.ref o, .int w1, .int w2])).length) Slot.unset).toArray = ls at hl ⊢
  have hl : lv_has ls 8 [(0, .ref o), (1, .int w1), (2, .int w2)] := hl
  refine lv_aload_n hx hb dX12_share_0 rfl (lv_at hl 0 rfl) ?_
  refine lv_iload_n hx hb dX12_share_1 rfl (lv_at hl 1 rfl) ?_
  have rb5_i : 0 ≤ (i 5).toInt ∧ (i 5).toInt ≤ 30 := hI.1 5
  refine ro_calli (va_runV (As := [.int w1]) (rest := []) ⟨hx, hb, hml, hown, hts⟩ (s_X12_isObject l D s.heap.size o a t i q c d w1 hI ) (cwV 1 hts gm_X12_share_X12_isObject rfl rfl rfl (by decide +kernel) ⟨Nat.le_of_ble_eq_true rfl, Nat.le_of_ble_eq_true rfl⟩) (pA_V hK hP (ci := 12) (q0 := 0) rfl rfl) rfl rfl hl.1 rfl (lv_room (Nat.le_of_ble_eq_true rfl)) dX12_share_2 ⟨Nat.le_of_ble_eq_true rfl, Nat.le_of_ble_eq_true rfl⟩) hS hA hP (fun r1 u1 H locs hw1 hP hS => ?_)
  have hw1 : r1 = if (0 ≤ w1.toInt ∧ w1.toInt ≤ (i 5).toInt - 1) then 1 else 0 := hw1
  refine lv_if_eq (tgt := 16) hx hb dX12_share_5 (by decide) (fun c2 => ?_) (fun c2 => ?_)
  · have f2 := fl_f hw1 c2
    refine lv_iconst (v := (-1)) hx hb dX12_share_16 (by decide) ?_
    exact rw_iret (i, q, c, d) hx hb hr hlocks hS (hK.sub (tys' := []) [] rfl) hP hD dX12_share_17 ⟨trivial, hI, fr_w hfi (by decide), fr_w hfc (by decide)⟩
  · have f2 := fl_t hw1 c2
    refine lv_aload_n hx hb dX12_share_8 rfl (lv_at hl 0 rfl) ?_
    refine lv_iload_n hx hb dX12_share_9 rfl (lv_at hl 2 rfl) ?_
    refine ro_calli (va_runV (As := [.int w2]) (rest := []) ⟨hx, hb, hml, hown, hts⟩ (s_X12_isObject l D H.size o a t i q c d w2 hI ) (cwV 1 hts gm_X12_share_X12_isObject rfl rfl rfl (by decide +kernel) ⟨Nat.le_of_ble_eq_true rfl, Nat.le_of_ble_eq_true rfl⟩) (pA_V hK hP (ci := 12) (q0 := 0) rfl rfl) rfl rfl hl.1 rfl (lv_room (Nat.le_of_ble_eq_true rfl)) dX12_share_10 ⟨Nat.le_of_ble_eq_true rfl, Nat.le_of_ble_eq_true rfl⟩) hS hA hP (fun r3 u3 H locs hw3 hP hS => ?_)
    have hw3 : r3 = if (0 ≤ w2.toInt ∧ w2.toInt ≤ (i 5).toInt - 1) then 1 else 0 := hw3
    refine lv_if_ne (tgt := 18) hx hb dX12_share_13 (by decide) (fun c4 => ?_) (fun c4 => ?_)
    · have f4 := fl_t hw3 c4
      refine lv_aload_n hx hb dX12_share_18 rfl (lv_at hl 0 rfl) ?_
      refine lv_iload_n hx hb dX12_share_19 rfl (lv_at hl 1 rfl) ?_
      refine lv_iconst (v := 0) hx hb dX12_share_20 (by decide) ?_
      refine ro_calli (va_runV (As := [.int w1, .int 0]) (rest := []) ⟨hx, hb, hml, hown, hts⟩ (s_X12_isOf l D H.size o a t i q c d w1 0 hI (show 0 ≤ w1.toInt ∧ w1.toInt ≤ 29 from by have h91 : (0 : Int32).toInt = 0 := (by decide); omega) (show 0 ≤ 0 from by have h91 : (0 : Int32).toInt = 0 := (by decide); omega)) (cwV 2 hts gm_X12_share_X12_isOf rfl rfl rfl (by decide +kernel) ⟨Nat.le_of_ble_eq_true rfl, Nat.le_of_ble_eq_true rfl⟩) (pA_V hK hP (ci := 12) (q0 := 0) rfl rfl) rfl rfl hl.1 rfl (lv_room (Nat.le_of_ble_eq_true rfl)) dX12_share_21 ⟨Nat.le_of_ble_eq_true rfl, Nat.le_of_ble_eq_true rfl⟩) hS hA hP (fun r5 u5 H locs hw5 hP hS => ?_)
      have hw5 : ((0 ≤ r5.toInt ∧ r5.toInt ≤ 1) ∧ (Sm r5 (Kd (c 3) (c 6) w1.toInt 0))) := hw5
      obtain ⟨hw5, hr5_0⟩ := hw5
      have hr5_0 : Sm r5 (Kd (c 3) (c 6) w1.toInt 0) := hr5_0
      refine lv_if_eq (tgt := 33) hx hb dX12_share_24 (by decide) (fun c6 => ?_) (fun c6 => ?_)
      · have f6 := (ti_eq (a := r5.toInt) (b := 0) rfl (by decide)).mp c6
        have s6 := sm_f hr5_0 c6
        refine lv_aload_n hx hb dX12_share_33 rfl (lv_at hl 0 rfl) ?_
        refine lv_iconst (v := 0) hx hb dX12_share_34 (by decide) ?_
        refine mput_36 hx hb hts (fun _ h => List.mem_cons_of_mem _ (List.mem_append_right _ h)) hown hK hP hD hS (hts (.fieldLink RX12 303 "TalePlayModel" "isNought" "Z") (by decide +kernel)) rfl rfl dX12_share_35 (fun H locs hP hD hS => ?_)
        have hI := mInv_i hI (k := 36) (v := 0) (show 0 ≤ (0 : Int32).toInt ∧ (0 : Int32).toInt ≤ 1 from by have h9 : (0 : Int32).toInt = 0 := (by decide); omega)
        have hfi : ∀ k, k ∉ ([36] : List Nat) → (upd i 36 0) k = i k := fr_iz hfi (by decide) (by decide)
        refine lv_aload_n hx hb dX12_share_38 rfl (lv_at hl 0 rfl) ?_
        refine lv_iload_n hx hb dX12_share_39 rfl (lv_at hl 1 rfl) ?_
        have rb8_i : 0 ≤ (i 8).toInt ∧ (i 8).toInt ≤ 200 := hI.1 8
        have rb22_i : (i 22).toInt = -9 ∨ (0 ≤ (i 22).toInt ∧ (i 22).toInt ≤ 29) := hI.1 22
        refine al_calli (va_runV (As := [.int w1]) (rest := []) ⟨hx, hb, hml, hown, hts⟩ (s_X12_bulkOf l D H.size o a t (upd i 36 0) q c d w1 hI (show 0 ≤ w1.toInt ∧ w1.toInt ≤ 29 from by have h60 : (0 : Int32).toInt = 0 := (by decide); omega) (by rw [show (upd i 36 0) 5 = i 5 from hfi 5 (by decide), show (upd i 36 0) 8 = i 8 from hfi 8 (by decide), show (upd i 36 0) 22 = i 22 from hfi 22 (by decide)]; exact hs_G)) (cwV 1 hts gm_X12_share_X12_bulkOf rfl rfl rfl (by decide +kernel) ⟨Nat.le_of_ble_eq_true rfl, Nat.le_of_ble_eq_true rfl⟩) (pB_V hK hP hD (ci := 12) (q0 := 0) rfl rfl) rfl rfl hl.1 rfl (lv_room (Nat.le_of_ble_eq_true rfl)) dX12_share_40 ⟨Nat.le_of_ble_eq_true rfl, Nat.le_of_ble_eq_true rfl⟩) hS hA hP hD (fun r7 u7 H locs hw7 hP hD hS => ?_)
        obtain ⟨i7, q7, c7, d7⟩ := u7
        have hw7 : True ∧ mInv i7 c7 ∧ (∀ k, k ∉ ([35, 36] : List Nat) → i7 k = (upd i 36 0) k) ∧ (∀ k, k ∉ ([34, 38, 39] : List Nat) → c7 k = c k) := hw7
        obtain ⟨hw7, hI, hei7, hec7⟩ := hw7
        have hfi : ∀ k, k ∉ ([35, 36] : List Nat) → i7 k = i k := fr_z hfi hei7 (by decide) (by decide)
        have hfc : ∀ k, k ∉ ([34, 38, 39] : List Nat) → c7 k = c k := fr_z hfc hec7 (by decide) (by decide)
        have hP : va_P D vwCl (mW o a t i7 q7 c7 d7) H := hP
        have hD : va_D A (mW o a t i7 q7 c7 d7) := hD
        refine lv_i2l (v := r7.toInt64) hx hb dX12_share_43 rfl ?_
        refine lv_lstore_n (lv' := [(3, .long r7.toInt64), (0, .ref o), (1, .int w1), (2, .int w2)]) hx hb dX12_share_44 rfl hl (by decide) rfl (fun ls hl => ?_)
        refine lv_lconst (v := 0) hx hb dX12_share_45 (by decide) ?_
        refine lv_lstore (lv' := [(5, .long 0), (3, .long r7.toInt64), (0, .ref o), (1, .int w1), (2, .int w2)]) hx hb dX12_share_46 hl (by decide) rfl (fun ls hl => ?_)
        refine lv_iconst (v := 0) hx hb dX12_share_48 (by decide) ?_
        refine lv_istore (lv' := [(7, .int 0), (5, .long 0), (3, .long r7.toInt64), (0, .ref o), (1, .int w1), (2, .int w2)]) hx hb dX12_share_49 hl (by decide) rfl (fun ls hl => ?_)
        have lp8 : ∀ (fu : Nat) (i8 : Nat → Int32) (q8 : Int64) (c8 : Nat → Nat → Int32) (d8 : Nat → Nat → Int64) (y8_7 : Int32) (y8_5 : Int64), mInv i8 c8 → (∀ k, k ∉ ([35, 36] : List Nat) → i8 k = i k) → (∀ k, k ∉ ([34, 38, 39] : List Nat) → c8 k = c k) → (0 ≤ y8_7.toInt ∧ y8_7.toInt ≤ 30) → (30 - y8_7.toInt).toNat < fu → ∀ (H : Heap) (locs : List Loc) (ls : Array Slot), va_P D vwCl (mW o a t i8 q8 c8 d8) H → va_D A (mW o a t i8 q8 c8 d8) → va_S A s.heap H locs → lv_has ls 8 [(7, .int y8_7), (5, .long y8_5), (3, .long r7.toInt64), (0, .ref o), (1, .int w1), (2, .int w2)] → W p l e (headSpec wm_X12_share ({ frames := 3, cells := 0, slots := 0, locals := 70 })).room s m ([.ref o, .int w1, .int w2] : List Value).toArray below meth cd H locs 0 0 (MQ below (va_Qi (fun (r : Int32) (u : MS) => True ∧ mInv u.1 u.2.2.1 ∧ (∀ k, k ∉ ([0, 35, 36] : List Nat) → u.1 k = i k) ∧ (∀ k, k ∉ ([1, 34, 38, 39] : List Nat) → u.2.2.1 k = c k)) (oC D A (fun u : MS => mW o a t u.1 u.2.1 u.2.2.1 u.2.2.2) (fun _ => [])) A) ([.ref o, .int w1, .int w2] : List Value).toArray s 0 0 A) (F0 m 51 ls []) := by
          intro fu
          induction fu with
          | zero => intro i8 q8 c8 d8 y8_7 y8_5 hI hfi hfc hy8_7 hm; exact absurd hm (Nat.not_lt_zero _)
          | succ fu ih =>
            intro i8 q8 c8 d8 y8_7 y8_5 hI hfi hfc hy8_7 hm H locs ls hP hD hS hl
            have ih8 := ih
            refine lv_iload hx hb dX12_share_51 (lv_at hl 0 rfl) ?_
            refine lv_aload_n hx hb dX12_share_53 rfl (lv_at hl 3 rfl) ?_
            refine mget_5 (v := (i8 5)) rfl hx hb hts (fun _ h => List.mem_cons_of_mem _ (List.mem_append_right _ h)) hown hK hP (hts (.fieldLink RX12 177 "TalePlayModel" "objects" "I") (by decide +kernel)) dX12_share_54 ?_
            have rb5_i8 : 0 ≤ (i8 5).toInt ∧ (i8 5).toInt ≤ 30 := hI.1 5
            have re5_i8 : (i8 5).toInt = (i 5).toInt := congrArg Int32.toInt (hfi 5 (by decide))
            refine lv_icmp_ge (tgt := 103) hx hb dX12_share_57 (by decide) (fun c9 => ?_) (fun c9 => ?_)
            · have f9 := (ti_le (a := (i8 5).toInt) (b := y8_7.toInt) rfl rfl).mp c9
              refine lv_aload_n hx hb dX12_share_103 rfl (lv_at hl 3 rfl) ?_
              refine mget_36 (v := (i8 36)) rfl hx hb hts (fun _ h => List.mem_cons_of_mem _ (List.mem_append_right _ h)) hown hK hP (hts (.fieldLink RX12 303 "TalePlayModel" "isNought" "Z") (by decide +kernel)) dX12_share_104 ?_
              have rb36_i8 : 0 ≤ (i8 36).toInt ∧ (i8 36).toInt ≤ 1 := hI.1 36
              refine lv_if_ne (tgt := 117) hx hb dX12_share_107 (by decide) (fun c10 => ?_) (fun c10 => ?_)
              · have f10 := mt (ti_eq (a := (i8 36).toInt) (b := 0) rfl (by decide)).mpr c10
                refine lv_aload_n hx hb dX12_share_117 rfl (lv_at hl 3 rfl) ?_
                refine lv_iconst (v := 4) hx hb dX12_share_118 (by decide) ?_
                refine al_calli (va_runV (As := [.int 4]) (rest := []) ⟨hx, hb, hml, hown, hts⟩ (s_X12_meets l D H.size o a t i8 q8 c8 d8 4 hI (show 1 ≤ 4 ∧ 4 ≤ 6 from by have h90 : (4 : Int32).toInt = 4 := (by decide); omega)) (cwV 1 hts gm_X12_share_X12_meets rfl rfl rfl (by decide +kernel) ⟨Nat.le_of_ble_eq_true rfl, Nat.le_of_ble_eq_true rfl⟩) (pB_V hK hP hD (ci := 12) (q0 := 0) rfl rfl) rfl rfl hl.1 rfl (lv_room (Nat.le_of_ble_eq_true rfl)) dX12_share_119 ⟨Nat.le_of_ble_eq_true rfl, Nat.le_of_ble_eq_true rfl⟩) hS hA hP hD (fun r11 u11 H locs hw11 hP hD hS => ?_)
                obtain ⟨i11, q11, c11, d11⟩ := u11
                have hw11 : r11 = (-3) ∧ mInv i11 c11 ∧ (∀ k, k ∉ ([0] : List Nat) → i11 k = i8 k) ∧ (∀ k, k ∉ ([1] : List Nat) → c11 k = c8 k) := hw11
                obtain ⟨hw11, hI, hei11, hec11⟩ := hw11
                have hfi : ∀ k, k ∉ ([0, 35, 36] : List Nat) → i11 k = i k := fr_z hfi hei11 (by decide) (by decide)
                have hfc : ∀ k, k ∉ ([1, 34, 38, 39] : List Nat) → c11 k = c k := fr_z hfc hec11 (by decide) (by decide)
                have hP : va_P D vwCl (mW o a t i11 q11 c11 d11) H := hP
                have hD : va_D A (mW o a t i11 q11 c11 d11) := hD
                have hw11 : r11 = (-3) := hw11
                subst hw11
                exact rw_iret (i11, q11, c11, d11) hx hb hr hlocks hS (hK.sub (tys' := []) [] rfl) hP hD dX12_share_122 ⟨trivial, hI, fr_w hfi (by decide), fr_w hfc (by decide)⟩
              · have f10 := (ti_eq (a := (i8 36).toInt) (b := 0) rfl (by decide)).mp c10
                refine lv_lload hx hb dX12_share_110 (lv_at hl 1 rfl) ?_
                refine lv_lconst (v := 0) hx hb dX12_share_112 (by decide) ?_
                refine W.lcmp hx hb dX12_share_113 ?_
                refine lv_if_ne (tgt := 123) hx hb dX12_share_114 (by decide) (fun c12 => ?_) (fun c12 => ?_)
                · have f12 := mt (lc_eq (a := y8_5.toInt) (b := 0) rfl (by decide)).mpr c12
                  refine lv_aload_n hx hb dX12_share_123 rfl (lv_at hl 3 rfl) ?_
                  refine lv_ldc2 (v := 1000) hx hb hown (hts (.constantLong RX12 322 (1000)) (by decide +kernel)) dX12_share_124 ?_
                  refine lv_lload_n hx hb dX12_share_127 rfl (lv_at hl 2 rfl) ?_
                  refine lv_lmul hx hb dX12_share_128 ?_
                  refine lv_topl (fun x13 ex13 => ?_)
                  refine lv_lload hx hb dX12_share_129 (lv_at hl 1 rfl) ?_
                  refine lv_ldiv hx hb dX12_share_131 (fun e9 => by have e8 : y8_5.toInt = (0 : Int64).toInt := congrArg Int64.toInt e9; rw [show (0 : Int64).toInt = 0 from by decide] at e8; omega) ?_
                  refine lv_topl (fun x14 ex14 => ?_)
                  refine mput_37 hx hb hts (fun _ h => List.mem_cons_of_mem _ (List.mem_append_right _ h)) hown hK hP hD hS (hts (.fieldLink RX12 318 "TalePlayModel" "asked" "J") (by decide +kernel)) rfl rfl dX12_share_132 (fun H locs hP hD hS => ?_)
                  refine lv_iconst (v := 1) hx hb dX12_share_135 (by decide) ?_
                  exact rw_iret (i8, x14, c8, d8) hx hb hr hlocks hS (hK.sub (tys' := []) [] rfl) hP hD dX12_share_136 ⟨trivial, hI, fr_w hfi (by decide), fr_w hfc (by decide)⟩
                · have f12 := (lc_eq (a := y8_5.toInt) (b := 0) rfl (by decide)).mp c12
                  refine lv_aload_n hx hb dX12_share_117 rfl (lv_at hl 3 rfl) ?_
                  refine lv_iconst (v := 4) hx hb dX12_share_118 (by decide) ?_
                  refine al_calli (va_runV (As := [.int 4]) (rest := []) ⟨hx, hb, hml, hown, hts⟩ (s_X12_meets l D H.size o a t i8 q8 c8 d8 4 hI (show 1 ≤ 4 ∧ 4 ≤ 6 from by have h90 : (4 : Int32).toInt = 4 := (by decide); omega)) (cwV 1 hts gm_X12_share_X12_meets rfl rfl rfl (by decide +kernel) ⟨Nat.le_of_ble_eq_true rfl, Nat.le_of_ble_eq_true rfl⟩) (pB_V hK hP hD (ci := 12) (q0 := 0) rfl rfl) rfl rfl hl.1 rfl (lv_room (Nat.le_of_ble_eq_true rfl)) dX12_share_119 ⟨Nat.le_of_ble_eq_true rfl, Nat.le_of_ble_eq_true rfl⟩) hS hA hP hD (fun r15 u15 H locs hw15 hP hD hS => ?_)
                  obtain ⟨i15, q15, c15, d15⟩ := u15
                  have hw15 : r15 = (-3) ∧ mInv i15 c15 ∧ (∀ k, k ∉ ([0] : List Nat) → i15 k = i8 k) ∧ (∀ k, k ∉ ([1] : List Nat) → c15 k = c8 k) := hw15
                  obtain ⟨hw15, hI, hei15, hec15⟩ := hw15
                  have hfi : ∀ k, k ∉ ([0, 35, 36] : List Nat) → i15 k = i k := fr_z hfi hei15 (by decide) (by decide)
                  have hfc : ∀ k, k ∉ ([1, 34, 38, 39] : List Nat) → c15 k = c k := fr_z hfc hec15 (by decide) (by decide)
                  have hP : va_P D vwCl (mW o a t i15 q15 c15 d15) H := hP
                  have hD : va_D A (mW o a t i15 q15 c15 d15) := hD
                  have hw15 : r15 = (-3) := hw15
                  subst hw15
                  exact rw_iret (i15, q15, c15, d15) hx hb hr hlocks hS (hK.sub (tys' := []) [] rfl) hP hD dX12_share_122 ⟨trivial, hI, fr_w hfi (by decide), fr_w hfc (by decide)⟩
            · have f9 := mt (ti_le (a := (i8 5).toInt) (b := y8_7.toInt) rfl rfl).mpr c9
              refine lv_lload hx hb dX12_share_60 (lv_at hl 1 rfl) ?_
              refine lv_aload_n hx hb dX12_share_62 rfl (lv_at hl 3 rfl) ?_
              refine lv_iload hx hb dX12_share_63 (lv_at hl 0 rfl) ?_
              have rb8_i8 : 0 ≤ (i8 8).toInt ∧ (i8 8).toInt ≤ 200 := hI.1 8
              have re8_i8 : (i8 8).toInt = (i 8).toInt := congrArg Int32.toInt (hfi 8 (by decide))
              have rb22_i8 : (i8 22).toInt = -9 ∨ (0 ≤ (i8 22).toInt ∧ (i8 22).toInt ≤ 29) := hI.1 22
              have re22_i8 : (i8 22).toInt = (i 22).toInt := congrArg Int32.toInt (hfi 22 (by decide))
              refine ro_calli (va_runV (As := [.int y8_7]) (rest := [.long y8_5]) ⟨hx, hb, hml, hown, hts⟩ (s_X12_formNow l D H.size o a t i8 q8 c8 d8 y8_7 hI (show 0 ≤ y8_7.toInt ∧ y8_7.toInt ≤ 29 from by omega)) (cwV 1 hts gm_X12_share_X12_formNow rfl rfl rfl (by decide +kernel) ⟨Nat.le_of_ble_eq_true rfl, Nat.le_of_ble_eq_true rfl⟩) (pA_V hK hP (ci := 12) (q0 := 0) rfl rfl) rfl rfl hl.1 rfl (lv_room (Nat.le_of_ble_eq_true rfl)) dX12_share_65 ⟨Nat.le_of_ble_eq_true rfl, Nat.le_of_ble_eq_true rfl⟩) hS hA hP (fun r16 u16 H locs hw16 hP hS => ?_)
              have hw16 : ((r16.toInt = -9 ∨ (0 ≤ r16.toInt ∧ r16.toInt ≤ 7)) ∧ (r16.toInt = gM (c8 9) (c8 10) (c8 13) (c8 23) (i8 8).toInt (i8 22).toInt y8_7.toInt)) := hw16
              obtain ⟨hw16, hr16_0⟩ := hw16
              have hr16_0 : r16.toInt = gM (c 9) (c 10) (c 13) (c 23) (i 8).toInt (i 22).toInt y8_7.toInt := by have h9 := hr16_0; rw [show c8 9 = c 9 from hfc 9 (by decide), show c8 10 = c 10 from hfc 10 (by decide), show c8 13 = c 13 from hfc 13 (by decide), show c8 23 = c 23 from hfc 23 (by decide), show i8 8 = i 8 from hfi 8 (by decide), show i8 22 = i 22 from hfi 22 (by decide)] at h9; exact h9
              refine lv_bipush (v := (-9)) hx hb dX12_share_68 (by decide) ?_
              have jn17 : ∀ (i17 : Nat → Int32) (q17 : Int64) (c17 : Nat → Nat → Int32) (d17 : Nat → Nat → Int64) (z17_0 : Int64), mInv i17 c17 → (∀ k, k ∉ ([35, 36] : List Nat) → i17 k = i k) → (∀ k, k ∉ ([34, 38, 39] : List Nat) → c17 k = c k) → ∀ (H : Heap) (locs : List Loc) (ls : Array Slot), va_P D vwCl (mW o a t i17 q17 c17 d17) H → va_D A (mW o a t i17 q17 c17 d17) → va_S A s.heap H locs → lv_has ls 8 [(7, .int y8_7), (5, .long y8_5), (3, .long r7.toInt64), (0, .ref o), (1, .int w1), (2, .int w2)] → W p l e (headSpec wm_X12_share ({ frames := 3, cells := 0, slots := 0, locals := 70 })).room s m ([.ref o, .int w1, .int w2] : List Value).toArray below meth cd H locs 0 0 (MQ below (va_Qi (fun (r : Int32) (u : MS) => True ∧ mInv u.1 u.2.2.1 ∧ (∀ k, k ∉ ([0, 35, 36] : List Nat) → u.1 k = i k) ∧ (∀ k, k ∉ ([1, 34, 38, 39] : List Nat) → u.2.2.1 k = c k)) (oC D A (fun u : MS => mW o a t u.1 u.2.1 u.2.2.1 u.2.2.2) (fun _ => [])) A) ([.ref o, .int w1, .int w2] : List Value).toArray s 0 0 A) (F0 m 94 ls [.long z17_0, .long y8_5]) := by
                intro i17 q17 c17 d17 z17_0 hI hfi hfc H locs ls hP hD hS hl
                refine lv_ladd hx hb dX12_share_94 ?_
                refine lv_topl (fun x18 ex18 => ?_)
                refine lv_lstore (lv' := [(5, .long x18), (7, .int y8_7), (3, .long r7.toInt64), (0, .ref o), (1, .int w1), (2, .int w2)]) hx hb dX12_share_95 hl (by decide) rfl (fun ls hl => ?_)
                obtain ⟨x19, ex19⟩ : ∃ y : Int32, y = y8_7 + 1 := ⟨_, rfl⟩
                have tx19 := ti_add (a := y8_7.toInt) (b := 1) ex19 rfl (by decide) (by omega) (by omega)
                refine lv_iinc (v := x19) (lv' := [(7, .int x19), (5, .long x18), (3, .long r7.toInt64), (0, .ref o), (1, .int w1), (2, .int w2)]) hx hb dX12_share_97 hl (k := 1) rfl (by rw [ex19]; rfl) (by decide) rfl (fun ls hl => ?_)
                refine lv_goto (tgt := 51) hx hb dX12_share_100 (by decide) ?_
                exact ih8 i17 q17 c17 d17 x19 x18 hI (fr_w hfi (by decide)) (fr_w hfc (by decide)) (show 0 ≤ x19.toInt ∧ x19.toInt ≤ 30 from by have h50 : x19.toInt = (y8_7.toInt + 1) := tx19; omega) (by have h50 : x19.toInt = (y8_7.toInt + 1) := tx19; omega) _ _ _ hP hD hS (lv_sub hl [0, 1, 2, 3, 4, 5] rfl)
              have jn20 : ∀ (H : Heap) (locs : List Loc) (ls : Array Slot), va_P D vwCl (mW o a t i8 q8 c8 d8) H → va_D A (mW o a t i8 q8 c8 d8) → va_S A s.heap H locs → lv_has ls 8 [(7, .int y8_7), (5, .long y8_5), (3, .long r7.toInt64), (0, .ref o), (1, .int w1), (2, .int w2)] → W p l e (headSpec wm_X12_share ({ frames := 3, cells := 0, slots := 0, locals := 70 })).room s m ([.ref o, .int w1, .int w2] : List Value).toArray below meth cd H locs 0 0 (MQ below (va_Qi (fun (r : Int32) (u : MS) => True ∧ mInv u.1 u.2.2.1 ∧ (∀ k, k ∉ ([0, 35, 36] : List Nat) → u.1 k = i k) ∧ (∀ k, k ∉ ([1, 34, 38, 39] : List Nat) → u.2.2.1 k = c k)) (oC D A (fun u : MS => mW o a t u.1 u.2.1 u.2.2.1 u.2.2.2) (fun _ => [])) A) ([.ref o, .int w1, .int w2] : List Value).toArray s 0 0 A) (F0 m 93 ls [.long y8_5]) := by
                intro H locs ls hP hD hS hl
                refine lv_lconst (v := 0) hx hb dX12_share_93 (by decide) ?_
                exact jn17 i8 q8 c8 d8  (0 : Int64) hI (fr_w hfi (by decide)) (fr_w hfc (by decide)) _ _ _ hP hD hS (lv_sub hl [0, 1, 2, 3, 4, 5] rfl)
              refine lv_icmp_eq (tgt := 93) hx hb dX12_share_70 (by decide) (fun c21 => ?_) (fun c21 => ?_)
              · have f21 := (ti_eq (a := r16.toInt) (b := (-9)) rfl (by decide)).mp c21
                exact jn20    _ _ _ hP hD hS (lv_sub hl [0, 1, 2, 3, 4, 5] rfl)
              · have f21 := mt (ti_eq (a := r16.toInt) (b := (-9)) rfl (by decide)).mpr c21
                refine lv_aload_n hx hb dX12_share_73 rfl (lv_at hl 3 rfl) ?_
                refine lv_iload hx hb dX12_share_74 (lv_at hl 0 rfl) ?_
                refine ro_calli (va_runV (As := [.int y8_7]) (rest := [.long y8_5]) ⟨hx, hb, hml, hown, hts⟩ (s_X12_atNow l D H.size o a t i8 q8 c8 d8 y8_7 hI (show 0 ≤ y8_7.toInt ∧ y8_7.toInt ≤ 29 from by omega)) (cwV 1 hts gm_X12_share_X12_atNow rfl rfl rfl (by decide +kernel) ⟨Nat.le_of_ble_eq_true rfl, Nat.le_of_ble_eq_true rfl⟩) (pA_V hK hP (ci := 12) (q0 := 0) rfl rfl) rfl rfl hl.1 rfl (lv_room (Nat.le_of_ble_eq_true rfl)) dX12_share_76 ⟨Nat.le_of_ble_eq_true rfl, Nat.le_of_ble_eq_true rfl⟩) hS hA hP (fun r22 u22 H locs hw22 hP hS => ?_)
                have hw22 : ((r22.toInt = -9 ∨ (0 ≤ r22.toInt ∧ r22.toInt ≤ 29)) ∧ (r22.toInt = gA (c8 9) (c8 10) (c8 11) (c8 13) (c8 24) (i8 8).toInt (i8 22).toInt y8_7.toInt)) := hw22
                obtain ⟨hw22, hr22_0⟩ := hw22
                have hr22_0 : r22.toInt = gA (c 9) (c 10) (c 11) (c 13) (c 24) (i 8).toInt (i 22).toInt y8_7.toInt := by have h9 := hr22_0; rw [show c8 9 = c 9 from hfc 9 (by decide), show c8 10 = c 10 from hfc 10 (by decide), show c8 11 = c 11 from hfc 11 (by decide), show c8 13 = c 13 from hfc 13 (by decide), show c8 24 = c 24 from hfc 24 (by decide), show i8 8 = i 8 from hfi 8 (by decide), show i8 22 = i 22 from hfi 22 (by decide)] at h9; exact h9
                refine lv_iload_n hx hb dX12_share_79 rfl (lv_at hl 5 rfl) ?_
                refine lv_icmp_ne (tgt := 93) hx hb dX12_share_80 (by decide) (fun c23 => ?_) (fun c23 => ?_)
                · have f23 := mt (ti_eq (a := r22.toInt) (b := w2.toInt) rfl rfl).mpr c23
                  exact jn20    _ _ _ hP hD hS (lv_sub hl [0, 1, 2, 3, 4, 5] rfl)
                · have f23 := (ti_eq (a := r22.toInt) (b := w2.toInt) rfl rfl).mp c23
                  refine lv_aload_n hx hb dX12_share_83 rfl (lv_at hl 3 rfl) ?_
                  refine lv_iload hx hb dX12_share_84 (lv_at hl 0 rfl) ?_
                  refine al_calli (va_runV (As := [.int y8_7]) (rest := [.long y8_5]) ⟨hx, hb, hml, hown, hts⟩ (s_X12_bulkOf l D H.size o a t i8 q8 c8 d8 y8_7 hI (show 0 ≤ y8_7.toInt ∧ y8_7.toInt ≤ 29 from by omega) (by rw [show c8 9 = c 9 from hfc 9 (by decide), show c8 10 = c 10 from hfc 10 (by decide), show c8 11 = c 11 from hfc 11 (by decide), show c8 13 = c 13 from hfc 13 (by decide), show c8 23 = c 23 from hfc 23 (by decide), show c8 24 = c 24 from hfc 24 (by decide), show i8 5 = i 5 from hfi 5 (by decide), show i8 8 = i 8 from hfi 8 (by decide), show i8 22 = i 22 from hfi 22 (by decide)]; exact hs_G)) (cwV 1 hts gm_X12_share_X12_bulkOf rfl rfl rfl (by decide +kernel) ⟨Nat.le_of_ble_eq_true rfl, Nat.le_of_ble_eq_true rfl⟩) (pB_V hK hP hD (ci := 12) (q0 := 0) rfl rfl) rfl rfl hl.1 rfl (lv_room (Nat.le_of_ble_eq_true rfl)) dX12_share_86 ⟨Nat.le_of_ble_eq_true rfl, Nat.le_of_ble_eq_true rfl⟩) hS hA hP hD (fun r24 u24 H locs hw24 hP hD hS => ?_)
                  obtain ⟨i24, q24, c24, d24⟩ := u24
                  have hw24 : True ∧ mInv i24 c24 ∧ (∀ k, k ∉ ([35, 36] : List Nat) → i24 k = i8 k) ∧ (∀ k, k ∉ ([34, 38, 39] : List Nat) → c24 k = c8 k) := hw24
                  obtain ⟨hw24, hI, hei24, hec24⟩ := hw24
                  have hfi : ∀ k, k ∉ ([35, 36] : List Nat) → i24 k = i k := fr_z hfi hei24 (by decide) (by decide)
                  have hfc : ∀ k, k ∉ ([34, 38, 39] : List Nat) → c24 k = c k := fr_z hfc hec24 (by decide) (by decide)
                  have hP : va_P D vwCl (mW o a t i24 q24 c24 d24) H := hP
                  have hD : va_D A (mW o a t i24 q24 c24 d24) := hD
                  refine lv_i2l (v := r24.toInt64) hx hb dX12_share_89 rfl ?_
                  refine lv_goto (tgt := 94) hx hb dX12_share_90 (by decide) ?_
                  exact jn17 i24 q24 c24 d24  r24.toInt64 hI (fr_w hfi (by decide)) (fr_w hfc (by decide)) _ _ _ hP hD hS (lv_sub hl [0, 1, 2, 3, 4, 5] rfl)
        exact lp8 _ i7 q7 c7 d7 (0 : Int32) (0 : Int64) hI (fr_w hfi (by decide)) (fr_w hfc (by decide)) (show 0 ≤ (0 : Int32).toInt ∧ (0 : Int32).toInt ≤ 30 from by have h50 : (0 : Int32).toInt = 0 := (by decide); omega) (Nat.lt_succ_self _) _ _ _ hP hD hS (lv_sub hl [0, 1, 2, 3, 4, 5] rfl)
      · have f6 := mt (ti_eq (a := r5.toInt) (b := 0) rfl (by decide)).mpr c6
        have s6 := sm_t hr5_0 c6
        refine lv_aload_n hx hb dX12_share_27 rfl (lv_at hl 0 rfl) ?_
        refine lv_iconst (v := 3) hx hb dX12_share_28 (by decide) ?_
        refine al_calli (va_runV (As := [.int 3]) (rest := []) ⟨hx, hb, hml, hown, hts⟩ (s_X12_meets l D H.size o a t i q c d 3 hI (show 1 ≤ 3 ∧ 3 ≤ 6 from by have h90 : (3 : Int32).toInt = 3 := (by decide); omega)) (cwV 1 hts gm_X12_share_X12_meets rfl rfl rfl (by decide +kernel) ⟨Nat.le_of_ble_eq_true rfl, Nat.le_of_ble_eq_true rfl⟩) (pB_V hK hP hD (ci := 12) (q0 := 0) rfl rfl) rfl rfl hl.1 rfl (lv_room (Nat.le_of_ble_eq_true rfl)) dX12_share_29 ⟨Nat.le_of_ble_eq_true rfl, Nat.le_of_ble_eq_true rfl⟩) hS hA hP hD (fun r25 u25 H locs hw25 hP hD hS => ?_)
        obtain ⟨i25, q25, c25, d25⟩ := u25
        have hw25 : r25 = (-3) ∧ mInv i25 c25 ∧ (∀ k, k ∉ ([0] : List Nat) → i25 k = i k) ∧ (∀ k, k ∉ ([1] : List Nat) → c25 k = c k) := hw25
        obtain ⟨hw25, hI, hei25, hec25⟩ := hw25
        have hfi : ∀ k, k ∉ ([0] : List Nat) → i25 k = i k := fr_z hfi hei25 (by decide) (by decide)
        have hfc : ∀ k, k ∉ ([1] : List Nat) → c25 k = c k := fr_z hfc hec25 (by decide) (by decide)
        have hP : va_P D vwCl (mW o a t i25 q25 c25 d25) H := hP
        have hD : va_D A (mW o a t i25 q25 c25 d25) := hD
        have hw25 : r25 = (-3) := hw25
        subst hw25
        exact rw_iret (i25, q25, c25, d25) hx hb hr hlocks hS (hK.sub (tys' := []) [] rfl) hP hD dX12_share_32 ⟨trivial, hI, fr_w hfi (by decide), fr_w hfc (by decide)⟩
    · have f4 := fl_f hw3 c4
      refine lv_iconst (v := (-1)) hx hb dX12_share_16 (by decide) ?_
      exact rw_iret (i, q, c, d) hx hb hr hlocks hS (hK.sub (tys' := []) [] rfl) hP hD dX12_share_17 ⟨trivial, hI, fr_w hfi (by decide), fr_w hfc (by decide)⟩

